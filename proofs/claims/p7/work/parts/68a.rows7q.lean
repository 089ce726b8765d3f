/-! the reference: brackets, what is done, the items of a row -/
section RWQ
variable {s : Nat → Int32} {v : Nat → Int64} {P op P' : Nat → Int32} {n k q d j a : Nat} {D D' : Nat → Prop}
theorem pm_o (h : MB s v op P d k) (ho : opn (s k) (v k) = true) {op' : Nat → Int32} (e2 : upd op d (nI k) = op') : MB s v op' P (d + 1) (k + 1) := by
  subst e2
  refine ⟨?_, pn_nc h.2 (opn_clo ho)⟩
  rw [stk_push, h.1, sk_o ho]; rfl
theorem pm_n (h : MB s v op P d k) (ho : opn (s k) (v k) = false) (hc : clo (s k) (v k) = false) : MB s v op P d (k + 1) := by
  refine ⟨?_, pn_nc h.2 hc⟩
  rw [h.1, sk_n ho hc]
theorem pm_c (hk : k ≤ 600) (hd : 1 ≤ d) (h : MB s v op P d k) (hc : clo (s k) (v k) = true) (ej : op (d - 1) = nI j) (hj : j ≤ 600) (e2 : upd P j (nI k) = P') : MB s v op P' (d - 1) (k + 1) := by
  subst e2
  have h1 := h.1
  rw [stk_pop hd] at h1
  cases hs : sk s v k with
  | nil => rw [hs] at h1; cases h1
  | cons q T =>
    rw [hs] at h1
    have h2 := List.cons.inj h1
    have hq := sk_lt k q (by rw [hs]; exact List.mem_cons_self)
    have eq : j = q := (nI_eq (a := j) (b := q) (by omega) (by omega)).mp (ej.symm.trans h2.1)
    subst eq
    refine ⟨by rw [sk_c hc, hs]; exact h2.2, fun p r p1 p2 p3 => ?_⟩
    by_cases e : p = k
    · subst e
      rw [hs] at p3
      have : j = r := by simpa using p3
      rw [← this]
      exact if_pos rfl
    · have hr := sk_top p3
      have hn : ¬ r = j := by
        intro z
        have z1 : r ∉ sk s v (p + 1) := by
          rw [sk_c p2, hr]
          exact fun w => absurd (sk_lt r r w) (Nat.lt_irrefl _)
        have z2 := sk_out (s := s) (v := v) (k := p + 1) (q := r) k (by omega) (by have := sk_lt p r (by rw [hr]; exact List.mem_cons_self); omega) z1
        exact z2 (by rw [hs, z]; exact List.mem_cons_self)
      rw [show upd P j (nI k) r = P r from if_neg hn]
      exact h.2 p r (by omega) p2 p3
theorem sk_op : ∀ x q, q ∈ sk s v x → opn (s q) (v q) = true
  | 0, q, h => by cases h
  | x + 1, q, h => by
    by_cases o : opn (s x) (v x) = true
    · rw [sk_o o] at h
      rcases List.mem_cons.mp h with e | h
      · rw [e]; exact o
      · exact sk_op x q h
    · by_cases c : clo (s x) (v x) = true
      · rw [sk_c c] at h; exact sk_op x q (List.mem_of_mem_tail h)
      · rw [sk_n (by simpa using o) (by simpa using c)] at h; exact sk_op x q h
theorem e7_t3 (h : t3 s v n k = true) : e7 s v P n k = 3 := by
  have h' := h
  simp only [t3, Bool.and_eq_true] at h'
  have z := tkB_s h'.1
  have hk : k < n := by
    have := h'.1
    simp only [tkB, Bool.and_eq_true, decide_eq_true_eq] at this; exact this.1
  unfold e7 exN
  rw [if_neg (by omega), if_neg (by simp [nmB, z.1]), if_neg (by rw [(no_br (a := s k) (Or.inr z.2)).1]; decide), if_neg (by rw [z.1]; decide)]
  exact if_pos h
/-- where the walk of a row stands: a its start, k where it is -/
def DN (s : Nat → Int32) (v : Nat → Int64) (P : Nat → Int32) (n a k : Nat) (D : Nat → Prop) : Prop :=
  (∀ q, cv s v n q = 0 → 0 < e7 s v P n q → D q → ¬ q + e7 s v P n q = k → 0 < e7 s v P n (q + e7 s v P n q) → D (q + e7 s v P n q)) ∧
  (∀ q, cv s v n q = 0 → t3 s v n q = true → D q → D (q + 1) ∧ D (q + 2)) ∧
  (∀ x, a < x → cv s v n x = 0 → 0 < e7 s v P n x → D x → lk7 s v P n x = true) ∧
  (k = a ∨ lk7 s v P n k = true) ∧ cv s v n k = 0 ∧ a ≤ k ∧ (a < k → D a)
theorem DN.step (hb : bl7 s v n) (hn : n ≤ 600) (hP : PN s v P n) (he : 0 < e7 s v P n k) (hD : ∀ x, D' x ↔ D x ∨ x = k ∨ x = k + e7 s v P n k - 1 ∨ (e7 s v P n k = 3 ∧ tkB s v n k = true ∧ x = k + 1)) (h : DN s v P n a k D) : DN s v P n a (k + e7 s v P n k) D' := by
  obtain ⟨g1, g2, g3, g4, g5, g6, g7⟩ := h
  have hT := pn_pt hb hn hP
  have nx := it_nx hb hn hP g5 he
  have key : ∀ x, cv s v n x = 0 → 0 < e7 s v P n x → D' x → D x ∨ x = k := by
    intro x x0 xe xd
    rcases (hD x).mp xd with w | w | w | ⟨w1, w2, w3⟩
    · exact Or.inl w
    · exact Or.inr w
    · obtain ⟨hk, c1 | c2 | c3⟩ := exN_cases hn hT he
      · right
        have : e7 s v P n k = 1 := c1.1
        omega
      · exfalso
        obtain ⟨ho, p', p1, p2, p3, p4, p5⟩ := c2
        have e1 : e7 s v P n k = p' - k + 1 := p5
        have ex : x = p' := by omega
        subst ex
        have := exN_clo (wd := wdB) (rs := rsB) hn hT p3
        have e2 : e7 s v P n x = 0 := this
        omega
      · exfalso
        obtain ⟨-, e3⟩ := ex_t3 c3.2.2.1 c3.2.2.2.1 he
        obtain ⟨d1, d2, d3⟩ := cv_s3 g5 (ex_t3 c3.2.2.1 c3.2.2.2.1 he).1
        have ex : x = k + 2 := by omega
        rw [ex, d2] at x0; omega
    · exfalso
      have z := tkB_s w2
      obtain ⟨d1, d2, d3⟩ := cv_s3 g5 (ex_t3 z.1 z.2 he).1
      rw [w3, d1] at x0; omega
  have up : ∀ x, D x → D' x := fun x hx => (hD x).mpr (Or.inl hx)
  have uk : D' k := (hD k).mpr (Or.inr (Or.inl rfl))
  refine ⟨fun q q0 qe qd qn qx => ?_, fun q q0 qt qd => ?_, fun x xa x0 xe xd => ?_, Or.inr nx.2.2.1, nx.2.1, by omega, fun _ => ?_⟩
  · rcases key q q0 qe qd with w | w
    · by_cases z : q + e7 s v P n q = k
      · rw [z]; exact uk
      · exact up _ (g1 q q0 qe w z qx)
    · exact absurd (by rw [w]) qn
  · have e3 := e7_t3 (P := P) qt
    rcases key q q0 (by omega) qd with w | w
    · exact ⟨up _ (g2 q q0 qt w).1, up _ (g2 q q0 qt w).2⟩
    · subst w
      have tq : tkB s v n q = true := by
        have := qt
        simp only [t3, Bool.and_eq_true] at this; exact this.1
      exact ⟨(hD _).mpr (Or.inr (Or.inr (Or.inr ⟨e3, tq, rfl⟩))), (hD _).mpr (Or.inr (Or.inr (Or.inl (by omega))))⟩
  · rcases key x x0 xe xd with w | w
    · exact g3 x xa x0 xe w
    · rcases g4 with z | z
      · omega
      · rw [w]; exact z
  · by_cases z : a < k
    · exact up a (g7 z)
    · rw [show a = k by omega]; exact uk
def DA (s : Nat → Int32) (v : Nat → Int64) (P : Nat → Int32) (n k : Nat) (D : Nat → Prop) : Prop :=
  (∀ q, cv s v n q = 0 → 0 < e7 s v P n q → D q → 0 < e7 s v P n (q + e7 s v P n q) → D (q + e7 s v P n q)) ∧
  (∀ q, cv s v n q = 0 → t3 s v n q = true → D q → D (q + 1) ∧ D (q + 2)) ∧
  (∀ x, k ≤ x → cv s v n x = 0 → 0 < e7 s v P n x → D x → lk7 s v P n x = true) ∧
  (∀ q, q < k → cv s v n q = 0 → 0 < e7 s v P n q → D q)
theorem DA.zero (h : ∀ x, x < n → ¬ D x) : DA s v P n 0 D := by
  refine ⟨fun q _ qe qd _ => absurd qd (h q (e7_lt qe)), fun q _ qt qd => ?_, fun x _ _ xe xd => absurd xd (h x (e7_lt xe)), fun q h0 => absurd h0 (Nat.not_lt_zero _)⟩
  have := e7_t3 (P := P) qt
  exact absurd qd (h q (e7_lt (s := s) (v := v) (P := P) (by omega)))
theorem cv_2 (h : cv s v n (k + 1) = 2) : cv s v n k = 0 ∧ t3 s v n k = true := by
  have c := cv_in (s := s) (v := v) (n := n) k
  rw [cv] at h
  by_cases z : 0 < cv s v n k
  · rw [if_pos z] at h
    rcases c with c | ⟨c, -⟩ | ⟨c, -⟩ <;> omega
  · rw [if_neg z] at h
    by_cases t : t3 s v n k = true
    · exact ⟨by omega, t⟩
    · rw [if_neg t] at h; omega
theorem cv_1 (h : cv s v n (k + 1) = 1) : ∃ q, q + 1 = k ∧ cv s v n q = 0 ∧ t3 s v n q = true := by
  rw [cv] at h
  by_cases z : 0 < cv s v n k
  · rw [if_pos z] at h
    cases k with
    | zero => exact absurd z (Nat.lt_irrefl _)
    | succ q =>
      obtain ⟨a, b⟩ := cv_2 (s := s) (v := v) (n := n) (k := q) (by omega)
      exact ⟨q, rfl, a, b⟩
  · rw [if_neg z] at h
    by_cases t : t3 s v n k = true
    · rw [if_pos t] at h; omega
    · rw [if_neg t] at h; omega
theorem DA.st (hb : bl7 s v n) (hn : n ≤ 600) (hP : PN s v P n) (h : DA s v P n k D) (he : 0 < e7 s v P n k) (hd : ¬ D k) : st7 s v P n k = true := by
  obtain ⟨g1, g2, g3, g4⟩ := h
  have hT := pn_pt hb hn hP
  have hk := e7_lt he
  have c0 : cv s v n k = 0 := by
    rcases cv_in (s := s) (v := v) (n := n) k with c | ⟨c, -⟩ | ⟨c, -⟩
    · exact c
    · exfalso
      cases k with
      | zero => rw [cv] at c; omega
      | succ m =>
        obtain ⟨m0, mt⟩ := cv_2 c
        have e3 := e7_t3 (P := P) mt
        exact hd (g2 m m0 mt (g4 m (by omega) m0 (by omega))).1
    · exfalso
      cases k with
      | zero => rw [cv] at c; omega
      | succ m =>
        obtain ⟨r, hr, r0, rt⟩ := cv_1 c
        have e3 := e7_t3 (P := P) rt
        have := (g2 r r0 rt (g4 r (by omega) r0 (by omega))).2
        rw [show r + 2 = m + 1 by omega] at this
        exact hd this
  have l0 : lk7 s v P n k = false := by
    cases hl : lk7 s v P n k
    · rfl
    · exfalso
      cases k with
      | zero => simp [lk7] at hl
      | succ m =>
        rw [lk_s] at hl
        rcases Bool.or_eq_true_iff.mp hl with w | w
        · have ne : ∃ r, (sk s v m).head? = some r := by
            cases hs : sk s v m with
            | nil =>
              exfalso
              have h1 := sk_len (s := s) (v := v) m (fun p hp => hb.1 p (by omega))
              rw [hs] at h1
              have h3 := hb.1 (m + 1) (by omega)
              rw [dep] at h3
              simp only [dlt, clo_opn w, w, if_true] at h3
              simp at h1 h3
              omega
            | cons r T => exact ⟨r, rfl⟩
          obtain ⟨r, hr⟩ := ne
          have ht := sk_top hr
          have rl := sk_lt m r (by rw [ht]; exact List.mem_cons_self)
          have ro := sk_op m r (by rw [ht]; exact List.mem_cons_self)
          obtain ⟨p, p1, p2, p3, p4, p5, p6⟩ := op_ex hb hn hP (show r < n by omega) ro
          have e1 := hP m r (by omega) w hr
          have e2 := (nI_eq (a := p) (b := m) (by omega) (by omega)).mp (p4.symm.trans e1)
          subst e2
          have r0 := cv_br (n := n) (Or.inl ro)
          have nx : r + e7 s v P n r = p + 1 := by omega
          have := g1 r r0 (by omega) (g4 r (by omega) r0 (by omega)) (by rw [nx]; exact he)
          rw [nx] at this
          exact hd this
        · rcases Bool.or_eq_true_iff.mp w with w | w
          · have c1 : cv s v n m = 1 := of_decide_eq_true w
            cases m with
            | zero => rw [cv] at c1; omega
            | succ m =>
              obtain ⟨r, hr, r0, rt⟩ := cv_1 c1
              have e3 := e7_t3 (P := P) rt
              have nx : r + e7 s v P n r = m + 1 + 1 := by omega
              have := g1 r r0 (by omega) (g4 r (by omega) r0 (by omega)) (by rw [nx]; exact he)
              rw [nx] at this
              exact hd this
          · simp only [Bool.and_eq_true, decide_eq_true_eq] at w
            obtain ⟨w0, w1, w2⟩ := w
            obtain ⟨hm, c1 | c2 | c3⟩ := exN_cases hn hT w2
            · have e1 : e7 s v P n m = 1 := c1.1
              have nx : m + e7 s v P n m = m + 1 := by omega
              have := g1 m w0 w2 (g4 m (by omega) w0 w2) (by rw [nx]; exact he)
              rw [nx] at this
              exact hd this
            · have := c2.1; rw [this] at w1; cases w1
            · obtain ⟨t, e3⟩ := ex_t3 c3.2.2.1 c3.2.2.2.1 w2
              have := (cv_s3 w0 t).1
              omega
  unfold st7
  rw [c0, l0, decide_eq_true he]; rfl
theorem DA.no (h : DA s v P n k D) (hd : D k) : st7 s v P n k = false := by
  cases hs : st7 s v P n k
  · rfl
  · obtain ⟨s1, s2, s3⟩ := st_ex hs
    have := h.2.2.1 k (Nat.le_refl _) s1 s2 hd
    rw [s3] at this; cases this
theorem DA.skip (h : DA s v P n k D) (hd : D k ∨ e7 s v P n k = 0) : DA s v P n (k + 1) D := by
  obtain ⟨g1, g2, g3, g4⟩ := h
  refine ⟨g1, g2, fun x hx => g3 x (by omega), fun q hq q0 qe => ?_⟩
  by_cases z : q = k
  · subst z
    rcases hd with w | w
    · exact w
    · omega
  · exact g4 q (by omega) q0 qe
theorem DA.dn (h : DA s v P n k D) (hs : st7 s v P n k = true) : DN s v P n k k D := by
  obtain ⟨g1, g2, g3, g4⟩ := h
  exact ⟨fun q a b c _ e => g1 q a b c e, g2, fun x hx => g3 x (by omega), Or.inl rfl, (st_ex hs).1, Nat.le_refl _, fun z => absurd z (Nat.lt_irrefl _)⟩
theorem DN.da {m : Nat} (h0 : DA s v P n k D) (h : DN s v P n k m D') (he : 0 < e7 s v P n k) (hm : e7 s v P n m = 0) (up : ∀ x, D x → D' x) : DA s v P n (k + 1) D' := by
  obtain ⟨g1, g2, g3, g4, g5, g6, g7⟩ := h
  have km : k < m := by
    rcases Nat.lt_or_ge k m with z | z
    · exact z
    · rw [show m = k by omega] at hm; omega
  refine ⟨fun q a b c e => ?_, g2, fun x hx => g3 x (by omega), fun q hq q0 qe => ?_⟩
  · refine g1 q a b c (fun z => ?_) e
    rw [z, hm] at e; omega
  · by_cases z : q = k
    · rw [z]; exact g7 km
    · exact up q (h0.2.2.2 q (by omega) q0 qe)
/-! items as the reference keeps them: an operation is a 1 -/
def rw1 (i : It) : It := (i.1, i.2.1, if i.2.2 = 0 then 0 else 1)
theorem rw_0 {a b c : Int32} (h : c = 0) : rw1 (a, b, c) = (a, b, 0) := by unfold rw1; rw [if_pos h]
theorem rw_1 {a b c : Int32} (h : ¬ c = 0) : rw1 (a, b, c) = (a, b, 1) := by unfold rw1; rw [if_neg h]
theorem rw_eo : ∀ L : List It, eo7 (L.map rw1) = eo7 L
  | [] => rfl
  | i :: L => by
    show ((if i.2.2 = 0 then (0 : Int32) else 1) == 0) = (i.2.2 == 0)
    by_cases h : i.2.2 = 0
    · rw [if_pos h, h]
    · rw [if_neg h]; symm; simpa using h
theorem rc_o {f t w : Nat → Int32} {m : Nat} {r : Rb} {x y : Int32} (h : z3 f t w m = r.1.map rw1) (ho : opB s v n k = true) (e : x = nI k) (e2 : y = nI (k + e7 s v P n k - 1)) : z3 (upd f m x) (upd t m y) (upd w m 1) (m + 1) = (rbN s v P n k r).1.map rw1 := by
  unfold rbN
  rw [if_pos ho, z3_put, h, e, e2]
  unfold rbO
  show _ = rw1 (nI k, nI (k + e7 s v P n k - 1), if eo7 r.1 = true then 1 else 2) :: r.1.map rw1
  rw [rw_1 (by split <;> decide)]
theorem rc_eo {f t w : Nat → Int32} {m : Nat} {r : Rb} (h : z3 f t w m = r.1.map rw1) : eo7 r.1 = eo7 (z3 f t w m) := by rw [h, rw_eo]
theorem rc_a {f t w : Nat → Int32} {m : Nat} {r : Rb} {x y : Int32} (h : z3 f t w m = r.1.map rw1) (ho : opB s v n k = false) (hz : eo7 (z3 f t w m) = false) (e : x = nI k) (e2 : y = nI (k + e7 s v P n k - 1)) : z3 (upd f m x) (upd t m y) (upd w m 0) (m + 1) = (rbN s v P n k r).1.map rw1 := by
  unfold rbN
  rw [if_neg (by rw [ho]; decide), z3_put, h, e, e2]
  rw [← rc_eo h] at hz
  unfold rbA
  cases hr : r.1 with
  | nil => rfl
  | cons i L =>
    rw [hr] at hz
    have hz' : ¬ i.2.2 = 0 := by simpa [eo7] using hz
    show _ = (if i.2.2 = 0 then ((i.1, nI (k + e7 s v P n k - 1), i.2.2) :: L, r.2) else ((nI k, nI (k + e7 s v P n k - 1), 0) :: i :: L, r.2)).1.map rw1
    rw [if_neg hz']; rfl
theorem rc_b {f t w : Nat → Int32} {m : Nat} {r : Rb} {y : Int32} (h : z3 f t w m = r.1.map rw1) (ho : opB s v n k = false) (hm : 1 ≤ m) (hz : w (m - 1) = 0) (e2 : y = nI (k + e7 s v P n k - 1)) : z3 f (upd t (m - 1) y) w m = (rbN s v P n k r).1.map rw1 := by
  unfold rbN
  rw [if_neg (by rw [ho]; decide), e2]
  unfold rbA
  rw [z3_pop hm] at h
  cases hr : r.1 with
  | nil => rw [hr] at h; cases h
  | cons i L =>
    rw [hr] at h
    have h' : (f (m - 1), t (m - 1), w (m - 1)) :: z3 f t w (m - 1) = rw1 i :: L.map rw1 := h
    have h1 := List.cons.inj h'
    have hf : f (m - 1) = i.1 := congrArg Prod.fst h1.1
    have hw : w (m - 1) = if i.2.2 = 0 then 0 else 1 := congrArg (fun z => z.2.2) h1.1
    have hz' : i.2.2 = 0 := by
      by_cases z : i.2.2 = 0
      · exact z
      · rw [hz, if_neg z] at hw; exact absurd hw (by decide)
    show _ = (if i.2.2 = 0 then ((i.1, nI (k + e7 s v P n k - 1), i.2.2) :: L, r.2) else ((nI k, nI (k + e7 s v P n k - 1), 0) :: i :: L, r.2)).1.map rw1
    rw [if_pos hz', z3_pop (b := upd t (m - 1) (nI (k + e7 s v P n k - 1))) hm, upd_eq, z3_cg (b' := t) (m - 1) (fun j hj => ⟨rfl, upd_ne (by omega), rfl⟩), h1.2, hf, hz]
    show _ = rw1 (i.1, nI (k + e7 s v P n k - 1), i.2.2) :: L.map rw1
    rw [rw_0 hz']
end RWQ
section RWQ2
variable {s : Nat → Int32} {v : Nat → Int64} {P : Nat → Int32} {n k a m : Nat} {d d1 d2 d3 : Nat → Int32}
theorem DN.two (hb : bl7 s v n) (hn : n ≤ 600) (hP : PN s v P n) (hm : m = e7 s v P n k) (h0 : 0 < m) (h1 : upd d k (vp_nar .boolean 1) = d1) (h2 : upd d1 (k + m - 1) (vp_nar .boolean 1) = d2) (hx : ¬ (m = 3 ∧ tkB s v n k = true)) (h : DN s v P n a k (fun x => ¬ d x = 0)) : DN s v P n a (k + m) (fun x => ¬ d2 x = 0) := by
  subst hm
  refine DN.step hb hn hP h0 (fun x => ?_) h
  have e := dn_2 h1 h2 x
  constructor
  · intro q
    rcases e.mp q with q | q | q
    · exact Or.inl q
    · exact Or.inr (Or.inl q)
    · exact Or.inr (Or.inr (Or.inl q))
  · intro q
    rcases q with q | q | q | q
    · exact e.mpr (Or.inl q)
    · exact e.mpr (Or.inr (Or.inl q))
    · exact e.mpr (Or.inr (Or.inr q))
    · exact absurd ⟨q.1, q.2.1⟩ hx
theorem DN.three (hb : bl7 s v n) (hn : n ≤ 600) (hP : PN s v P n) (hm : m = e7 s v P n k) (h3' : m = 3) (h1 : upd d k (vp_nar .boolean 1) = d1) (h2 : upd d1 (k + m - 1) (vp_nar .boolean 1) = d2) (h3 : upd d2 (k + 1) (vp_nar .boolean 1) = d3) (htk : tkB s v n k = true) (h : DN s v P n a k (fun x => ¬ d x = 0)) : DN s v P n a (k + m) (fun x => ¬ d3 x = 0) := by
  subst hm
  refine DN.step hb hn hP (by omega) (fun x => ?_) h
  have e := dn_3 h1 h2 h3 x
  constructor
  · intro q
    rcases e.mp q with q | q | q | q
    · exact Or.inl q
    · exact Or.inr (Or.inl q)
    · exact Or.inr (Or.inr (Or.inl q))
    · exact Or.inr (Or.inr (Or.inr ⟨h3', htk, q⟩))
  · intro q
    rcases q with q | q | q | q
    · exact e.mpr (Or.inl q)
    · exact e.mpr (Or.inr (Or.inl q))
    · exact e.mpr (Or.inr (Or.inr (Or.inl q)))
    · exact e.mpr (Or.inr (Or.inr (Or.inr q.2.2)))
theorem up_2 {f : Nat → Int32} (h : ∀ x, ¬ f x = 0 → ¬ d x = 0) (h1 : upd d k (vp_nar .boolean 1) = d1) (h2 : upd d1 m (vp_nar .boolean 1) = d2) : ∀ x, ¬ f x = 0 → ¬ d2 x = 0 := fun x q => (dn_2 h1 h2 x).mpr (Or.inl (h x q))
theorem up_3 {f : Nat → Int32} (h : ∀ x, ¬ f x = 0 → ¬ d x = 0) (h1 : upd d k (vp_nar .boolean 1) = d1) (h2 : upd d1 m (vp_nar .boolean 1) = d2) {r : Nat} (h3 : upd d2 r (vp_nar .boolean 1) = d3) : ∀ x, ¬ f x = 0 → ¬ d3 x = 0 := fun x q => (dn_3 h1 h2 h3 x).mpr (Or.inl (h x q))
end RWQ2
theorem eo_nn {f t w : Nat → Int32} {m : Nat} (h : m ≤ 0) : eo7 (z3 f t w m) = false := by rw [Nat.le_zero.mp h]; rfl
theorem eo_nz {f t w : Nat → Int32} {m : Nat} (h : 1 ≤ m) (e : ¬ w (m - 1) = 0) : eo7 (z3 f t w m) = false := by
  rw [z3_pop h]; show (w (m - 1) == 0) = false; simpa using e
