/-! rows among laid tokens: levels, covered tokens, starts -/
section RWA
variable {s : Nat → Int32} {v : Nat → Int64} {P : Nat → Int32} {n k q p x j : Nat}
/-- the brackets that are open before token k, the latest first -/
def sk (s : Nat → Int32) (v : Nat → Int64) : Nat → List Nat
  | 0 => []
  | k + 1 => if opn (s k) (v k) = true then k :: sk s v k else if clo (s k) (v k) = true then (sk s v k).tail else sk s v k
def bl7 (s : Nat → Int32) (v : Nat → Int64) (n : Nat) : Prop := (∀ p, p ≤ n → 0 ≤ dep s v p) ∧ dep s v n = 0
theorem sk_o (h : opn (s k) (v k) = true) : sk s v (k + 1) = k :: sk s v k := by rw [sk, if_pos h]
theorem clo_opn (h : clo (s k) (v k) = true) : opn (s k) (v k) = false := by
  cases ho : opn (s k) (v k)
  · rfl
  · have := opn_clo ho; rw [h] at this; cases this
theorem sk_c (h : clo (s k) (v k) = true) : sk s v (k + 1) = (sk s v k).tail := by
  rw [sk, if_neg (by rw [clo_opn h]; decide), if_pos h]
theorem sk_n (h1 : opn (s k) (v k) = false) (h2 : clo (s k) (v k) = false) : sk s v (k + 1) = sk s v k := by
  rw [sk, if_neg (by rw [h1]; decide), if_neg (by rw [h2]; decide)]
theorem sk_lt : ∀ k q, q ∈ sk s v k → q < k
  | 0, q, h => by cases h
  | k + 1, q, h => by
    by_cases o : opn (s k) (v k) = true
    · rw [sk_o o] at h
      rcases List.mem_cons.mp h with e | h
      · omega
      · have := sk_lt k q h; omega
    · by_cases c : clo (s k) (v k) = true
      · rw [sk_c c] at h
        have := sk_lt k q (List.mem_of_mem_tail h); omega
      · rw [sk_n (by simpa using o) (by simpa using c)] at h
        have := sk_lt k q h; omega
theorem sk_suf : ∀ k q, q ∈ sk s v k → ∃ L, sk s v k = L ++ q :: sk s v q
  | 0, q, h => by cases h
  | k + 1, q, h => by
    by_cases o : opn (s k) (v k) = true
    · rw [sk_o o] at h ⊢
      rcases List.mem_cons.mp h with e | h
      · subst e; exact ⟨[], rfl⟩
      · obtain ⟨L, hL⟩ := sk_suf k q h
        exact ⟨k :: L, by rw [hL]; rfl⟩
    · by_cases c : clo (s k) (v k) = true
      · rw [sk_c c] at h ⊢
        obtain ⟨L, hL⟩ := sk_suf k q (List.mem_of_mem_tail h)
        cases L with
        | nil =>
          rw [hL] at h
          exact absurd (sk_lt q q h) (Nat.lt_irrefl _)
        | cons a L => exact ⟨L, by rw [hL]; rfl⟩
      · rw [sk_n (by simpa using o) (by simpa using c)] at h ⊢
        exact sk_suf k q h
theorem sk_len : ∀ k, (∀ p, p ≤ k → 0 ≤ dep s v p) → ((sk s v k).length : Int) = dep s v k
  | 0, _ => rfl
  | k + 1, h => by
    have ih := sk_len k (fun p hp => h p (by omega))
    have h1 := h (k + 1) (Nat.le_refl _)
    rw [dep] at h1 ⊢
    by_cases o : opn (s k) (v k) = true
    · rw [sk_o o, List.length_cons]
      simp only [dlt, o, if_true] at h1 ⊢
      omega
    · by_cases c : clo (s k) (v k) = true
      · rw [sk_c c, List.length_tail]
        have o' : opn (s k) (v k) = false := by simpa using o
        simp only [dlt, o', c, if_true] at h1 ⊢
        simp at h1 ⊢
        omega
      · have o' : opn (s k) (v k) = false := by simpa using o
        have c' : clo (s k) (v k) = false := by simpa using c
        rw [sk_n o' c']
        simp [dlt, o', c']
        exact ih
theorem sk_end (h : bl7 s v n) : sk s v n = [] := by
  have e := sk_len (s := s) (v := v) n h.1
  rw [h.2] at e
  exact List.length_eq_zero_iff.mp (by omega)
theorem grp_aux (hb : bl7 s v n) : ∀ d k, k + d = n → q ∈ sk s v k → ∃ p, k ≤ p ∧ p < n ∧ clo (s p) (v p) = true ∧ sk s v p = q :: sk s v q ∧ ∀ x, k ≤ x → x ≤ p → q ∈ sk s v x
  | 0, k, e, h => by
    have e' : k = n := by omega
    rw [e', sk_end hb] at h; cases h
  | d + 1, k, e, h => by
    by_cases h2 : q ∈ sk s v (k + 1)
    · obtain ⟨p, p1, p2, p3, p4, p5⟩ := grp_aux hb d (k + 1) (by omega) h2
      refine ⟨p, by omega, p2, p3, p4, fun x hx1 hx2 => ?_⟩
      by_cases z : x = k
      · rw [z]; exact h
      · exact p5 x (by omega) hx2
    · by_cases o : opn (s k) (v k) = true
      · rw [sk_o o] at h2
        exact absurd (List.mem_cons_of_mem _ h) h2
      · by_cases c : clo (s k) (v k) = true
        · refine ⟨k, Nat.le_refl _, by omega, c, ?_, fun x hx1 hx2 => by rw [show x = k by omega]; exact h⟩
          obtain ⟨L, hL⟩ := sk_suf k q h
          cases L with
          | nil => exact hL
          | cons a L =>
            rw [sk_c c, hL] at h2
            exact absurd (List.mem_append_right _ List.mem_cons_self) h2
        · rw [sk_n (by simpa using o) (by simpa using c)] at h2
          exact absurd h h2
theorem grp (hb : bl7 s v n) (hq : q < n) (ho : opn (s q) (v q) = true) : ∃ p, q < p ∧ p < n ∧ clo (s p) (v p) = true ∧ sk s v p = q :: sk s v q ∧ sk s v (p + 1) = sk s v q ∧ ∀ x, q < x → x ≤ p → q ∈ sk s v x := by
  obtain ⟨p, p1, p2, p3, p4, p5⟩ := grp_aux hb (n - (q + 1)) (q + 1) (by omega) (by rw [sk_o ho]; exact List.mem_cons_self)
  exact ⟨p, by omega, p2, p3, p4, by rw [sk_c p3, p4]; rfl, fun x h1 h2 => p5 x (by omega) h2⟩
def PN (s : Nat → Int32) (v : Nat → Int64) (P : Nat → Int32) (n : Nat) : Prop := ∀ p q, p < n → clo (s p) (v p) = true → (sk s v p).head? = some q → P q = nI p
theorem pn_pt (hb : bl7 s v n) (hn : n ≤ 600) (hP : PN s v P n) : PT s v P n := by
  refine ⟨fun q hq ho => ?_, fun q q' hq hq' ho ho' e => ?_⟩
  · obtain ⟨p, p1, p2, p3, p4, -⟩ := grp hb hq ho
    exact ⟨p, p1, p2, p3, hP p q p2 p3 (by rw [p4]; rfl)⟩
  · obtain ⟨p, p1, p2, p3, p4, -⟩ := grp hb hq ho
    obtain ⟨p', p1', p2', p3', p4', -⟩ := grp hb hq' ho'
    rw [hP p q p2 p3 (by rw [p4]; rfl), hP p' q' p2' p3' (by rw [p4']; rfl)] at e
    have e' := (nI_eq (a := p) (b := p') (by omega) (by omega)).mp e
    subst e'
    rw [p4] at p4'
    exact (List.cons.inj p4').1
abbrev e7 (s : Nat → Int32) (v : Nat → Int64) (P : Nat → Int32) (n k : Nat) : Nat := exN wdB rsB s v P n k
/-- three tokens that are one operation -/
def t3 (s : Nat → Int32) (v : Nat → Int64) (n k : Nat) : Bool := tkB s v n k && (nmB wdB s v n (k + 1) && tkB s v n (k + 2))
/-- how many tokens from k on belong to an operation that began before -/
def cv (s : Nat → Int32) (v : Nat → Int64) (n : Nat) : Nat → Nat
  | 0 => 0
  | k + 1 => if 0 < cv s v n k then cv s v n k - 1 else if t3 s v n k = true then 2 else 0
theorem cv_in : ∀ k, cv s v n k = 0 ∨ (cv s v n k = 2 ∧ nmB wdB s v n k = true ∧ tkB s v n (k + 1) = true) ∨ (cv s v n k = 1 ∧ tkB s v n k = true)
  | 0 => Or.inl rfl
  | k + 1 => by
    rw [cv]
    rcases cv_in k with h | ⟨h, h1, h2⟩ | ⟨h, h1⟩
    · rw [if_neg (by omega)]
      by_cases t : t3 s v n k = true
      · rw [if_pos t]
        simp only [t3, Bool.and_eq_true] at t
        exact Or.inr (Or.inl ⟨rfl, t.2.1, t.2.2⟩)
      · rw [if_neg t]; exact Or.inl rfl
    · rw [if_pos (by omega), h]; exact Or.inr (Or.inr ⟨rfl, h2⟩)
    · rw [if_pos (by omega), h]; exact Or.inl rfl
theorem tkB_s (h : tkB s v n k = true) : s k = 3 ∧ v k = 96 := by
  simp only [tkB, Bool.and_eq_true, beq_iff_eq] at h
  exact h.2
theorem nmB_s (h : nmB wdB s v n k = true) : s k = 0 := by
  simp only [nmB, Bool.and_eq_true, beq_iff_eq] at h
  exact h.2.1
theorem br_no {a : Int32} {b : Int64} (h : opn a b = true ∨ clo a b = true) : a = 3 ∧ ¬ b = 96 := by
  simp only [opn, clo, Bool.and_eq_true, Bool.or_eq_true, beq_iff_eq] at h
  rcases h with ⟨h1, h2 | h2⟩ | ⟨h1, h2 | h2⟩ <;> exact ⟨h1, by rw [h2]; decide⟩
theorem no_br {a : Int32} {b : Int64} (h : ¬ a = 3 ∨ b = 96) : opn a b = false ∧ clo a b = false := by
  constructor
  · cases ho : opn a b
    · rfl
    · have := br_no (Or.inl ho)
      rcases h with h | h
      · exact absurd this.1 h
      · exact absurd h this.2
  · cases hc : clo a b
    · rfl
    · have := br_no (Or.inr hc)
      rcases h with h | h
      · exact absurd this.1 h
      · exact absurd h this.2
theorem cv_br (h : opn (s k) (v k) = true ∨ clo (s k) (v k) = true) : cv s v n k = 0 := by
  have b := br_no h
  rcases cv_in (s := s) (v := v) (n := n) k with e | ⟨-, e, -⟩ | ⟨-, e⟩
  · exact e
  · have := nmB_s e; rw [b.1] at this; exact absurd this (by decide)
  · exact absurd (tkB_s e).2 b.2
theorem t3_no (h : ¬ s k = 3 ∨ ¬ v k = 96) : t3 s v n k = false := by
  cases t : t3 s v n k
  · rfl
  · simp only [t3, Bool.and_eq_true] at t
    have := tkB_s t.1
    rcases h with h | h
    · exact absurd this.1 h
    · exact absurd this.2 h
theorem cv_s0 (h : cv s v n k = 0) (t : t3 s v n k = false) : cv s v n (k + 1) = 0 := by
  rw [cv, if_neg (by omega), if_neg (by rw [t]; decide)]
theorem cv_s3 (h : cv s v n k = 0) (t : t3 s v n k = true) : cv s v n (k + 1) = 2 ∧ cv s v n (k + 2) = 1 ∧ cv s v n (k + 3) = 0 := by
  have a : cv s v n (k + 1) = 2 := by rw [cv, if_neg (by omega), if_pos t]
  have b : cv s v n (k + 2) = 1 := by
    show (if 0 < cv s v n (k + 1) then cv s v n (k + 1) - 1 else if t3 s v n (k + 1) = true then 2 else 0) = 1
    rw [if_pos (by omega), a]
  refine ⟨a, b, ?_⟩
  show (if 0 < cv s v n (k + 2) then cv s v n (k + 2) - 1 else if t3 s v n (k + 2) = true then 2 else 0) = 0
  rw [if_pos (by omega), b]
theorem ex_t3 (hs : s k = 3) (hv : v k = 96) (he : 0 < e7 s v P n k) : t3 s v n k = true ∧ e7 s v P n k = 3 := by
  have hno := (no_br (Or.inr hv) : opn (s k) (v k) = false ∧ _).1
  unfold e7 exN at he ⊢
  by_cases h1 : n ≤ k
  · rw [if_pos h1] at he; omega
  rw [if_neg h1] at he ⊢
  have h2 : ¬ (nmB wdB s v n k || s k == 1) = true := by
    rw [hs]
    simp [nmB, hs]
  rw [if_neg h2, if_neg (by rw [hno]; decide), if_neg (by rw [hs]; decide)] at he ⊢
  by_cases t : (tkB s v n k && (nmB wdB s v n (k + 1) && tkB s v n (k + 2))) = true
  · rw [if_pos t]; exact ⟨t, rfl⟩
  · rw [if_neg t] at he; omega
/-- linked: an item of its level ends just before it -/
def lk7 (s : Nat → Int32) (v : Nat → Int64) (P : Nat → Int32) (n k : Nat) : Bool :=
  decide (1 ≤ k) && (clo (s (k - 1)) (v (k - 1)) || (decide (cv s v n (k - 1) = 1) || (decide (cv s v n (k - 1) = 0) && (!opn (s (k - 1)) (v (k - 1)) && decide (0 < e7 s v P n (k - 1))))))
def st7 (s : Nat → Int32) (v : Nat → Int64) (P : Nat → Int32) (n k : Nat) : Bool := decide (cv s v n k = 0) && (decide (0 < e7 s v P n k) && !lk7 s v P n k)
theorem lk_s : lk7 s v P n (k + 1) = (clo (s k) (v k) || (decide (cv s v n k = 1) || (decide (cv s v n k = 0) && (!opn (s k) (v k) && decide (0 < e7 s v P n k))))) := by
  unfold lk7
  rw [show k + 1 - 1 = k by omega, decide_eq_true (show 1 ≤ k + 1 by omega), Bool.true_and]
/-- an item of a level: where it ends -/
theorem it_nx (hb : bl7 s v n) (hn : n ≤ 600) (hP : PN s v P n) (h0 : cv s v n k = 0) (he : 0 < e7 s v P n k) :
    k + e7 s v P n k ≤ n ∧ cv s v n (k + e7 s v P n k) = 0 ∧ lk7 s v P n (k + e7 s v P n k) = true ∧ sk s v (k + e7 s v P n k) = sk s v k ∧ ∀ x, k < x → x < k + e7 s v P n k → ¬ (st7 s v P n x = true ∧ sk s v x = sk s v k) := by
  have hT := pn_pt hb hn hP
  have hin := exN_in hn hT he
  refine ⟨hin, ?_⟩
  obtain ⟨hk, a | b | c⟩ := exN_cases hn hT he
  · rw [show e7 s v P n k = 1 from a.1]
    have s3 : ¬ s k = 3 := by
      rcases a.2 with z | z | z <;> rw [z] <;> decide
    have nb := no_br (b := v k) (Or.inl s3)
    refine ⟨cv_s0 h0 (t3_no (Or.inl s3)), ?_, sk_n nb.1 nb.2, fun x h1 h2 => by omega⟩
    rw [lk_s, h0, nb.1, decide_eq_true (show 0 < e7 s v P n k from he)]
    simp
  · obtain ⟨ho, p', p1', p2', p3', p4', p5'⟩ := b
    obtain ⟨p, p1, p2, p3, p4, p5, p6⟩ := grp hb hk ho
    have e1 := hP p k p2 p3 (by rw [p4]; rfl)
    have e2 := (nI_eq (a := p) (b := p') (by omega) (by omega)).mp (e1.symm.trans p4')
    subst e2
    have hj : k + e7 s v P n k = p + 1 := by
      have : e7 s v P n k = p - k + 1 := p5'
      omega
    rw [hj]
    have c0 := cv_br (n := n) (Or.inr p3)
    have b0 := br_no (Or.inr p3)
    refine ⟨cv_s0 c0 (t3_no (Or.inr b0.2)), by rw [lk_s, p3]; rfl, p5, fun x h1 h2 z => ?_⟩
    have := p6 x h1 (by omega)
    rw [z.2] at this
    exact absurd (sk_lt k k this) (Nat.lt_irrefl _)
  · obtain ⟨c0, c1, c2, c3, c4, c5, c6⟩ := c
    obtain ⟨t, e3⟩ := ex_t3 c2 c3 he
    rw [e3]
    obtain ⟨d1, d2, d3⟩ := cv_s3 h0 t
    have n0 := no_br (a := s k) (Or.inr c3)
    have n1 := no_br (a := s (k + 1)) (b := v (k + 1)) (Or.inl (by rw [c4]; decide))
    have n2 := no_br (a := s (k + 2)) (Or.inr c6)
    refine ⟨d3, ?_, ?_, fun x h1 h2 z => ?_⟩
    · show lk7 s v P n (k + 2 + 1) = true
      rw [lk_s, d2]; simp
    · show sk s v (k + 2 + 1) = sk s v k
      rw [sk_n n2.1 n2.2]
      show sk s v (k + 1 + 1) = sk s v k
      rw [sk_n n1.1 n1.2, sk_n n0.1 n0.2]
    · have z1 := z.1
      simp only [st7, Bool.and_eq_true, decide_eq_true_eq] at z1
      have hx : x = k + 1 ∨ x = k + 2 := by omega
      rcases hx with e | e
      · rw [e, d1] at z1; omega
      · rw [e, d2] at z1; omega
theorem op_ex (hb : bl7 s v n) (hn : n ≤ 600) (hP : PN s v P n) (hk : k < n) (ho : opn (s k) (v k) = true) : ∃ p, k < p ∧ p < n ∧ clo (s p) (v p) = true ∧ P k = nI p ∧ sk s v p = k :: sk s v k ∧ e7 s v P n k = p - k + 1 := by
  obtain ⟨p, p1, p2, p3, p4, -⟩ := grp hb hk ho
  have e1 := hP p k p2 p3 (by rw [p4]; rfl)
  refine ⟨p, p1, p2, p3, e1, p4, ?_⟩
  have b := br_no (Or.inl ho)
  unfold e7 exN
  rw [if_neg (by omega), if_neg (by simp [nmB, b.1]), if_pos ho, e1, nI_clamp (by omega)]
/-- a token that begins nothing -/
theorem it_zr (hb : bl7 s v n) (hn : n ≤ 600) (hP : PN s v P n) (hk : k < n) (h0 : cv s v n k = 0) (he : e7 s v P n k = 0) (hc : clo (s k) (v k) = false) : cv s v n (k + 1) = 0 ∧ lk7 s v P n (k + 1) = false ∧ sk s v (k + 1) = sk s v k := by
  have ho : opn (s k) (v k) = false := by
    cases ho : opn (s k) (v k)
    · rfl
    · obtain ⟨p, p1, -, -, -, -, p6⟩ := op_ex hb hn hP hk ho
      omega
  have ht : t3 s v n k = false := by
    cases t : t3 s v n k
    · rfl
    · exfalso
      have t' := t
      simp only [t3, Bool.and_eq_true] at t'
      have z := tkB_s t'.1
      have : e7 s v P n k = 3 := by
        unfold e7 exN
        rw [if_neg (by omega), if_neg (by simp [nmB, z.1]), if_neg (by rw [ho]; decide), if_neg (by rw [z.1]; decide)]
        exact if_pos t
      omega
  refine ⟨cv_s0 h0 ht, ?_, sk_n ho hc⟩
  rw [lk_s, hc, h0, ho, decide_eq_false (show ¬ 0 < e7 s v P n k by omega)]
  simp
theorem lv_st (hk : k < n) (ho : opn (s k) (v k) = true) : cv s v n (k + 1) = 0 ∧ lk7 s v P n (k + 1) = false ∧ sk s v (k + 1) = k :: sk s v k := by
  have c0 := cv_br (n := n) (Or.inl ho)
  have b0 := br_no (Or.inl ho)
  refine ⟨cv_s0 c0 (t3_no (Or.inr b0.2)), ?_, sk_o ho⟩
  rw [lk_s, opn_clo ho, c0, ho]
  simp
/-! sums -/
def sm (g : Nat → Nat) : Nat → Nat
  | 0 => 0
  | k + 1 => sm g k + g k
theorem sm_z {g : Nat → Nat} {a : Nat} : ∀ c, a ≤ c → (∀ x, a ≤ x → x < c → g x = 0) → sm g c = sm g a
  | 0, h, _ => by rw [Nat.le_zero.mp h]
  | c + 1, h, z => by
    by_cases e : a = c + 1
    · rw [e]
    · rw [sm, sm_z c (by omega) (fun x h1 h2 => z x h1 (by omega)), z c (by omega) (by omega)]; rfl
theorem sm_add {f g h : Nat → Nat} : ∀ c, (∀ x, x < c → h x = f x + g x) → sm h c = sm f c + sm g c
  | 0, _ => rfl
  | c + 1, e => by
    rw [sm, sm, sm, sm_add c (fun x hx => e x (by omega)), e c (by omega)]; omega
theorem sm_eq {f g : Nat → Nat} : ∀ c, (∀ x, x < c → f x = g x) → sm f c = sm g c
  | 0, _ => rfl
  | c + 1, e => by rw [sm, sm, sm_eq c (fun x hx => e x (by omega)), e c (by omega)]
theorem sm_le {f g : Nat → Nat} : ∀ c, (∀ x, x < c → f x ≤ g x) → sm f c ≤ sm g c
  | 0, _ => Nat.le_refl _
  | c + 1, e => by
    have := sm_le c (fun x hx => e x (by omega))
    have := e c (by omega)
    rw [sm, sm]; omega
theorem sm_mono {g : Nat → Nat} {a : Nat} : ∀ c, a ≤ c → sm g a ≤ sm g c
  | 0, h => by rw [Nat.le_zero.mp h]; exact Nat.le_refl _
  | c + 1, h => by
    by_cases e : a = c + 1
    · rw [e]; exact Nat.le_refl _
    · have := sm_mono (g := g) (a := a) c (by omega)
      rw [sm]; omega
/-- of one level, the starts -/
def gL (s : Nat → Int32) (v : Nat → Int64) (P : Nat → Int32) (n : Nat) (S : List Nat) (f : Nat → Nat) (j : Nat) : Nat := if st7 s v P n j = true ∧ sk s v j = S then f j else 0
theorem gl_it {f : Nat → Nat} (hb : bl7 s v n) (hn : n ≤ 600) (hP : PN s v P n) (h0 : cv s v n k = 0) (he : 0 < e7 s v P n k) : sm (gL s v P n (sk s v k) f) (k + e7 s v P n k) = sm (gL s v P n (sk s v k) f) k + (if st7 s v P n k = true then f k else 0) := by
  obtain ⟨-, -, -, -, h5⟩ := it_nx hb hn hP h0 he
  have e : sm (gL s v P n (sk s v k) f) (k + 1) = sm (gL s v P n (sk s v k) f) k + (if st7 s v P n k = true then f k else 0) := by
    rw [sm]
    unfold gL
    by_cases z : st7 s v P n k = true
    · rw [if_pos ⟨z, rfl⟩, if_pos z]
    · rw [if_neg (fun w => z w.1), if_neg z]
  rw [← e]
  exact sm_z _ (by omega) (fun x h1 h2 => if_neg (h5 x (by omega) h2))
theorem st_ex (h : st7 s v P n k = true) : cv s v n k = 0 ∧ 0 < e7 s v P n k ∧ lk7 s v P n k = false := by
  simp only [st7, Bool.and_eq_true, decide_eq_true_eq] at h
  exact ⟨h.1, h.2.1, by simpa using h.2.2⟩
theorem gl_zr {f : Nat → Nat} {S : List Nat} (he : e7 s v P n k = 0) : sm (gL s v P n S f) (k + 1) = sm (gL s v P n S f) k := by
  rw [sm]
  unfold gL
  rw [if_neg (fun z => by have := (st_ex z.1).2.1; omega)]; rfl
end RWA
