/-! reading: what is laid, and that it was found right -/
section RWU
variable {kd : Nat → Int32} {vl : Nat → Int64} {wh col ld c : Nat → Int32} {n m len : Nat} {L : List Lx}
theorem rp_wh : ∀ L : List Lx, Rp kd vl wh col ld L → ∀ j, j < L.length → ¬ wh j = -1
  | [], _, j, hj => absurd hj (Nat.not_lt_zero _)
  | x :: L, ⟨_, _, ⟨h3, h3'⟩, _, _, h6⟩, j, hj => by
    rw [List.length_cons] at hj
    by_cases e : j = L.length
    · rw [e, h3]; exact nI_n1 (by omega)
    · exact rp_wh L h6 j (by omega)
theorem lf_np (hw : ∀ j, j < n → ¬ wh j = -1) : ∀ (f i : Nat) (s : Ly) (b p : Int32), lyF kd vl wh col ld n f i s b = .inl p → ¬ p = -1
  | 0, i, s, b, p, e => by rw [lyF] at e; cases e
  | f + 1, i, s, b, p, e => by
    rw [lyF] at e
    by_cases a : i < n
    · rw [if_pos a] at e
      cases q : lyT kd vl i (lyB kd vl col ld n i s) with
      | none =>
        rw [q] at e
        have e' : (Sum.inl (wh i) : Lz) = Sum.inl p := e
        have e2 : wh i = p := Sum.inl.inj e'
        rw [← e2]; exact hw i a
      | some u =>
        rw [q] at e
        exact lf_np hw f (i + 1) _ _ p e
    · rw [if_neg a] at e; cases e
theorem ly_np (hw : ∀ j, j < n → ¬ wh j = -1) (hl : len ≤ 600) : ∀ p, lyR kd vl wh col ld n len = .inl p → ¬ p = -1 := by
  intro p e
  unfold lyR lyE at e
  cases q : lyF kd vl wh col ld n (n - 0) 0 ([], [], 0) 0 with
  | inl z =>
    rw [q] at e
    have e' : (Sum.inl z : Lr) = Sum.inl p := e
    rw [← Sum.inl.inj e']; exact lf_np hw _ _ _ _ _ q
  | inr z =>
    obtain ⟨t, b⟩ := z
    rw [q] at e
    have e' : lyW len (lyB kd vl col ld n n t) (lyG kd vl n n b) = .inl p := e
    unfold lyW at e'
    cases w : lvL true (lyB kd vl col ld n n t).1 (lyB kd vl col ld n n t).2.1 with
    | mk S O =>
      rw [w] at e'
      cases S with
      | nil => cases e'
      | cons a S =>
        have e2 : (Sum.inl (nI len) : Lr) = Sum.inl p := e'
        rw [← Sum.inl.inj e2]; exact nI_n1 (by omega)
theorem lr_some {X : Lr} (h : lrO X = -1) (hp : ∀ p, X = .inl p → ¬ p = -1) : ∃ r, X = .inr r := by
  cases X with
  | inl p => exact absurd h (hp p rfl)
  | inr r => exact ⟨r, rfl⟩
theorem rx_e (h : cuE c n 0 [] = (none, L)) (hR : Rp kd vl wh col ld L) (hm : m = L.length) : lyR kd vl wh col ld m n = rdX c n := by
  have h2 : (cuE c n 0 []).2 = L := by rw [h]
  exact rd_x (by rw [h]) (by rw [h2]; exact hR) (by rw [h2]; exact hm)
theorem rx_1 {p : Nat} (h : cuE c n 0 [] = (some p, L)) : rdX c n = .inl (nI p) := by
  unfold rdX; rw [h]
theorem rx_w (h : ¬ wpO (cuE c n 0 []) = -1) : ∀ r, ¬ rdX c n = .inr r := by
  intro r e
  unfold rdX at e
  unfold wpO at h
  cases hx : (cuE c n 0 []).1 with
  | none => rw [hx] at h; exact h rfl
  | some p => rw [hx] at e; cases e
theorem rx_l {X : Lr} (h : ¬ lrO X = -1) : ∀ r, ¬ X = .inr r := fun r e => h (by rw [e]; rfl)
theorem rx_c {z : Int32} (h : z = 1) (h2 : z ≤ 0) : False := by rw [h] at h2; exact absurd h2 (by decide)
theorem rx_d {z : Int32} (h : z = 0) (h2 : ¬ z ≤ 0) : False := by rw [h] at h2; exact absurd (by decide) h2
end RWU
/-! what is counted depends on the tokens alone -/
section RWV
variable {s s' : Nat → Int32} {v v' : Nat → Int64} {P P' : Nat → Int32} {n n' k : Nat} {F G : Int64 → Int32}
def SV (s s' : Nat → Int32) (v v' : Nat → Int64) (n : Nat) : Prop := ∀ x, x < n → s x = s' x ∧ v x = v' x
theorem tks_inj : ∀ n n', tks s v n = tks s' v' n' → n = n' ∧ SV s s' v v' n
  | 0, 0, _ => ⟨rfl, fun x h => absurd h (Nat.not_lt_zero _)⟩
  | 0, n' + 1, h => by rw [tks, tks] at h; cases h
  | n + 1, 0, h => by rw [tks, tks] at h; cases h
  | n + 1, n' + 1, h => by
    rw [tks, tks] at h
    have h1 := List.cons.inj h
    obtain ⟨e, i⟩ := tks_inj n n' h1.2
    subst e
    refine ⟨rfl, fun x hx => ?_⟩
    by_cases q : x = n
    · rw [q]; exact ⟨congrArg Prod.fst h1.1, congrArg Prod.snd h1.1⟩
    · exact i x (by omega)
theorem sk_cg (h : SV s s' v v' n) : ∀ k, k ≤ n → sk s v k = sk s' v' k
  | 0, _ => rfl
  | k + 1, hk => by
    rw [sk, sk, sk_cg h k (by omega), (h k (by omega)).1, (h k (by omega)).2]
theorem dep_cg (h : SV s s' v v' n) : ∀ k, k ≤ n → dep s v k = dep s' v' k
  | 0, _ => rfl
  | k + 1, hk => by
    rw [dep, dep, dep_cg h k (by omega), (h k (by omega)).1, (h k (by omega)).2]
theorem pn_P (hb : bl7 s v n) (h : SV s s' v v' n) (hP : PN s v P n) (hP' : PN s' v' P' n) (hk : k < n) (ho : opn (s k) (v k) = true) : P k = P' k := by
  obtain ⟨p, p1, p2, p3, p4, -⟩ := grp hb hk ho
  have e1 := hP p k p2 p3 (by rw [p4]; rfl)
  have e2 := hP' p k p2 (by rw [← (h p p2).1, ← (h p p2).2]; exact p3) (by rw [← sk_cg h p (by omega), p4]; rfl)
  rw [e1, e2]
theorem nm_cg (h : SV s s' v v' n) : nmB wdB s v n k = nmB wdB s' v' n k := by
  unfold nmB
  by_cases q : k < n
  · rw [(h k q).1, (h k q).2]
  · rw [decide_eq_false q]; rfl
theorem tk_cg (h : SV s s' v v' n) : tkB s v n k = tkB s' v' n k := by
  unfold tkB
  by_cases q : k < n
  · rw [(h k q).1, (h k q).2]
  · rw [decide_eq_false q]; rfl
theorem t3_cg (h : SV s s' v v' n) : t3 s v n k = t3 s' v' n k := by
  unfold t3; rw [tk_cg h, nm_cg h, tk_cg h]
theorem cv_cg (h : SV s s' v v' n) : ∀ k, cv s v n k = cv s' v' n k
  | 0 => rfl
  | k + 1 => by rw [cv, cv, cv_cg h k, t3_cg h]
/-- two ways to hold the same tokens and partners -/
def CG (s s' : Nat → Int32) (v v' : Nat → Int64) (P P' : Nat → Int32) (n : Nat) : Prop := bl7 s v n ∧ n ≤ 600 ∧ SV s s' v v' n ∧ PN s v P n ∧ PN s' v' P' n
theorem CG.b (c : CG s s' v v' P P' n) : bl7 s v n := c.1
theorem CG.le (c : CG s s' v v' P P' n) : n ≤ 600 := c.2.1
theorem CG.h (c : CG s s' v v' P P' n) : SV s s' v v' n := c.2.2.1
theorem CG.p (c : CG s s' v v' P P' n) : PN s v P n := c.2.2.2.1
theorem CG.p' (c : CG s s' v v' P P' n) : PN s' v' P' n := c.2.2.2.2
theorem e7_cg (c : CG s s' v v' P P' n) : e7 s v P n k = e7 s' v' P' n k := by
  unfold e7 exN
  by_cases q : n ≤ k
  · rw [if_pos q, if_pos q]
  · have hk : k < n := by omega
    rw [if_neg q, if_neg q, nm_cg c.h, nm_cg c.h, tk_cg c.h, tk_cg c.h, ← (c.h k hk).1, ← (c.h k hk).2]
    by_cases o : opn (s k) (v k) = true
    · rw [pn_P c.b c.h c.p c.p' hk o]
    · rw [if_neg o, if_neg o]
theorem lk_cg (c : CG s s' v v' P P' n) (hk : k ≤ n) : lk7 s v P n k = lk7 s' v' P' n k := by
  unfold lk7
  by_cases q : 1 ≤ k
  · rw [(c.h (k - 1) (by omega)).1, (c.h (k - 1) (by omega)).2, cv_cg c.h, e7_cg c]
  · rw [decide_eq_false q]; rfl
theorem st_cg (c : CG s s' v v' P P' n) (hk : k ≤ n) : st7 s v P n k = st7 s' v' P' n k := by
  unfold st7; rw [cv_cg c.h, e7_cg c, lk_cg c hk]
theorem op_cg (h : SV s s' v v' n) (hk : k < n) : opB s v n k = opB s' v' n k := by
  unfold opB; rw [(h k hk).1, tk_cg h]
theorem rb_cg (c : CG s s' v v' P P' n) (hk : k < n) {r : Rb} : rbN s v P n k r = rbN s' v' P' n k r := by
  unfold rbN; rw [op_cg c.h hk, e7_cg c, (c.h k hk).2]
theorem ch_cg (c : CG s s' v v' P P' n) : ∀ (f k : Nat) (r : Rb), ch7 s v P n f k r = ch7 s' v' P' n f k r
  | 0, _, _ => rfl
  | f + 1, k, r => by
    rw [ch7, ch7]
    by_cases z : 0 < e7 s v P n k
    · have hk := e7_lt z
      rw [if_pos z, if_pos (by rw [← e7_cg c]; exact z), rb_cg c hk, e7_cg c]
      exact ch_cg c f _ _
    · rw [if_neg z, if_neg (by rw [← e7_cg c]; exact z)]
theorem rw_cg (c : CG s s' v v' P P' n) : rw7 s v P n k = rw7 s' v' P' n k := by
  unfold rw7 chE; rw [ch_cg c]
/-- the names -/
def NE (v v' : Nat → Int64) (L : List It) : Prop := ∀ i, i ∈ L → ¬ i.2.2 = 0 → nm7 v i.1 i.2.1 = nm7 v' i.1 i.2.1
theorem ne_k (c : CG s s' v v' P P' n) (he : 0 < e7 s v P n k) (ho : opB s v n k = true) : nm7 v (nI k) (nI (k + e7 s v P n k - 1)) = nm7 v' (nI k) (nI (k + e7 s v P n k - 1)) := by
  have hk := e7_lt he
  have le := c.le
  have hT := pn_pt c.b c.le c.p
  unfold nm7
  unfold opB at ho
  rcases Bool.or_eq_true_iff.mp ho with z | z
  · have s2 : s k = 2 := by simpa using z
    have e1 : e7 s v P n k = 1 := by
      obtain ⟨-, c1 | c2 | c3⟩ := exN_cases c.le hT he
      · exact c1.1
      · have := (br_no (Or.inl c2.1)).1; rw [s2] at this; exact absurd this (by decide)
      · have := c3.2.2.1; rw [s2] at this; exact absurd this (by decide)
    rw [e1, show k + 1 - 1 = k by omega, if_pos rfl, if_pos rfl, nI_clamp (by omega), (c.h k hk).2]
  · have w := tkB_s z
    obtain ⟨t, e3⟩ := ex_t3 w.1 w.2 he
    have n1 : k + 1 < n := by
      simp only [t3, Bool.and_eq_true, nmB, decide_eq_true_eq] at t; exact t.2.1.1
    have ne : ¬ nI k = nI (k + 3 - 1) := fun q => by have := (nI_eq (a := k) (b := k + 3 - 1) (by omega) (by omega)).mp q; omega
    rw [e3, if_neg ne, if_neg ne, nI_1 k, nI_clamp (by omega), (c.h (k + 1) n1).2]
theorem ne_A {a b : Int32} {r : Rb} (h : NE v v' r.1) : NE v v' (rbA a b r).1 := by
  have ps : NE v v' ((a, b, 0) :: r.1) := fun i hi => by
    rcases List.mem_cons.mp hi with e | e
    · rw [e]; exact fun z => absurd rfl z
    · exact h i e
  unfold rbA
  cases hr : r.1 with
  | nil => rw [hr] at ps; exact ps
  | cons x L =>
    rw [hr] at ps h
    show NE v v' (if x.2.2 = 0 then ((x.1, b, x.2.2) :: L, r.2) else ((a, b, 0) :: x :: L, r.2)).1
    by_cases z : x.2.2 = 0
    · rw [if_pos z]
      intro i hi
      rcases List.mem_cons.mp hi with e | e
      · rw [e]; exact fun w => absurd z w
      · exact h i (List.mem_cons_of_mem _ e)
    · rw [if_neg z]; exact ps
theorem ne_N (c : CG s s' v v' P P' n) (he : 0 < e7 s v P n k) {r : Rb} (h : NE v v' r.1) : NE v v' (rbN s v P n k r).1 := by
  unfold rbN
  by_cases ho : opB s v n k = true
  · rw [if_pos ho]
    intro i hi
    rcases List.mem_cons.mp hi with e | e
    · rw [e]; exact fun _ => ne_k c he ho
    · exact h i e
  · rw [if_neg ho]; exact ne_A h
theorem ne_ch (c : CG s s' v v' P P' n) : ∀ (f k : Nat) (r : Rb), NE v v' r.1 → NE v v' (ch7 s v P n f k r).2.1
  | 0, _, _, h => h
  | f + 1, k, r, h => by
    rw [ch7]
    by_cases z : 0 < e7 s v P n k
    · rw [if_pos z]; exact ne_ch c f _ _ (ne_N c z h)
    · rw [if_neg z]; exact h
theorem rs_cg {B : List Sp} : ∀ L : List It, NE v v' L → rs7 v F G B L = rs7 v' F G B L
  | [], _ => rfl
  | i :: L, h => by
    rw [rs7, rs7, rs_cg L (fun j hj => h j (List.mem_cons_of_mem _ hj))]
    cases rs7 v' F G B L with
    | none => rfl
    | some x =>
      show tI7 v F G i x = tI7 v' F G i x
      unfold tI7
      by_cases z : i.2.2 = 1
      · rw [if_pos z, if_pos z, h i List.mem_cons_self (by rw [z]; decide)]
      · rw [if_neg z, if_neg z]
theorem rk_cg (c : CG s s' v v' P P' n) : rk7 s v P n F G k = rk7 s' v' P' n F G k := by
  have hN : NE v v' (rw7 s v P n k).1 := ne_ch c _ _ _ (fun i hi => absurd hi List.not_mem_nil)
  show rr7 v F G (rw7 s v P n k) = rr7 v' F G (rw7 s' v' P' n k)
  rw [← rw_cg c]
  unfold rr7
  rw [rs_cg _ hN]
theorem gs_cg (c : CG s s' v v' P P' n) {f g : Nat → Nat} (e : ∀ x, f x = g x) : sm (gS7 s v P n f) n = sm (gS7 s' v' P' n g) n := sm_eq n (fun x hx => by
  unfold gS7; rw [st_cg c (by omega), e])
theorem ct_R (c : CG s s' v v' P P' n) : sm (gS7 s v P n (fR s v P n F G)) n = sm (gS7 s' v' P' n (fR s' v' P' n F G)) n := gs_cg c (fun x => by unfold fR; rw [rk_cg c])
theorem ct_C (c : CG s s' v v' P P' n) : sm (gS7 s v P n (fC s v P n F G)) n = sm (gS7 s' v' P' n (fC s' v' P' n F G)) n := gs_cg c (fun x => by unfold fC; rw [rk_cg c])
theorem ct_F (c : CG s s' v v' P P' n) {y : Nat} : sm (gS7 s v P n (fF s v P n F G y)) n = sm (gS7 s' v' P' n (fF s' v' P' n F G y)) n := gs_cg c (fun x => by unfold fF; rw [rk_cg c])
theorem ct_B (c : CG s s' v v' P P' n) {y : Nat} : sm (gS7 s v P n (fB s v P n F G y)) n = sm (gS7 s' v' P' n (fB s' v' P' n F G y)) n := gs_cg c (fun x => by unfold fB; rw [rk_cg c])
/-- what both reads tell of a text -/
def TLD (r : List Tk × Int32 × Int32) (F G : Int64 → Int32) (a b : Int32) : Prop := ∃ (s : Nat → Int32) (v : Nat → Int64) (P : Nat → Int32) (n : Nat), tks s v n = r.1 ∧ bl7 s v n ∧ n ≤ 460 ∧ PN s v P n ∧ a = nI (sm (gS7 s v P n (fR s v P n F G)) n) ∧ b = nI (sm (gS7 s v P n (fC s v P n F G)) n)
theorem tld_eq {r : List Tk × Int32 × Int32} {F' G' : Int64 → Int32} {a b a' b' : Int32} (h : TLD r F G a b) (h' : TLD r F' G' a' b') (hF : ∀ z, F z = F' z) (hG : ∀ z, G z = G' z) : a = a' ∧ b = b' := by
  obtain ⟨s, v, P, n, h1, h2, h3, h4, h5, h6⟩ := h
  obtain ⟨s', v', P', n', k1, k2, k3, k4, k5, k6⟩ := h'
  have eF : F = F' := funext hF
  have eG : G = G' := funext hG
  subst eF; subst eG
  obtain ⟨e, i⟩ := tks_inj n n' (h1.trans k1.symm)
  subst e
  have c : CG s s' v v' P P' n := ⟨h2, by omega, i, h4, k4⟩
  exact ⟨by rw [h5, k5, ct_R c], by rw [h6, k6, ct_C c]⟩
end RWV
