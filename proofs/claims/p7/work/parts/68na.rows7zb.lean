/-! both sides show the same tokens -/
section RZB
variable {s s' : Nat → Int32} {v v' : Nat → Int64} {P P' : Nat → Int32} {n n' m m' k l : Nat} {F G F' G' : Int64 → Int32} {r : List Tk × Int32 × Int32} {kd kd' : Nat → Int32} {vl vl' : Nat → Int64} {Q : List Sp}
theorem zt_tks : ∀ n, zt s v n = tks s v n
  | 0 => rfl
  | n + 1 => by rw [zt, tks, zt_tks n]
theorem zt_inj (h : zt s v n = zt s' v' n') : n = n' ∧ SV s s' v v' n := tks_inj n n' (by rw [← zt_tks, ← zt_tks]; exact h)
abbrev SFx (s : Nat → Int32) (v : Nat → Int64) (P : Nat → Int32) (n : Nat) (F G : Int64 → Int32) (x : Nat) : Nat := sm (gS7 s v P n (fF s v P n F G x)) n
abbrev SBx (s : Nat → Int32) (v : Nat → Int64) (P : Nat → Int32) (n : Nat) (F G : Int64 → Int32) (x : Nat) : Nat := sm (gS7 s v P n (fB s v P n F G x)) n
def TK8 (r : List Tk × Int32 × Int32) (F G : Int64 → Int32) (kd : Nat → Int32) (vl : Nat → Int64) (m : Nat) : Prop := ∃ (s : Nat → Int32) (v : Nat → Int64) (P : Nat → Int32) (n : Nat), tks s v n = r.1 ∧ bl7 s v n ∧ n ≤ 460 ∧ PN s v P n ∧ (∀ x, SFx s v P n F G x ≤ 90 ∧ SBx s v P n F G x ≤ 90) ∧ zt kd vl m = cpG s v (fun x => SFx s v P n F G x) (fun x => SBx s v P n F G x) 5 n
def TM8 (r : List Tk × Int32 × Int32) (F G : Int64 → Int32) (kd : Nat → Int32) (vl : Nat → Int64) (m : Nat) : Prop := ∃ (s : Nat → Int32) (v : Nat → Int64) (P : Nat → Int32) (n : Nat), tks s v n = r.1 ∧ bl7 s v n ∧ n ≤ 460 ∧ PN s v P n ∧ zt kd vl m = cpG s v (fun x => (nI (SFx s v P n F G x)).toNatClampNeg) (fun x => (nI (SBx s v P n F G x)).toNatClampNeg) 5 n
theorem tk8_of (h1 : tks s v n = r.1) (h2 : bl7 s v n) (h3 : n ≤ 460) (h4 : PN s v P n) (hL : zt kd vl m = cpL s v Q 5 n) (hQ : Q.length ≤ 90) (hF : ∀ x9, cF x9 Q = SFx s v P n F G x9) (hB : ∀ x9, cB x9 Q = SBx s v P n F G x9) : TK8 r F G kd vl m := by
  refine ⟨s, v, P, n, h1, h2, h3, h4, fun x => ⟨?_, ?_⟩, ?_⟩
  · rw [← hF]; exact Nat.le_trans (cF_le Q) hQ
  · rw [← hB]; exact Nat.le_trans (cB_le Q) hQ
  · rw [hL, cp_G]
    exact cp_cg n (fun x _ => ⟨rfl, rfl, hF x, hB x⟩)
theorem tm8_of {b h : Nat → Int32} (h1 : tks s v n = r.1) (h2 : bl7 s v n) (h3 : n ≤ 460) (h4 : PN s v P n) (hL : zt kd vl m = cpG s v (fun x9 => (b x9).toNatClampNeg) (fun x9 => (h x9).toNatClampNeg) 5 n) (hF : ∀ x9, x9 < n → b x9 = nI (SFx s v P n F G x9)) (hB : ∀ x9, x9 < n → h x9 = nI (SBx s v P n F G x9)) : TM8 r F G kd vl m := by
  refine ⟨s, v, P, n, h1, h2, h3, h4, ?_⟩
  rw [hL]
  exact cp_cg n (fun x hx => ⟨rfl, rfl, congrArg Int32.toNatClampNeg (hF x hx), congrArg Int32.toNatClampNeg (hB x hx)⟩)
theorem tk8_eq (h : TK8 r F G kd vl m) (h' : TM8 r F' G' kd' vl' m') (hF : ∀ z, F z = F' z) (hG : ∀ z, G z = G' z) : m = m' ∧ SV kd kd' vl vl' m := by
  obtain ⟨s, v, P, n, h1, h2, h3, h4, h5, h6⟩ := h
  obtain ⟨s', v', P', n', k1, k2, k3, k4, k5⟩ := h'
  have eF : F = F' := funext hF
  have eG : G = G' := funext hG
  subst eF; subst eG
  obtain ⟨e, i⟩ := tks_inj n n' (h1.trans k1.symm)
  subst e
  have c : CG s s' v v' P P' n := ⟨h2, by omega, i, h4, k4⟩
  refine zt_inj (h6.trans (Eq.trans ?_ k5.symm))
  refine cp_cg n (fun x hx => ⟨(i x hx).1, (i x hx).2, ?_, ?_⟩)
  · show SFx s v P n F G x = (nI (SFx s' v' P' n F G x)).toNatClampNeg
    rw [show SFx s' v' P' n F G x = SFx s v P n F G x from (ct_F c).symm, nI_clamp (by have := (h5 x).1; omega)]
  · show SBx s v P n F G x = (nI (SBx s' v' P' n F G x)).toNatClampNeg
    rw [show SBx s' v' P' n F G x = SBx s v P n F G x from (ct_B c).symm, nI_clamp (by have := (h5 x).2; omega)]
/-! the reference's copying -/
variable {A B : Nat → Nat} {f : Int32}
theorem cg_st {k0 k1 k2 k3 : Nat → Int32} {v0 v1 v2 v3 : Nat → Int64} {n0 n1 n2 n3 : Nat} (h0 : zt k0 v0 n0 = cpG s v A B f l) (h1 : zt k1 v1 n1 = List.replicate (A l) (f, 40) ++ zt k0 v0 n0) (h2 : zt k2 v2 n2 = (s l, v l) :: zt k1 v1 n1) (h3 : zt k3 v3 n3 = List.replicate (B l) (f, 41) ++ zt k2 v2 n2) : zt k3 v3 n3 = cpG s v A B f (l + 1) := by
  rw [h3, h2, h1, h0, cpG]
theorem cl_le9 {y : Int32} {k : Nat} (hk : k ≤ 2147483647) (h : y ≤ nI k) : y.toNatClampNeg ≤ k := by
  have e : y.toNatClampNeg = y.toInt.toNat := rfl
  have h1 := Int32.le_iff_toInt_le.mp h
  rw [nI_toInt (by omega)] at h1
  omega
end RZB
/-! kind and token -/
section RZC
variable {n : Nat} {y : Int32} {f : Nat → Int32}
def kaI (f : Nat → Int32) (n : Nat) (y : Int32) : Int32 := if hsI n y = 0 then -1 else f y.toNatClampNeg
theorem ka_0 (h : hsI n y = 0) : -1 = kaI f n y := (if_pos h).symm
theorem ka_1 {x : Int32} (h : ¬ hsI n y = 0) (e : x = f y.toNatClampNeg) : x = kaI f n y := e.trans (if_neg h).symm
theorem ka_y (h : ¬ hsI n y = 0) : kaI f n y = f y.toNatClampNeg := if_neg h
theorem va_y {g : Nat → Int64} (h : ¬ hsI n y = 0) : vaI g n y = g y.toNatClampNeg := if_neg h
theorem has_any : ¬ hsI n y = 0 ∨ hsI n y = 0 := (Classical.em (hsI n y = 0)).symm
theorem wi_hs (hn : n ≤ 900) : wi y 0 (nI n - 1) = hsI n y := by
  unfold wi hsI
  by_cases h1 : y < 0
  · rw [if_pos h1, if_pos h1]
  · rw [if_neg h1, if_neg h1]
    have a := Int32.le_iff_toInt_le.mp (Int32.not_lt.mp h1)
    have g0 : (0 : Int32).toInt = 0 := by decide
    have e1 : (nI n - 1).toInt = (n : Int) - 1 := by
      rw [Int32.toInt_sub, nI_toInt (by omega), show (1 : Int32).toInt = 1 by decide]
      exact Int.bmod_eq_of_le (by omega) (by omega)
    have iff1 : (nI n - 1 < y) ↔ (nI n ≤ y) := by
      rw [Int32.lt_iff_toInt_lt, Int32.le_iff_toInt_le, e1, nI_toInt (by omega)]
      omega
    by_cases h2 : nI n ≤ y
    · rw [if_pos h2, if_pos (iff1.mpr h2)]
    · rw [if_neg h2, if_neg (fun q => h2 (iff1.mp q))]
theorem hs_lt (hn : n ≤ 900) (h : ¬ hsI n y = 0) : y.toNatClampNeg < n := by
  unfold hsI at h
  by_cases h1 : y < 0
  · rw [if_pos h1] at h; exact absurd rfl h
  · rw [if_neg h1] at h
    by_cases h2 : nI n ≤ y
    · rw [if_pos h2] at h; exact absurd rfl h
    · have a := Int32.le_iff_toInt_le.mp (Int32.not_lt.mp h1)
      have c := Int32.lt_iff_toInt_lt.mp (Int32.not_le.mp h2)
      have g0 : (0 : Int32).toInt = 0 := by decide
      rw [nI_toInt (by omega)] at c
      have e : y.toNatClampNeg = y.toInt.toNat := rfl
      omega
/-- read, on both sides -/
theorem rt_both {X X' : Lr} {kd kd' : Nat → Int32} {vl vl' : Nat → Int64} {m m' : Nat} {F G F' G' : Int64 → Int32} {Z Z' : Prop} (q1 : ∀ p9, X = .inl p9 → m = 0) (q2 : ∀ r9, X = .inr r9 → TK8 r9 F G kd vl m) (m1 : ∀ p9, X' = .inl p9 → m' = 0) (m2 : ∀ r9, X' = .inr r9 → TM8 r9 F' G' kd' vl' m') (eX : X = X') (hF : ∀ z, F z = F' z) (hG : ∀ z, G z = G' z) : m' = m ∧ ∀ j, j < m → kd j = kd' j ∧ vl j = vl' j := by
  subst eX
  cases X with
  | inl p =>
    have a := q1 p rfl
    have b := m1 p rfl
    exact ⟨by omega, fun j hj => absurd hj (by omega)⟩
  | inr r =>
    obtain ⟨e, i⟩ := tk8_eq (q2 r rfl) (m2 r rfl) hF hG
    exact ⟨e.symm, i⟩
end RZC
