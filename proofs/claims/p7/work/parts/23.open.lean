theorem xr_dec2 (x : Int32) : x + (-1) = x - 1 := by
  rw [Int32.sub_eq_add_neg]
theorem xr_pred_lt {k : Nat} (hk : k ≤ 2147483647) : nI k - 1 < 0 ↔ k = 0 := by
  constructor
  · intro h
    apply Nat.eq_zero_of_not_pos
    intro hp
    have e : nI k - 1 = nI (k - 1) := pk_sub (a := k) (b := 1) (by omega)
    rw [e] at h
    have h1 := Int32.lt_iff_toInt_lt.mp h
    rw [nI_toInt (by omega)] at h1
    have a3 : (0 : Int32).toInt = 0 := by decide
    omega
  · intro h
    subst h
    decide
