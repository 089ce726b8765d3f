theorem xr_pred_ltn {k y : Nat} (hk : k ≤ 2147483647) (hy : y ≤ 2147483647) : nI k - 1 < nI y ↔ k ≤ y := by
  by_cases h0 : k = 0
  · subst h0
    refine ⟨fun _ => Nat.zero_le _, fun _ => ?_⟩
    apply Int32.lt_iff_toInt_lt.mpr
    rw [nI_toInt (by omega)]
    have a3 : (nI 0 - 1).toInt = -1 := by decide
    omega
  · have e : nI k - 1 = nI (k - 1) := pk_sub (a := k) (b := 1) (by omega)
    rw [e]
    exact (nI_ltI (a := k - 1) (b := y) (by omega) (by omega)).trans ⟨fun _ => by omega, fun _ => by omega⟩
