theorem tri_le {x : Int32} (h : x = 0 ∨ x = 1 ∨ x = 2) (h0 : x ≤ 0) : x = 0 := by
  rcases h with e | e | e
  · exact e
  · rw [e] at h0; exact absurd h0 (by decide)
  · rw [e] at h0; exact absurd h0 (by decide)
theorem cl_lt {y : Int32} {n : Nat} (hn : n ≤ 2147483647) (h : ¬ y ≤ nI n) : n < y.toNatClampNeg := by
  have e : y.toNatClampNeg = y.toInt.toNat := rfl
  have h1 := Int32.lt_iff_toInt_lt.mp (Int32.not_le.mp h)
  rw [nI_toInt (by omega)] at h1
  omega
theorem tB_mono {f : Nat → Int32} {k : Nat} : ∀ t, k ≤ t → tB f k ≤ tB f t
  | 0, h => by rw [Nat.le_zero.mp h]; exact Nat.le_refl _
  | t + 1, h => by
    by_cases q : k = t + 1
    · rw [q]; exact Nat.le_refl _
    · have := tB_mono (f := f) (k := k) t (by omega)
      rw [tB]; omega
theorem tB_s {f : Nat → Int32} (k : Nat) : tB f (k + 1) = tB f k + (f k).toNatClampNeg := rfl
theorem tB_one {f : Nat → Int32} {k t : Nat} (h : k < t) : tB f k + (f k).toNatClampNeg ≤ tB f t := tB_mono (f := f) (k := k + 1) t h
