section PTN
variable {s : Nat → Int32} {v : Nat → Int64} {k : Nat}
theorem op_a (h1 : s k = 3) (h2 : lg_cmp (v k) 40 = 0) : opn (s k) (v k) = true := by simp [opn, h1, (lg_cmp_eq _ _).mp h2]
theorem op_b (h1 : s k = 3) (h2 : lg_cmp (v k) 91 = 0) : opn (s k) (v k) = true := by simp [opn, h1, (lg_cmp_eq _ _).mp h2]
theorem op_n (h1 : ¬ lg_cmp (v k) 40 = 0) (h2 : ¬ lg_cmp (v k) 91 = 0) : opn (s k) (v k) = false := by
  have e1 : ¬ v k = 40 := fun q => h1 ((lg_cmp_eq _ _).mpr q)
  have e2 : ¬ v k = 91 := fun q => h2 ((lg_cmp_eq _ _).mpr q)
  simp [opn, e1, e2]
theorem op_ns (h1 : ¬ s k = 3) : opn (s k) (v k) = false := by simp [opn, h1]
theorem cl_a (h1 : s k = 3) (h2 : lg_cmp (v k) 41 = 0) : clo (s k) (v k) = true := by simp [clo, h1, (lg_cmp_eq _ _).mp h2]
theorem cl_b (h1 : s k = 3) (h2 : lg_cmp (v k) 93 = 0) : clo (s k) (v k) = true := by simp [clo, h1, (lg_cmp_eq _ _).mp h2]
theorem cl_n (h1 : ¬ lg_cmp (v k) 41 = 0) (h2 : ¬ lg_cmp (v k) 93 = 0) : clo (s k) (v k) = false := by
  have e1 : ¬ v k = 41 := fun q => h1 ((lg_cmp_eq _ _).mpr q)
  have e2 : ¬ v k = 93 := fun q => h2 ((lg_cmp_eq _ _).mpr q)
  simp [clo, e1, e2]
theorem cl_ns (h1 : ¬ s k = 3) : clo (s k) (v k) = false := by simp [clo, h1]
theorem oc_no {P : Prop} (h1 : opn (s k) (v k) = true) (h2 : clo (s k) (v k) = true) : P := by
  rw [opn_clo h1] at h2; cases h2
theorem PTi.pos {w P : Nat → Int32} {n : Nat} (h : PTi s v w P n k) (hc : clo (s k) (v k) = true) (hd : 0 ≤ dep s v (k + 1)) : 1 ≤ n := by
  have hno : opn (s k) (v k) = false := by
    cases ho : opn (s k) (v k)
    · rfl
    · have := opn_clo ho; rw [hc] at this; cases this
  have h1 := h.1
  rw [dep] at hd
  simp [dlt, hno, hc] at hd
  omega
theorem PTi.few {w P : Nat → Int32} {n t : Nat} (h : PTi s v w P n k) (hk : k ≤ t) (hc : cn s t ≤ 90) : n ≤ 90 := by
  have h1 := h.1
  have h2 := dep_le_cn (s := s) (v := v) k
  have h3 := cn_mono (s := s) k t hk
  omega
end PTN
