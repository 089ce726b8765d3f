/-! write: what it answers, and the length behind it -/
def wC (v : Int64) (y : Int32) (n : Nat) : Int32 := if wi y 1 8 = 0 then 1 else if gd_ v y.toNatClampNeg = true then (if n + y.toNatClampNeg ≤ 240 then 0 else 2) else 1
def wL (v : Int64) (y : Int32) (n : Nat) : Nat := if wC v y n = 0 then n + y.toNatClampNeg else n
def wR (v : Int64) (y : Int32) (n : Nat) : Int32 := if wC v y n = 0 then nI (n + y.toNatClampNeg) else 0
theorem wi_ge {y : Int32} (h : ¬ wi y 1 8 = 0) : 1 ≤ y ∧ y ≤ 8 := by
  unfold wi at h
  split at h
  · exact absurd rfl h
  · split at h
    · exact absurd rfl h
    · rename_i h1 h2
      exact ⟨Int32.not_lt.mp h1, Int32.not_lt.mp h2⟩
theorem wi_of {y : Int32} (h1 : 1 ≤ y) (h2 : y ≤ 8) : ¬ wi y 1 8 = 0 := by
  unfold wi
  rw [if_neg (Int32.not_lt.mpr h1), if_neg (Int32.not_lt.mpr h2)]
  decide
theorem ge_nat {y : Int32} (h1 : 1 ≤ y) (h2 : y ≤ 8) : ∃ N, 1 ≤ N ∧ N ≤ 8 ∧ y = nI N := by
  have a1 := Int32.le_iff_toInt_le.mp h1
  have a2 := Int32.le_iff_toInt_le.mp h2
  have e1 : (1 : Int32).toInt = 1 := by decide
  have e8 : (8 : Int32).toInt = 8 := by decide
  refine ⟨y.toInt.toNat, by omega, by omega, ?_⟩
  apply Int32.toInt_inj.mp
  rw [nI_toInt (by omega)]
  omega
theorem wi_nat {y : Int32} (h : ¬ wi y 1 8 = 0) : ∃ N, 1 ≤ N ∧ N ≤ 8 ∧ y = nI N := ge_nat (wi_ge h).1 (wi_ge h).2
theorem nI_w {N : Nat} (h1 : 1 ≤ N) (h2 : N ≤ 8) : ¬ wi (nI N) 1 8 = 0 := wi_of ((nI_leI (a := 1) (b := N) (by omega) (by omega)).mpr h1) ((nI_leI (a := N) (b := 8) (by omega) (by omega)).mpr h2)
section WRT
variable {v : Int64} {y : Int32} {n N : Nat}
theorem wC_1 (h : wi y 1 8 = 0) : wC v y n = 1 := if_pos h
theorem wC_2 (h1 : 1 ≤ N) (h2 : N ≤ 8) (hg : gd_ v N = false) : wC v (nI N) n = 1 := by
  unfold wC; rw [if_neg (nI_w h1 h2), nI_clamp (by omega), if_neg (by rw [hg]; decide)]
theorem wC_3 (h1 : 1 ≤ N) (h2 : N ≤ 8) (hg : gd_ v N = true) (hn : ¬ n + N ≤ 240) : wC v (nI N) n = 2 := by
  unfold wC; rw [if_neg (nI_w h1 h2), nI_clamp (by omega), if_pos hg, if_neg hn]
theorem wC_0 (h1 : 1 ≤ N) (h2 : N ≤ 8) (hg : gd_ v N = true) (hn : n + N ≤ 240) : wC v (nI N) n = 0 := by
  unfold wC; rw [if_neg (nI_w h1 h2), nI_clamp (by omega), if_pos hg, if_pos hn]
theorem wL_no {c : Int32} (e : wC v y n = c) (h : ¬ c = 0) : n = wL v y n := by unfold wL; rw [if_neg (by rw [e]; exact h)]
theorem wL_yes (h1 : N ≤ 8) (e : wC v (nI N) n = 0) : n + N = wL v (nI N) n := by unfold wL; rw [if_pos e, nI_clamp (by omega)]
theorem wR_no {c : Int32} (e : wC v y n = c) (h : ¬ c = 0) : (0 : Int32) = wR v y n := by unfold wR; rw [if_neg (by rw [e]; exact h)]
theorem wR_yes (h1 : N ≤ 8) (e : wC v (nI N) n = 0) : nI (n + N) = wR v (nI N) n := by unfold wR; rw [if_pos e, nI_clamp (by omega)]
theorem wL_le (hn : n ≤ 240) : wL v y n ≤ 240 := by
  unfold wL
  split
  · rename_i h
    unfold wC at h
    split at h
    · exact absurd h (by decide)
    · split at h
      · split at h
        · assumption
        · exact absurd h (by decide)
      · exact absurd h (by decide)
  · exact hn
/-- the loop of the reference -/
theorem gd_s (v : Int64) (k : Nat) : gd_ v (k + 1) = (gd_ v k && ok_ (by_ v k)) := rfl
theorem gd_k0 {k : Nat} {x : Int32} (h : x = if gd_ v k = true then 1 else 0) (h0 : x = 0) : gd_ v k = false := by
  cases hg : gd_ v k
  · rfl
  · rw [hg, if_pos rfl] at h; rw [h] at h0; exact absurd h0 (by decide)
theorem gd_k1 {k : Nat} {x : Int32} (h : x = if gd_ v k = true then 1 else 0) (h0 : ¬ x = 0) : gd_ v k = true := by
  cases hg : gd_ v k
  · rw [hg, if_neg (by decide)] at h; exact absurd h h0
  · rfl
theorem gd_a {k : Nat} {x : Int32} (h : x = if gd_ v k = true then 1 else 0) (h0 : x = 0) : (0 : Int32) = if gd_ v (k + 1) = true then 1 else 0 := by
  rw [gd_s, gd_k0 h h0]; rfl
theorem gd_b {k : Nat} {x : Int32} (h : x = if gd_ v k = true then 1 else 0) (h0 : ¬ x = 0) (ho : ok_ (by_ v k) = true) : (1 : Int32) = if gd_ v (k + 1) = true then 1 else 0 := by
  rw [gd_s, gd_k1 h h0, ho]; rfl
theorem gd_c {k : Nat} (ho : ok_ (by_ v k) = false) : (0 : Int32) = if gd_ v (k + 1) = true then 1 else 0 := by
  rw [gd_s, ho, Bool.and_false]; rfl
theorem ok_10 {b : Nat} (h : b = 10) : ok_ b = true := by rw [h]; rfl
theorem ok_y {b : Nat} (hb : b < 256) (h : ¬ wi (nI b) 32 126 = 0) : ok_ b = true := by
  unfold wi at h
  split at h
  · exact absurd rfl h
  · split at h
    · exact absurd rfl h
    · rename_i h1 h2
      have a1 : 32 ≤ b := (nI_leI (a := 32) (b := b) (by omega) (by omega)).mp (Int32.not_lt.mp h1)
      have a2 : b ≤ 126 := (nI_leI (a := b) (b := 126) (by omega) (by omega)).mp (Int32.not_lt.mp h2)
      simp [ok_]; omega
theorem ok_n {b : Nat} (hb : b < 256) (h10 : ¬ b = 10) (h : wi (nI b) 32 126 = 0) : ok_ b = false := by
  unfold wi at h
  split at h
  · rename_i h1
    have a1 : b < 32 := (nI_ltI (a := b) (b := 32) (by omega) (by omega)).mp h1
    simp [ok_]; omega
  · split at h
    · rename_i h2
      have a2 : 126 < b := (nI_ltI (a := 126) (b := b) (by omega) (by omega)).mp h2
      simp [ok_]; omega
    · exact absurd h (by decide)
end WRT
theorem nar_c {q : Nat} (h : q < 256) : vp_nar .char (nI q) = nI q := by
  have key : ∀ q, q < 256 → vp_nar .char (nI q) = nI q := by decide +kernel
  exact key q h
section WTX
variable {f f' v g : Nat → Int32} {n k m N : Nat} {y : Int64} {z : Int32}
theorem ap_s (hf : upd v m (vp_nar .char (nI (by_ y k))) = g) (hm : m = n + k) (h : ∀ j, j < n + k → v j = if j < n then f j else nI (by_ y (j - n))) : ∀ j, j < n + (k + 1) → g j = if j < n then f j else nI (by_ y (j - n)) := by
  intro j hj
  rw [← hf]
  by_cases q : j = m
  · rw [show upd v m (vp_nar .char (nI (by_ y k))) j = vp_nar .char (nI (by_ y k)) from if_pos q, if_neg (by omega), show j - n = k by omega]
    exact nar_c (by_lt y k)
  · rw [show upd v m (vp_nar .char (nI (by_ y k))) j = v j from if_neg q]
    exact h j (by omega)
theorem am_s (hf : upd v (n + k) (nI (by_ y k)) = g) (h : ∀ j, j < n + k → v j = if j < n then f j else nI (by_ y (j - n))) : ∀ j, j < n + (k + 1) → g j = if j < n then f j else nI (by_ y (j - n)) := by
  intro j hj
  rw [← hf]
  by_cases q : j = n + k
  · rw [show upd v (n + k) (nI (by_ y k)) j = nI (by_ y k) from if_pos q, if_neg (by omega), show j - n = k by omega]
  · rw [show upd v (n + k) (nI (by_ y k)) j = v j from if_neg q]
    exact h j (by omega)
theorem wt_no (e : n = wL y z n) : ∀ j, j < wL y z n → f j = if j < n then f j else nI (by_ y (j - n)) := fun j hj => (if_pos (Nat.lt_of_lt_of_eq hj e.symm)).symm
theorem wt_yes (e : n + N = wL y z n) (h : ∀ j, j < n + N → g j = if j < n then f j else nI (by_ y (j - n))) : ∀ j, j < wL y z n → g j = if j < n then f j else nI (by_ y (j - n)) := fun j hj => h j (Nat.lt_of_lt_of_eq hj e.symm)
theorem tx_new {g' : Nat → Int32} (h : ∀ j, j < n → f j = f' j) (h1 : ∀ j, j < m → g j = if j < n then f j else nI (by_ y (j - n))) (h2 : ∀ j, j < m → g' j = if j < n then f' j else nI (by_ y (j - n))) : ∀ j, j < m → g j = g' j := by
  intro j hj
  rw [h1 j hj, h2 j hj]
  by_cases q : j < n
  · rw [if_pos q, if_pos q, h j q]
  · rw [if_neg q, if_neg q]
theorem pl_new {p p' : Int32} (h : ∀ j, j < n → f j = f' j) (e : p = rdP (cN f n) n) (e' : p' = rdP (cN f' n) n) : p = p' := by
  rw [e, e', cN_eq h]
end WTX
