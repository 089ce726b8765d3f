/-! how many operations that wait are of two sides -/
def bw2 (what waits : Nat → Int32) : Nat → Nat
  | 0 => 0
  | n + 1 => bw2 what waits n + (if what (waits n).toNatClampNeg = 2 then 0 else 1)
theorem bw2_top {what waits : Nat → Int32} {w j : Nat} (hw : 1 ≤ w) (hj : j < 96) (e : waits (w - 1) = nI j) (h : ¬ what j = 2) : bw2 what waits w = bw2 what waits (w - 1) + 1 := by
  obtain ⟨k, rfl⟩ : ∃ k, w = k + 1 := ⟨w - 1, by omega⟩
  rw [show k + 1 - 1 = k by omega] at e ⊢
  rw [bw2, e, nI_clamp (by omega), if_neg h]
theorem bw2_le {what waits : Nat → Int32} {w : Nat} (hw : 1 ≤ w) : bw2 what waits (w - 1) ≤ bw2 what waits w := by
  obtain ⟨k, rfl⟩ : ∃ k, w = k + 1 := ⟨w - 1, by omega⟩
  rw [show k + 1 - 1 = k by omega, bw2]
  omega
theorem bw2_upd {what waits : Nat → Int32} {t : Nat} {x : Int32} : ∀ n, n ≤ t → bw2 what (upd waits t x) n = bw2 what waits n
  | 0, _ => rfl
  | n + 1, h => by
    have e : upd waits t x n = waits n := if_neg (by omega)
    rw [bw2, bw2, bw2_upd n (by omega), e]
