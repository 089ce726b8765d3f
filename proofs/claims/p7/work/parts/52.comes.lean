theorem bw2_push {what waits w' : Nat → Int32} {t q : Nat} (e : upd waits t (nI q) = w') : bw2 what w' (t + 1) ≤ bw2 what waits t + 1 := by
  rw [← e, bw2, bw2_upd t (Nat.le_refl _)]
  split <;> omega
theorem bw2_minus {what waits w' : Nat → Int32} {t q : Nat} (hq : q ≤ 600) (h : what q = 2) (e : upd waits t (nI q) = w') : bw2 what w' (t + 1) ≤ bw2 what waits t := by
  rw [← e, bw2, bw2_upd t (Nat.le_refl _), show upd waits t (nI q) t = nI q from if_pos rfl, nI_clamp (by omega), if_pos h]
  omega
