theorem RG.one {w : Nat → Int32} {n i : Nat} (h : RG w n) (hi : i < n) (h0 : ¬ w i = 0) (h2 : ¬ w i = 2) : 1 ≤ i ∧ w (i - 1) = 0 := by
  rcases h.1 i hi with e | e | e
  · exact absurd e h0
  · exact h.2.1 i hi e
  · exact absurd e h2
theorem tB_inc {f g : Nat → Int32} {x n : Nat} (e : upd f x (f x + 1) = g) : tB g n ≤ tB f n + 1 := by rw [← e]; exact (tB_upd n).1
