section RGL
variable {f v v' : Nat → Int32} {i n : Nat}
def Rk (v : Nat → Int32) (i : Nat) : Prop := (∀ j, j < i → v j = 0 ∨ v j = 1 ∨ v j = 2) ∧ ∀ j, j < i → v j = 1 → 1 ≤ j ∧ v (j - 1) = 0
theorem Rk.start : Rk v 0 := ⟨fun j h => absurd h (by omega), fun j h => absurd h (by omega)⟩
theorem Rk.store (h : Rk v i) (e : upd v i 2 = v') : Rk v' (i + 1) := by
  rw [← e]
  have at' : ∀ j, j ≠ i → upd v i 2 j = v j := fun j q => if_neg q
  have at0 : upd v i 2 i = 2 := if_pos rfl
  refine ⟨fun j hj => ?_, fun j hj h1 => ?_⟩
  · by_cases q : j = i
    · rw [q, at0]; exact Or.inr (Or.inr rfl)
    · rw [at' j q]; exact h.1 j (by omega)
  · by_cases q : j = i
    · rw [q, at0] at h1; exact absurd h1 (by decide)
    · rw [at' j q] at h1
      obtain ⟨g1, g2⟩ := h.2 j (by omega) h1
      exact ⟨g1, by rw [at' _ (by omega)]; exact g2⟩
theorem Rk.keep (h : Rk v i) (h0 : v i = 0 ∨ v i = 1) (h1 : v i = 1 → 1 ≤ i ∧ v (i - 1) = 0) : Rk v (i + 1) := by
  refine ⟨fun j hj => ?_, fun j hj g => ?_⟩
  · by_cases q : j = i
    · rw [q]; exact h0.elim Or.inl (fun z => Or.inr (Or.inl z))
    · exact h.1 j (by omega)
  · by_cases q : j = i
    · rw [q] at g ⊢; exact h1 g
    · exact h.2 j (by omega) g
theorem Rk.low (h : Rk v i) (hi : ¬ i = 0) (hx : v (i - 1) ≤ 0) : 1 ≤ i ∧ v (i - 1) = 0 := by
  refine ⟨by omega, ?_⟩
  rcases h.1 (i - 1) (by omega) with e | e | e
  · exact e
  · rw [e] at hx; exact absurd hx (by decide)
  · rw [e] at hx; exact absurd hx (by decide)
theorem rg_rest (h : ∀ j, i ≤ j → v j = f j) (e : upd v i 2 = v') : ∀ j, i + 1 ≤ j → v' j = f j := by
  intro j hj
  rw [← e, show upd v i 2 j = v j from if_neg (by omega)]
  exact h j (by omega)
theorem rg_last (h : v (n - 1) = 0) (h1 : v i = 1) (e : upd v i 2 = v') : v' (n - 1) = 0 := by
  rw [← e]
  by_cases q : n - 1 = i
  · rw [q, h1] at h; exact absurd h (by decide)
  · rw [show upd v i 2 (n - 1) = v (n - 1) from if_neg q]; exact h
end RGL
