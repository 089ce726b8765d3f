/-! what comes meets what waits -/
section RWE
variable {lv sd mp fi la pf pl : Nat → Int32} {nw no np k : Nat} {l t : Int32} {R' V X : Rs} {O R : List Sp}
theorem to_0 (hk : nw = k) (h : k = 0) : tkE l t (z3 lv sd mp nw, O, R) = some (ps7 l t (-1) (z3 lv sd mp nw, O, R)) := by
  rw [hk, h]; exact tkE_n rfl
theorem to_c (hk : nw = k) (h1 : 1 ≤ k) (ho : 1 ≤ no) : tkE l t (z3 lv sd mp nw, z2 fi la no, R) = if lv (k - 1) = l ∧ (¬ sd (k - 1) = t ∨ t = 2) then none else if lv (k - 1) < l ∨ (lv (k - 1) = l ∧ ¬ t = 0) then some (ps7 l t (-1) (z3 lv sd mp nw, z2 fi la no, R)) else tkE l t (gv7 (z3 lv sd mp nw, z2 fi la no, R)) := by
  subst hk
  exact tkE_c (x := (z3 lv sd mp nw, z2 fi la no, R)) (z3_pop h1) (by show 1 ≤ (z2 fi la no).length; rw [z2_len]; exact ho)
theorem to_n (hk : nw = k) (h1 : 1 ≤ k) (ho : 1 ≤ no) (e : lv (k - 1) = l) (q : ¬ sd (k - 1) = t ∨ t = 2) : tkE l t (z3 lv sd mp nw, z2 fi la no, R) = none := by
  rw [to_c hk h1 ho, if_pos ⟨e, q⟩]
theorem to_w (hk : nw = k) (h1 : 1 ≤ k) (ho : 1 ≤ no) (c : ¬ (lv (k - 1) = l ∧ (¬ sd (k - 1) = t ∨ t = 2))) (q : lv (k - 1) < l ∨ (lv (k - 1) = l ∧ ¬ t = 0)) : tkE l t (z3 lv sd mp nw, z2 fi la no, R) = some (ps7 l t (-1) (z3 lv sd mp nw, z2 fi la no, R)) := by
  rw [to_c hk h1 ho, if_neg c, if_pos q]
theorem to_g (hk : nw = k) (h1 : 1 ≤ k) (ho : 1 ≤ no) (c : ¬ (lv (k - 1) = l ∧ (¬ sd (k - 1) = t ∨ t = 2))) (q : ¬ (lv (k - 1) < l ∨ (lv (k - 1) = l ∧ ¬ t = 0))) (e : R' = gv7 (z3 lv sd mp nw, z2 fi la no, R)) : tkE l t R' = tkE l t (z3 lv sd mp nw, z2 fi la no, R) := by
  rw [to_c hk h1 ho, if_neg c, if_neg q, e]
theorem fin_e : fi7 nw (z3 lv sd mp nw, O, R) = fin7 (z3 lv sd mp nw, O, R) := by
  unfold fin7
  show _ = fi7 (z3 lv sd mp nw).length _
  rw [z3_len]
theorem fi_s (h : 1 ≤ k) (e : R' = gv7 V) : fi7 (k - 1) R' = fi7 k V := by
  obtain ⟨m, rfl⟩ : ∃ m, k = m + 1 := ⟨k - 1, by omega⟩
  rw [show m + 1 - 1 = m by omega, e, fi7]
theorem fi_0 (h : k = 0) (e : fi7 k V = X) : V = X := by
  subst h; exact e
theorem pf_t {pf' pl' pf'' pl'' : Nat → Int32} {m : Nat} (h1 : ∀ j, j < np → pf' j = pf j ∧ pl' j = pl j) (h2 : ∀ j, j < m → pf'' j = pf' j ∧ pl'' j = pl' j) (h : np ≤ m) : ∀ j, j < np → pf'' j = pf j ∧ pl'' j = pl j := fun j hj => ⟨(h2 j (by omega)).1.trans (h1 j hj).1, (h2 j (by omega)).2.trans (h1 j hj).2⟩
end RWE
