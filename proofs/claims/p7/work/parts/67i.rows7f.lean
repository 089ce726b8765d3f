/-! fixities as the class finds them; a row that is put together -/
section RWF
variable {nm : Nat → Int64} {lv sd : Nat → Int32} {n c i : Nat} {w : Int64} {x y : Int32}
theorem ix_rng {α : Type} [DecidableEq α] {f : Nat → α} {b : α} : ∀ (d i : Nat), n - i = d → ixE f b n i = -1 ∨ ∃ j, i ≤ j ∧ j < n ∧ f j = b ∧ ixE f b n i = nI j
  | 0, i, h => Or.inl (ix_end (by omega))
  | d + 1, i, h => by
    by_cases e : f i = b
    · exact Or.inr ⟨i, Nat.le_refl _, by omega, e, ix_at (by omega) e⟩
    · rw [ix_go (by omega) e]
      rcases ix_rng (f := f) (b := b) d (i + 1) (by omega) with h | ⟨j, h1, h2, h3, h4⟩
      · exact Or.inl h
      · exact Or.inr ⟨j, by omega, h2, h3, h4⟩
theorem ix_in {α : Type} [DecidableEq α] {f : Nat → α} {b : α} (h : ¬ ixE f b n 0 = -1) (hn : n ≤ c) (hc : c ≤ 1000) : vp_in (ixE f b n 0) c := by
  rcases ix_rng (f := f) (b := b) (n := n) _ 0 rfl with e | ⟨j, -, h2, -, h4⟩
  · exact absurd e h
  · rw [h4]; exact vp_in_nI (by omega) (by omega)
def lvC (nm : Nat → Int64) (lv : Nat → Int32) (n : Nat) (d : Int32) (w : Int64) : Int32 := if ixE nm w n 0 = -1 then d else lv (ixE nm w n 0).toNatClampNeg
theorem lv_0 {d : Int32} (h : ixE nm w n 0 = -1) : d = lvC nm lv n d w := (if_pos h).symm
theorem lv_1 {d : Int32} (h : ¬ ixE nm w n 0 = -1) (e : x = lv (ixE nm w n 0).toNatClampNeg) : x = lvC nm lv n d w := e.trans (if_neg h).symm
def vaI (f : Nat → Int64) (n : Nat) (y : Int32) : Int64 := if hsI n y = 0 then 0 else f y.toNatClampNeg
theorem va_0 {f : Nat → Int64} (h : hsI n y = 0) : 0 = vaI f n y := (if_pos h).symm
theorem va_1 {f : Nat → Int64} {v : Int64} (h : ¬ hsI n y = 0) (e : v = f y.toNatClampNeg) : v = vaI f n y := e.trans (if_neg h).symm
theorem va_n {f : Nat → Int64} (h : i < n) (hn : n ≤ 600) : vaI f n (nI i) = f (nI i).toNatClampNeg := if_neg (fun z => hs_no z (by omega) (by omega) h)
/-- the items' places -/
def ITM (fi la : Nat → Int32) (m n : Nat) : Prop := ∀ i, i < m → ∃ a b, fi i = nI a ∧ la i = nI b ∧ a ≤ b ∧ b < n
theorem it_1 {fi la : Nat → Int32} {m : Nat} {v : Nat → Int64} (h : ITM fi la m n) (hi : i < m) (hn : n ≤ 600) (e : fi i = la i) : vaI v n (fi i) = nm7 v (fi i) (la i) := by
  obtain ⟨a, b, h1, h2, h3, h4⟩ := h i hi
  unfold nm7
  rw [if_pos e, h1, va_n (by omega) hn]
theorem it_2 {fi la : Nat → Int32} {m : Nat} {v : Nat → Int64} (h : ITM fi la m n) (hi : i < m) (hn : n ≤ 600) (e : ¬ fi i = la i) : vaI v n (fi i + 1) = nm7 v (fi i) (la i) := by
  obtain ⟨a, b, h1, h2, h3, h4⟩ := h i hi
  have hab : ¬ a = b := fun z => e (by rw [h1, h2, z])
  unfold nm7
  rw [if_neg e, h1, nI_1 a, va_n (by omega) hn]
theorem tI_1 {v : Nat → Int64} {F G : Int64 → Int32} {it : It} {X : Rs} (h : it.2.2 = 1) : tI7 v F G it X = tkE (F (nm7 v it.1 it.2.1)) (G (nm7 v it.1 it.2.1)) X := if_pos h
theorem tI_2 {v : Nat → Int64} {F G : Int64 → Int32} {it : It} {X : Rs} (h : it.2.2 = 2) : tI7 v F G it X = mn7 it.1 X := by
  unfold tI7; rw [if_neg (by rw [h]; decide), if_pos h]
theorem tI_0 {v : Nat → Int64} {F G : Int64 → Int32} {it : It} {X : Rs} (h1 : ¬ it.2.2 = 1) (h2 : ¬ it.2.2 = 2) : tI7 v F G it X = some (X.1, (it.1, it.2.1) :: X.2.1, X.2.2) := by
  unfold tI7; rw [if_neg h1, if_neg h2]
theorem od_z {W : List Wt} {fi la : Nat → Int32} {no : Nat} {R : List Sp} : (W, z2 (upd fi no x) (upd la no y) (no + 1), R) = (W, (x, y) :: z2 fi la no, R) := by rw [z2_put]
/-- an operation is behind an operand -/
def RV (pa : Nat → Int32) (m : Nat) : Prop := ∀ i, i < m → pa i = 1 → 1 ≤ i ∧ pa (i - 1) = 0
theorem rs_s {v : Nat → Int64} {F G : Int64 → Int32} {B : List Sp} {fi la pa : Nat → Int32} {k : Nat} {X : Rs} {r : Option Rs} (h : rs7 v F G B (z3 fi la pa k) = some X) (e : tI7 v F G (fi k, la k, pa k) X = r) : rs7 v F G B (z3 fi la pa (k + 1)) = r := by
  rw [z3, rs7, h]; exact e
theorem rs_n {v : Nat → Int64} {F G : Int64 → Int32} {B : List Sp} {fi la pa : Nat → Int32} {k : Nat} (h : rs7 v F G B (z3 fi la pa k) = none) : ∀ m, k ≤ m → rs7 v F G B (z3 fi la pa m) = none
  | 0, hm => by rw [Nat.le_zero.mp hm] at h; exact h
  | m + 1, hm => by
    by_cases e : k = m + 1
    · rw [← e]; exact h
    · rw [z3, rs7, rs_n h m (by omega)]
end RWF
