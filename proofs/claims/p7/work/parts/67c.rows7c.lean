/-! rows of numbers as lists -/
section RWC
variable {a b c : Nat → Int32} {n m : Nat} {x y z : Int32}
def z3 (a b c : Nat → Int32) : Nat → List It
  | 0 => []
  | n + 1 => (a n, b n, c n) :: z3 a b c n
def z2 (a b : Nat → Int32) : Nat → List Sp
  | 0 => []
  | n + 1 => (a n, b n) :: z2 a b n
theorem z3_len : ∀ n, (z3 a b c n).length = n
  | 0 => rfl
  | n + 1 => by rw [z3, List.length_cons, z3_len n]
theorem z2_len : ∀ n, (z2 a b n).length = n
  | 0 => rfl
  | n + 1 => by rw [z2, List.length_cons, z2_len n]
theorem z3_upd : ∀ n, n ≤ m → z3 (upd a m x) (upd b m y) (upd c m z) n = z3 a b c n
  | 0, _ => rfl
  | n + 1, h => by
    rw [z3, z3, z3_upd n (by omega), show upd a m x n = a n from if_neg (by omega), show upd b m y n = b n from if_neg (by omega), show upd c m z n = c n from if_neg (by omega)]
theorem z2_upd : ∀ n, n ≤ m → z2 (upd a m x) (upd b m y) n = z2 a b n
  | 0, _ => rfl
  | n + 1, h => by
    rw [z2, z2, z2_upd n (by omega), show upd a m x n = a n from if_neg (by omega), show upd b m y n = b n from if_neg (by omega)]
theorem z3_cg {a' b' c' : Nat → Int32} : ∀ n, (∀ j, j < n → a j = a' j ∧ b j = b' j ∧ c j = c' j) → z3 a b c n = z3 a' b' c' n
  | 0, _ => rfl
  | n + 1, h => by
    obtain ⟨h1, h2, h3⟩ := h n (by omega)
    rw [z3, z3, z3_cg n (fun j hj => h j (by omega)), h1, h2, h3]
theorem z2_cg {a' b' : Nat → Int32} : ∀ n, (∀ j, j < n → a j = a' j ∧ b j = b' j) → z2 a b n = z2 a' b' n
  | 0, _ => rfl
  | n + 1, h => by
    obtain ⟨h1, h2⟩ := h n (by omega)
    rw [z2, z2, z2_cg n (fun j hj => h j (by omega)), h1, h2]
theorem z3_put : z3 (upd a n x) (upd b n y) (upd c n z) (n + 1) = (x, y, z) :: z3 a b c n := by
  rw [z3, z3_upd n (Nat.le_refl _), show upd a n x n = x from if_pos rfl, show upd b n y n = y from if_pos rfl, show upd c n z n = z from if_pos rfl]
theorem z2_put : z2 (upd a n x) (upd b n y) (n + 1) = (x, y) :: z2 a b n := by
  rw [z2, z2_upd n (Nat.le_refl _), show upd a n x n = x from if_pos rfl, show upd b n y n = y from if_pos rfl]
theorem z3_pop (h : 1 ≤ n) : z3 a b c n = (a (n - 1), b (n - 1), c (n - 1)) :: z3 a b c (n - 1) := by
  obtain ⟨k, rfl⟩ : ∃ k, n = k + 1 := ⟨n - 1, by omega⟩
  rw [show k + 1 - 1 = k by omega, z3]
theorem z2_pop (h : 1 ≤ n) : z2 a b n = (a (n - 1), b (n - 1)) :: z2 a b (n - 1) := by
  obtain ⟨k, rfl⟩ : ∃ k, n = k + 1 := ⟨n - 1, by omega⟩
  rw [show k + 1 - 1 = k by omega, z2]
theorem upd_ne {k : Nat} (h : ¬ k = m) : upd a m x k = a k := if_neg h
theorem upd_eq : upd a m x m = x := if_pos rfl
/-! the class's Row -/
theorem eo_1 (h : 1 ≤ n) (e : c (n - 1) = 0) : (1 : Int32) = b01 (eo7 (z3 a b c n)) := by
  rw [z3_pop h]; show 1 = b01 (c (n - 1) == 0); rw [e]; rfl
theorem eo_0 (h : n ≤ 0) : (0 : Int32) = b01 (eo7 (z3 a b c n)) := by
  rw [Nat.le_zero.mp h]; rfl
theorem eo_2 (h : 1 ≤ n) (e : ¬ c (n - 1) = 0) : (0 : Int32) = b01 (eo7 (z3 a b c n)) := by
  rw [z3_pop h]; show 0 = b01 (c (n - 1) == 0); simp [b01, e]
theorem eo_y (h : eo7 (z3 a b c n) = true) : 1 ≤ n ∧ c (n - 1) = 0 := by
  rcases Nat.eq_zero_or_pos n with e | e
  · rw [e] at h; cases h
  · rw [z3_pop e] at h
    exact ⟨e, by simpa [eo7] using h⟩
theorem ra_1 {r : Bool × Bool} (h : eo7 (z3 a b c n) = true) : (z3 a (upd b (n - 1) y) c n, r) = rbA x y (z3 a b c n, r) := by
  obtain ⟨h1, h2⟩ := eo_y h
  unfold rbA
  show _ = (match z3 a b c n with
    | [] => ([(x, y, 0)], r)
    | i :: L => if i.2.2 = 0 then ((i.1, y, i.2.2) :: L, r) else ((x, y, 0) :: i :: L, r))
  rw [z3_pop (a := a) (b := b) (c := c) h1]
  show _ = (if c (n - 1) = 0 then ((a (n - 1), y, c (n - 1)) :: z3 a b c (n - 1), r) else _)
  rw [if_pos h2, z3_pop (b := upd b (n - 1) y) h1, upd_eq, z3_cg (b' := b) (n - 1) (fun j hj => ⟨rfl, upd_ne (by omega), rfl⟩)]
theorem ra_2 {r : Bool × Bool} (h : eo7 (z3 a b c n) = false) : (z3 (upd a n x) (upd b n y) (upd c n 0) (n + 1), r) = rbA x y (z3 a b c n, r) := by
  unfold rbA
  rw [z3_put]
  show _ = (match z3 a b c n with
    | [] => ([(x, y, 0)], r)
    | i :: L => if i.2.2 = 0 then ((i.1, y, i.2.2) :: L, r) else ((x, y, 0) :: i :: L, r))
  cases hz : z3 a b c n with
  | nil => rfl
  | cons i L =>
    rw [hz] at h
    have h' : ¬ i.2.2 = 0 := by simpa [eo7] using h
    show _ = (if i.2.2 = 0 then _ else ((x, y, 0) :: i :: L, r))
    rw [if_neg h']
theorem ro_1 {p q : Bool} {d : Bool} {q' : Bool} (h : eo7 (z3 a b c n) = true) (hq : q' = q) : (z3 (upd a n x) (upd b n y) (upd c n 1) (n + 1), true, q') = rbO x y d (z3 a b c n, p, q) := by
  unfold rbO
  show _ = ((x, y, if eo7 (z3 a b c n) = true then 1 else 2) :: z3 a b c n, true, q || (!eo7 (z3 a b c n) && !d))
  rw [z3_put, h, hq]; simp
theorem ro_2 {p q : Bool} {d : Bool} {q' : Bool} (h : eo7 (z3 a b c n) = false) (hq : q' = (q || !d)) : (z3 (upd a n x) (upd b n y) (upd c n 2) (n + 1), true, q') = rbO x y d (z3 a b c n, p, q) := by
  unfold rbO
  show _ = ((x, y, if eo7 (z3 a b c n) = true then 1 else 2) :: z3 a b c n, true, q || (!eo7 (z3 a b c n) && !d))
  rw [z3_put, h, hq]; simp
end RWC
