/-! tally -/
section RWM
variable {f g A B : Nat → Int32} {k j : Nat}
theorem tl_F (h : ∀ x9, x9 < 362 → f x9 = g x9 + nI (cF x9 (z2 A B k))) (e : A k = nI j) (hj : j < 362) : ∀ x9, x9 < 362 → upd f j (f j + 1) x9 = g x9 + nI (cF x9 (z2 A B (k + 1))) := fun x hx => by
  have q : cF x (z2 A B (k + 1)) = cF x (z2 A B k) + (if A k = nI x then 1 else 0) := rfl
  rw [q]
  by_cases a : x = j
  · subst a
    rw [if_pos e, upd_self, h x hx, ← nI_add, show (1 : Int32) = nI 1 from rfl, Int32.add_assoc]
  · rw [if_neg (fun z => a ((nI_eq (by omega) (by omega)).mp (z.symm.trans e))), upd_ne a, h x hx, Nat.add_zero]
theorem tl_B (h : ∀ x9, x9 < 362 → f x9 = g x9 + nI (cB x9 (z2 A B k))) (e : B k = nI j) (hj : j < 362) : ∀ x9, x9 < 362 → upd f j (f j + 1) x9 = g x9 + nI (cB x9 (z2 A B (k + 1))) := fun x hx => by
  have q : cB x (z2 A B (k + 1)) = cB x (z2 A B k) + (if B k = nI x then 1 else 0) := rfl
  rw [q]
  by_cases a : x = j
  · subst a
    rw [if_pos e, upd_self, h x hx, ← nI_add, show (1 : Int32) = nI 1 from rfl, Int32.add_assoc]
  · rw [if_neg (fun z => a ((nI_eq (by omega) (by omega)).mp (z.symm.trans e))), upd_ne a, h x hx, Nat.add_zero]
end RWM
/-! tokens as a list, the newest first -/
def zt (s : Nat → Int32) (v : Nat → Int64) : Nat → List (Int32 × Int64)
  | 0 => []
  | n + 1 => (s n, v n) :: zt s v n
theorem zt_cg {s s' : Nat → Int32} {v v' : Nat → Int64} : ∀ n, (∀ x, x < n → s x = s' x ∧ v x = v' x) → zt s v n = zt s' v' n
  | 0, _ => rfl
  | n + 1, h => by rw [zt, zt, (h n (by omega)).1, (h n (by omega)).2, zt_cg n (fun x hx => h x (by omega))]
theorem zt_add {s : Nat → Int32} {v : Nat → Int64} {n : Nat} {y : Int32} {x : Int64} : zt (upd s n y) (vp_updL v n x) (n + 1) = (y, x) :: zt s v n := by
  rw [zt, show upd s n y n = y from if_pos rfl, show vp_updL v n x n = x from if_pos rfl]
  exact congrArg _ (zt_cg n (fun z hz => ⟨if_neg (by omega), if_neg (by omega)⟩))
theorem zt_rep {s s' : Nat → Int32} {v v' : Nat → Int64} {n m k : Nat} {y : Int32} {x : Int64} (h : zt s v n = List.replicate k (y, x) ++ zt s' v' m) : zt (upd s n y) (vp_updL v n x) (n + 1) = List.replicate (k + 1) (y, x) ++ zt s' v' m := by
  rw [zt_add, h, List.replicate_succ, List.cons_append]
