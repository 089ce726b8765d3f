/-! the tokens with the brackets, as both sides copy them -/
section RWZ
variable {s s' : Nat → Int32} {v v' : Nat → Int64} {Q : List Sp} {f : Int32} {n m l k : Nat} {A A' B B' : Nat → Nat}
def cpG (s : Nat → Int32) (v : Nat → Int64) (A B : Nat → Nat) (f : Int32) : Nat → List (Int32 × Int64)
  | 0 => []
  | k + 1 => List.replicate (B k) (f, 41) ++ ((s k, v k) :: (List.replicate (A k) (f, 40) ++ cpG s v A B f k))
theorem cp_G : ∀ k, cpL s v Q f k = cpG s v (fun x => cF x Q) (fun x => cB x Q) f k
  | 0 => rfl
  | k + 1 => by rw [cpL, cpG, cp_G k]
theorem cp_cg : ∀ k, (∀ x, x < k → s x = s' x ∧ v x = v' x ∧ A x = A' x ∧ B x = B' x) → cpG s v A B f k = cpG s' v' A' B' f k
  | 0, _ => rfl
  | k + 1, h => by
    obtain ⟨h1, h2, h3, h4⟩ := h k (by omega)
    rw [cpG, cpG, cp_cg k (fun x hx => h x (by omega)), h1, h2, h3, h4]
theorem zt_len : ∀ n, (zt s v n).length = n
  | 0 => rfl
  | n + 1 => by rw [zt, List.length_cons, zt_len n]
theorem cF_le {x : Nat} : ∀ Q : List Sp, cF x Q ≤ Q.length
  | [] => Nat.le_refl _
  | p :: Q => by
    have := cF_le (x := x) Q
    rw [cF, List.length_cons]; split <;> omega
theorem cB_le {x : Nat} : ∀ Q : List Sp, cB x Q ≤ Q.length
  | [] => Nat.le_refl _
  | p :: Q => by
    have := cB_le (x := x) Q
    rw [cB, List.length_cons]; split <;> omega
theorem cp_rm {kd : Nat → Int32} {vl : Nat → Int64} (h : zt kd vl n = cpL s v Q f l) (hl : l < 362) (hQ : Q.length ≤ 90) : n + cF l Q + 1 + cB l Q ≤ 542 := by
  have a := congrArg List.length h
  rw [zt_len] at a
  have b := cp_room (s := s) (v := v) (f := f) (k := l + 1) (by omega) hQ
  rw [cpL, List.length_append, List.length_cons, List.length_append, List.length_replicate, List.length_replicate] at b
  omega
theorem cp_st {k0 k1 k2 k3 : Nat → Int32} {v0 v1 v2 v3 : Nat → Int64} {n0 n1 n2 n3 : Nat} {x : Int32} {y : Int64} (h0 : zt k0 v0 n0 = cpL s v Q f l) (h1 : zt k1 v1 n1 = List.replicate (cF l Q) (f, 40) ++ zt k0 v0 n0) (h2 : zt k2 v2 n2 = (x, y) :: zt k1 v1 n1) (h3 : zt k3 v3 n3 = List.replicate (cB l Q) (f, 41) ++ zt k2 v2 n2) (hx : x = s l) (hy : y = v l) : zt k3 v3 n3 = cpL s v Q f (l + 1) := by
  rw [h3, h2, h1, h0, hx, hy, cpL]
theorem zr_n {g g' : Nat → Int32} {A : Nat → Nat} (h : ∀ x9, x9 < 362 → g' x9 = g x9 + nI (A x9)) (z : ∀ x9, x9 < 362 → g x9 = 0) : ∀ x9, x9 < 362 → g' x9 = nI (A x9) := fun x hx => by rw [h x hx, z x hx, Int32.zero_add]
theorem gh_T {y : Int32} {N k : Nat} (e : y = nI N) (hN : N ≤ 600) (hk : k ≤ 600) (h : y ≤ nI k) : N ≤ k := by
  rw [e] at h; exact (nI_leI (by omega) (by omega)).mp h
theorem gh_F {y : Int32} {N k : Nat} (e : y = nI N) (hN : N ≤ 600) (hk : k ≤ 600) (h : ¬ y ≤ nI k) : k < N := by
  rw [e] at h; exact Nat.lt_of_not_le (fun q => h ((nI_leI (by omega) (by omega)).mpr q))
theorem cl_z {f f' g g' : Nat → Int32} {k : Nat} (h : ∀ x9, x9 < k → f x9 = 0 ∧ g x9 = 0) (e1 : upd f k 0 = f') (e2 : upd g k 0 = g') : ∀ x9, x9 < k + 1 → f' x9 = 0 ∧ g' x9 = 0 := fun x hx => by
  subst e1; subst e2
  by_cases q : x = k
  · rw [q]; exact ⟨if_pos rfl, if_pos rfl⟩
  · rw [upd_ne q, upd_ne q]; exact h x (by omega)
end RWZ
