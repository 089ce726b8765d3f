/-! the tokens with the brackets put in -/
def cpL (s : Nat → Int32) (v : Nat → Int64) (Q : List Sp) (f : Int32) : Nat → List (Int32 × Int64)
  | 0 => []
  | k + 1 => List.replicate (cB k Q) (f, 41) ++ ((s k, v k) :: (List.replicate (cF k Q) (f, 40) ++ cpL s v Q f k))
theorem cp_len {s : Nat → Int32} {v : Nat → Int64} {Q : List Sp} {f : Int32} : ∀ k, (cpL s v Q f k).length = k + sm (fun x => cF x Q) k + sm (fun x => cB x Q) k
  | 0 => rfl
  | k + 1 => by
    have z1 : sm (fun x => cF x Q) (k + 1) = sm (fun x => cF x Q) k + cF k Q := by rw [sm]
    have z2 : sm (fun x => cB x Q) (k + 1) = sm (fun x => cB x Q) k + cB k Q := by rw [sm]
    rw [cpL, List.length_append, List.length_cons, List.length_append, List.length_replicate, List.length_replicate, cp_len k, z1, z2]
    omega
theorem sm_z9 {g : Nat → Nat} : ∀ k, (∀ x, x < k → g x = 0) → sm g k = 0
  | 0, _ => rfl
  | k + 1, h => by rw [sm, sm_z9 k (fun x hx => h x (by omega)), h k (by omega)]
theorem sm_ad {g h : Nat → Nat} : ∀ k, sm (fun x => g x + h x) k = sm g k + sm h k
  | 0 => rfl
  | k + 1 => by rw [sm, sm, sm, sm_ad k]; omega
theorem sm_19 {y : Int32} : ∀ k, k ≤ 600 → sm (fun x => if y = nI x then 1 else 0) k ≤ 1
  | 0, _ => Nat.zero_le _
  | k + 1, h => by
    rw [sm]
    by_cases e : y = nI k
    · rw [sm_z9 k (fun x hx => if_neg (fun z => by have := (nI_eq (by omega) (by omega)).mp (z.symm.trans e); omega))]
      split <;> omega
    · have := sm_19 (y := y) k (by omega)
      rw [if_neg e]; omega
theorem cF_tot {k : Nat} (hk : k ≤ 600) : ∀ Q : List Sp, sm (fun x => cF x Q) k ≤ Q.length
  | [] => Nat.le_of_eq (sm_z9 (g := fun x => cF x []) k (fun _ _ => rfl))
  | p :: Q => by
    have z : sm (fun x => cF x (p :: Q)) k = sm (fun x => cF x Q) k + sm (fun x => if p.1 = nI x then 1 else 0) k := sm_ad (g := fun x => cF x Q) (h := fun x => if p.1 = nI x then 1 else 0) k
    have a := cF_tot hk Q
    have b := sm_19 (y := p.1) k hk
    rw [z, List.length_cons]; omega
theorem cB_tot {k : Nat} (hk : k ≤ 600) : ∀ Q : List Sp, sm (fun x => cB x Q) k ≤ Q.length
  | [] => Nat.le_of_eq (sm_z9 (g := fun x => cB x []) k (fun _ _ => rfl))
  | p :: Q => by
    have z : sm (fun x => cB x (p :: Q)) k = sm (fun x => cB x Q) k + sm (fun x => if p.2 = nI x then 1 else 0) k := sm_ad (g := fun x => cB x Q) (h := fun x => if p.2 = nI x then 1 else 0) k
    have a := cB_tot hk Q
    have b := sm_19 (y := p.2) k hk
    rw [z, List.length_cons]; omega
/-- there is always room -/
theorem cp_room {s : Nat → Int32} {v : Nat → Int64} {Q : List Sp} {f : Int32} {k : Nat} (hk : k ≤ 362) (hQ : Q.length ≤ 90) : (cpL s v Q f k).length ≤ 542 := by
  have a := cF_tot (k := k) (by omega) Q
  have b := cB_tot (k := k) (by omega) Q
  rw [cp_len]; omega
