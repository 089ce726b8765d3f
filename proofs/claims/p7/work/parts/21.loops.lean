theorem xr_loop {p : Program} {l : Launch} {e : Env} {R : Room} {s : State} {m : MethodId} {args : Array Value} {below : List Frame} {meth : Method} {c : Code} {cells slots : Nat} {Q : State → Prop} {pc : Nat} {α : Type} (μ : α → Nat) (I : α → Heap → List Loc → Array Slot → Prop)
    (body : ∀ a, (∀ b, μ b < μ a → ∀ H locs ls, I b H locs ls → W p l e R s m args below meth c H locs cells slots Q (F0 m pc ls [])) → ∀ H locs ls, I a H locs ls → W p l e R s m args below meth c H locs cells slots Q (F0 m pc ls [])) :
    ∀ a H locs ls, I a H locs ls → W p l e R s m args below meth c H locs cells slots Q (F0 m pc ls []) := by
  have key : ∀ n a, μ a < n → ∀ H locs ls, I a H locs ls → W p l e R s m args below meth c H locs cells slots Q (F0 m pc ls []) := by
    intro n
    induction n with
    | zero => intro a h; exact absurd h (Nat.not_lt_zero _)
    | succ n ih => intro a h; exact body a (fun b hb => ih b (by omega))
  exact fun a => key (μ a + 1) a (Nat.lt_succ_self _)
theorem xr_dec {k : Nat} (h : 1 ≤ k) : nI k + (-1) = nI (k - 1) := by
  have h1 : nI k - 1 = nI (k - 1) := pk_sub (a := k) (b := 1) (by omega)
  rw [← h1, Int32.sub_eq_add_neg]
theorem xr_nat {x : Int32} {n : Nat} (h : 0 ≤ x ∧ x < nI n) (hn : n ≤ 2147483647) : ∃ j, j < n ∧ x = nI j := by
  have a1 := Int32.le_iff_toInt_le.mp h.1
  have a2 := Int32.lt_iff_toInt_lt.mp h.2
  rw [nI_toInt (by omega)] at a2
  have a3 : (0 : Int32).toInt = 0 := by decide
  refine ⟨x.toInt.toNat, by omega, ?_⟩
  apply Int32.toInt_inj.mp
  rw [nI_toInt (by omega)]
  omega
theorem xr_maxn {a b : Nat} (ha : a ≤ 2147483647) (hb : b ≤ 2147483647) : (if nI a < nI b then nI b else nI a) = nI (max a b) := by
  split
  · rename_i h
    have h := (nI_ltI (a := a) (b := b) (by omega) (by omega)).mp h
    rw [Nat.max_eq_right (by omega)]
  · rename_i h
    have h : ¬ a < b := fun q => h ((nI_ltI (a := a) (b := b) (by omega) (by omega)).mpr q)
    rw [Nat.max_eq_left (by omega)]
theorem xr_up {y : Int32} {k : Nat} (h : ¬ y ≤ nI k) (hk : k ≤ 2147483647) : k + 1 ≤ 2147483647 := by
  have h1 := Int32.lt_iff_toInt_lt.mp (Int32.not_le.mp h)
  rw [nI_toInt (by omega)] at h1
  have h2 := Int32.toInt_lt y
  omega
