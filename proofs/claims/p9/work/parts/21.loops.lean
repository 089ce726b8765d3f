theorem xr_loop {p : Program} {l : Launch} {e : Env} {R : Room} {s : State} {m : MethodId} {args : Array Value} {below : List Frame} {meth : Method} {c : Code} {cells slots : Nat} {Q : State → Prop} {pc : Nat} {α : Type} (μ : α → Nat) (I : α → Heap → List Loc → Array Slot → Prop)
    (body : ∀ a, (∀ b, μ b < μ a → ∀ H locs ls, I b H locs ls → W p l e R s m args below meth c H locs cells slots Q (F0 m pc ls [])) → ∀ H locs ls, I a H locs ls → W p l e R s m args below meth c H locs cells slots Q (F0 m pc ls [])) :
    ∀ a H locs ls, I a H locs ls → W p l e R s m args below meth c H locs cells slots Q (F0 m pc ls []) := by
  have key : ∀ n a, μ a < n → ∀ H locs ls, I a H locs ls → W p l e R s m args below meth c H locs cells slots Q (F0 m pc ls []) := by
    intro n
    induction n with
    | zero => intro a h; exact absurd h (Nat.not_lt_zero _)
    | succ n ih => intro a h; exact body a (fun b hb => ih b (by omega))
  exact fun a => key (μ a + 1) a (Nat.lt_succ_self _)
theorem xr_dec {k : Nat} (h : 1 ≤ k) : nI k + (-1) = nI (k - 1) := by
  have h1 : nI k - 1 = nI (k - 1) := pk_sub (a := k) (b := 1) (by omega)
  rw [← h1, Int32.sub_eq_add_neg]
theorem xr_nat {x : Int32} {n : Nat} (h : 0 ≤ x ∧ x < nI n) (hn : n ≤ 2147483647) : ∃ j, j < n ∧ x = nI j := by
  have a1 := Int32.le_iff_toInt_le.mp h.1
  have a2 := Int32.lt_iff_toInt_lt.mp h.2
  rw [nI_toInt (by omega)] at a2
  have a3 : (0 : Int32).toInt = 0 := by decide
  refine ⟨x.toInt.toNat, by omega, ?_⟩
  apply Int32.toInt_inj.mp
  rw [nI_toInt (by omega)]
  omega
theorem xr_maxn {a b : Nat} (ha : a ≤ 2147483647) (hb : b ≤ 2147483647) : (if nI a < nI b then nI b else nI a) = nI (max a b) := by
  split
  · rename_i h
    have h := (nI_ltI (a := a) (b := b) (by omega) (by omega)).mp h
    rw [Nat.max_eq_right (by omega)]
  · rename_i h
    have h : ¬ a < b := fun q => h ((nI_ltI (a := a) (b := b) (by omega) (by omega)).mpr q)
    rw [Nat.max_eq_left (by omega)]
theorem xr_up {y : Int32} {k : Nat} (h : ¬ y ≤ nI k) (hk : k ≤ 2147483647) : k + 1 ≤ 2147483647 := by
  have h1 := Int32.lt_iff_toInt_lt.mp (Int32.not_le.mp h)
  rw [nI_toInt (by omega)] at h1
  have h2 := Int32.toInt_lt y
  omega
set_option maxHeartbeats 4000000 in
set_option maxRecDepth 100000 in
theorem s_Open_dropLets (l : Launch) (dC : Nat → ClassId) (dI : Nat → Nat → Nat) (sz : Nat) (a_t : Nat) (a_things : Nat) (f_things : Nat → Int32) (n_size : Nat) (z_most : Int32) (ka_things : ClassId) (b_size : n_size ≤ 181) : Met l y_Open_dropLets w_Open_dropLets ({ frames := 1, cells := 0, slots := 0, locals := 21 }) (va_Pc [.ref a_t] (fun U => U.heap.size = sz ∧ va_P (dC, dI) vcl [(a_t, .inr (6, [.ref a_things, .int (nI n_size), .int z_most])), (a_things, .inl (ka_things, 181, .inl f_things))] U.heap ∧ va_K (dC, dI) vcl [(ka_things, .int)] U ∧ va_D (fun _ => True) [(a_t, .inr (6, [.ref a_things, .int (nI n_size), .int z_most])), (a_things, .inl (ka_things, 181, .inl f_things))])) (va_Qv (fun (_ : Unit) => True) (fun _ t => ∃ (w_n_size : Nat), (w_n_size ≤ 181) ∧ va_P (dC, dI) vcl [(a_t, .inr (6, [.ref a_things, .int (nI w_n_size), .int z_most])), (a_things, .inl (ka_things, 181, .inl f_things))] t.heap ∧ va_K (dC, dI) vcl [(ka_things, .int)] t ∧ va_D (va_A [(a_t, .inr (6, [.ref a_things, .int (nI n_size), .int z_most])), (a_things, .inl (ka_things, 181, .inl f_things))] sz) [(a_t, .inr (6, [.ref a_things, .int (nI w_n_size), .int z_most])), (a_things, .inl (ka_things, 181, .inl f_things))]) (va_A [(a_t, .inr (6, [.ref a_things, .int (nI n_size), .int z_most])), (a_things, .inl (ka_things, 181, .inl f_things))] sz)) 0 0 (va_A [(a_t, .inr (6, [.ref a_things, .int (nI n_size), .int z_most])), (a_things, .inl (ka_things, 181, .inl f_things))] sz) := by
  refine Met.ofW (cc := b_Open_dropLets) (maxL := 1) (ret := none) (by decide) rfl ?_
  intro p e s m args below meth c s₁ B hml hv
  obtain ⟨rfl, hsz, hP, hK, hD0⟩ := hv
  have hx := B.exec
  have hb := B.bytes
  have hr := B.returns
  have hts := atoms_spec (ws := w_Open_dropLets) B.pre
  have hz : ∀ w ∈ wz, w.before _ s = true := fun w h => hts w (List.mem_cons_of_mem _ h)
  have hown : s.vm.findClass R_Open = some m.cls := findClass_of_methodNamed B.named
  have hlocks := B.notSynchronized
  subst hsz
  have hD := hD0.self (sz := s.heap.size)
  generalize hAe : va_A [(a_t, .inr (6, [.ref a_things, .int (nI n_size), .int z_most])), (a_things, .inl (ka_things, 181, .inl f_things))] s.heap.size = A at hD ⊢
  have hA : ∀ q : Nat, s.heap.size ≤ q → A q := fun q h => by rw [← hAe]; exact Or.inr h
  have hS : va_S A s.heap s.heap [] := va_S.rf
  have hP : va_P (dC, dI) vcl [(a_t, .inr (6, [.ref a_things, .int (nI n_size), .int z_most])), (a_things, .inl (ka_things, 181, .inl f_things))] s.heap := hP
  have hl := lv_entry ([.ref a_t]) (n := 1) (Nat.le_of_ble_eq_true rfl)
  rw [lg_entry_eq]
  generalize (lg_sl ([.ref a_t]) ++ List.replicate (1 - (lg_sl ([.ref a_t])).length) Slot.unset).toArray = ls at hl ⊢
  have hl : lv_has ls 1 [(0, .ref a_t)] := hl
  refine xr_loop (α := (Nat)) (fun a => (fun (v_a_t_1 : Nat) => v_a_t_1) a) (fun a H locs ls => (fun (v_a_t_1 : Nat) => (v_a_t_1 ≤ 181) ∧ lv_has ls 1 [(0, .ref a_t)] ∧ va_P (dC, dI) vcl [(a_t, .inr (6, [.ref a_things, .int (nI v_a_t_1), .int z_most])), (a_things, .inl (ka_things, 181, .inl f_things))] H ∧ va_D A [(a_t, .inr (6, [.ref a_things, .int (nI v_a_t_1), .int z_most])), (a_things, .inl (ka_things, 181, .inl f_things))] ∧ va_S A s.heap H locs) a) (fun a ih0 H locs ls hI => ?_) (n_size) _ _ _ ⟨by show n_size ≤ 181; first | omega | assumption | exact Or.inl rfl | exact Or.inr rfl, hl, hP, hD, hS⟩
  generalize a = v_a_t_1 at ih0 hI
  obtain ⟨bl0, hl, hP, hD, hS⟩ := hI
  have bl0 : v_a_t_1 ≤ 181 := bl0
  have hl : lv_has ls 1 [(0, .ref a_t)] := hl
  have hP : va_P (dC, dI) vcl [(a_t, .inr (6, [.ref a_things, .int (nI v_a_t_1), .int z_most])), (a_things, .inl (ka_things, 181, .inl f_things))] H := hP
  have hD : va_D A [(a_t, .inr (6, [.ref a_things, .int (nI v_a_t_1), .int z_most])), (a_things, .inl (ka_things, 181, .inl f_things))] := hD
  refine lv_aload_n hx hb d_Open_dropLets_0 rfl (lv_at hl 0 rfl) ?_
  refine va_get (D := (dC, dI)) (ci := 6) (v := .int (nI v_a_t_1)) (C := R_Open) (T := F_Open) (N := 3) hx hb hz zu_Open hown hK hP 0 rfl rfl 1 (by decide) (hz (.fieldLink R_Open 15 "LayoutFront$Open" "size" "I") zm_171) (fun _ h9 => h9) rfl d_Open_dropLets_1 ?_
  refine lv_if_le (tgt := 34) hx hb d_Open_dropLets_4 (by decide) (fun h4 => ?_) (fun h4 => ?_)
  · have h4 : v_a_t_1 ≤ 0 := (nI_leI (a := v_a_t_1) (b := 0) (by omega) (by omega)).mp h4
    have hP9 := hP.sub (ws' := [(a_t, .inr (6, [.ref a_things, .int (nI v_a_t_1), .int z_most])), (a_things, .inl (ka_things, 181, .inl f_things))]) [0, 1] rfl
    have hD9 := hD.sub (ws' := [(a_t, .inr (6, [.ref a_things, .int (nI v_a_t_1), .int z_most])), (a_things, .inl (ka_things, 181, .inl f_things))]) [0, 1] (by decide) rfl
    exact W.vret hx hb hr (fun t ht hW => ⟨⟨(), rfl, trivial, v_a_t_1, by first | omega | assumption | exact Or.inl rfl | exact Or.inr rfl, by rw [ht]; exact hP9, va_K.moved hW.alike hK, hD9⟩, hS.F ht⟩) hS.2.2 d_Open_dropLets_34
  · have h4 : ¬ v_a_t_1 ≤ 0 := fun q => h4 ((nI_leI (a := v_a_t_1) (b := 0) (by omega) (by omega)).mpr q)
    refine lv_aload_n hx hb d_Open_dropLets_7 rfl (lv_at hl 0 rfl) ?_
    refine lv_aload_n hx hb d_Open_dropLets_8 rfl (lv_at hl 0 rfl) ?_
    refine va_get (D := (dC, dI)) (ci := 6) (v := .int (nI v_a_t_1)) (C := R_Open) (T := F_Open) (N := 3) hx hb hz zu_Open hown hK hP 0 rfl rfl 1 (by decide) (hz (.fieldLink R_Open 15 "LayoutFront$Open" "size" "I") zm_171) (fun _ h9 => h9) rfl d_Open_dropLets_9 ?_
    refine lv_iconst (v := 1) hx hb d_Open_dropLets_12 (by decide) ?_
    refine xr_isub (v := (nI (v_a_t_1 - 1))) hx hb d_Open_dropLets_13 (pk_sub (a := v_a_t_1) (b := 1) (by omega)) ?_
    have hPc := hP.sub (ws' := [(a_t, .inr (6, [.ref a_things, .int (nI v_a_t_1), .int z_most])), (a_things, .inl (ka_things, 181, .inl f_things))]) [0, 1] rfl
    have hDc := hD.sub (ws' := [(a_t, .inr (6, [.ref a_things, .int (nI v_a_t_1), .int z_most])), (a_things, .inl (ka_things, 181, .inl f_things))]) [0, 1] (by decide) rfl
    have hKc := hK.sub (tys' := [(ka_things, .int)]) [0] rfl
    have hFc := va_free (wc := [(a_t, .inr (6, [.ref a_things, .int (nI v_a_t_1), .int z_most])), (a_things, .inl (ka_things, 181, .inl f_things))]) hD hS hA [0, 1] rfl
    refine va_calli (va_runV (As := [.int (nI (v_a_t_1 - 1))]) (rest := []) ⟨hx, hb, hml, hown, hz⟩ (s_Open_at l dC dI H.size a_t a_things f_things v_a_t_1 z_most ((nI (v_a_t_1 - 1))) ka_things (by first | omega | assumption | exact Or.inl rfl | exact Or.inr rfl)) (cwV 1 hz (zV zm_174 zm_175 zm_176 zm_177 zm_178) rfl rfl rfl (by decide +kernel) ⟨Nat.le_of_ble_eq_true rfl, Nat.le_of_ble_eq_true rfl⟩) ⟨fun a U g mk q => by obtain ⟨q0, q1, qP, qK, qD⟩ := q; exact ⟨q0, q1, qP, va_K.moved (u := U) (U := U.calling g mk a) (Vm.Alike.refl U.vm) qK, qD⟩, va_recv (q := (R_Open, F_Open, 3)) (q0 := 0) (ci := 6) hK hP rfl rfl, fun U hU hW => ⟨rfl, by rw [hU], by rw [hU]; exact hPc, va_K.moved hW.alike hKc, hDc.weaken (fun _ _ _ _ => trivial)⟩⟩ rfl rfl hl.1 rfl (lv_room (Nat.le_of_ble_eq_true rfl)) d_Open_dropLets_14 ⟨Nat.zero_le _, Nat.zero_le _⟩) hS (fun q _ h => hFc q h) hFc (fun x5 u t H1 locs ht hvm hw hB hz1 hk1 hS => ?_)
    obtain ⟨hP1, hK1, hD1⟩ := hB
    rw [ht] at hP1
    obtain ⟨hP, hD⟩ := va_join (wr := []) (w1 := [(a_t, .inr (6, [.ref a_things, .int (nI v_a_t_1), .int z_most])), (a_things, .inl (ka_things, 181, .inl f_things))]) hP hD [0, 1] [] rfl rfl (by decide) (by decide) hk1 hFc hP1 hD1
    generalize H1 = H at hP hS ⊢
    have hP : va_P (dC, dI) vcl [(a_t, .inr (6, [.ref a_things, .int (nI v_a_t_1), .int z_most])), (a_things, .inl (ka_things, 181, .inl f_things))] H := hP
    have hD : va_D A [(a_t, .inr (6, [.ref a_things, .int (nI v_a_t_1), .int z_most])), (a_things, .inl (ka_things, 181, .inl f_things))] := hD
    refine lv_iconst (v := (-1)) hx hb d_Open_dropLets_17 (by decide) ?_
    refine lv_icmp_ne (tgt := 34) hx hb d_Open_dropLets_18 (by decide) (fun h6 => ?_) (fun h6 => ?_)
    · have hP9 := hP.sub (ws' := [(a_t, .inr (6, [.ref a_things, .int (nI v_a_t_1), .int z_most])), (a_things, .inl (ka_things, 181, .inl f_things))]) [0, 1] rfl
      have hD9 := hD.sub (ws' := [(a_t, .inr (6, [.ref a_things, .int (nI v_a_t_1), .int z_most])), (a_things, .inl (ka_things, 181, .inl f_things))]) [0, 1] (by decide) rfl
      exact W.vret hx hb hr (fun t ht hW => ⟨⟨(), rfl, trivial, v_a_t_1, by first | omega | assumption | exact Or.inl rfl | exact Or.inr rfl, by rw [ht]; exact hP9, va_K.moved hW.alike hK, hD9⟩, hS.F ht⟩) hS.2.2 d_Open_dropLets_34
    · refine lv_aload_n hx hb d_Open_dropLets_21 rfl (lv_at hl 0 rfl) ?_
      refine lv_dup hx hb d_Open_dropLets_22 rfl ?_
      refine va_get (D := (dC, dI)) (ci := 6) (v := .int (nI v_a_t_1)) (C := R_Open) (T := F_Open) (N := 3) hx hb hz zu_Open hown hK hP 0 rfl rfl 1 (by decide) (hz (.fieldLink R_Open 15 "LayoutFront$Open" "size" "I") zm_171) (fun _ h9 => h9) rfl d_Open_dropLets_23 ?_
      refine lv_iconst (v := 1) hx hb d_Open_dropLets_26 (by decide) ?_
      refine xr_isub (v := (nI (v_a_t_1 - 1))) hx hb d_Open_dropLets_27 (pk_sub (a := v_a_t_1) (b := 1) (by omega)) ?_
      refine va_put (D := (dC, dI)) (ci := 6) (v := .int (nI (v_a_t_1 - 1))) (ty := .int) (C := R_Open) (T := F_Open) (N := 3) hx hb hz zu_Open t_Open t_Open_ok n_Open hown hK hP hD hS 0 rfl rfl 1 (by decide) (hz (.fieldLink R_Open 15 "LayoutFront$Open" "size" "I") zm_171) (fun _ h9 => h9) rfl (by decide +kernel) rfl rfl (Nat.le_of_ble_eq_true rfl) d_Open_dropLets_28 (fun H locs hP hD hS => ?_)
      have hP : va_P (dC, dI) vcl [(a_t, .inr (6, [.ref a_things, .int (nI (v_a_t_1 - 1)), .int z_most])), (a_things, .inl (ka_things, 181, .inl f_things))] H := hP
      have hD : va_D A [(a_t, .inr (6, [.ref a_things, .int (nI (v_a_t_1 - 1)), .int z_most])), (a_things, .inl (ka_things, 181, .inl f_things))] := hD
      refine lv_goto (tgt := 0) hx hb d_Open_dropLets_31 (by decide) ?_
      have hP9 := hP.sub (ws' := [(a_t, .inr (6, [.ref a_things, .int (nI (v_a_t_1 - 1)), .int z_most])), (a_things, .inl (ka_things, 181, .inl f_things))]) [0, 1] rfl
      have hD9 := hD.sub (ws' := [(a_t, .inr (6, [.ref a_things, .int (nI (v_a_t_1 - 1)), .int z_most])), (a_things, .inl (ka_things, 181, .inl f_things))]) [0, 1] (by decide) rfl
      exact ih0 ((v_a_t_1 - 1)) (by show ((v_a_t_1 - 1)) < v_a_t_1; omega) _ _ _ ⟨by show ((v_a_t_1 - 1)) ≤ 181; first | omega | assumption | exact Or.inl rfl | exact Or.inr rfl, hl, hP9, hD9, hS⟩
set_option maxHeartbeats 4000000 in
set_option maxRecDepth 100000 in
theorem s_Fixities_find (l : Launch) (dC : Nat → ClassId) (dI : Nat → Nat → Nat) (sz : Nat) (a_t : Nat) (a_names : Nat) (f_names : Nat → Int64) (a_sides : Nat) (a_levels : Nat) (n_size : Nat) (y0 : Int64) (ka_names : ClassId) (b_size : n_size ≤ 12) : Met l y_Fixities_find w_Fixities_find ({ frames := 0, cells := 0, slots := 0, locals := 0 }) (va_Pc [.ref a_t, .long y0] (fun U => U.heap.size = sz ∧ va_P (dC, dI) vcl [(a_t, .inr (4, [.ref a_names, .ref a_sides, .ref a_levels, .int (nI n_size)])), (a_names, .inl (ka_names, 12, .inr (.inl f_names)))] U.heap ∧ va_K (dC, dI) vcl [(ka_names, .long)] U ∧ va_D (fun _ => True) [(a_t, .inr (4, [.ref a_names, .ref a_sides, .ref a_levels, .int (nI n_size)])), (a_names, .inl (ka_names, 12, .inr (.inl f_names)))])) (va_Qi (fun (r : Int32) (_ : Unit) => r = (-1) ∨ (0 ≤ r ∧ r < (nI n_size))) (fun _ t => va_P (dC, dI) vcl [(a_t, .inr (4, [.ref a_names, .ref a_sides, .ref a_levels, .int (nI n_size)])), (a_names, .inl (ka_names, 12, .inr (.inl f_names)))] t.heap ∧ va_K (dC, dI) vcl [(ka_names, .long)] t ∧ va_D (va_A [(a_t, .inr (4, [.ref a_names, .ref a_sides, .ref a_levels, .int (nI n_size)])), (a_names, .inl (ka_names, 12, .inr (.inl f_names)))] sz) [(a_t, .inr (4, [.ref a_names, .ref a_sides, .ref a_levels, .int (nI n_size)])), (a_names, .inl (ka_names, 12, .inr (.inl f_names)))]) (va_A [(a_t, .inr (4, [.ref a_names, .ref a_sides, .ref a_levels, .int (nI n_size)])), (a_names, .inl (ka_names, 12, .inr (.inl f_names)))] sz)) 0 0 (va_A [(a_t, .inr (4, [.ref a_names, .ref a_sides, .ref a_levels, .int (nI n_size)])), (a_names, .inl (ka_names, 12, .inr (.inl f_names)))] sz) := by
  refine Met.ofW (cc := b_Fixities_find) (maxL := 4) (ret := (some .int)) (by decide) rfl ?_
  intro p e s m args below meth c s₁ B hml hv
  obtain ⟨rfl, hsz, hP, hK, hD0⟩ := hv
  have hx := B.exec
  have hb := B.bytes
  have hr := B.returns
  have hts := atoms_spec (ws := w_Fixities_find) B.pre
  have hz : ∀ w ∈ wz, w.before _ s = true := fun w h => hts w (List.mem_cons_of_mem _ h)
  have hown : s.vm.findClass R_Fixities = some m.cls := findClass_of_methodNamed B.named
  have hlocks := B.notSynchronized
  subst hsz
  have hD := hD0.self (sz := s.heap.size)
  generalize hAe : va_A [(a_t, .inr (4, [.ref a_names, .ref a_sides, .ref a_levels, .int (nI n_size)])), (a_names, .inl (ka_names, 12, .inr (.inl f_names)))] s.heap.size = A at hD ⊢
  have hA : ∀ q : Nat, s.heap.size ≤ q → A q := fun q h => by rw [← hAe]; exact Or.inr h
  have hS : va_S A s.heap s.heap [] := va_S.rf
  have hP : va_P (dC, dI) vcl [(a_t, .inr (4, [.ref a_names, .ref a_sides, .ref a_levels, .int (nI n_size)])), (a_names, .inl (ka_names, 12, .inr (.inl f_names)))] s.heap := hP
  have hl := lv_entry ([.ref a_t, .long y0]) (n := 4) (Nat.le_of_ble_eq_true rfl)
  rw [lg_entry_eq]
  generalize (lg_sl ([.ref a_t, .long y0]) ++ List.replicate (4 - (lg_sl ([.ref a_t, .long y0])).length) Slot.unset).toArray = ls at hl ⊢
  have hl : lv_has ls 4 [(0, .ref a_t), (1, .long y0)] := hl
  refine lv_iconst (v := 0) hx hb d_Fixities_find_0 (by decide) ?_
  refine lv_istore_n hx hb d_Fixities_find_1 rfl hl (by decide) rfl (fun ls hl => ?_)
  have hl : lv_has ls 4 [(3, .int 0), (0, .ref a_t), (1, .long y0)] := hl
  refine xr_loop (α := (Nat)) (fun a => (fun (k3 : Nat) => 12 - k3) a) (fun a H locs ls => (fun (k3 : Nat) => (k3 ≤ 12) ∧ lv_has ls 4 [(3, .int (nI k3)), (0, .ref a_t), (1, .long y0)] ∧ va_P (dC, dI) vcl [(a_t, .inr (4, [.ref a_names, .ref a_sides, .ref a_levels, .int (nI n_size)])), (a_names, .inl (ka_names, 12, .inr (.inl f_names)))] H ∧ va_D A [(a_t, .inr (4, [.ref a_names, .ref a_sides, .ref a_levels, .int (nI n_size)])), (a_names, .inl (ka_names, 12, .inr (.inl f_names)))] ∧ va_S A s.heap H locs) a) (fun a ih2 H locs ls hI => ?_) (0) _ _ _ ⟨by show 0 ≤ 12; first | omega | assumption | exact Or.inl rfl | exact Or.inr rfl, hl, hP, hD, hS⟩
  generalize a = k3 at ih2 hI
  obtain ⟨bl0, hl, hP, hD, hS⟩ := hI
  have bl0 : k3 ≤ 12 := bl0
  have hl : lv_has ls 4 [(3, .int (nI k3)), (0, .ref a_t), (1, .long y0)] := hl
  have hP : va_P (dC, dI) vcl [(a_t, .inr (4, [.ref a_names, .ref a_sides, .ref a_levels, .int (nI n_size)])), (a_names, .inl (ka_names, 12, .inr (.inl f_names)))] H := hP
  have hD : va_D A [(a_t, .inr (4, [.ref a_names, .ref a_sides, .ref a_levels, .int (nI n_size)])), (a_names, .inl (ka_names, 12, .inr (.inl f_names)))] := hD
  refine lv_iload_n hx hb d_Fixities_find_2 rfl (lv_at hl 0 rfl) ?_
  refine lv_aload_n hx hb d_Fixities_find_3 rfl (lv_at hl 1 rfl) ?_
  refine va_get (D := (dC, dI)) (ci := 4) (v := .int (nI n_size)) (C := R_Fixities) (T := F_Fixities) (N := 4) hx hb hz zu_Fixities hown hK hP 0 rfl rfl 3 (by decide) (hz (.fieldLink R_Fixities 22 "LayoutFront$Fixities" "size" "I") zm_21) (fun _ h9 => h9) rfl d_Fixities_find_4 ?_
  refine lv_icmp_ge (tgt := 29) hx hb d_Fixities_find_7 (by decide) (fun h4 => ?_) (fun h4 => ?_)
  · have h4 : n_size ≤ k3 := (nI_leI (a := n_size) (b := k3) (by omega) (by omega)).mp h4
    refine lv_iconst (v := (-1)) hx hb d_Fixities_find_29 (by decide) ?_
    have hP9 := hP.sub (ws' := [(a_t, .inr (4, [.ref a_names, .ref a_sides, .ref a_levels, .int (nI n_size)])), (a_names, .inl (ka_names, 12, .inr (.inl f_names)))]) [0, 1] rfl
    have hD9 := hD.sub (ws' := [(a_t, .inr (4, [.ref a_names, .ref a_sides, .ref a_levels, .int (nI n_size)])), (a_names, .inl (ka_names, 12, .inr (.inl f_names)))]) [0, 1] (by decide) rfl
    exact W.iret (v := (-1)) hx hb hr (fun t ht hW => ⟨⟨(-1), (), rfl, Or.inl rfl, by rw [ht]; exact hP9, va_K.moved hW.alike hK, hD9⟩, hS.F ht⟩) hS.2.2 d_Fixities_find_30
  · have h4 : ¬ n_size ≤ k3 := fun q => h4 ((nI_leI (a := n_size) (b := k3) (by omega) (by omega)).mpr q)
    refine lv_aload_n hx hb d_Fixities_find_10 rfl (lv_at hl 1 rfl) ?_
    refine va_get (D := (dC, dI)) (ci := 4) (v := .ref a_names) (C := R_Fixities) (T := F_Fixities) (N := 4) hx hb hz zu_Fixities hown hK hP 0 rfl rfl 0 (by decide) (hz (.fieldLink R_Fixities 9 "LayoutFront$Fixities" "names" "[J") zm_16) (fun _ h9 => h9) rfl d_Fixities_find_11 ?_
    refine lv_iload_n hx hb d_Fixities_find_14 rfl (lv_at hl 0 rfl) ?_
    refine va_lald hx hb hK hP 1 0 rfl rfl (vp_in_nI (by omega) (by omega)) d_Fixities_find_15 ?_
    refine lv_topl (fun x5 e_x5 => ?_)
    refine lv_lload_n hx hb d_Fixities_find_16 rfl (lv_at hl 2 rfl) ?_
    refine W.lcmp hx hb d_Fixities_find_17 ?_
    refine lv_if_ne (tgt := 23) hx hb d_Fixities_find_18 (by decide) (fun h6 => ?_) (fun h6 => ?_)
    · refine lv_iinc (k := 0) (v := (nI (k3 + 1))) hx hb d_Fixities_find_23 hl rfl (nI_1 k3) (by decide) rfl (fun ls hl => ?_)
      have hl : lv_has ls 4 [(3, .int (nI (k3 + 1))), (0, .ref a_t), (1, .long y0)] := hl
      refine lv_goto (tgt := 2) hx hb d_Fixities_find_26 (by decide) ?_
      have hP9 := hP.sub (ws' := [(a_t, .inr (4, [.ref a_names, .ref a_sides, .ref a_levels, .int (nI n_size)])), (a_names, .inl (ka_names, 12, .inr (.inl f_names)))]) [0, 1] rfl
      have hD9 := hD.sub (ws' := [(a_t, .inr (4, [.ref a_names, .ref a_sides, .ref a_levels, .int (nI n_size)])), (a_names, .inl (ka_names, 12, .inr (.inl f_names)))]) [0, 1] (by decide) rfl
      exact ih2 ((k3 + 1)) (by show 12 - ((k3 + 1)) < 12 - k3; omega) _ _ _ ⟨by show ((k3 + 1)) ≤ 12; first | omega | assumption | exact Or.inl rfl | exact Or.inr rfl, hl, hP9, hD9, hS⟩
    · refine lv_iload_n hx hb d_Fixities_find_21 rfl (lv_at hl 0 rfl) ?_
      have hP9 := hP.sub (ws' := [(a_t, .inr (4, [.ref a_names, .ref a_sides, .ref a_levels, .int (nI n_size)])), (a_names, .inl (ka_names, 12, .inr (.inl f_names)))]) [0, 1] rfl
      have hD9 := hD.sub (ws' := [(a_t, .inr (4, [.ref a_names, .ref a_sides, .ref a_levels, .int (nI n_size)])), (a_names, .inl (ka_names, 12, .inr (.inl f_names)))]) [0, 1] (by decide) rfl
      exact W.iret (v := (nI k3)) hx hb hr (fun t ht hW => ⟨⟨(nI k3), (), rfl, Or.inr ⟨(nI_leI (a := 0) (b := k3) (by omega) (by omega)).mpr (by omega), (nI_ltI (a := k3) (b := n_size) (by omega) (by omega)).mpr (by omega)⟩, by rw [ht]; exact hP9, va_K.moved hW.alike hK, hD9⟩, hS.F ht⟩) hS.2.2 d_Fixities_find_22
set_option maxHeartbeats 4000000 in
set_option maxRecDepth 100000 in
theorem s_Tokens_addTimes (l : Launch) (dC : Nat → ClassId) (dI : Nat → Nat → Nat) (sz : Nat) (cap : Nat) (a_t : Nat) (a_kinds : Nat) (f_kinds : Nat → Int32) (a_values : Nat) (f_values : Nat → Int64) (n_size : Nat) (y0 : Int32) (y1 : Int32) (y2 : Int64) (ka_kinds : ClassId) (ka_values : ClassId) (bcap : cap ≤ 600) (b_size : n_size ≤ cap) : Met l y_Tokens_addTimes w_Tokens_addTimes ({ frames := 1, cells := 0, slots := 0, locals := 23 }) (va_Pc [.ref a_t, .int y0, .int y1, .long y2] (fun U => U.heap.size = sz ∧ va_P (dC, dI) vcl [(a_t, .inr (11, [.ref a_kinds, .ref a_values, .int (nI n_size)])), (a_kinds, .inl (ka_kinds, cap, .inl f_kinds)), (a_values, .inl (ka_values, cap, .inr (.inl f_values)))] U.heap ∧ va_K (dC, dI) vcl [(ka_kinds, .int), (ka_values, .long)] U ∧ va_D (fun _ => True) [(a_t, .inr (11, [.ref a_kinds, .ref a_values, .int (nI n_size)])), (a_kinds, .inl (ka_kinds, cap, .inl f_kinds)), (a_values, .inl (ka_values, cap, .inr (.inl f_values)))])) (va_Qv (fun (_ : Unit) => True) (fun _ t => ∃ (w_n_size : Nat) (w_f_kinds : Nat → Int32) (w_f_values : Nat → Int64), (w_n_size ≤ cap) ∧ va_P (dC, dI) vcl [(a_t, .inr (11, [.ref a_kinds, .ref a_values, .int (nI w_n_size)])), (a_kinds, .inl (ka_kinds, cap, .inl w_f_kinds)), (a_values, .inl (ka_values, cap, .inr (.inl w_f_values)))] t.heap ∧ va_K (dC, dI) vcl [(ka_kinds, .int), (ka_values, .long)] t ∧ va_D (va_A [(a_t, .inr (11, [.ref a_kinds, .ref a_values, .int (nI n_size)])), (a_kinds, .inl (ka_kinds, cap, .inl f_kinds)), (a_values, .inl (ka_values, cap, .inr (.inl f_values)))] sz) [(a_t, .inr (11, [.ref a_kinds, .ref a_values, .int (nI w_n_size)])), (a_kinds, .inl (ka_kinds, cap, .inl w_f_kinds)), (a_values, .inl (ka_values, cap, .inr (.inl w_f_values)))]) (va_A [(a_t, .inr (11, [.ref a_kinds, .ref a_values, .int (nI n_size)])), (a_kinds, .inl (ka_kinds, cap, .inl f_kinds)), (a_values, .inl (ka_values, cap, .inr (.inl f_values)))] sz)) 0 0 (va_A [(a_t, .inr (11, [.ref a_kinds, .ref a_values, .int (nI n_size)])), (a_kinds, .inl (ka_kinds, cap, .inl f_kinds)), (a_values, .inl (ka_values, cap, .inr (.inl f_values)))] sz) := by
  refine Met.ofW (cc := b_Tokens_addTimes) (maxL := 6) (ret := none) (by decide) rfl ?_
  intro p e s m args below meth c s₁ B hml hv
  obtain ⟨rfl, hsz, hP, hK, hD0⟩ := hv
  have hx := B.exec
  have hb := B.bytes
  have hr := B.returns
  have hts := atoms_spec (ws := w_Tokens_addTimes) B.pre
  have hz : ∀ w ∈ wz, w.before _ s = true := fun w h => hts w (List.mem_cons_of_mem _ h)
  have hown : s.vm.findClass R_Tokens = some m.cls := findClass_of_methodNamed B.named
  have hlocks := B.notSynchronized
  subst hsz
  have hD := hD0.self (sz := s.heap.size)
  generalize hAe : va_A [(a_t, .inr (11, [.ref a_kinds, .ref a_values, .int (nI n_size)])), (a_kinds, .inl (ka_kinds, cap, .inl f_kinds)), (a_values, .inl (ka_values, cap, .inr (.inl f_values)))] s.heap.size = A at hD ⊢
  have hA : ∀ q : Nat, s.heap.size ≤ q → A q := fun q h => by rw [← hAe]; exact Or.inr h
  have hS : va_S A s.heap s.heap [] := va_S.rf
  have hP : va_P (dC, dI) vcl [(a_t, .inr (11, [.ref a_kinds, .ref a_values, .int (nI n_size)])), (a_kinds, .inl (ka_kinds, cap, .inl f_kinds)), (a_values, .inl (ka_values, cap, .inr (.inl f_values)))] s.heap := hP
  have hl := lv_entry ([.ref a_t, .int y0, .int y1, .long y2]) (n := 6) (Nat.le_of_ble_eq_true rfl)
  rw [lg_entry_eq]
  generalize (lg_sl ([.ref a_t, .int y0, .int y1, .long y2]) ++ List.replicate (6 - (lg_sl ([.ref a_t, .int y0, .int y1, .long y2])).length) Slot.unset).toArray = ls at hl ⊢
  have hl : lv_has ls 6 [(0, .ref a_t), (1, .int y0), (2, .int y1), (3, .long y2)] := hl
  refine lv_iconst (v := 0) hx hb d_Tokens_addTimes_0 (by decide) ?_
  refine lv_istore hx hb d_Tokens_addTimes_1 hl (by decide) rfl (fun ls hl => ?_)
  have hl : lv_has ls 6 [(5, .int 0), (0, .ref a_t), (1, .int y0), (2, .int y1), (3, .long y2)] := hl
  refine xr_loop (α := (Nat) × (Nat → Int32) × (Nat) × (Nat → Int64)) (fun a => (fun (k5 : Nat) (v_a_kinds : Nat → Int32) (v_a_t_2 : Nat) (v_a_values : Nat → Int64) => 2147483647 - k5) a.1 a.2.1 a.2.2.1 a.2.2.2) (fun a H locs ls => (fun (k5 : Nat) (v_a_kinds : Nat → Int32) (v_a_t_2 : Nat) (v_a_values : Nat → Int64) => (k5 ≤ 2147483647) ∧ (v_a_t_2 ≤ cap) ∧ lv_has ls 6 [(5, .int (nI k5)), (0, .ref a_t), (1, .int y0), (2, .int y1), (3, .long y2)] ∧ va_P (dC, dI) vcl [(a_t, .inr (11, [.ref a_kinds, .ref a_values, .int (nI v_a_t_2)])), (a_kinds, .inl (ka_kinds, cap, .inl v_a_kinds)), (a_values, .inl (ka_values, cap, .inr (.inl v_a_values)))] H ∧ va_D A [(a_t, .inr (11, [.ref a_kinds, .ref a_values, .int (nI v_a_t_2)])), (a_kinds, .inl (ka_kinds, cap, .inl v_a_kinds)), (a_values, .inl (ka_values, cap, .inr (.inl v_a_values)))] ∧ va_S A s.heap H locs) a.1 a.2.1 a.2.2.1 a.2.2.2) (fun a ih3 H locs ls hI => ?_) (0, f_kinds, n_size, f_values) _ _ _ ⟨by show 0 ≤ 2147483647; first | omega | assumption | exact Or.inl rfl | exact Or.inr rfl, by show n_size ≤ cap; first | omega | assumption | exact Or.inl rfl | exact Or.inr rfl, hl, hP, hD, hS⟩
  obtain ⟨k5, v_a_kinds, v_a_t_2, v_a_values⟩ := a
  obtain ⟨bl0, bl1, hl, hP, hD, hS⟩ := hI
  have bl0 : k5 ≤ 2147483647 := bl0
  have bl1 : v_a_t_2 ≤ cap := bl1
  have hl : lv_has ls 6 [(5, .int (nI k5)), (0, .ref a_t), (1, .int y0), (2, .int y1), (3, .long y2)] := hl
  have hP : va_P (dC, dI) vcl [(a_t, .inr (11, [.ref a_kinds, .ref a_values, .int (nI v_a_t_2)])), (a_kinds, .inl (ka_kinds, cap, .inl v_a_kinds)), (a_values, .inl (ka_values, cap, .inr (.inl v_a_values)))] H := hP
  have hD : va_D A [(a_t, .inr (11, [.ref a_kinds, .ref a_values, .int (nI v_a_t_2)])), (a_kinds, .inl (ka_kinds, cap, .inl v_a_kinds)), (a_values, .inl (ka_values, cap, .inr (.inl v_a_values)))] := hD
  refine lv_iload hx hb d_Tokens_addTimes_3 (lv_at hl 0 rfl) ?_
  refine lv_iload_n hx hb d_Tokens_addTimes_5 rfl (lv_at hl 2 rfl) ?_
  refine lv_icmp_ge (tgt := 21) hx hb d_Tokens_addTimes_6 (by decide) (fun h5 => ?_) (fun h5 => ?_)
  · have hP9 := hP.sub (ws' := [(a_t, .inr (11, [.ref a_kinds, .ref a_values, .int (nI v_a_t_2)])), (a_kinds, .inl (ka_kinds, cap, .inl v_a_kinds)), (a_values, .inl (ka_values, cap, .inr (.inl v_a_values)))]) [0, 1, 2] rfl
    have hD9 := hD.sub (ws' := [(a_t, .inr (11, [.ref a_kinds, .ref a_values, .int (nI v_a_t_2)])), (a_kinds, .inl (ka_kinds, cap, .inl v_a_kinds)), (a_values, .inl (ka_values, cap, .inr (.inl v_a_values)))]) [0, 1, 2] (by decide) rfl
    exact W.vret hx hb hr (fun t ht hW => ⟨⟨(), rfl, trivial, v_a_t_2, v_a_kinds, v_a_values, by first | omega | assumption | exact Or.inl rfl | exact Or.inr rfl, by rw [ht]; exact hP9, va_K.moved hW.alike hK, hD9⟩, hS.F ht⟩) hS.2.2 d_Tokens_addTimes_21
  · have u_h5 : k5 + 1 ≤ 2147483647 := xr_up h5 (by omega)
    refine lv_aload_n hx hb d_Tokens_addTimes_9 rfl (lv_at hl 1 rfl) ?_
    refine lv_iload_n hx hb d_Tokens_addTimes_10 rfl (lv_at hl 3 rfl) ?_
    refine lv_lload_n hx hb d_Tokens_addTimes_11 rfl (lv_at hl 4 rfl) ?_
    have hPc := hP.sub (ws' := [(a_t, .inr (11, [.ref a_kinds, .ref a_values, .int (nI v_a_t_2)])), (a_kinds, .inl (ka_kinds, cap, .inl v_a_kinds)), (a_values, .inl (ka_values, cap, .inr (.inl v_a_values)))]) [0, 1, 2] rfl
    have hDc := hD.sub (ws' := [(a_t, .inr (11, [.ref a_kinds, .ref a_values, .int (nI v_a_t_2)])), (a_kinds, .inl (ka_kinds, cap, .inl v_a_kinds)), (a_values, .inl (ka_values, cap, .inr (.inl v_a_values)))]) [0, 1, 2] (by decide) rfl
    have hKc := hK.sub (tys' := [(ka_kinds, .int), (ka_values, .long)]) [0, 1] rfl
    have hFc := va_free (wc := [(a_t, .inr (11, [.ref a_kinds, .ref a_values, .int (nI v_a_t_2)])), (a_kinds, .inl (ka_kinds, cap, .inl v_a_kinds)), (a_values, .inl (ka_values, cap, .inr (.inl v_a_values)))]) hD hS hA [0, 1, 2] rfl
    refine va_callv (va_runV (As := [.int y1, .long y2]) (rest := []) ⟨hx, hb, hml, hown, hz⟩ (s_Tokens_add l dC dI H.size cap a_t a_kinds v_a_kinds a_values v_a_values v_a_t_2 y1 y2 ka_kinds ka_values (by first | omega | assumption | exact Or.inl rfl | exact Or.inr rfl) (by first | omega | assumption | exact Or.inl rfl | exact Or.inr rfl)) (cwV 2 hz (zV zm_32 zm_33 zm_34 zm_35 zm_36) rfl rfl rfl (by decide +kernel) ⟨Nat.le_of_ble_eq_true rfl, Nat.le_of_ble_eq_true rfl⟩) ⟨fun a U g mk q => by obtain ⟨q0, q1, qP, qK, qD⟩ := q; exact ⟨q0, q1, qP, va_K.moved (u := U) (U := U.calling g mk a) (Vm.Alike.refl U.vm) qK, qD⟩, va_recv (q := (R_Tokens, F_Tokens, 3)) (q0 := 0) (ci := 11) hK hP rfl rfl, fun U hU hW => ⟨rfl, by rw [hU], by rw [hU]; exact hPc, va_K.moved hW.alike hKc, hDc.weaken (fun _ _ _ _ => trivial)⟩⟩ rfl rfl hl.1 rfl (lv_room (Nat.le_of_ble_eq_true rfl)) d_Tokens_addTimes_12 ⟨Nat.zero_le _, Nat.zero_le _⟩) hS (fun q _ h => hFc q h) hFc (fun u t H1 locs ht hvm hw hB hz1 hk1 hS => ?_)
    obtain ⟨g6, g7, g8, hb_g6, hP1, hK1, hD1⟩ := hB
    rw [ht] at hP1
    obtain ⟨hP, hD⟩ := va_join (wr := []) (w1 := [(a_t, .inr (11, [.ref a_kinds, .ref a_values, .int (nI g6)])), (a_kinds, .inl (ka_kinds, cap, .inl g7)), (a_values, .inl (ka_values, cap, .inr (.inl g8)))]) hP hD [0, 1, 2] [] rfl rfl (by decide) (by decide) hk1 hFc hP1 hD1
    generalize H1 = H at hP hS ⊢
    have hP : va_P (dC, dI) vcl [(a_t, .inr (11, [.ref a_kinds, .ref a_values, .int (nI g6)])), (a_kinds, .inl (ka_kinds, cap, .inl g7)), (a_values, .inl (ka_values, cap, .inr (.inl g8)))] H := hP
    have hD : va_D A [(a_t, .inr (11, [.ref a_kinds, .ref a_values, .int (nI g6)])), (a_kinds, .inl (ka_kinds, cap, .inl g7)), (a_values, .inl (ka_values, cap, .inr (.inl g8)))] := hD
    refine lv_iinc (k := 0) (v := (nI (k5 + 1))) hx hb d_Tokens_addTimes_15 hl rfl (nI_1 k5) (by decide) rfl (fun ls hl => ?_)
    have hl : lv_has ls 6 [(5, .int (nI (k5 + 1))), (0, .ref a_t), (1, .int y0), (2, .int y1), (3, .long y2)] := hl
    refine lv_goto (tgt := 3) hx hb d_Tokens_addTimes_18 (by decide) ?_
    have hP9 := hP.sub (ws' := [(a_t, .inr (11, [.ref a_kinds, .ref a_values, .int (nI g6)])), (a_kinds, .inl (ka_kinds, cap, .inl g7)), (a_values, .inl (ka_values, cap, .inr (.inl g8)))]) [0, 1, 2] rfl
    have hD9 := hD.sub (ws' := [(a_t, .inr (11, [.ref a_kinds, .ref a_values, .int (nI g6)])), (a_kinds, .inl (ka_kinds, cap, .inl g7)), (a_values, .inl (ka_values, cap, .inr (.inl g8)))]) [0, 1, 2] (by decide) rfl
    exact ih3 ((k5 + 1), g7, g6, g8) (by show 2147483647 - ((k5 + 1)) < 2147483647 - k5; omega) _ _ _ ⟨by show ((k5 + 1)) ≤ 2147483647; first | omega | assumption | exact Or.inl rfl | exact Or.inr rfl, by show g6 ≤ cap; first | omega | assumption | exact Or.inl rfl | exact Or.inr rfl, hl, hP9, hD9, hS⟩
