set_option maxHeartbeats 4000000 in
set_option maxRecDepth 100000 in
theorem s_Open_clear6 (l : Launch) (dC : Nat → ClassId) (dI : Nat → Nat → Nat) (sz : Nat) (a_t : Nat) (a_things : Nat) (n_size : Nat) (z_most : Int32) (b_size : n_size ≤ 181) : Met l y_Open_clear w_Open_clear ({ frames := 0, cells := 0, slots := 0, locals := 0 }) (va_Pc [.ref a_t] (fun U => U.heap.size = sz ∧ va_P (dC, dI) vcl [(a_t, .inr (6, [.ref a_things, .int (nI n_size), .int z_most]))] U.heap ∧ va_K (dC, dI) vcl [] U ∧ va_D (fun _ => True) [(a_t, .inr (6, [.ref a_things, .int (nI n_size), .int z_most]))])) (va_Qv (fun (_ : Unit) => True) (fun _ t => ∃ (w_n_size : Nat) (w_z_most : Int32), (w_n_size ≤ 181) ∧ (w_n_size = 0) ∧ (w_z_most = 0) ∧ va_P (dC, dI) vcl [(a_t, .inr (6, [.ref a_things, .int (nI w_n_size), .int w_z_most]))] t.heap ∧ va_K (dC, dI) vcl [] t ∧ va_D (va_A [(a_t, .inr (6, [.ref a_things, .int (nI n_size), .int z_most]))] sz) [(a_t, .inr (6, [.ref a_things, .int (nI w_n_size), .int w_z_most]))]) (va_A [(a_t, .inr (6, [.ref a_things, .int (nI n_size), .int z_most]))] sz)) 0 0 (va_A [(a_t, .inr (6, [.ref a_things, .int (nI n_size), .int z_most]))] sz) := by
  refine Met.ofW (cc := b_Open_clear) (maxL := 1) (ret := none) (by decide) rfl ?_
  intro p e s m args below meth c s₁ B hml hv
  obtain ⟨rfl, hsz, hP, hK, hD0⟩ := hv
  have hx := B.exec
  have hb := B.bytes
  have hr := B.returns
  have hts := atoms_spec (ws := w_Open_clear) B.pre
  have hz : ∀ w ∈ wz, w.before _ s = true := fun w h => hts w (List.mem_cons_of_mem _ h)
  have hown : s.vm.findClass R_Open = some m.cls := findClass_of_methodNamed B.named
  have hlocks := B.notSynchronized
  subst hsz
  have hD := hD0.self (sz := s.heap.size)
  generalize hAe : va_A [(a_t, .inr (6, [.ref a_things, .int (nI n_size), .int z_most]))] s.heap.size = A at hD ⊢
  have hA : ∀ q : Nat, s.heap.size ≤ q → A q := fun q h => by rw [← hAe]; exact Or.inr h
  have hS : va_S A s.heap s.heap [] := va_S.rf
  have hP : va_P (dC, dI) vcl [(a_t, .inr (6, [.ref a_things, .int (nI n_size), .int z_most]))] s.heap := hP
  have hl := lv_entry ([.ref a_t]) (n := 1) (Nat.le_of_ble_eq_true rfl)
  rw [lg_entry_eq]
  generalize (lg_sl ([.ref a_t]) ++ List.replicate (1 - (lg_sl ([.ref a_t])).length) Slot.unset).toArray = ls at hl ⊢
  have hl : lv_has ls 1 [(0, .ref a_t)] := hl
  refine lv_aload_n hx hb d_Open_clear_0 rfl (lv_at hl 0 rfl) ?_
  refine lv_iconst (v := 0) hx hb d_Open_clear_1 (by decide) ?_
  refine va_put (D := (dC, dI)) (ci := 6) (v := .int 0) (ty := .int) (C := R_Open) (T := F_Open) (N := 3) hx hb hz zu_Open t_Open t_Open_ok n_Open hown hK hP hD hS 0 rfl rfl 1 (by decide) (hz (.fieldLink R_Open 15 "LayoutFront$Open" "size" "I") zm_171) (fun _ h9 => h9) rfl (by decide +kernel) (by decide +kernel) rfl (Nat.le_of_ble_eq_true rfl) d_Open_clear_2 (fun H locs hP hD hS => ?_)
  have hP : va_P (dC, dI) vcl [(a_t, .inr (6, [.ref a_things, .int 0, .int z_most]))] H := hP
  have hD : va_D A [(a_t, .inr (6, [.ref a_things, .int 0, .int z_most]))] := hD
  refine lv_aload_n hx hb d_Open_clear_5 rfl (lv_at hl 0 rfl) ?_
  refine lv_iconst (v := 0) hx hb d_Open_clear_6 (by decide) ?_
  refine va_put (D := (dC, dI)) (ci := 6) (v := .int 0) (ty := .int) (C := R_Open) (T := F_Open) (N := 3) hx hb hz zu_Open t_Open t_Open_ok n_Open hown hK hP hD hS 0 rfl rfl 2 (by decide) (hz (.fieldLink R_Open 19 "LayoutFront$Open" "most" "I") zm_172) (fun _ h9 => h9) rfl (by decide +kernel) (by decide +kernel) rfl (Nat.le_of_ble_eq_true rfl) d_Open_clear_7 (fun H locs hP hD hS => ?_)
  have hP : va_P (dC, dI) vcl [(a_t, .inr (6, [.ref a_things, .int 0, .int 0]))] H := hP
  have hD : va_D A [(a_t, .inr (6, [.ref a_things, .int 0, .int 0]))] := hD
  have hP9 := hP.sub (ws' := [(a_t, .inr (6, [.ref a_things, .int 0, .int 0]))]) [0] rfl
  have hD9 := hD.sub (ws' := [(a_t, .inr (6, [.ref a_things, .int 0, .int 0]))]) [0] (by decide) rfl
  exact W.vret hx hb hr (fun t ht hW => ⟨⟨(), rfl, trivial, 0, 0, by first | rfl | omega, by first | rfl | omega, by first | rfl | omega, by rw [ht]; exact hP9, va_K.moved hW.alike hK, hD9⟩, hS.F ht⟩) hS.2.2 d_Open_clear_10
set_option maxHeartbeats 4000000 in
set_option maxRecDepth 100000 in
theorem s_Open_at6 (l : Launch) (dC : Nat → ClassId) (dI : Nat → Nat → Nat) (sz : Nat) (a_t : Nat) (a_things : Nat) (f_things : Nat → Int32) (n_size : Nat) (z_most : Int32) (y0 : Int32) (ka_things : ClassId) (b_size : n_size ≤ 181) : Met l y_Open_at w_Open_at ({ frames := 0, cells := 0, slots := 0, locals := 0 }) (va_Pc [.ref a_t, .int y0] (fun U => U.heap.size = sz ∧ va_P (dC, dI) vcl [(a_t, .inr (6, [.ref a_things, .int (nI n_size), .int z_most])), (a_things, .inl (ka_things, 181, .inl f_things))] U.heap ∧ va_K (dC, dI) vcl [(ka_things, .int)] U ∧ va_D (fun _ => True) [(a_t, .inr (6, [.ref a_things, .int (nI n_size), .int z_most])), (a_things, .inl (ka_things, 181, .inl f_things))])) (va_Qi (fun (r : Int32) (_ : Unit) => r = atI f_things n_size y0) (fun _ t => va_P (dC, dI) vcl [(a_t, .inr (6, [.ref a_things, .int (nI n_size), .int z_most])), (a_things, .inl (ka_things, 181, .inl f_things))] t.heap ∧ va_K (dC, dI) vcl [(ka_things, .int)] t ∧ va_D (va_A [(a_t, .inr (6, [.ref a_things, .int (nI n_size), .int z_most])), (a_things, .inl (ka_things, 181, .inl f_things))] sz) [(a_t, .inr (6, [.ref a_things, .int (nI n_size), .int z_most])), (a_things, .inl (ka_things, 181, .inl f_things))]) (va_A [(a_t, .inr (6, [.ref a_things, .int (nI n_size), .int z_most])), (a_things, .inl (ka_things, 181, .inl f_things))] sz)) 0 0 (va_A [(a_t, .inr (6, [.ref a_things, .int (nI n_size), .int z_most])), (a_things, .inl (ka_things, 181, .inl f_things))] sz) := by
  refine Met.ofW (cc := b_Open_at) (maxL := 2) (ret := (some .int)) (by decide) rfl ?_
  intro p e s m args below meth c s₁ B hml hv
  obtain ⟨rfl, hsz, hP, hK, hD0⟩ := hv
  have hx := B.exec
  have hb := B.bytes
  have hr := B.returns
  have hts := atoms_spec (ws := w_Open_at) B.pre
  have hz : ∀ w ∈ wz, w.before _ s = true := fun w h => hts w (List.mem_cons_of_mem _ h)
  have hown : s.vm.findClass R_Open = some m.cls := findClass_of_methodNamed B.named
  have hlocks := B.notSynchronized
  subst hsz
  have hD := hD0.self (sz := s.heap.size)
  generalize hAe : va_A [(a_t, .inr (6, [.ref a_things, .int (nI n_size), .int z_most])), (a_things, .inl (ka_things, 181, .inl f_things))] s.heap.size = A at hD ⊢
  have hA : ∀ q : Nat, s.heap.size ≤ q → A q := fun q h => by rw [← hAe]; exact Or.inr h
  have hS : va_S A s.heap s.heap [] := va_S.rf
  have hP : va_P (dC, dI) vcl [(a_t, .inr (6, [.ref a_things, .int (nI n_size), .int z_most])), (a_things, .inl (ka_things, 181, .inl f_things))] s.heap := hP
  have hl := lv_entry ([.ref a_t, .int y0]) (n := 2) (Nat.le_of_ble_eq_true rfl)
  rw [lg_entry_eq]
  generalize (lg_sl ([.ref a_t, .int y0]) ++ List.replicate (2 - (lg_sl ([.ref a_t, .int y0])).length) Slot.unset).toArray = ls at hl ⊢
  have hl : lv_has ls 2 [(0, .ref a_t), (1, .int y0)] := hl
  refine lv_iload_n hx hb d_Open_at_0 rfl (lv_at hl 1 rfl) ?_
  refine lv_if_lt (tgt := 21) hx hb d_Open_at_1 (by decide) (fun h1 => ?_) (fun h1 => ?_)
  · have e1 := h1
    refine lv_bipush (v := (-7)) hx hb d_Open_at_21 (by decide) ?_
    have hP9 := hP.sub (ws' := [(a_t, .inr (6, [.ref a_things, .int (nI n_size), .int z_most])), (a_things, .inl (ka_things, 181, .inl f_things))]) [0, 1] rfl
    have hD9 := hD.sub (ws' := [(a_t, .inr (6, [.ref a_things, .int (nI n_size), .int z_most])), (a_things, .inl (ka_things, 181, .inl f_things))]) [0, 1] (by decide) rfl
    exact W.iret (v := (-7)) hx hb hr (fun t ht hW => ⟨⟨(-7), (), rfl, (by exact at_1 e1), by rw [ht]; exact hP9, va_K.moved hW.alike hK, hD9⟩, hS.F ht⟩) hS.2.2 d_Open_at_23
  · have e1 := h1
    refine lv_iload_n hx hb d_Open_at_4 rfl (lv_at hl 1 rfl) ?_
    refine lv_aload_n hx hb d_Open_at_5 rfl (lv_at hl 0 rfl) ?_
    refine va_get (D := (dC, dI)) (ci := 6) (v := .int (nI n_size)) (C := R_Open) (T := F_Open) (N := 3) hx hb hz zu_Open hown hK hP 0 rfl rfl 1 (by decide) (hz (.fieldLink R_Open 15 "LayoutFront$Open" "size" "I") zm_171) (fun _ h9 => h9) rfl d_Open_at_6 ?_
    refine lv_icmp_ge (tgt := 21) hx hb d_Open_at_9 (by decide) (fun h2 => ?_) (fun h2 => ?_)
    · have e9 := h2
      refine lv_bipush (v := (-7)) hx hb d_Open_at_21 (by decide) ?_
      have hP9 := hP.sub (ws' := [(a_t, .inr (6, [.ref a_things, .int (nI n_size), .int z_most])), (a_things, .inl (ka_things, 181, .inl f_things))]) [0, 1] rfl
      have hD9 := hD.sub (ws' := [(a_t, .inr (6, [.ref a_things, .int (nI n_size), .int z_most])), (a_things, .inl (ka_things, 181, .inl f_things))]) [0, 1] (by decide) rfl
      exact W.iret (v := (-7)) hx hb hr (fun t ht hW => ⟨⟨(-7), (), rfl, (by exact at_2 e1 e9), by rw [ht]; exact hP9, va_K.moved hW.alike hK, hD9⟩, hS.F ht⟩) hS.2.2 d_Open_at_23
    · have e9 := h2
      refine lv_aload_n hx hb d_Open_at_12 rfl (lv_at hl 0 rfl) ?_
      refine va_get (D := (dC, dI)) (ci := 6) (v := .ref a_things) (C := R_Open) (T := F_Open) (N := 3) hx hb hz zu_Open hown hK hP 0 rfl rfl 0 (by decide) (hz (.fieldLink R_Open 9 "LayoutFront$Open" "things" "[I") zm_169) (fun _ h9 => h9) rfl d_Open_at_13 ?_
      refine lv_iload_n hx hb d_Open_at_16 rfl (lv_at hl 1 rfl) ?_
      refine va_iald hx hb hK hP 1 0 rfl rfl (xr_inr (xr_ge0 h1) (Int32.not_le.mp h2) (by omega) (by omega)) d_Open_at_17 ?_
      refine lv_topi (fun x3 e_x3 => ?_)
      refine lv_goto (tgt := 23) hx hb d_Open_at_18 (by decide) ?_
      have hP9 := hP.sub (ws' := [(a_t, .inr (6, [.ref a_things, .int (nI n_size), .int z_most])), (a_things, .inl (ka_things, 181, .inl f_things))]) [0, 1] rfl
      have hD9 := hD.sub (ws' := [(a_t, .inr (6, [.ref a_things, .int (nI n_size), .int z_most])), (a_things, .inl (ka_things, 181, .inl f_things))]) [0, 1] (by decide) rfl
      exact W.iret (v := x3) hx hb hr (fun t ht hW => ⟨⟨x3, (), rfl, (by exact at_y e1 e9 (by assumption)), by rw [ht]; exact hP9, va_K.moved hW.alike hK, hD9⟩, hS.F ht⟩) hS.2.2 d_Open_at_23
set_option maxHeartbeats 4000000 in
set_option maxRecDepth 100000 in
theorem s_Open_top6 (l : Launch) (dC : Nat → ClassId) (dI : Nat → Nat → Nat) (sz : Nat) (a_t : Nat) (a_things : Nat) (f_things : Nat → Int32) (n_size : Nat) (z_most : Int32) (ka_things : ClassId) (b_size : n_size ≤ 181) : Met l y_Open_top w_Open_top ({ frames := 1, cells := 0, slots := 0, locals := 21 }) (va_Pc [.ref a_t] (fun U => U.heap.size = sz ∧ va_P (dC, dI) vcl [(a_t, .inr (6, [.ref a_things, .int (nI n_size), .int z_most])), (a_things, .inl (ka_things, 181, .inl f_things))] U.heap ∧ va_K (dC, dI) vcl [(ka_things, .int)] U ∧ va_D (fun _ => True) [(a_t, .inr (6, [.ref a_things, .int (nI n_size), .int z_most])), (a_things, .inl (ka_things, 181, .inl f_things))])) (va_Qi (fun (r : Int32) (_ : Unit) => r = tpC f_things n_size) (fun _ t => va_P (dC, dI) vcl [(a_t, .inr (6, [.ref a_things, .int (nI n_size), .int z_most])), (a_things, .inl (ka_things, 181, .inl f_things))] t.heap ∧ va_K (dC, dI) vcl [(ka_things, .int)] t ∧ va_D (va_A [(a_t, .inr (6, [.ref a_things, .int (nI n_size), .int z_most])), (a_things, .inl (ka_things, 181, .inl f_things))] sz) [(a_t, .inr (6, [.ref a_things, .int (nI n_size), .int z_most])), (a_things, .inl (ka_things, 181, .inl f_things))]) (va_A [(a_t, .inr (6, [.ref a_things, .int (nI n_size), .int z_most])), (a_things, .inl (ka_things, 181, .inl f_things))] sz)) 0 0 (va_A [(a_t, .inr (6, [.ref a_things, .int (nI n_size), .int z_most])), (a_things, .inl (ka_things, 181, .inl f_things))] sz) := by
  refine Met.ofW (cc := b_Open_top) (maxL := 1) (ret := (some .int)) (by decide) rfl ?_
  intro p e s m args below meth c s₁ B hml hv
  obtain ⟨rfl, hsz, hP, hK, hD0⟩ := hv
  have hx := B.exec
  have hb := B.bytes
  have hr := B.returns
  have hts := atoms_spec (ws := w_Open_top) B.pre
  have hz : ∀ w ∈ wz, w.before _ s = true := fun w h => hts w (List.mem_cons_of_mem _ h)
  have hown : s.vm.findClass R_Open = some m.cls := findClass_of_methodNamed B.named
  have hlocks := B.notSynchronized
  subst hsz
  have hD := hD0.self (sz := s.heap.size)
  generalize hAe : va_A [(a_t, .inr (6, [.ref a_things, .int (nI n_size), .int z_most])), (a_things, .inl (ka_things, 181, .inl f_things))] s.heap.size = A at hD ⊢
  have hA : ∀ q : Nat, s.heap.size ≤ q → A q := fun q h => by rw [← hAe]; exact Or.inr h
  have hS : va_S A s.heap s.heap [] := va_S.rf
  have hP : va_P (dC, dI) vcl [(a_t, .inr (6, [.ref a_things, .int (nI n_size), .int z_most])), (a_things, .inl (ka_things, 181, .inl f_things))] s.heap := hP
  have hl := lv_entry ([.ref a_t]) (n := 1) (Nat.le_of_ble_eq_true rfl)
  rw [lg_entry_eq]
  generalize (lg_sl ([.ref a_t]) ++ List.replicate (1 - (lg_sl ([.ref a_t])).length) Slot.unset).toArray = ls at hl ⊢
  have hl : lv_has ls 1 [(0, .ref a_t)] := hl
  refine lv_aload_n hx hb d_Open_top_0 rfl (lv_at hl 0 rfl) ?_
  refine lv_aload_n hx hb d_Open_top_1 rfl (lv_at hl 0 rfl) ?_
  refine va_get (D := (dC, dI)) (ci := 6) (v := .int (nI n_size)) (C := R_Open) (T := F_Open) (N := 3) hx hb hz zu_Open hown hK hP 0 rfl rfl 1 (by decide) (hz (.fieldLink R_Open 15 "LayoutFront$Open" "size" "I") zm_171) (fun _ h9 => h9) rfl d_Open_top_2 ?_
  refine lv_iconst (v := 1) hx hb d_Open_top_5 (by decide) ?_
  refine xr_isub (v := (nI n_size - 1)) hx hb d_Open_top_6 rfl ?_
  have hPc := hP.sub (ws' := [(a_t, .inr (6, [.ref a_things, .int (nI n_size), .int z_most])), (a_things, .inl (ka_things, 181, .inl f_things))]) [0, 1] rfl
  have hDc := hD.sub (ws' := [(a_t, .inr (6, [.ref a_things, .int (nI n_size), .int z_most])), (a_things, .inl (ka_things, 181, .inl f_things))]) [0, 1] (by decide) rfl
  have hKc := hK.sub (tys' := [(ka_things, .int)]) [0] rfl
  have hFc := va_free (wc := [(a_t, .inr (6, [.ref a_things, .int (nI n_size), .int z_most])), (a_things, .inl (ka_things, 181, .inl f_things))]) hD hS hA [0, 1] rfl
  refine va_calli (va_runV (As := [.int (nI n_size - 1)]) (rest := []) ⟨hx, hb, hml, hown, hz⟩ (s_Open_at6 l dC dI s.heap.size a_t a_things f_things n_size z_most ((nI n_size - 1)) ka_things (by first | omega | assumption | exact Or.inl rfl | exact Or.inr rfl)) (cwV 1 hz (zV zm_174 zm_175 zm_176 zm_177 zm_178) rfl rfl rfl (by decide +kernel) ⟨Nat.le_of_ble_eq_true rfl, Nat.le_of_ble_eq_true rfl⟩) ⟨fun a U g mk q => by obtain ⟨q0, q1, qP, qK, qD⟩ := q; exact ⟨q0, q1, qP, va_K.moved (u := U) (U := U.calling g mk a) (Vm.Alike.refl U.vm) qK, qD⟩, va_recv (q := (R_Open, F_Open, 3)) (q0 := 0) (ci := 6) hK hP rfl rfl, fun U hU hW => ⟨rfl, by rw [hU], by rw [hU]; exact hPc, va_K.moved hW.alike hKc, hDc.weaken (fun _ _ _ _ => trivial)⟩⟩ rfl rfl hl.1 rfl (lv_room (Nat.le_of_ble_eq_true rfl)) d_Open_top_7 ⟨Nat.zero_le _, Nat.zero_le _⟩) hS (fun q _ h => hFc q h) hFc (fun r u t H1 locs ht hvm hw hB hz1 hk1 hS => ?_)
  obtain ⟨hP1, hK1, hD1⟩ := hB
  subst r
  rw [ht] at hP1
  obtain ⟨hP, hD⟩ := va_join (wr := []) (w1 := [(a_t, .inr (6, [.ref a_things, .int (nI n_size), .int z_most])), (a_things, .inl (ka_things, 181, .inl f_things))]) hP hD [0, 1] [] rfl rfl (by decide) (by decide) hk1 hFc hP1 hD1
  generalize H1 = H at hP hS ⊢
  have hP : va_P (dC, dI) vcl [(a_t, .inr (6, [.ref a_things, .int (nI n_size), .int z_most])), (a_things, .inl (ka_things, 181, .inl f_things))] H := hP
  have hD : va_D A [(a_t, .inr (6, [.ref a_things, .int (nI n_size), .int z_most])), (a_things, .inl (ka_things, 181, .inl f_things))] := hD
  have hP9 := hP.sub (ws' := [(a_t, .inr (6, [.ref a_things, .int (nI n_size), .int z_most])), (a_things, .inl (ka_things, 181, .inl f_things))]) [0, 1] rfl
  have hD9 := hD.sub (ws' := [(a_t, .inr (6, [.ref a_things, .int (nI n_size), .int z_most])), (a_things, .inl (ka_things, 181, .inl f_things))]) [0, 1] (by decide) rfl
  exact W.iret (v := (atI f_things n_size ((nI n_size - 1)))) hx hb hr (fun t ht hW => ⟨⟨(atI f_things n_size ((nI n_size - 1))), (), rfl, (by exact top_e (by omega)), by rw [ht]; exact hP9, va_K.moved hW.alike hK, hD9⟩, hS.F ht⟩) hS.2.2 d_Open_top_10
set_option maxHeartbeats 4000000 in
set_option maxRecDepth 100000 in
theorem s_Open_push6 (l : Launch) (dC : Nat → ClassId) (dI : Nat → Nat → Nat) (sz : Nat) (a_t : Nat) (a_things : Nat) (f_things : Nat → Int32) (n_size : Nat) (z_most : Int32) (y0 : Int32) (ka_things : ClassId) (b_size : n_size ≤ 181) (hp0 : n_size < 181) : Met l y_Open_push w_Open_push ({ frames := 1, cells := 0, slots := 0, locals := 40 }) (va_Pc [.ref a_t, .int y0] (fun U => U.heap.size = sz ∧ va_P (dC, dI) vcl [(a_t, .inr (6, [.ref a_things, .int (nI n_size), .int z_most])), (a_things, .inl (ka_things, 181, .inl f_things))] U.heap ∧ va_K (dC, dI) vcl [(ka_things, .int)] U ∧ va_D (fun _ => True) [(a_t, .inr (6, [.ref a_things, .int (nI n_size), .int z_most])), (a_things, .inl (ka_things, 181, .inl f_things))])) (va_Qv (fun (_ : Unit) => True) (fun _ t => ∃ (w_n_size : Nat) (w_z_most : Int32) (w_f_things : Nat → Int32), (w_n_size ≤ 181) ∧ (w_n_size = n_size + 1) ∧ (w_z_most = hiO z_most n_size) ∧ (w_f_things = upd f_things n_size y0) ∧ va_P (dC, dI) vcl [(a_t, .inr (6, [.ref a_things, .int (nI w_n_size), .int w_z_most])), (a_things, .inl (ka_things, 181, .inl w_f_things))] t.heap ∧ va_K (dC, dI) vcl [(ka_things, .int)] t ∧ va_D (va_A [(a_t, .inr (6, [.ref a_things, .int (nI n_size), .int z_most])), (a_things, .inl (ka_things, 181, .inl f_things))] sz) [(a_t, .inr (6, [.ref a_things, .int (nI w_n_size), .int w_z_most])), (a_things, .inl (ka_things, 181, .inl w_f_things))]) (va_A [(a_t, .inr (6, [.ref a_things, .int (nI n_size), .int z_most])), (a_things, .inl (ka_things, 181, .inl f_things))] sz)) 0 0 (va_A [(a_t, .inr (6, [.ref a_things, .int (nI n_size), .int z_most])), (a_things, .inl (ka_things, 181, .inl f_things))] sz) := by
  refine Met.ofW (cc := b_Open_push) (maxL := 2) (ret := none) (by decide) rfl ?_
  intro p e s m args below meth c s₁ B hml hv
  obtain ⟨rfl, hsz, hP, hK, hD0⟩ := hv
  have hx := B.exec
  have hb := B.bytes
  have hr := B.returns
  have hts := atoms_spec (ws := w_Open_push) B.pre
  have hz : ∀ w ∈ wz, w.before _ s = true := fun w h => hts w (List.mem_cons_of_mem _ h)
  have hown : s.vm.findClass R_Open = some m.cls := findClass_of_methodNamed B.named
  have hlocks := B.notSynchronized
  subst hsz
  have hD := hD0.self (sz := s.heap.size)
  generalize hAe : va_A [(a_t, .inr (6, [.ref a_things, .int (nI n_size), .int z_most])), (a_things, .inl (ka_things, 181, .inl f_things))] s.heap.size = A at hD ⊢
  have hA : ∀ q : Nat, s.heap.size ≤ q → A q := fun q h => by rw [← hAe]; exact Or.inr h
  have hS : va_S A s.heap s.heap [] := va_S.rf
  have hP : va_P (dC, dI) vcl [(a_t, .inr (6, [.ref a_things, .int (nI n_size), .int z_most])), (a_things, .inl (ka_things, 181, .inl f_things))] s.heap := hP
  have hl := lv_entry ([.ref a_t, .int y0]) (n := 2) (Nat.le_of_ble_eq_true rfl)
  rw [lg_entry_eq]
  generalize (lg_sl ([.ref a_t, .int y0]) ++ List.replicate (2 - (lg_sl ([.ref a_t, .int y0])).length) Slot.unset).toArray = ls at hl ⊢
  have hl : lv_has ls 2 [(0, .ref a_t), (1, .int y0)] := hl
  refine lv_aload_n hx hb d_Open_push_0 rfl (lv_at hl 0 rfl) ?_
  refine va_get (D := (dC, dI)) (ci := 6) (v := .int (nI n_size)) (C := R_Open) (T := F_Open) (N := 3) hx hb hz zu_Open hown hK hP 0 rfl rfl 1 (by decide) (hz (.fieldLink R_Open 15 "LayoutFront$Open" "size" "I") zm_171) (fun _ h9 => h9) rfl d_Open_push_1 ?_
  refine lv_sipush (v := 181) hx hb d_Open_push_4 (by decide) ?_
  refine lv_icmp_ge (tgt := 45) hx hb d_Open_push_7 (by decide) (fun h1 => ?_) (fun h1 => ?_)
  · have h1 : 181 ≤ n_size := (nI_leI (a := 181) (b := n_size) (by omega) (by omega)).mp h1
    (exfalso; omega)
  · have h1 : ¬ 181 ≤ n_size := fun q => h1 ((nI_leI (a := 181) (b := n_size) (by omega) (by omega)).mpr q)
    refine lv_aload_n hx hb d_Open_push_10 rfl (lv_at hl 0 rfl) ?_
    refine va_get (D := (dC, dI)) (ci := 6) (v := .ref a_things) (C := R_Open) (T := F_Open) (N := 3) hx hb hz zu_Open hown hK hP 0 rfl rfl 0 (by decide) (hz (.fieldLink R_Open 9 "LayoutFront$Open" "things" "[I") zm_169) (fun _ h9 => h9) rfl d_Open_push_11 ?_
    refine lv_aload_n hx hb d_Open_push_14 rfl (lv_at hl 0 rfl) ?_
    refine va_get (D := (dC, dI)) (ci := 6) (v := .int (nI n_size)) (C := R_Open) (T := F_Open) (N := 3) hx hb hz zu_Open hown hK hP 0 rfl rfl 1 (by decide) (hz (.fieldLink R_Open 15 "LayoutFront$Open" "size" "I") zm_171) (fun _ h9 => h9) rfl d_Open_push_15 ?_
    refine lv_iload_n hx hb d_Open_push_18 rfl (lv_at hl 1 rfl) ?_
    refine va_iast hx hb hK hP hD hS 1 0 rfl rfl (vp_in_nI (by omega) (by omega)) d_Open_push_19 (fun H locs hP hD hS => ?_)
    rw [show ((nI n_size) : Int32).toNatClampNeg = n_size from nI_clamp (by omega)] at hP hD
    have hP : va_P (dC, dI) vcl [(a_t, .inr (6, [.ref a_things, .int (nI n_size), .int z_most])), (a_things, .inl (ka_things, 181, .inl (upd f_things n_size y0)))] H := hP
    have hD : va_D A [(a_t, .inr (6, [.ref a_things, .int (nI n_size), .int z_most])), (a_things, .inl (ka_things, 181, .inl (upd f_things n_size y0)))] := hD
    refine lv_aload_n hx hb d_Open_push_20 rfl (lv_at hl 0 rfl) ?_
    refine lv_dup hx hb d_Open_push_21 rfl ?_
    refine va_get (D := (dC, dI)) (ci := 6) (v := .int (nI n_size)) (C := R_Open) (T := F_Open) (N := 3) hx hb hz zu_Open hown hK hP 0 rfl rfl 1 (by decide) (hz (.fieldLink R_Open 15 "LayoutFront$Open" "size" "I") zm_171) (fun _ h9 => h9) rfl d_Open_push_22 ?_
    refine lv_iconst (v := 1) hx hb d_Open_push_25 (by decide) ?_
    refine xr_iadd (v := (nI (n_size + 1))) hx hb d_Open_push_26 (nI_add n_size 1) ?_
    refine va_put (D := (dC, dI)) (ci := 6) (v := .int (nI (n_size + 1))) (ty := .int) (C := R_Open) (T := F_Open) (N := 3) hx hb hz zu_Open t_Open t_Open_ok n_Open hown hK hP hD hS 0 rfl rfl 1 (by decide) (hz (.fieldLink R_Open 15 "LayoutFront$Open" "size" "I") zm_171) (fun _ h9 => h9) rfl (by decide +kernel) rfl rfl (Nat.le_of_ble_eq_true rfl) d_Open_push_27 (fun H locs hP hD hS => ?_)
    have hP : va_P (dC, dI) vcl [(a_t, .inr (6, [.ref a_things, .int (nI (n_size + 1)), .int z_most])), (a_things, .inl (ka_things, 181, .inl (upd f_things n_size y0)))] H := hP
    have hD : va_D A [(a_t, .inr (6, [.ref a_things, .int (nI (n_size + 1)), .int z_most])), (a_things, .inl (ka_things, 181, .inl (upd f_things n_size y0)))] := hD
    refine lv_aload_n hx hb d_Open_push_30 rfl (lv_at hl 0 rfl) ?_
    refine lv_aload_n hx hb d_Open_push_31 rfl (lv_at hl 0 rfl) ?_
    refine va_get (D := (dC, dI)) (ci := 6) (v := .int z_most) (C := R_Open) (T := F_Open) (N := 3) hx hb hz zu_Open hown hK hP 0 rfl rfl 2 (by decide) (hz (.fieldLink R_Open 19 "LayoutFront$Open" "most" "I") zm_172) (fun _ h9 => h9) rfl d_Open_push_32 ?_
    refine lv_aload_n hx hb d_Open_push_35 rfl (lv_at hl 0 rfl) ?_
    refine va_get (D := (dC, dI)) (ci := 6) (v := .int (nI (n_size + 1))) (C := R_Open) (T := F_Open) (N := 3) hx hb hz zu_Open hown hK hP 0 rfl rfl 1 (by decide) (hz (.fieldLink R_Open 15 "LayoutFront$Open" "size" "I") zm_171) (fun _ h9 => h9) rfl d_Open_push_36 ?_
    refine xr_max (v := (if z_most < (nI (n_size + 1)) then (nI (n_size + 1)) else z_most)) hx hb (hml.trans hl.1.symm) hown (hz (.methodLink R_Open 22 Lib.Math.max.name) zm_173) (hz (.static Lib.Math.max.name) zm_1023) (hz (.initialized "java/lang/Math") zm_1024) (hz (.code Lib.Math.max.name Lib.Math.max.code 2 (some .int)) zm_1025) (Nat.le_of_ble_eq_true rfl) (Nat.le_of_ble_eq_true rfl) (Nat.le_of_ble_eq_true rfl) (Nat.le_of_ble_eq_true rfl) d_Open_push_39 rfl ?_
    refine va_put (D := (dC, dI)) (ci := 6) (v := .int (if z_most < (nI (n_size + 1)) then (nI (n_size + 1)) else z_most)) (ty := .int) (C := R_Open) (T := F_Open) (N := 3) hx hb hz zu_Open t_Open t_Open_ok n_Open hown hK hP hD hS 0 rfl rfl 2 (by decide) (hz (.fieldLink R_Open 19 "LayoutFront$Open" "most" "I") zm_172) (fun _ h9 => h9) rfl (by decide +kernel) rfl rfl (Nat.le_of_ble_eq_true rfl) d_Open_push_42 (fun H locs hP hD hS => ?_)
    have hP : va_P (dC, dI) vcl [(a_t, .inr (6, [.ref a_things, .int (nI (n_size + 1)), .int (if z_most < (nI (n_size + 1)) then (nI (n_size + 1)) else z_most)])), (a_things, .inl (ka_things, 181, .inl (upd f_things n_size y0)))] H := hP
    have hD : va_D A [(a_t, .inr (6, [.ref a_things, .int (nI (n_size + 1)), .int (if z_most < (nI (n_size + 1)) then (nI (n_size + 1)) else z_most)])), (a_things, .inl (ka_things, 181, .inl (upd f_things n_size y0)))] := hD
    have hP9 := hP.sub (ws' := [(a_t, .inr (6, [.ref a_things, .int (nI (n_size + 1)), .int (if z_most < (nI (n_size + 1)) then (nI (n_size + 1)) else z_most)])), (a_things, .inl (ka_things, 181, .inl (upd f_things n_size y0)))]) [0, 1] rfl
    have hD9 := hD.sub (ws' := [(a_t, .inr (6, [.ref a_things, .int (nI (n_size + 1)), .int (if z_most < (nI (n_size + 1)) then (nI (n_size + 1)) else z_most)])), (a_things, .inl (ka_things, 181, .inl (upd f_things n_size y0)))]) [0, 1] (by decide) rfl
    exact W.vret hx hb hr (fun t ht hW => ⟨⟨(), rfl, trivial, ((n_size + 1)), ((if z_most < (nI (n_size + 1)) then (nI (n_size + 1)) else z_most)), ((upd f_things n_size y0)), by first | rfl | omega, by first | rfl | omega, by first | rfl | omega, by first | rfl | omega, by rw [ht]; exact hP9, va_K.moved hW.alike hK, hD9⟩, hS.F ht⟩) hS.2.2 d_Open_push_45
set_option maxHeartbeats 4000000 in
set_option maxRecDepth 100000 in
theorem s_Open_pop6 (l : Launch) (dC : Nat → ClassId) (dI : Nat → Nat → Nat) (sz : Nat) (a_t : Nat) (a_things : Nat) (n_size : Nat) (z_most : Int32) (b_size : n_size ≤ 181) : Met l y_Open_pop w_Open_pop ({ frames := 0, cells := 0, slots := 0, locals := 0 }) (va_Pc [.ref a_t] (fun U => U.heap.size = sz ∧ va_P (dC, dI) vcl [(a_t, .inr (6, [.ref a_things, .int (nI n_size), .int z_most]))] U.heap ∧ va_K (dC, dI) vcl [] U ∧ va_D (fun _ => True) [(a_t, .inr (6, [.ref a_things, .int (nI n_size), .int z_most]))])) (va_Qv (fun (_ : Unit) => True) (fun _ t => ∃ (w_n_size : Nat), (w_n_size ≤ 181) ∧ (w_n_size = n_size - 1) ∧ va_P (dC, dI) vcl [(a_t, .inr (6, [.ref a_things, .int (nI w_n_size), .int z_most]))] t.heap ∧ va_K (dC, dI) vcl [] t ∧ va_D (va_A [(a_t, .inr (6, [.ref a_things, .int (nI n_size), .int z_most]))] sz) [(a_t, .inr (6, [.ref a_things, .int (nI w_n_size), .int z_most]))]) (va_A [(a_t, .inr (6, [.ref a_things, .int (nI n_size), .int z_most]))] sz)) 0 0 (va_A [(a_t, .inr (6, [.ref a_things, .int (nI n_size), .int z_most]))] sz) := by
  refine Met.ofW (cc := b_Open_pop) (maxL := 1) (ret := none) (by decide) rfl ?_
  intro p e s m args below meth c s₁ B hml hv
  obtain ⟨rfl, hsz, hP, hK, hD0⟩ := hv
  have hx := B.exec
  have hb := B.bytes
  have hr := B.returns
  have hts := atoms_spec (ws := w_Open_pop) B.pre
  have hz : ∀ w ∈ wz, w.before _ s = true := fun w h => hts w (List.mem_cons_of_mem _ h)
  have hown : s.vm.findClass R_Open = some m.cls := findClass_of_methodNamed B.named
  have hlocks := B.notSynchronized
  subst hsz
  have hD := hD0.self (sz := s.heap.size)
  generalize hAe : va_A [(a_t, .inr (6, [.ref a_things, .int (nI n_size), .int z_most]))] s.heap.size = A at hD ⊢
  have hA : ∀ q : Nat, s.heap.size ≤ q → A q := fun q h => by rw [← hAe]; exact Or.inr h
  have hS : va_S A s.heap s.heap [] := va_S.rf
  have hP : va_P (dC, dI) vcl [(a_t, .inr (6, [.ref a_things, .int (nI n_size), .int z_most]))] s.heap := hP
  have hl := lv_entry ([.ref a_t]) (n := 1) (Nat.le_of_ble_eq_true rfl)
  rw [lg_entry_eq]
  generalize (lg_sl ([.ref a_t]) ++ List.replicate (1 - (lg_sl ([.ref a_t])).length) Slot.unset).toArray = ls at hl ⊢
  have hl : lv_has ls 1 [(0, .ref a_t)] := hl
  refine lv_aload_n hx hb d_Open_pop_0 rfl (lv_at hl 0 rfl) ?_
  refine va_get (D := (dC, dI)) (ci := 6) (v := .int (nI n_size)) (C := R_Open) (T := F_Open) (N := 3) hx hb hz zu_Open hown hK hP 0 rfl rfl 1 (by decide) (hz (.fieldLink R_Open 15 "LayoutFront$Open" "size" "I") zm_171) (fun _ h9 => h9) rfl d_Open_pop_1 ?_
  refine lv_if_le (tgt := 17) hx hb d_Open_pop_4 (by decide) (fun h1 => ?_) (fun h1 => ?_)
  · have h1 : n_size ≤ 0 := (nI_leI (a := n_size) (b := 0) (by omega) (by omega)).mp h1
    have hP9 := hP.sub (ws' := [(a_t, .inr (6, [.ref a_things, .int (nI n_size), .int z_most]))]) [0] rfl
    have hD9 := hD.sub (ws' := [(a_t, .inr (6, [.ref a_things, .int (nI n_size), .int z_most]))]) [0] (by decide) rfl
    exact W.vret hx hb hr (fun t ht hW => ⟨⟨(), rfl, trivial, n_size, by first | rfl | omega, by first | rfl | omega, by rw [ht]; exact hP9, va_K.moved hW.alike hK, hD9⟩, hS.F ht⟩) hS.2.2 d_Open_pop_17
  · have h1 : ¬ n_size ≤ 0 := fun q => h1 ((nI_leI (a := n_size) (b := 0) (by omega) (by omega)).mpr q)
    refine lv_aload_n hx hb d_Open_pop_7 rfl (lv_at hl 0 rfl) ?_
    refine lv_dup hx hb d_Open_pop_8 rfl ?_
    refine va_get (D := (dC, dI)) (ci := 6) (v := .int (nI n_size)) (C := R_Open) (T := F_Open) (N := 3) hx hb hz zu_Open hown hK hP 0 rfl rfl 1 (by decide) (hz (.fieldLink R_Open 15 "LayoutFront$Open" "size" "I") zm_171) (fun _ h9 => h9) rfl d_Open_pop_9 ?_
    refine lv_iconst (v := 1) hx hb d_Open_pop_12 (by decide) ?_
    refine xr_isub (v := (nI (n_size - 1))) hx hb d_Open_pop_13 (pk_sub (a := n_size) (b := 1) (by omega)) ?_
    refine va_put (D := (dC, dI)) (ci := 6) (v := .int (nI (n_size - 1))) (ty := .int) (C := R_Open) (T := F_Open) (N := 3) hx hb hz zu_Open t_Open t_Open_ok n_Open hown hK hP hD hS 0 rfl rfl 1 (by decide) (hz (.fieldLink R_Open 15 "LayoutFront$Open" "size" "I") zm_171) (fun _ h9 => h9) rfl (by decide +kernel) rfl rfl (Nat.le_of_ble_eq_true rfl) d_Open_pop_14 (fun H locs hP hD hS => ?_)
    have hP : va_P (dC, dI) vcl [(a_t, .inr (6, [.ref a_things, .int (nI (n_size - 1)), .int z_most]))] H := hP
    have hD : va_D A [(a_t, .inr (6, [.ref a_things, .int (nI (n_size - 1)), .int z_most]))] := hD
    have hP9 := hP.sub (ws' := [(a_t, .inr (6, [.ref a_things, .int (nI (n_size - 1)), .int z_most]))]) [0] rfl
    have hD9 := hD.sub (ws' := [(a_t, .inr (6, [.ref a_things, .int (nI (n_size - 1)), .int z_most]))]) [0] (by decide) rfl
    exact W.vret hx hb hr (fun t ht hW => ⟨⟨(), rfl, trivial, ((n_size - 1)), by first | rfl | omega, by first | rfl | omega, by rw [ht]; exact hP9, va_K.moved hW.alike hK, hD9⟩, hS.F ht⟩) hS.2.2 d_Open_pop_17
set_option maxHeartbeats 4000000 in
set_option maxRecDepth 100000 in
theorem s_Open_belowLets6 (l : Launch) (dC : Nat → ClassId) (dI : Nat → Nat → Nat) (sz : Nat) (a_t : Nat) (a_things : Nat) (f_things : Nat → Int32) (n_size : Nat) (z_most : Int32) (ka_things : ClassId) (b_size : n_size ≤ 181) : Met l y_Open_belowLets w_Open_belowLets ({ frames := 1, cells := 0, slots := 0, locals := 21 }) (va_Pc [.ref a_t] (fun U => U.heap.size = sz ∧ va_P (dC, dI) vcl [(a_t, .inr (6, [.ref a_things, .int (nI n_size), .int z_most])), (a_things, .inl (ka_things, 181, .inl f_things))] U.heap ∧ va_K (dC, dI) vcl [(ka_things, .int)] U ∧ va_D (fun _ => True) [(a_t, .inr (6, [.ref a_things, .int (nI n_size), .int z_most])), (a_things, .inl (ka_things, 181, .inl f_things))])) (va_Qi (fun (r : Int32) (_ : Unit) => r = blwC f_things n_size) (fun _ t => va_P (dC, dI) vcl [(a_t, .inr (6, [.ref a_things, .int (nI n_size), .int z_most])), (a_things, .inl (ka_things, 181, .inl f_things))] t.heap ∧ va_K (dC, dI) vcl [(ka_things, .int)] t ∧ va_D (va_A [(a_t, .inr (6, [.ref a_things, .int (nI n_size), .int z_most])), (a_things, .inl (ka_things, 181, .inl f_things))] sz) [(a_t, .inr (6, [.ref a_things, .int (nI n_size), .int z_most])), (a_things, .inl (ka_things, 181, .inl f_things))]) (va_A [(a_t, .inr (6, [.ref a_things, .int (nI n_size), .int z_most])), (a_things, .inl (ka_things, 181, .inl f_things))] sz)) 0 0 (va_A [(a_t, .inr (6, [.ref a_things, .int (nI n_size), .int z_most])), (a_things, .inl (ka_things, 181, .inl f_things))] sz) := by
  refine Met.ofW (cc := b_Open_belowLets) (maxL := 2) (ret := (some .int)) (by decide) rfl ?_
  intro p e s m args below meth c s₁ B hml hv
  obtain ⟨rfl, hsz, hP, hK, hD0⟩ := hv
  have hx := B.exec
  have hb := B.bytes
  have hr := B.returns
  have hts := atoms_spec (ws := w_Open_belowLets) B.pre
  have hz : ∀ w ∈ wz, w.before _ s = true := fun w h => hts w (List.mem_cons_of_mem _ h)
  have hown : s.vm.findClass R_Open = some m.cls := findClass_of_methodNamed B.named
  have hlocks := B.notSynchronized
  subst hsz
  have hD := hD0.self (sz := s.heap.size)
  generalize hAe : va_A [(a_t, .inr (6, [.ref a_things, .int (nI n_size), .int z_most])), (a_things, .inl (ka_things, 181, .inl f_things))] s.heap.size = A at hD ⊢
  have hA : ∀ q : Nat, s.heap.size ≤ q → A q := fun q h => by rw [← hAe]; exact Or.inr h
  have hS : va_S A s.heap s.heap [] := va_S.rf
  have hP : va_P (dC, dI) vcl [(a_t, .inr (6, [.ref a_things, .int (nI n_size), .int z_most])), (a_things, .inl (ka_things, 181, .inl f_things))] s.heap := hP
  have hl := lv_entry ([.ref a_t]) (n := 2) (Nat.le_of_ble_eq_true rfl)
  rw [lg_entry_eq]
  generalize (lg_sl ([.ref a_t]) ++ List.replicate (2 - (lg_sl ([.ref a_t])).length) Slot.unset).toArray = ls at hl ⊢
  have hl : lv_has ls 2 [(0, .ref a_t)] := hl
  refine lv_aload_n hx hb d_Open_belowLets_0 rfl (lv_at hl 0 rfl) ?_
  refine va_get (D := (dC, dI)) (ci := 6) (v := .int (nI n_size)) (C := R_Open) (T := F_Open) (N := 3) hx hb hz zu_Open hown hK hP 0 rfl rfl 1 (by decide) (hz (.fieldLink R_Open 15 "LayoutFront$Open" "size" "I") zm_171) (fun _ h9 => h9) rfl d_Open_belowLets_1 ?_
  refine lv_iconst (v := 1) hx hb d_Open_belowLets_4 (by decide) ?_
  refine xr_isub (v := (nI n_size - 1)) hx hb d_Open_belowLets_5 rfl ?_
  refine lv_istore_n hx hb d_Open_belowLets_6 rfl hl (by decide) rfl (fun ls hl => ?_)
  have hl : lv_has ls 2 [(1, .int (nI n_size - 1)), (0, .ref a_t)] := hl
  refine xr_loop (α := (Nat)) (fun a => (fun (k1 : Nat) => k1) a) (fun a H locs ls => (fun (k1 : Nat) => (k1 ≤ 181) ∧ (k1 ≤ n_size) ∧ (blwC f_things k1 = blwC f_things n_size) ∧ lv_has ls 2 [(1, .int (nI k1 - 1)), (0, .ref a_t)] ∧ va_P (dC, dI) vcl [(a_t, .inr (6, [.ref a_things, .int (nI n_size), .int z_most])), (a_things, .inl (ka_things, 181, .inl f_things))] H ∧ va_D A [(a_t, .inr (6, [.ref a_things, .int (nI n_size), .int z_most])), (a_things, .inl (ka_things, 181, .inl f_things))] ∧ va_S A s.heap H locs) a) (fun a ih7 H locs ls hI => ?_) (n_size) _ _ _ ⟨by show n_size ≤ 181; first | omega | assumption | exact Or.inl rfl | exact Or.inr rfl | decide, by show n_size ≤ n_size; first | omega | assumption | exact Or.inl rfl | exact Or.inr rfl | decide, by show blwC f_things n_size = blwC f_things n_size; rfl, hl, hP, hD, hS⟩
  generalize a = k1 at ih7 hI
  obtain ⟨bl0, bl1, bl2, hl, hP, hD, hS⟩ := hI
  have bl0 : k1 ≤ 181 := bl0
  have bl1 : k1 ≤ n_size := bl1
  have bl2 : blwC f_things k1 = blwC f_things n_size := bl2
  have iE := bl2
  have hl : lv_has ls 2 [(1, .int (nI k1 - 1)), (0, .ref a_t)] := hl
  have hP : va_P (dC, dI) vcl [(a_t, .inr (6, [.ref a_things, .int (nI n_size), .int z_most])), (a_things, .inl (ka_things, 181, .inl f_things))] H := hP
  have hD : va_D A [(a_t, .inr (6, [.ref a_things, .int (nI n_size), .int z_most])), (a_things, .inl (ka_things, 181, .inl f_things))] := hD
  refine lv_iload_n hx hb d_Open_belowLets_7 rfl (lv_at hl 0 rfl) ?_
  refine lv_if_lt (tgt := 26) hx hb d_Open_belowLets_8 (by decide) (fun h1 => ?_) (fun h1 => ?_)
  · have h1 : k1 = 0 := (xr_pred_lt (by omega)).mp h1
    refine lv_aload_n hx hb d_Open_belowLets_26 rfl (lv_at hl 1 rfl) ?_
    refine lv_iload_n hx hb d_Open_belowLets_27 rfl (lv_at hl 0 rfl) ?_
    have hPc := hP.sub (ws' := [(a_t, .inr (6, [.ref a_things, .int (nI n_size), .int z_most])), (a_things, .inl (ka_things, 181, .inl f_things))]) [0, 1] rfl
    have hDc := hD.sub (ws' := [(a_t, .inr (6, [.ref a_things, .int (nI n_size), .int z_most])), (a_things, .inl (ka_things, 181, .inl f_things))]) [0, 1] (by decide) rfl
    have hKc := hK.sub (tys' := [(ka_things, .int)]) [0] rfl
    have hFc := va_free (wc := [(a_t, .inr (6, [.ref a_things, .int (nI n_size), .int z_most])), (a_things, .inl (ka_things, 181, .inl f_things))]) hD hS hA [0, 1] rfl
    refine va_calli (va_runV (As := [.int (nI k1 - 1)]) (rest := []) ⟨hx, hb, hml, hown, hz⟩ (s_Open_at6 l dC dI H.size a_t a_things f_things n_size z_most ((nI k1 - 1)) ka_things (by first | omega | assumption | exact Or.inl rfl | exact Or.inr rfl | decide)) (cwV 1 hz (zV zm_174 zm_175 zm_176 zm_177 zm_178) rfl rfl rfl (by decide +kernel) ⟨Nat.le_of_ble_eq_true rfl, Nat.le_of_ble_eq_true rfl⟩) ⟨fun a U g mk q => by obtain ⟨q0, q1, qP, qK, qD⟩ := q; exact ⟨q0, q1, qP, va_K.moved (u := U) (U := U.calling g mk a) (Vm.Alike.refl U.vm) qK, qD⟩, va_recv (q := (R_Open, F_Open, 3)) (q0 := 0) (ci := 6) hK hP rfl rfl, fun U hU hW => ⟨rfl, by rw [hU], by rw [hU]; exact hPc, va_K.moved hW.alike hKc, hDc.weaken (fun _ _ _ _ => trivial)⟩⟩ rfl rfl hl.1 rfl (lv_room (Nat.le_of_ble_eq_true rfl)) d_Open_belowLets_28 ⟨Nat.zero_le _, Nat.zero_le _⟩) hS (fun q _ h => hFc q h) hFc (fun r u t H1 locs ht hvm hw hB hz1 hk1 hS => ?_)
    obtain ⟨hP1, hK1, hD1⟩ := hB
    subst r
    rw [ht] at hP1
    obtain ⟨hP, hD⟩ := va_join (wr := []) (w1 := [(a_t, .inr (6, [.ref a_things, .int (nI n_size), .int z_most])), (a_things, .inl (ka_things, 181, .inl f_things))]) hP hD [0, 1] [] rfl rfl (by decide) (by decide) hk1 hFc hP1 hD1
    generalize H1 = H at hP hS ⊢
    have hP : va_P (dC, dI) vcl [(a_t, .inr (6, [.ref a_things, .int (nI n_size), .int z_most])), (a_things, .inl (ka_things, 181, .inl f_things))] H := hP
    have hD : va_D A [(a_t, .inr (6, [.ref a_things, .int (nI n_size), .int z_most])), (a_things, .inl (ka_things, 181, .inl f_things))] := hD
    have hP9 := hP.sub (ws' := [(a_t, .inr (6, [.ref a_things, .int (nI n_size), .int z_most])), (a_things, .inl (ka_things, 181, .inl f_things))]) [0, 1] rfl
    have hD9 := hD.sub (ws' := [(a_t, .inr (6, [.ref a_things, .int (nI n_size), .int z_most])), (a_things, .inl (ka_things, 181, .inl f_things))]) [0, 1] (by decide) rfl
    exact W.iret (v := (atI f_things n_size ((nI k1 - 1)))) hx hb hr (fun t ht hW => ⟨⟨(atI f_things n_size ((nI k1 - 1))), (), rfl, (by have z9 : k1 = 0 := (by omega); rw [at_m z9, ← iE, z9]; rfl), by rw [ht]; exact hP9, va_K.moved hW.alike hK, hD9⟩, hS.F ht⟩) hS.2.2 d_Open_belowLets_31
  · have h1 : ¬ k1 = 0 := fun q => h1 ((xr_pred_lt (by omega)).mpr q)
    have e_h1 : nI k1 - 1 = nI (k1 - 1) := pk_sub (a := k1) (b := 1) (by omega)
    have hl : lv_has ls 2 [(1, .int (nI (k1 - 1))), (0, .ref a_t)] := Eq.mp (congrArg (lv_has ls 2) (by rw [e_h1])) hl
    refine lv_aload_n hx hb d_Open_belowLets_11 rfl (lv_at hl 1 rfl) ?_
    refine lv_iload_n hx hb d_Open_belowLets_12 rfl (lv_at hl 0 rfl) ?_
    have hPc := hP.sub (ws' := [(a_t, .inr (6, [.ref a_things, .int (nI n_size), .int z_most])), (a_things, .inl (ka_things, 181, .inl f_things))]) [0, 1] rfl
    have hDc := hD.sub (ws' := [(a_t, .inr (6, [.ref a_things, .int (nI n_size), .int z_most])), (a_things, .inl (ka_things, 181, .inl f_things))]) [0, 1] (by decide) rfl
    have hKc := hK.sub (tys' := [(ka_things, .int)]) [0] rfl
    have hFc := va_free (wc := [(a_t, .inr (6, [.ref a_things, .int (nI n_size), .int z_most])), (a_things, .inl (ka_things, 181, .inl f_things))]) hD hS hA [0, 1] rfl
    refine va_calli (va_runV (As := [.int (nI (k1 - 1))]) (rest := []) ⟨hx, hb, hml, hown, hz⟩ (s_Open_at6 l dC dI H.size a_t a_things f_things n_size z_most ((nI (k1 - 1))) ka_things (by first | omega | assumption | exact Or.inl rfl | exact Or.inr rfl | decide)) (cwV 1 hz (zV zm_174 zm_175 zm_176 zm_177 zm_178) rfl rfl rfl (by decide +kernel) ⟨Nat.le_of_ble_eq_true rfl, Nat.le_of_ble_eq_true rfl⟩) ⟨fun a U g mk q => by obtain ⟨q0, q1, qP, qK, qD⟩ := q; exact ⟨q0, q1, qP, va_K.moved (u := U) (U := U.calling g mk a) (Vm.Alike.refl U.vm) qK, qD⟩, va_recv (q := (R_Open, F_Open, 3)) (q0 := 0) (ci := 6) hK hP rfl rfl, fun U hU hW => ⟨rfl, by rw [hU], by rw [hU]; exact hPc, va_K.moved hW.alike hKc, hDc.weaken (fun _ _ _ _ => trivial)⟩⟩ rfl rfl hl.1 rfl (lv_room (Nat.le_of_ble_eq_true rfl)) d_Open_belowLets_13 ⟨Nat.zero_le _, Nat.zero_le _⟩) hS (fun q _ h => hFc q h) hFc (fun r u t H1 locs ht hvm hw hB hz1 hk1 hS => ?_)
    obtain ⟨hP1, hK1, hD1⟩ := hB
    subst r
    rw [ht] at hP1
    obtain ⟨hP, hD⟩ := va_join (wr := []) (w1 := [(a_t, .inr (6, [.ref a_things, .int (nI n_size), .int z_most])), (a_things, .inl (ka_things, 181, .inl f_things))]) hP hD [0, 1] [] rfl rfl (by decide) (by decide) hk1 hFc hP1 hD1
    generalize H1 = H at hP hS ⊢
    have hP : va_P (dC, dI) vcl [(a_t, .inr (6, [.ref a_things, .int (nI n_size), .int z_most])), (a_things, .inl (ka_things, 181, .inl f_things))] H := hP
    have hD : va_D A [(a_t, .inr (6, [.ref a_things, .int (nI n_size), .int z_most])), (a_things, .inl (ka_things, 181, .inl f_things))] := hD
    refine lv_iconst (v := (-1)) hx hb d_Open_belowLets_16 (by decide) ?_
    refine lv_icmp_ne (tgt := 26) hx hb d_Open_belowLets_17 (by decide) (fun h2 => ?_) (fun h2 => ?_)
    · have e17 := h2
      rw [at_n (by omega) (by omega)] at e17
      refine lv_aload_n hx hb d_Open_belowLets_26 rfl (lv_at hl 1 rfl) ?_
      refine lv_iload_n hx hb d_Open_belowLets_27 rfl (lv_at hl 0 rfl) ?_
      have hPc := hP.sub (ws' := [(a_t, .inr (6, [.ref a_things, .int (nI n_size), .int z_most])), (a_things, .inl (ka_things, 181, .inl f_things))]) [0, 1] rfl
      have hDc := hD.sub (ws' := [(a_t, .inr (6, [.ref a_things, .int (nI n_size), .int z_most])), (a_things, .inl (ka_things, 181, .inl f_things))]) [0, 1] (by decide) rfl
      have hKc := hK.sub (tys' := [(ka_things, .int)]) [0] rfl
      have hFc := va_free (wc := [(a_t, .inr (6, [.ref a_things, .int (nI n_size), .int z_most])), (a_things, .inl (ka_things, 181, .inl f_things))]) hD hS hA [0, 1] rfl
      refine va_calli (va_runV (As := [.int (nI (k1 - 1))]) (rest := []) ⟨hx, hb, hml, hown, hz⟩ (s_Open_at6 l dC dI H.size a_t a_things f_things n_size z_most ((nI (k1 - 1))) ka_things (by first | omega | assumption | exact Or.inl rfl | exact Or.inr rfl | decide)) (cwV 1 hz (zV zm_174 zm_175 zm_176 zm_177 zm_178) rfl rfl rfl (by decide +kernel) ⟨Nat.le_of_ble_eq_true rfl, Nat.le_of_ble_eq_true rfl⟩) ⟨fun a U g mk q => by obtain ⟨q0, q1, qP, qK, qD⟩ := q; exact ⟨q0, q1, qP, va_K.moved (u := U) (U := U.calling g mk a) (Vm.Alike.refl U.vm) qK, qD⟩, va_recv (q := (R_Open, F_Open, 3)) (q0 := 0) (ci := 6) hK hP rfl rfl, fun U hU hW => ⟨rfl, by rw [hU], by rw [hU]; exact hPc, va_K.moved hW.alike hKc, hDc.weaken (fun _ _ _ _ => trivial)⟩⟩ rfl rfl hl.1 rfl (lv_room (Nat.le_of_ble_eq_true rfl)) d_Open_belowLets_28 ⟨Nat.zero_le _, Nat.zero_le _⟩) hS (fun q _ h => hFc q h) hFc (fun r u t H1 locs ht hvm hw hB hz1 hk1 hS => ?_)
      obtain ⟨hP1, hK1, hD1⟩ := hB
      subst r
      rw [ht] at hP1
      obtain ⟨hP, hD⟩ := va_join (wr := []) (w1 := [(a_t, .inr (6, [.ref a_things, .int (nI n_size), .int z_most])), (a_things, .inl (ka_things, 181, .inl f_things))]) hP hD [0, 1] [] rfl rfl (by decide) (by decide) hk1 hFc hP1 hD1
      generalize H1 = H at hP hS ⊢
      have hP : va_P (dC, dI) vcl [(a_t, .inr (6, [.ref a_things, .int (nI n_size), .int z_most])), (a_things, .inl (ka_things, 181, .inl f_things))] H := hP
      have hD : va_D A [(a_t, .inr (6, [.ref a_things, .int (nI n_size), .int z_most])), (a_things, .inl (ka_things, 181, .inl f_things))] := hD
      have hP9 := hP.sub (ws' := [(a_t, .inr (6, [.ref a_things, .int (nI n_size), .int z_most])), (a_things, .inl (ka_things, 181, .inl f_things))]) [0, 1] rfl
      have hD9 := hD.sub (ws' := [(a_t, .inr (6, [.ref a_things, .int (nI n_size), .int z_most])), (a_things, .inl (ka_things, 181, .inl f_things))]) [0, 1] (by decide) rfl
      exact W.iret (v := (atI f_things n_size ((nI (k1 - 1))))) hx hb hr (fun t ht hW => ⟨⟨(atI f_things n_size ((nI (k1 - 1)))), (), rfl, (by exact (at_n (by omega) (by omega)).trans ((bw_e (by omega) e17).symm.trans iE)), by rw [ht]; exact hP9, va_K.moved hW.alike hK, hD9⟩, hS.F ht⟩) hS.2.2 d_Open_belowLets_31
    · have e17 := h2
      rw [at_n (by omega) (by omega)] at e17
      refine lv_iinc (k := 0) (v := (nI (k1 - 1) - 1)) hx hb d_Open_belowLets_20 hl rfl (xr_dec2 _) (by decide) rfl (fun ls hl => ?_)
      have hl : lv_has ls 2 [(1, .int (nI (k1 - 1) - 1)), (0, .ref a_t)] := hl
      refine lv_goto (tgt := 7) hx hb d_Open_belowLets_23 (by decide) ?_
      have hP9 := hP.sub (ws' := [(a_t, .inr (6, [.ref a_things, .int (nI n_size), .int z_most])), (a_things, .inl (ka_things, 181, .inl f_things))]) [0, 1] rfl
      have hD9 := hD.sub (ws' := [(a_t, .inr (6, [.ref a_things, .int (nI n_size), .int z_most])), (a_things, .inl (ka_things, 181, .inl f_things))]) [0, 1] (by decide) rfl
      exact ih7 ((k1 - 1)) (by show ((k1 - 1)) < k1; omega) _ _ _ ⟨by show ((k1 - 1)) ≤ 181; first | omega | assumption | exact Or.inl rfl | exact Or.inr rfl | decide, by show ((k1 - 1)) ≤ n_size; first | omega | assumption | exact Or.inl rfl | exact Or.inr rfl | decide, by show blwC f_things ((k1 - 1)) = blwC f_things n_size; exact (bw_s (by omega) e17).trans iE, hl, hP9, hD9, hS⟩
set_option maxHeartbeats 4000000 in
set_option maxRecDepth 100000 in
theorem s_Open_belowLetsAndLaidBlocks6 (l : Launch) (dC : Nat → ClassId) (dI : Nat → Nat → Nat) (sz : Nat) (a_t : Nat) (a_things : Nat) (f_things : Nat → Int32) (n_size : Nat) (z_most : Int32) (ka_things : ClassId) (b_size : n_size ≤ 181) : Met l y_Open_belowLetsAndLaidBlocks w_Open_belowLetsAndLaidBlocks ({ frames := 1, cells := 0, slots := 0, locals := 21 }) (va_Pc [.ref a_t] (fun U => U.heap.size = sz ∧ va_P (dC, dI) vcl [(a_t, .inr (6, [.ref a_things, .int (nI n_size), .int z_most])), (a_things, .inl (ka_things, 181, .inl f_things))] U.heap ∧ va_K (dC, dI) vcl [(ka_things, .int)] U ∧ va_D (fun _ => True) [(a_t, .inr (6, [.ref a_things, .int (nI n_size), .int z_most])), (a_things, .inl (ka_things, 181, .inl f_things))])) (va_Qi (fun (r : Int32) (_ : Unit) => r = blC (stk f_things n_size)) (fun _ t => va_P (dC, dI) vcl [(a_t, .inr (6, [.ref a_things, .int (nI n_size), .int z_most])), (a_things, .inl (ka_things, 181, .inl f_things))] t.heap ∧ va_K (dC, dI) vcl [(ka_things, .int)] t ∧ va_D (va_A [(a_t, .inr (6, [.ref a_things, .int (nI n_size), .int z_most])), (a_things, .inl (ka_things, 181, .inl f_things))] sz) [(a_t, .inr (6, [.ref a_things, .int (nI n_size), .int z_most])), (a_things, .inl (ka_things, 181, .inl f_things))]) (va_A [(a_t, .inr (6, [.ref a_things, .int (nI n_size), .int z_most])), (a_things, .inl (ka_things, 181, .inl f_things))] sz)) 0 0 (va_A [(a_t, .inr (6, [.ref a_things, .int (nI n_size), .int z_most])), (a_things, .inl (ka_things, 181, .inl f_things))] sz) := by
  refine Met.ofW (cc := b_Open_belowLetsAndLaidBlocks) (maxL := 2) (ret := (some .int)) (by decide) rfl ?_
  intro p e s m args below meth c s₁ B hml hv
  obtain ⟨rfl, hsz, hP, hK, hD0⟩ := hv
  have hx := B.exec
  have hb := B.bytes
  have hr := B.returns
  have hts := atoms_spec (ws := w_Open_belowLetsAndLaidBlocks) B.pre
  have hz : ∀ w ∈ wz, w.before _ s = true := fun w h => hts w (List.mem_cons_of_mem _ h)
  have hown : s.vm.findClass R_Open = some m.cls := findClass_of_methodNamed B.named
  have hlocks := B.notSynchronized
  subst hsz
  have hD := hD0.self (sz := s.heap.size)
  generalize hAe : va_A [(a_t, .inr (6, [.ref a_things, .int (nI n_size), .int z_most])), (a_things, .inl (ka_things, 181, .inl f_things))] s.heap.size = A at hD ⊢
  have hA : ∀ q : Nat, s.heap.size ≤ q → A q := fun q h => by rw [← hAe]; exact Or.inr h
  have hS : va_S A s.heap s.heap [] := va_S.rf
  have hP : va_P (dC, dI) vcl [(a_t, .inr (6, [.ref a_things, .int (nI n_size), .int z_most])), (a_things, .inl (ka_things, 181, .inl f_things))] s.heap := hP
  have hl := lv_entry ([.ref a_t]) (n := 2) (Nat.le_of_ble_eq_true rfl)
  rw [lg_entry_eq]
  generalize (lg_sl ([.ref a_t]) ++ List.replicate (2 - (lg_sl ([.ref a_t])).length) Slot.unset).toArray = ls at hl ⊢
  have hl : lv_has ls 2 [(0, .ref a_t)] := hl
  refine lv_aload_n hx hb d_Open_belowLetsAndLaidBlocks_0 rfl (lv_at hl 0 rfl) ?_
  refine va_get (D := (dC, dI)) (ci := 6) (v := .int (nI n_size)) (C := R_Open) (T := F_Open) (N := 3) hx hb hz zu_Open hown hK hP 0 rfl rfl 1 (by decide) (hz (.fieldLink R_Open 15 "LayoutFront$Open" "size" "I") zm_171) (fun _ h9 => h9) rfl d_Open_belowLetsAndLaidBlocks_1 ?_
  refine lv_iconst (v := 1) hx hb d_Open_belowLetsAndLaidBlocks_4 (by decide) ?_
  refine xr_isub (v := (nI n_size - 1)) hx hb d_Open_belowLetsAndLaidBlocks_5 rfl ?_
  refine lv_istore_n hx hb d_Open_belowLetsAndLaidBlocks_6 rfl hl (by decide) rfl (fun ls hl => ?_)
  have hl : lv_has ls 2 [(1, .int (nI n_size - 1)), (0, .ref a_t)] := hl
  refine xr_loop (α := (Nat)) (fun a => (fun (k1 : Nat) => k1) a) (fun a H locs ls => (fun (k1 : Nat) => (k1 ≤ 181) ∧ (k1 ≤ n_size) ∧ (blC (stk f_things k1) = blC (stk f_things n_size)) ∧ lv_has ls 2 [(1, .int (nI k1 - 1)), (0, .ref a_t)] ∧ va_P (dC, dI) vcl [(a_t, .inr (6, [.ref a_things, .int (nI n_size), .int z_most])), (a_things, .inl (ka_things, 181, .inl f_things))] H ∧ va_D A [(a_t, .inr (6, [.ref a_things, .int (nI n_size), .int z_most])), (a_things, .inl (ka_things, 181, .inl f_things))] ∧ va_S A s.heap H locs) a) (fun a ih7 H locs ls hI => ?_) (n_size) _ _ _ ⟨by show n_size ≤ 181; first | omega | assumption | exact Or.inl rfl | exact Or.inr rfl | decide, by show n_size ≤ n_size; first | omega | assumption | exact Or.inl rfl | exact Or.inr rfl | decide, by show blC (stk f_things n_size) = blC (stk f_things n_size); rfl, hl, hP, hD, hS⟩
  generalize a = k1 at ih7 hI
  obtain ⟨bl0, bl1, bl2, hl, hP, hD, hS⟩ := hI
  have bl0 : k1 ≤ 181 := bl0
  have bl1 : k1 ≤ n_size := bl1
  have bl2 : blC (stk f_things k1) = blC (stk f_things n_size) := bl2
  have iE := bl2
  have hl : lv_has ls 2 [(1, .int (nI k1 - 1)), (0, .ref a_t)] := hl
  have hP : va_P (dC, dI) vcl [(a_t, .inr (6, [.ref a_things, .int (nI n_size), .int z_most])), (a_things, .inl (ka_things, 181, .inl f_things))] H := hP
  have hD : va_D A [(a_t, .inr (6, [.ref a_things, .int (nI n_size), .int z_most])), (a_things, .inl (ka_things, 181, .inl f_things))] := hD
  refine lv_iload_n hx hb d_Open_belowLetsAndLaidBlocks_7 rfl (lv_at hl 0 rfl) ?_
  refine lv_if_lt (tgt := 34) hx hb d_Open_belowLetsAndLaidBlocks_8 (by decide) (fun h1 => ?_) (fun h1 => ?_)
  · have h1 : k1 = 0 := (xr_pred_lt (by omega)).mp h1
    refine lv_aload_n hx hb d_Open_belowLetsAndLaidBlocks_34 rfl (lv_at hl 1 rfl) ?_
    refine lv_iload_n hx hb d_Open_belowLetsAndLaidBlocks_35 rfl (lv_at hl 0 rfl) ?_
    have hPc := hP.sub (ws' := [(a_t, .inr (6, [.ref a_things, .int (nI n_size), .int z_most])), (a_things, .inl (ka_things, 181, .inl f_things))]) [0, 1] rfl
    have hDc := hD.sub (ws' := [(a_t, .inr (6, [.ref a_things, .int (nI n_size), .int z_most])), (a_things, .inl (ka_things, 181, .inl f_things))]) [0, 1] (by decide) rfl
    have hKc := hK.sub (tys' := [(ka_things, .int)]) [0] rfl
    have hFc := va_free (wc := [(a_t, .inr (6, [.ref a_things, .int (nI n_size), .int z_most])), (a_things, .inl (ka_things, 181, .inl f_things))]) hD hS hA [0, 1] rfl
    refine va_calli (va_runV (As := [.int (nI k1 - 1)]) (rest := []) ⟨hx, hb, hml, hown, hz⟩ (s_Open_at6 l dC dI H.size a_t a_things f_things n_size z_most ((nI k1 - 1)) ka_things (by first | omega | assumption | exact Or.inl rfl | exact Or.inr rfl | decide)) (cwV 1 hz (zV zm_174 zm_175 zm_176 zm_177 zm_178) rfl rfl rfl (by decide +kernel) ⟨Nat.le_of_ble_eq_true rfl, Nat.le_of_ble_eq_true rfl⟩) ⟨fun a U g mk q => by obtain ⟨q0, q1, qP, qK, qD⟩ := q; exact ⟨q0, q1, qP, va_K.moved (u := U) (U := U.calling g mk a) (Vm.Alike.refl U.vm) qK, qD⟩, va_recv (q := (R_Open, F_Open, 3)) (q0 := 0) (ci := 6) hK hP rfl rfl, fun U hU hW => ⟨rfl, by rw [hU], by rw [hU]; exact hPc, va_K.moved hW.alike hKc, hDc.weaken (fun _ _ _ _ => trivial)⟩⟩ rfl rfl hl.1 rfl (lv_room (Nat.le_of_ble_eq_true rfl)) d_Open_belowLetsAndLaidBlocks_36 ⟨Nat.zero_le _, Nat.zero_le _⟩) hS (fun q _ h => hFc q h) hFc (fun r u t H1 locs ht hvm hw hB hz1 hk1 hS => ?_)
    obtain ⟨hP1, hK1, hD1⟩ := hB
    subst r
    rw [ht] at hP1
    obtain ⟨hP, hD⟩ := va_join (wr := []) (w1 := [(a_t, .inr (6, [.ref a_things, .int (nI n_size), .int z_most])), (a_things, .inl (ka_things, 181, .inl f_things))]) hP hD [0, 1] [] rfl rfl (by decide) (by decide) hk1 hFc hP1 hD1
    generalize H1 = H at hP hS ⊢
    have hP : va_P (dC, dI) vcl [(a_t, .inr (6, [.ref a_things, .int (nI n_size), .int z_most])), (a_things, .inl (ka_things, 181, .inl f_things))] H := hP
    have hD : va_D A [(a_t, .inr (6, [.ref a_things, .int (nI n_size), .int z_most])), (a_things, .inl (ka_things, 181, .inl f_things))] := hD
    have hP9 := hP.sub (ws' := [(a_t, .inr (6, [.ref a_things, .int (nI n_size), .int z_most])), (a_things, .inl (ka_things, 181, .inl f_things))]) [0, 1] rfl
    have hD9 := hD.sub (ws' := [(a_t, .inr (6, [.ref a_things, .int (nI n_size), .int z_most])), (a_things, .inl (ka_things, 181, .inl f_things))]) [0, 1] (by decide) rfl
    exact W.iret (v := (atI f_things n_size ((nI k1 - 1)))) hx hb hr (fun t ht hW => ⟨⟨(atI f_things n_size ((nI k1 - 1))), (), rfl, (by have z9 : k1 = 0 := (by omega); rw [at_m z9, ← iE, z9]; rfl), by rw [ht]; exact hP9, va_K.moved hW.alike hK, hD9⟩, hS.F ht⟩) hS.2.2 d_Open_belowLetsAndLaidBlocks_39
  · have h1 : ¬ k1 = 0 := fun q => h1 ((xr_pred_lt (by omega)).mpr q)
    have e_h1 : nI k1 - 1 = nI (k1 - 1) := pk_sub (a := k1) (b := 1) (by omega)
    have hl : lv_has ls 2 [(1, .int (nI (k1 - 1))), (0, .ref a_t)] := Eq.mp (congrArg (lv_has ls 2) (by rw [e_h1])) hl
    refine lv_aload_n hx hb d_Open_belowLetsAndLaidBlocks_11 rfl (lv_at hl 1 rfl) ?_
    refine lv_iload_n hx hb d_Open_belowLetsAndLaidBlocks_12 rfl (lv_at hl 0 rfl) ?_
    have hPc := hP.sub (ws' := [(a_t, .inr (6, [.ref a_things, .int (nI n_size), .int z_most])), (a_things, .inl (ka_things, 181, .inl f_things))]) [0, 1] rfl
    have hDc := hD.sub (ws' := [(a_t, .inr (6, [.ref a_things, .int (nI n_size), .int z_most])), (a_things, .inl (ka_things, 181, .inl f_things))]) [0, 1] (by decide) rfl
    have hKc := hK.sub (tys' := [(ka_things, .int)]) [0] rfl
    have hFc := va_free (wc := [(a_t, .inr (6, [.ref a_things, .int (nI n_size), .int z_most])), (a_things, .inl (ka_things, 181, .inl f_things))]) hD hS hA [0, 1] rfl
    refine va_calli (va_runV (As := [.int (nI (k1 - 1))]) (rest := []) ⟨hx, hb, hml, hown, hz⟩ (s_Open_at6 l dC dI H.size a_t a_things f_things n_size z_most ((nI (k1 - 1))) ka_things (by first | omega | assumption | exact Or.inl rfl | exact Or.inr rfl | decide)) (cwV 1 hz (zV zm_174 zm_175 zm_176 zm_177 zm_178) rfl rfl rfl (by decide +kernel) ⟨Nat.le_of_ble_eq_true rfl, Nat.le_of_ble_eq_true rfl⟩) ⟨fun a U g mk q => by obtain ⟨q0, q1, qP, qK, qD⟩ := q; exact ⟨q0, q1, qP, va_K.moved (u := U) (U := U.calling g mk a) (Vm.Alike.refl U.vm) qK, qD⟩, va_recv (q := (R_Open, F_Open, 3)) (q0 := 0) (ci := 6) hK hP rfl rfl, fun U hU hW => ⟨rfl, by rw [hU], by rw [hU]; exact hPc, va_K.moved hW.alike hKc, hDc.weaken (fun _ _ _ _ => trivial)⟩⟩ rfl rfl hl.1 rfl (lv_room (Nat.le_of_ble_eq_true rfl)) d_Open_belowLetsAndLaidBlocks_13 ⟨Nat.zero_le _, Nat.zero_le _⟩) hS (fun q _ h => hFc q h) hFc (fun r u t H1 locs ht hvm hw hB hz1 hk1 hS => ?_)
    obtain ⟨hP1, hK1, hD1⟩ := hB
    subst r
    rw [ht] at hP1
    obtain ⟨hP, hD⟩ := va_join (wr := []) (w1 := [(a_t, .inr (6, [.ref a_things, .int (nI n_size), .int z_most])), (a_things, .inl (ka_things, 181, .inl f_things))]) hP hD [0, 1] [] rfl rfl (by decide) (by decide) hk1 hFc hP1 hD1
    generalize H1 = H at hP hS ⊢
    have hP : va_P (dC, dI) vcl [(a_t, .inr (6, [.ref a_things, .int (nI n_size), .int z_most])), (a_things, .inl (ka_things, 181, .inl f_things))] H := hP
    have hD : va_D A [(a_t, .inr (6, [.ref a_things, .int (nI n_size), .int z_most])), (a_things, .inl (ka_things, 181, .inl f_things))] := hD
    refine lv_iconst (v := (-1)) hx hb d_Open_belowLetsAndLaidBlocks_16 (by decide) ?_
    refine lv_icmp_eq (tgt := 28) hx hb d_Open_belowLetsAndLaidBlocks_17 (by decide) (fun h2 => ?_) (fun h2 => ?_)
    · have e17 := h2
      rw [at_n (by omega) (by omega)] at e17
      refine lv_iinc (k := 0) (v := (nI (k1 - 1) - 1)) hx hb d_Open_belowLetsAndLaidBlocks_28 hl rfl (xr_dec2 _) (by decide) rfl (fun ls hl => ?_)
      have hl : lv_has ls 2 [(1, .int (nI (k1 - 1) - 1)), (0, .ref a_t)] := hl
      refine lv_goto (tgt := 7) hx hb d_Open_belowLetsAndLaidBlocks_31 (by decide) ?_
      have hP9 := hP.sub (ws' := [(a_t, .inr (6, [.ref a_things, .int (nI n_size), .int z_most])), (a_things, .inl (ka_things, 181, .inl f_things))]) [0, 1] rfl
      have hD9 := hD.sub (ws' := [(a_t, .inr (6, [.ref a_things, .int (nI n_size), .int z_most])), (a_things, .inl (ka_things, 181, .inl f_things))]) [0, 1] (by decide) rfl
      exact ih7 ((k1 - 1)) (by show ((k1 - 1)) < k1; omega) _ _ _ ⟨by show ((k1 - 1)) ≤ 181; first | omega | assumption | exact Or.inl rfl | exact Or.inr rfl | decide, by show ((k1 - 1)) ≤ n_size; first | omega | assumption | exact Or.inl rfl | exact Or.inr rfl | decide, by show blC (stk f_things ((k1 - 1))) = blC (stk f_things n_size); exact (bl_s (by omega) (Or.inl e17)).trans iE, hl, hP9, hD9, hS⟩
    · have e17 := h2
      rw [at_n (by omega) (by omega)] at e17
      refine lv_aload_n hx hb d_Open_belowLetsAndLaidBlocks_20 rfl (lv_at hl 1 rfl) ?_
      refine lv_iload_n hx hb d_Open_belowLetsAndLaidBlocks_21 rfl (lv_at hl 0 rfl) ?_
      have hPc := hP.sub (ws' := [(a_t, .inr (6, [.ref a_things, .int (nI n_size), .int z_most])), (a_things, .inl (ka_things, 181, .inl f_things))]) [0, 1] rfl
      have hDc := hD.sub (ws' := [(a_t, .inr (6, [.ref a_things, .int (nI n_size), .int z_most])), (a_things, .inl (ka_things, 181, .inl f_things))]) [0, 1] (by decide) rfl
      have hKc := hK.sub (tys' := [(ka_things, .int)]) [0] rfl
      have hFc := va_free (wc := [(a_t, .inr (6, [.ref a_things, .int (nI n_size), .int z_most])), (a_things, .inl (ka_things, 181, .inl f_things))]) hD hS hA [0, 1] rfl
      refine va_calli (va_runV (As := [.int (nI (k1 - 1))]) (rest := []) ⟨hx, hb, hml, hown, hz⟩ (s_Open_at6 l dC dI H.size a_t a_things f_things n_size z_most ((nI (k1 - 1))) ka_things (by first | omega | assumption | exact Or.inl rfl | exact Or.inr rfl | decide)) (cwV 1 hz (zV zm_174 zm_175 zm_176 zm_177 zm_178) rfl rfl rfl (by decide +kernel) ⟨Nat.le_of_ble_eq_true rfl, Nat.le_of_ble_eq_true rfl⟩) ⟨fun a U g mk q => by obtain ⟨q0, q1, qP, qK, qD⟩ := q; exact ⟨q0, q1, qP, va_K.moved (u := U) (U := U.calling g mk a) (Vm.Alike.refl U.vm) qK, qD⟩, va_recv (q := (R_Open, F_Open, 3)) (q0 := 0) (ci := 6) hK hP rfl rfl, fun U hU hW => ⟨rfl, by rw [hU], by rw [hU]; exact hPc, va_K.moved hW.alike hKc, hDc.weaken (fun _ _ _ _ => trivial)⟩⟩ rfl rfl hl.1 rfl (lv_room (Nat.le_of_ble_eq_true rfl)) d_Open_belowLetsAndLaidBlocks_22 ⟨Nat.zero_le _, Nat.zero_le _⟩) hS (fun q _ h => hFc q h) hFc (fun r u t H1 locs ht hvm hw hB hz1 hk1 hS => ?_)
      obtain ⟨hP1, hK1, hD1⟩ := hB
      subst r
      rw [ht] at hP1
      obtain ⟨hP, hD⟩ := va_join (wr := []) (w1 := [(a_t, .inr (6, [.ref a_things, .int (nI n_size), .int z_most])), (a_things, .inl (ka_things, 181, .inl f_things))]) hP hD [0, 1] [] rfl rfl (by decide) (by decide) hk1 hFc hP1 hD1
      generalize H1 = H at hP hS ⊢
      have hP : va_P (dC, dI) vcl [(a_t, .inr (6, [.ref a_things, .int (nI n_size), .int z_most])), (a_things, .inl (ka_things, 181, .inl f_things))] H := hP
      have hD : va_D A [(a_t, .inr (6, [.ref a_things, .int (nI n_size), .int z_most])), (a_things, .inl (ka_things, 181, .inl f_things))] := hD
      refine lv_if_le (tgt := 34) hx hb d_Open_belowLetsAndLaidBlocks_25 (by decide) (fun h3 => ?_) (fun h3 => ?_)
      · have e25 := h3
        rw [at_n (by omega) (by omega)] at e25
        refine lv_aload_n hx hb d_Open_belowLetsAndLaidBlocks_34 rfl (lv_at hl 1 rfl) ?_
        refine lv_iload_n hx hb d_Open_belowLetsAndLaidBlocks_35 rfl (lv_at hl 0 rfl) ?_
        have hPc := hP.sub (ws' := [(a_t, .inr (6, [.ref a_things, .int (nI n_size), .int z_most])), (a_things, .inl (ka_things, 181, .inl f_things))]) [0, 1] rfl
        have hDc := hD.sub (ws' := [(a_t, .inr (6, [.ref a_things, .int (nI n_size), .int z_most])), (a_things, .inl (ka_things, 181, .inl f_things))]) [0, 1] (by decide) rfl
        have hKc := hK.sub (tys' := [(ka_things, .int)]) [0] rfl
        have hFc := va_free (wc := [(a_t, .inr (6, [.ref a_things, .int (nI n_size), .int z_most])), (a_things, .inl (ka_things, 181, .inl f_things))]) hD hS hA [0, 1] rfl
        refine va_calli (va_runV (As := [.int (nI (k1 - 1))]) (rest := []) ⟨hx, hb, hml, hown, hz⟩ (s_Open_at6 l dC dI H.size a_t a_things f_things n_size z_most ((nI (k1 - 1))) ka_things (by first | omega | assumption | exact Or.inl rfl | exact Or.inr rfl | decide)) (cwV 1 hz (zV zm_174 zm_175 zm_176 zm_177 zm_178) rfl rfl rfl (by decide +kernel) ⟨Nat.le_of_ble_eq_true rfl, Nat.le_of_ble_eq_true rfl⟩) ⟨fun a U g mk q => by obtain ⟨q0, q1, qP, qK, qD⟩ := q; exact ⟨q0, q1, qP, va_K.moved (u := U) (U := U.calling g mk a) (Vm.Alike.refl U.vm) qK, qD⟩, va_recv (q := (R_Open, F_Open, 3)) (q0 := 0) (ci := 6) hK hP rfl rfl, fun U hU hW => ⟨rfl, by rw [hU], by rw [hU]; exact hPc, va_K.moved hW.alike hKc, hDc.weaken (fun _ _ _ _ => trivial)⟩⟩ rfl rfl hl.1 rfl (lv_room (Nat.le_of_ble_eq_true rfl)) d_Open_belowLetsAndLaidBlocks_36 ⟨Nat.zero_le _, Nat.zero_le _⟩) hS (fun q _ h => hFc q h) hFc (fun r u t H1 locs ht hvm hw hB hz1 hk1 hS => ?_)
        obtain ⟨hP1, hK1, hD1⟩ := hB
        subst r
        rw [ht] at hP1
        obtain ⟨hP, hD⟩ := va_join (wr := []) (w1 := [(a_t, .inr (6, [.ref a_things, .int (nI n_size), .int z_most])), (a_things, .inl (ka_things, 181, .inl f_things))]) hP hD [0, 1] [] rfl rfl (by decide) (by decide) hk1 hFc hP1 hD1
        generalize H1 = H at hP hS ⊢
        have hP : va_P (dC, dI) vcl [(a_t, .inr (6, [.ref a_things, .int (nI n_size), .int z_most])), (a_things, .inl (ka_things, 181, .inl f_things))] H := hP
        have hD : va_D A [(a_t, .inr (6, [.ref a_things, .int (nI n_size), .int z_most])), (a_things, .inl (ka_things, 181, .inl f_things))] := hD
        have hP9 := hP.sub (ws' := [(a_t, .inr (6, [.ref a_things, .int (nI n_size), .int z_most])), (a_things, .inl (ka_things, 181, .inl f_things))]) [0, 1] rfl
        have hD9 := hD.sub (ws' := [(a_t, .inr (6, [.ref a_things, .int (nI n_size), .int z_most])), (a_things, .inl (ka_things, 181, .inl f_things))]) [0, 1] (by decide) rfl
        exact W.iret (v := (atI f_things n_size ((nI (k1 - 1))))) hx hb hr (fun t ht hW => ⟨⟨(atI f_things n_size ((nI (k1 - 1)))), (), rfl, (by exact (at_n (by omega) (by omega)).trans ((bl_e (by omega) (fun q => q.elim e17 (fun z => absurd z (Int32.not_lt.mpr e25)))).symm.trans iE)), by rw [ht]; exact hP9, va_K.moved hW.alike hK, hD9⟩, hS.F ht⟩) hS.2.2 d_Open_belowLetsAndLaidBlocks_39
      · have e25 := h3
        rw [at_n (by omega) (by omega)] at e25
        refine lv_iinc (k := 0) (v := (nI (k1 - 1) - 1)) hx hb d_Open_belowLetsAndLaidBlocks_28 hl rfl (xr_dec2 _) (by decide) rfl (fun ls hl => ?_)
        have hl : lv_has ls 2 [(1, .int (nI (k1 - 1) - 1)), (0, .ref a_t)] := hl
        refine lv_goto (tgt := 7) hx hb d_Open_belowLetsAndLaidBlocks_31 (by decide) ?_
        have hP9 := hP.sub (ws' := [(a_t, .inr (6, [.ref a_things, .int (nI n_size), .int z_most])), (a_things, .inl (ka_things, 181, .inl f_things))]) [0, 1] rfl
        have hD9 := hD.sub (ws' := [(a_t, .inr (6, [.ref a_things, .int (nI n_size), .int z_most])), (a_things, .inl (ka_things, 181, .inl f_things))]) [0, 1] (by decide) rfl
        exact ih7 ((k1 - 1)) (by show ((k1 - 1)) < k1; omega) _ _ _ ⟨by show ((k1 - 1)) ≤ 181; first | omega | assumption | exact Or.inl rfl | exact Or.inr rfl | decide, by show ((k1 - 1)) ≤ n_size; first | omega | assumption | exact Or.inl rfl | exact Or.inr rfl | decide, by show blC (stk f_things ((k1 - 1))) = blC (stk f_things n_size); exact (bl_s (by omega) (Or.inr (Int32.not_le.mp e25))).trans iE, hl, hP9, hD9, hS⟩
set_option maxHeartbeats 4000000 in
set_option maxRecDepth 100000 in
theorem s_Open_latestColumn6 (l : Launch) (dC : Nat → ClassId) (dI : Nat → Nat → Nat) (sz : Nat) (a_t : Nat) (a_things : Nat) (f_things : Nat → Int32) (n_size : Nat) (z_most : Int32) (ka_things : ClassId) (b_size : n_size ≤ 181) : Met l y_Open_latestColumn w_Open_latestColumn ({ frames := 1, cells := 0, slots := 0, locals := 21 }) (va_Pc [.ref a_t] (fun U => U.heap.size = sz ∧ va_P (dC, dI) vcl [(a_t, .inr (6, [.ref a_things, .int (nI n_size), .int z_most])), (a_things, .inl (ka_things, 181, .inl f_things))] U.heap ∧ va_K (dC, dI) vcl [(ka_things, .int)] U ∧ va_D (fun _ => True) [(a_t, .inr (6, [.ref a_things, .int (nI n_size), .int z_most])), (a_things, .inl (ka_things, 181, .inl f_things))])) (va_Qi (fun (r : Int32) (_ : Unit) => r = ltC (stk f_things n_size)) (fun _ t => va_P (dC, dI) vcl [(a_t, .inr (6, [.ref a_things, .int (nI n_size), .int z_most])), (a_things, .inl (ka_things, 181, .inl f_things))] t.heap ∧ va_K (dC, dI) vcl [(ka_things, .int)] t ∧ va_D (va_A [(a_t, .inr (6, [.ref a_things, .int (nI n_size), .int z_most])), (a_things, .inl (ka_things, 181, .inl f_things))] sz) [(a_t, .inr (6, [.ref a_things, .int (nI n_size), .int z_most])), (a_things, .inl (ka_things, 181, .inl f_things))]) (va_A [(a_t, .inr (6, [.ref a_things, .int (nI n_size), .int z_most])), (a_things, .inl (ka_things, 181, .inl f_things))] sz)) 0 0 (va_A [(a_t, .inr (6, [.ref a_things, .int (nI n_size), .int z_most])), (a_things, .inl (ka_things, 181, .inl f_things))] sz) := by
  refine Met.ofW (cc := b_Open_latestColumn) (maxL := 2) (ret := (some .int)) (by decide) rfl ?_
  intro p e s m args below meth c s₁ B hml hv
  obtain ⟨rfl, hsz, hP, hK, hD0⟩ := hv
  have hx := B.exec
  have hb := B.bytes
  have hr := B.returns
  have hts := atoms_spec (ws := w_Open_latestColumn) B.pre
  have hz : ∀ w ∈ wz, w.before _ s = true := fun w h => hts w (List.mem_cons_of_mem _ h)
  have hown : s.vm.findClass R_Open = some m.cls := findClass_of_methodNamed B.named
  have hlocks := B.notSynchronized
  subst hsz
  have hD := hD0.self (sz := s.heap.size)
  generalize hAe : va_A [(a_t, .inr (6, [.ref a_things, .int (nI n_size), .int z_most])), (a_things, .inl (ka_things, 181, .inl f_things))] s.heap.size = A at hD ⊢
  have hA : ∀ q : Nat, s.heap.size ≤ q → A q := fun q h => by rw [← hAe]; exact Or.inr h
  have hS : va_S A s.heap s.heap [] := va_S.rf
  have hP : va_P (dC, dI) vcl [(a_t, .inr (6, [.ref a_things, .int (nI n_size), .int z_most])), (a_things, .inl (ka_things, 181, .inl f_things))] s.heap := hP
  have hl := lv_entry ([.ref a_t]) (n := 2) (Nat.le_of_ble_eq_true rfl)
  rw [lg_entry_eq]
  generalize (lg_sl ([.ref a_t]) ++ List.replicate (2 - (lg_sl ([.ref a_t])).length) Slot.unset).toArray = ls at hl ⊢
  have hl : lv_has ls 2 [(0, .ref a_t)] := hl
  refine lv_aload_n hx hb d_Open_latestColumn_0 rfl (lv_at hl 0 rfl) ?_
  refine va_get (D := (dC, dI)) (ci := 6) (v := .int (nI n_size)) (C := R_Open) (T := F_Open) (N := 3) hx hb hz zu_Open hown hK hP 0 rfl rfl 1 (by decide) (hz (.fieldLink R_Open 15 "LayoutFront$Open" "size" "I") zm_171) (fun _ h9 => h9) rfl d_Open_latestColumn_1 ?_
  refine lv_iconst (v := 1) hx hb d_Open_latestColumn_4 (by decide) ?_
  refine xr_isub (v := (nI n_size - 1)) hx hb d_Open_latestColumn_5 rfl ?_
  refine lv_istore_n hx hb d_Open_latestColumn_6 rfl hl (by decide) rfl (fun ls hl => ?_)
  have hl : lv_has ls 2 [(1, .int (nI n_size - 1)), (0, .ref a_t)] := hl
  refine xr_loop (α := (Nat)) (fun a => (fun (k1 : Nat) => k1) a) (fun a H locs ls => (fun (k1 : Nat) => (k1 ≤ 181) ∧ (k1 ≤ n_size) ∧ (ltC (stk f_things k1) = ltC (stk f_things n_size)) ∧ lv_has ls 2 [(1, .int (nI k1 - 1)), (0, .ref a_t)] ∧ va_P (dC, dI) vcl [(a_t, .inr (6, [.ref a_things, .int (nI n_size), .int z_most])), (a_things, .inl (ka_things, 181, .inl f_things))] H ∧ va_D A [(a_t, .inr (6, [.ref a_things, .int (nI n_size), .int z_most])), (a_things, .inl (ka_things, 181, .inl f_things))] ∧ va_S A s.heap H locs) a) (fun a ih7 H locs ls hI => ?_) (n_size) _ _ _ ⟨by show n_size ≤ 181; first | omega | assumption | exact Or.inl rfl | exact Or.inr rfl | decide, by show n_size ≤ n_size; first | omega | assumption | exact Or.inl rfl | exact Or.inr rfl | decide, by show ltC (stk f_things n_size) = ltC (stk f_things n_size); rfl, hl, hP, hD, hS⟩
  generalize a = k1 at ih7 hI
  obtain ⟨bl0, bl1, bl2, hl, hP, hD, hS⟩ := hI
  have bl0 : k1 ≤ 181 := bl0
  have bl1 : k1 ≤ n_size := bl1
  have bl2 : ltC (stk f_things k1) = ltC (stk f_things n_size) := bl2
  have iE := bl2
  have hl : lv_has ls 2 [(1, .int (nI k1 - 1)), (0, .ref a_t)] := hl
  have hP : va_P (dC, dI) vcl [(a_t, .inr (6, [.ref a_things, .int (nI n_size), .int z_most])), (a_things, .inl (ka_things, 181, .inl f_things))] H := hP
  have hD : va_D A [(a_t, .inr (6, [.ref a_things, .int (nI n_size), .int z_most])), (a_things, .inl (ka_things, 181, .inl f_things))] := hD
  refine lv_iload_n hx hb d_Open_latestColumn_7 rfl (lv_at hl 0 rfl) ?_
  refine lv_if_lt (tgt := 31) hx hb d_Open_latestColumn_8 (by decide) (fun h1 => ?_) (fun h1 => ?_)
  · have h1 : k1 = 0 := (xr_pred_lt (by omega)).mp h1
    refine lv_iconst (v := 0) hx hb d_Open_latestColumn_31 (by decide) ?_
    have hP9 := hP.sub (ws' := [(a_t, .inr (6, [.ref a_things, .int (nI n_size), .int z_most])), (a_things, .inl (ka_things, 181, .inl f_things))]) [0, 1] rfl
    have hD9 := hD.sub (ws' := [(a_t, .inr (6, [.ref a_things, .int (nI n_size), .int z_most])), (a_things, .inl (ka_things, 181, .inl f_things))]) [0, 1] (by decide) rfl
    exact W.iret (v := 0) hx hb hr (fun t ht hW => ⟨⟨0, (), rfl, (by have z9 : k1 = 0 := (by omega); rw [← iE, z9]; rfl), by rw [ht]; exact hP9, va_K.moved hW.alike hK, hD9⟩, hS.F ht⟩) hS.2.2 d_Open_latestColumn_32
  · have h1 : ¬ k1 = 0 := fun q => h1 ((xr_pred_lt (by omega)).mpr q)
    have e_h1 : nI k1 - 1 = nI (k1 - 1) := pk_sub (a := k1) (b := 1) (by omega)
    have hl : lv_has ls 2 [(1, .int (nI (k1 - 1))), (0, .ref a_t)] := Eq.mp (congrArg (lv_has ls 2) (by rw [e_h1])) hl
    refine lv_aload_n hx hb d_Open_latestColumn_11 rfl (lv_at hl 1 rfl) ?_
    refine lv_iload_n hx hb d_Open_latestColumn_12 rfl (lv_at hl 0 rfl) ?_
    have hPc := hP.sub (ws' := [(a_t, .inr (6, [.ref a_things, .int (nI n_size), .int z_most])), (a_things, .inl (ka_things, 181, .inl f_things))]) [0, 1] rfl
    have hDc := hD.sub (ws' := [(a_t, .inr (6, [.ref a_things, .int (nI n_size), .int z_most])), (a_things, .inl (ka_things, 181, .inl f_things))]) [0, 1] (by decide) rfl
    have hKc := hK.sub (tys' := [(ka_things, .int)]) [0] rfl
    have hFc := va_free (wc := [(a_t, .inr (6, [.ref a_things, .int (nI n_size), .int z_most])), (a_things, .inl (ka_things, 181, .inl f_things))]) hD hS hA [0, 1] rfl
    refine va_calli (va_runV (As := [.int (nI (k1 - 1))]) (rest := []) ⟨hx, hb, hml, hown, hz⟩ (s_Open_at6 l dC dI H.size a_t a_things f_things n_size z_most ((nI (k1 - 1))) ka_things (by first | omega | assumption | exact Or.inl rfl | exact Or.inr rfl | decide)) (cwV 1 hz (zV zm_174 zm_175 zm_176 zm_177 zm_178) rfl rfl rfl (by decide +kernel) ⟨Nat.le_of_ble_eq_true rfl, Nat.le_of_ble_eq_true rfl⟩) ⟨fun a U g mk q => by obtain ⟨q0, q1, qP, qK, qD⟩ := q; exact ⟨q0, q1, qP, va_K.moved (u := U) (U := U.calling g mk a) (Vm.Alike.refl U.vm) qK, qD⟩, va_recv (q := (R_Open, F_Open, 3)) (q0 := 0) (ci := 6) hK hP rfl rfl, fun U hU hW => ⟨rfl, by rw [hU], by rw [hU]; exact hPc, va_K.moved hW.alike hKc, hDc.weaken (fun _ _ _ _ => trivial)⟩⟩ rfl rfl hl.1 rfl (lv_room (Nat.le_of_ble_eq_true rfl)) d_Open_latestColumn_13 ⟨Nat.zero_le _, Nat.zero_le _⟩) hS (fun q _ h => hFc q h) hFc (fun r u t H1 locs ht hvm hw hB hz1 hk1 hS => ?_)
    obtain ⟨hP1, hK1, hD1⟩ := hB
    subst r
    rw [ht] at hP1
    obtain ⟨hP, hD⟩ := va_join (wr := []) (w1 := [(a_t, .inr (6, [.ref a_things, .int (nI n_size), .int z_most])), (a_things, .inl (ka_things, 181, .inl f_things))]) hP hD [0, 1] [] rfl rfl (by decide) (by decide) hk1 hFc hP1 hD1
    generalize H1 = H at hP hS ⊢
    have hP : va_P (dC, dI) vcl [(a_t, .inr (6, [.ref a_things, .int (nI n_size), .int z_most])), (a_things, .inl (ka_things, 181, .inl f_things))] H := hP
    have hD : va_D A [(a_t, .inr (6, [.ref a_things, .int (nI n_size), .int z_most])), (a_things, .inl (ka_things, 181, .inl f_things))] := hD
    refine lv_if_lt (tgt := 25) hx hb d_Open_latestColumn_16 (by decide) (fun h2 => ?_) (fun h2 => ?_)
    · have e16 := h2
      rw [at_n (by omega) (by omega)] at e16
      refine lv_iinc (k := 0) (v := (nI (k1 - 1) - 1)) hx hb d_Open_latestColumn_25 hl rfl (xr_dec2 _) (by decide) rfl (fun ls hl => ?_)
      have hl : lv_has ls 2 [(1, .int (nI (k1 - 1) - 1)), (0, .ref a_t)] := hl
      refine lv_goto (tgt := 7) hx hb d_Open_latestColumn_28 (by decide) ?_
      have hP9 := hP.sub (ws' := [(a_t, .inr (6, [.ref a_things, .int (nI n_size), .int z_most])), (a_things, .inl (ka_things, 181, .inl f_things))]) [0, 1] rfl
      have hD9 := hD.sub (ws' := [(a_t, .inr (6, [.ref a_things, .int (nI n_size), .int z_most])), (a_things, .inl (ka_things, 181, .inl f_things))]) [0, 1] (by decide) rfl
      exact ih7 ((k1 - 1)) (by show ((k1 - 1)) < k1; omega) _ _ _ ⟨by show ((k1 - 1)) ≤ 181; first | omega | assumption | exact Or.inl rfl | exact Or.inr rfl | decide, by show ((k1 - 1)) ≤ n_size; first | omega | assumption | exact Or.inl rfl | exact Or.inr rfl | decide, by show ltC (stk f_things ((k1 - 1))) = ltC (stk f_things n_size); exact (ltc_s (by omega) (Int32.not_le.mpr e16)).trans iE, hl, hP9, hD9, hS⟩
    · have e16 := h2
      rw [at_n (by omega) (by omega)] at e16
      refine lv_aload_n hx hb d_Open_latestColumn_19 rfl (lv_at hl 1 rfl) ?_
      refine lv_iload_n hx hb d_Open_latestColumn_20 rfl (lv_at hl 0 rfl) ?_
      have hPc := hP.sub (ws' := [(a_t, .inr (6, [.ref a_things, .int (nI n_size), .int z_most])), (a_things, .inl (ka_things, 181, .inl f_things))]) [0, 1] rfl
      have hDc := hD.sub (ws' := [(a_t, .inr (6, [.ref a_things, .int (nI n_size), .int z_most])), (a_things, .inl (ka_things, 181, .inl f_things))]) [0, 1] (by decide) rfl
      have hKc := hK.sub (tys' := [(ka_things, .int)]) [0] rfl
      have hFc := va_free (wc := [(a_t, .inr (6, [.ref a_things, .int (nI n_size), .int z_most])), (a_things, .inl (ka_things, 181, .inl f_things))]) hD hS hA [0, 1] rfl
      refine va_calli (va_runV (As := [.int (nI (k1 - 1))]) (rest := []) ⟨hx, hb, hml, hown, hz⟩ (s_Open_at6 l dC dI H.size a_t a_things f_things n_size z_most ((nI (k1 - 1))) ka_things (by first | omega | assumption | exact Or.inl rfl | exact Or.inr rfl | decide)) (cwV 1 hz (zV zm_174 zm_175 zm_176 zm_177 zm_178) rfl rfl rfl (by decide +kernel) ⟨Nat.le_of_ble_eq_true rfl, Nat.le_of_ble_eq_true rfl⟩) ⟨fun a U g mk q => by obtain ⟨q0, q1, qP, qK, qD⟩ := q; exact ⟨q0, q1, qP, va_K.moved (u := U) (U := U.calling g mk a) (Vm.Alike.refl U.vm) qK, qD⟩, va_recv (q := (R_Open, F_Open, 3)) (q0 := 0) (ci := 6) hK hP rfl rfl, fun U hU hW => ⟨rfl, by rw [hU], by rw [hU]; exact hPc, va_K.moved hW.alike hKc, hDc.weaken (fun _ _ _ _ => trivial)⟩⟩ rfl rfl hl.1 rfl (lv_room (Nat.le_of_ble_eq_true rfl)) d_Open_latestColumn_21 ⟨Nat.zero_le _, Nat.zero_le _⟩) hS (fun q _ h => hFc q h) hFc (fun r u t H1 locs ht hvm hw hB hz1 hk1 hS => ?_)
      obtain ⟨hP1, hK1, hD1⟩ := hB
      subst r
      rw [ht] at hP1
      obtain ⟨hP, hD⟩ := va_join (wr := []) (w1 := [(a_t, .inr (6, [.ref a_things, .int (nI n_size), .int z_most])), (a_things, .inl (ka_things, 181, .inl f_things))]) hP hD [0, 1] [] rfl rfl (by decide) (by decide) hk1 hFc hP1 hD1
      generalize H1 = H at hP hS ⊢
      have hP : va_P (dC, dI) vcl [(a_t, .inr (6, [.ref a_things, .int (nI n_size), .int z_most])), (a_things, .inl (ka_things, 181, .inl f_things))] H := hP
      have hD : va_D A [(a_t, .inr (6, [.ref a_things, .int (nI n_size), .int z_most])), (a_things, .inl (ka_things, 181, .inl f_things))] := hD
      have hP9 := hP.sub (ws' := [(a_t, .inr (6, [.ref a_things, .int (nI n_size), .int z_most])), (a_things, .inl (ka_things, 181, .inl f_things))]) [0, 1] rfl
      have hD9 := hD.sub (ws' := [(a_t, .inr (6, [.ref a_things, .int (nI n_size), .int z_most])), (a_things, .inl (ka_things, 181, .inl f_things))]) [0, 1] (by decide) rfl
      exact W.iret (v := (atI f_things n_size ((nI (k1 - 1))))) hx hb hr (fun t ht hW => ⟨⟨(atI f_things n_size ((nI (k1 - 1)))), (), rfl, (by exact (at_n (by omega) (by omega)).trans ((ltc_e (by omega) (Int32.not_lt.mp e16)).symm.trans iE)), by rw [ht]; exact hP9, va_K.moved hW.alike hK, hD9⟩, hS.F ht⟩) hS.2.2 d_Open_latestColumn_24
set_option maxHeartbeats 4000000 in
set_option maxRecDepth 100000 in
theorem s_Open_dropLets6 (l : Launch) (dC : Nat → ClassId) (dI : Nat → Nat → Nat) (sz : Nat) (a_t : Nat) (a_things : Nat) (f_things : Nat → Int32) (n_size : Nat) (z_most : Int32) (ka_things : ClassId) (b_size : n_size ≤ 181) : Met l y_Open_dropLets w_Open_dropLets ({ frames := 1, cells := 0, slots := 0, locals := 21 }) (va_Pc [.ref a_t] (fun U => U.heap.size = sz ∧ va_P (dC, dI) vcl [(a_t, .inr (6, [.ref a_things, .int (nI n_size), .int z_most])), (a_things, .inl (ka_things, 181, .inl f_things))] U.heap ∧ va_K (dC, dI) vcl [(ka_things, .int)] U ∧ va_D (fun _ => True) [(a_t, .inr (6, [.ref a_things, .int (nI n_size), .int z_most])), (a_things, .inl (ka_things, 181, .inl f_things))])) (va_Qv (fun (_ : Unit) => True) (fun _ t => ∃ (w_n_size : Nat), (w_n_size ≤ 181) ∧ (w_n_size = drp f_things n_size) ∧ va_P (dC, dI) vcl [(a_t, .inr (6, [.ref a_things, .int (nI w_n_size), .int z_most])), (a_things, .inl (ka_things, 181, .inl f_things))] t.heap ∧ va_K (dC, dI) vcl [(ka_things, .int)] t ∧ va_D (va_A [(a_t, .inr (6, [.ref a_things, .int (nI n_size), .int z_most])), (a_things, .inl (ka_things, 181, .inl f_things))] sz) [(a_t, .inr (6, [.ref a_things, .int (nI w_n_size), .int z_most])), (a_things, .inl (ka_things, 181, .inl f_things))]) (va_A [(a_t, .inr (6, [.ref a_things, .int (nI n_size), .int z_most])), (a_things, .inl (ka_things, 181, .inl f_things))] sz)) 0 0 (va_A [(a_t, .inr (6, [.ref a_things, .int (nI n_size), .int z_most])), (a_things, .inl (ka_things, 181, .inl f_things))] sz) := by
  refine Met.ofW (cc := b_Open_dropLets) (maxL := 1) (ret := none) (by decide) rfl ?_
  intro p e s m args below meth c s₁ B hml hv
  obtain ⟨rfl, hsz, hP, hK, hD0⟩ := hv
  have hx := B.exec
  have hb := B.bytes
  have hr := B.returns
  have hts := atoms_spec (ws := w_Open_dropLets) B.pre
  have hz : ∀ w ∈ wz, w.before _ s = true := fun w h => hts w (List.mem_cons_of_mem _ h)
  have hown : s.vm.findClass R_Open = some m.cls := findClass_of_methodNamed B.named
  have hlocks := B.notSynchronized
  subst hsz
  have hD := hD0.self (sz := s.heap.size)
  generalize hAe : va_A [(a_t, .inr (6, [.ref a_things, .int (nI n_size), .int z_most])), (a_things, .inl (ka_things, 181, .inl f_things))] s.heap.size = A at hD ⊢
  have hA : ∀ q : Nat, s.heap.size ≤ q → A q := fun q h => by rw [← hAe]; exact Or.inr h
  have hS : va_S A s.heap s.heap [] := va_S.rf
  have hP : va_P (dC, dI) vcl [(a_t, .inr (6, [.ref a_things, .int (nI n_size), .int z_most])), (a_things, .inl (ka_things, 181, .inl f_things))] s.heap := hP
  have hl := lv_entry ([.ref a_t]) (n := 1) (Nat.le_of_ble_eq_true rfl)
  rw [lg_entry_eq]
  generalize (lg_sl ([.ref a_t]) ++ List.replicate (1 - (lg_sl ([.ref a_t])).length) Slot.unset).toArray = ls at hl ⊢
  have hl : lv_has ls 1 [(0, .ref a_t)] := hl
  refine xr_loop (α := (Nat)) (fun a => (fun (v_a_t_1 : Nat) => v_a_t_1) a) (fun a H locs ls => (fun (v_a_t_1 : Nat) => (v_a_t_1 ≤ 181) ∧ (v_a_t_1 ≤ n_size) ∧ (drp f_things v_a_t_1 = drp f_things n_size) ∧ lv_has ls 1 [(0, .ref a_t)] ∧ va_P (dC, dI) vcl [(a_t, .inr (6, [.ref a_things, .int (nI v_a_t_1), .int z_most])), (a_things, .inl (ka_things, 181, .inl f_things))] H ∧ va_D A [(a_t, .inr (6, [.ref a_things, .int (nI v_a_t_1), .int z_most])), (a_things, .inl (ka_things, 181, .inl f_things))] ∧ va_S A s.heap H locs) a) (fun a ih0 H locs ls hI => ?_) (n_size) _ _ _ ⟨by show n_size ≤ 181; first | omega | assumption | exact Or.inl rfl | exact Or.inr rfl | decide, by show n_size ≤ n_size; first | omega | assumption | exact Or.inl rfl | exact Or.inr rfl | decide, by show drp f_things n_size = drp f_things n_size; rfl, hl, hP, hD, hS⟩
  generalize a = v_a_t_1 at ih0 hI
  obtain ⟨bl0, bl1, bl2, hl, hP, hD, hS⟩ := hI
  have bl0 : v_a_t_1 ≤ 181 := bl0
  have bl1 : v_a_t_1 ≤ n_size := bl1
  have bl2 : drp f_things v_a_t_1 = drp f_things n_size := bl2
  have iE := bl2
  have hl : lv_has ls 1 [(0, .ref a_t)] := hl
  have hP : va_P (dC, dI) vcl [(a_t, .inr (6, [.ref a_things, .int (nI v_a_t_1), .int z_most])), (a_things, .inl (ka_things, 181, .inl f_things))] H := hP
  have hD : va_D A [(a_t, .inr (6, [.ref a_things, .int (nI v_a_t_1), .int z_most])), (a_things, .inl (ka_things, 181, .inl f_things))] := hD
  refine lv_aload_n hx hb d_Open_dropLets_0 rfl (lv_at hl 0 rfl) ?_
  refine va_get (D := (dC, dI)) (ci := 6) (v := .int (nI v_a_t_1)) (C := R_Open) (T := F_Open) (N := 3) hx hb hz zu_Open hown hK hP 0 rfl rfl 1 (by decide) (hz (.fieldLink R_Open 15 "LayoutFront$Open" "size" "I") zm_171) (fun _ h9 => h9) rfl d_Open_dropLets_1 ?_
  refine lv_if_le (tgt := 34) hx hb d_Open_dropLets_4 (by decide) (fun h1 => ?_) (fun h1 => ?_)
  · have h1 : v_a_t_1 ≤ 0 := (nI_leI (a := v_a_t_1) (b := 0) (by omega) (by omega)).mp h1
    have hP9 := hP.sub (ws' := [(a_t, .inr (6, [.ref a_things, .int (nI v_a_t_1), .int z_most])), (a_things, .inl (ka_things, 181, .inl f_things))]) [0, 1] rfl
    have hD9 := hD.sub (ws' := [(a_t, .inr (6, [.ref a_things, .int (nI v_a_t_1), .int z_most])), (a_things, .inl (ka_things, 181, .inl f_things))]) [0, 1] (by decide) rfl
    exact W.vret hx hb hr (fun t ht hW => ⟨⟨(), rfl, trivial, v_a_t_1, by first | omega | assumption | exact Or.inl rfl | exact Or.inr rfl | decide, by exact (dr_e (Or.inl (by omega))).symm.trans iE, by rw [ht]; exact hP9, va_K.moved hW.alike hK, hD9⟩, hS.F ht⟩) hS.2.2 d_Open_dropLets_34
  · have h1 : ¬ v_a_t_1 ≤ 0 := fun q => h1 ((nI_leI (a := v_a_t_1) (b := 0) (by omega) (by omega)).mpr q)
    refine lv_aload_n hx hb d_Open_dropLets_7 rfl (lv_at hl 0 rfl) ?_
    refine lv_aload_n hx hb d_Open_dropLets_8 rfl (lv_at hl 0 rfl) ?_
    refine va_get (D := (dC, dI)) (ci := 6) (v := .int (nI v_a_t_1)) (C := R_Open) (T := F_Open) (N := 3) hx hb hz zu_Open hown hK hP 0 rfl rfl 1 (by decide) (hz (.fieldLink R_Open 15 "LayoutFront$Open" "size" "I") zm_171) (fun _ h9 => h9) rfl d_Open_dropLets_9 ?_
    refine lv_iconst (v := 1) hx hb d_Open_dropLets_12 (by decide) ?_
    refine xr_isub (v := (nI (v_a_t_1 - 1))) hx hb d_Open_dropLets_13 (pk_sub (a := v_a_t_1) (b := 1) (by omega)) ?_
    have hPc := hP.sub (ws' := [(a_t, .inr (6, [.ref a_things, .int (nI v_a_t_1), .int z_most])), (a_things, .inl (ka_things, 181, .inl f_things))]) [0, 1] rfl
    have hDc := hD.sub (ws' := [(a_t, .inr (6, [.ref a_things, .int (nI v_a_t_1), .int z_most])), (a_things, .inl (ka_things, 181, .inl f_things))]) [0, 1] (by decide) rfl
    have hKc := hK.sub (tys' := [(ka_things, .int)]) [0] rfl
    have hFc := va_free (wc := [(a_t, .inr (6, [.ref a_things, .int (nI v_a_t_1), .int z_most])), (a_things, .inl (ka_things, 181, .inl f_things))]) hD hS hA [0, 1] rfl
    refine va_calli (va_runV (As := [.int (nI (v_a_t_1 - 1))]) (rest := []) ⟨hx, hb, hml, hown, hz⟩ (s_Open_at6 l dC dI H.size a_t a_things f_things v_a_t_1 z_most ((nI (v_a_t_1 - 1))) ka_things (by first | omega | assumption | exact Or.inl rfl | exact Or.inr rfl | decide)) (cwV 1 hz (zV zm_174 zm_175 zm_176 zm_177 zm_178) rfl rfl rfl (by decide +kernel) ⟨Nat.le_of_ble_eq_true rfl, Nat.le_of_ble_eq_true rfl⟩) ⟨fun a U g mk q => by obtain ⟨q0, q1, qP, qK, qD⟩ := q; exact ⟨q0, q1, qP, va_K.moved (u := U) (U := U.calling g mk a) (Vm.Alike.refl U.vm) qK, qD⟩, va_recv (q := (R_Open, F_Open, 3)) (q0 := 0) (ci := 6) hK hP rfl rfl, fun U hU hW => ⟨rfl, by rw [hU], by rw [hU]; exact hPc, va_K.moved hW.alike hKc, hDc.weaken (fun _ _ _ _ => trivial)⟩⟩ rfl rfl hl.1 rfl (lv_room (Nat.le_of_ble_eq_true rfl)) d_Open_dropLets_14 ⟨Nat.zero_le _, Nat.zero_le _⟩) hS (fun q _ h => hFc q h) hFc (fun r u t H1 locs ht hvm hw hB hz1 hk1 hS => ?_)
    obtain ⟨hP1, hK1, hD1⟩ := hB
    subst r
    rw [ht] at hP1
    obtain ⟨hP, hD⟩ := va_join (wr := []) (w1 := [(a_t, .inr (6, [.ref a_things, .int (nI v_a_t_1), .int z_most])), (a_things, .inl (ka_things, 181, .inl f_things))]) hP hD [0, 1] [] rfl rfl (by decide) (by decide) hk1 hFc hP1 hD1
    generalize H1 = H at hP hS ⊢
    have hP : va_P (dC, dI) vcl [(a_t, .inr (6, [.ref a_things, .int (nI v_a_t_1), .int z_most])), (a_things, .inl (ka_things, 181, .inl f_things))] H := hP
    have hD : va_D A [(a_t, .inr (6, [.ref a_things, .int (nI v_a_t_1), .int z_most])), (a_things, .inl (ka_things, 181, .inl f_things))] := hD
    refine lv_iconst (v := (-1)) hx hb d_Open_dropLets_17 (by decide) ?_
    refine lv_icmp_ne (tgt := 34) hx hb d_Open_dropLets_18 (by decide) (fun h2 => ?_) (fun h2 => ?_)
    · have e18 := h2
      rw [at_n (by omega) (by omega)] at e18
      have hP9 := hP.sub (ws' := [(a_t, .inr (6, [.ref a_things, .int (nI v_a_t_1), .int z_most])), (a_things, .inl (ka_things, 181, .inl f_things))]) [0, 1] rfl
      have hD9 := hD.sub (ws' := [(a_t, .inr (6, [.ref a_things, .int (nI v_a_t_1), .int z_most])), (a_things, .inl (ka_things, 181, .inl f_things))]) [0, 1] (by decide) rfl
      exact W.vret hx hb hr (fun t ht hW => ⟨⟨(), rfl, trivial, v_a_t_1, by first | omega | assumption | exact Or.inl rfl | exact Or.inr rfl | decide, by exact (dr_e (Or.inr e18)).symm.trans iE, by rw [ht]; exact hP9, va_K.moved hW.alike hK, hD9⟩, hS.F ht⟩) hS.2.2 d_Open_dropLets_34
    · have e18 := h2
      rw [at_n (by omega) (by omega)] at e18
      refine lv_aload_n hx hb d_Open_dropLets_21 rfl (lv_at hl 0 rfl) ?_
      refine lv_dup hx hb d_Open_dropLets_22 rfl ?_
      refine va_get (D := (dC, dI)) (ci := 6) (v := .int (nI v_a_t_1)) (C := R_Open) (T := F_Open) (N := 3) hx hb hz zu_Open hown hK hP 0 rfl rfl 1 (by decide) (hz (.fieldLink R_Open 15 "LayoutFront$Open" "size" "I") zm_171) (fun _ h9 => h9) rfl d_Open_dropLets_23 ?_
      refine lv_iconst (v := 1) hx hb d_Open_dropLets_26 (by decide) ?_
      refine xr_isub (v := (nI (v_a_t_1 - 1))) hx hb d_Open_dropLets_27 (pk_sub (a := v_a_t_1) (b := 1) (by omega)) ?_
      refine va_put (D := (dC, dI)) (ci := 6) (v := .int (nI (v_a_t_1 - 1))) (ty := .int) (C := R_Open) (T := F_Open) (N := 3) hx hb hz zu_Open t_Open t_Open_ok n_Open hown hK hP hD hS 0 rfl rfl 1 (by decide) (hz (.fieldLink R_Open 15 "LayoutFront$Open" "size" "I") zm_171) (fun _ h9 => h9) rfl (by decide +kernel) rfl rfl (Nat.le_of_ble_eq_true rfl) d_Open_dropLets_28 (fun H locs hP hD hS => ?_)
      have hP : va_P (dC, dI) vcl [(a_t, .inr (6, [.ref a_things, .int (nI (v_a_t_1 - 1)), .int z_most])), (a_things, .inl (ka_things, 181, .inl f_things))] H := hP
      have hD : va_D A [(a_t, .inr (6, [.ref a_things, .int (nI (v_a_t_1 - 1)), .int z_most])), (a_things, .inl (ka_things, 181, .inl f_things))] := hD
      refine lv_goto (tgt := 0) hx hb d_Open_dropLets_31 (by decide) ?_
      have hP9 := hP.sub (ws' := [(a_t, .inr (6, [.ref a_things, .int (nI (v_a_t_1 - 1)), .int z_most])), (a_things, .inl (ka_things, 181, .inl f_things))]) [0, 1] rfl
      have hD9 := hD.sub (ws' := [(a_t, .inr (6, [.ref a_things, .int (nI (v_a_t_1 - 1)), .int z_most])), (a_things, .inl (ka_things, 181, .inl f_things))]) [0, 1] (by decide) rfl
      exact ih0 ((v_a_t_1 - 1)) (by show ((v_a_t_1 - 1)) < v_a_t_1; omega) _ _ _ ⟨by show ((v_a_t_1 - 1)) ≤ 181; first | omega | assumption | exact Or.inl rfl | exact Or.inr rfl | decide, by show ((v_a_t_1 - 1)) ≤ n_size; first | omega | assumption | exact Or.inl rfl | exact Or.inr rfl | decide, by show drp f_things ((v_a_t_1 - 1)) = drp f_things n_size; exact (dr_s (by omega) e18).trans iE, hl, hP9, hD9, hS⟩
