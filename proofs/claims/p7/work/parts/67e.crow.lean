set_option maxHeartbeats 4000000 in
set_option maxRecDepth 100000 in
theorem s_Row_clear7 (l : Launch) (dC : Nat → ClassId) (dI : Nat → Nat → Nat) (sz : Nat) (a_t : Nat) (a_parts : Nat) (a_firsts : Nat) (a_lasts : Nat) (n_size : Nat) (z_operates : Int32) (z_lacksOperand : Int32) (b_size : n_size ≤ 90) : Met l y_Row_clear w_Row_clear ({ frames := 0, cells := 0, slots := 0, locals := 0 }) (va_Pc [.ref a_t] (fun U => U.heap.size = sz ∧ va_P (dC, dI) vcl [(a_t, .inr (8, [.ref a_parts, .ref a_firsts, .ref a_lasts, .int (nI n_size), .int z_operates, .int z_lacksOperand]))] U.heap ∧ va_K (dC, dI) vcl [] U ∧ va_D (fun _ => True) [(a_t, .inr (8, [.ref a_parts, .ref a_firsts, .ref a_lasts, .int (nI n_size), .int z_operates, .int z_lacksOperand]))])) (va_Qv (fun (_ : Unit) => True) (fun _ t => ∃ (w_n_size : Nat) (w_z_operates : Int32) (w_z_lacksOperand : Int32), (w_n_size ≤ 90) ∧ (w_n_size = 0) ∧ (w_z_operates = 0) ∧ (w_z_lacksOperand = 0) ∧ va_P (dC, dI) vcl [(a_t, .inr (8, [.ref a_parts, .ref a_firsts, .ref a_lasts, .int (nI w_n_size), .int w_z_operates, .int w_z_lacksOperand]))] t.heap ∧ va_K (dC, dI) vcl [] t ∧ va_D (va_A [(a_t, .inr (8, [.ref a_parts, .ref a_firsts, .ref a_lasts, .int (nI n_size), .int z_operates, .int z_lacksOperand]))] sz) [(a_t, .inr (8, [.ref a_parts, .ref a_firsts, .ref a_lasts, .int (nI w_n_size), .int w_z_operates, .int w_z_lacksOperand]))]) (va_A [(a_t, .inr (8, [.ref a_parts, .ref a_firsts, .ref a_lasts, .int (nI n_size), .int z_operates, .int z_lacksOperand]))] sz)) 0 0 (va_A [(a_t, .inr (8, [.ref a_parts, .ref a_firsts, .ref a_lasts, .int (nI n_size), .int z_operates, .int z_lacksOperand]))] sz) := by
  refine Met.ofW (cc := b_Row_clear) (maxL := 1) (ret := none) (by decide) rfl ?_
  intro p e s m args below meth c s₁ B hml hv
  obtain ⟨rfl, hsz, hP, hK, hD0⟩ := hv
  have hx := B.exec
  have hb := B.bytes
  have hr := B.returns
  have hts := atoms_spec (ws := w_Row_clear) B.pre
  have hz : ∀ w ∈ wz, w.before _ s = true := fun w h => hts w (List.mem_cons_of_mem _ h)
  have hown : s.vm.findClass R_Row = some m.cls := findClass_of_methodNamed B.named
  have hlocks := B.notSynchronized
  subst hsz
  have hD := hD0.self (sz := s.heap.size)
  generalize hAe : va_A [(a_t, .inr (8, [.ref a_parts, .ref a_firsts, .ref a_lasts, .int (nI n_size), .int z_operates, .int z_lacksOperand]))] s.heap.size = A at hD ⊢
  have hA : ∀ q : Nat, s.heap.size ≤ q → A q := fun q h => by rw [← hAe]; exact Or.inr h
  have hS : va_S A s.heap s.heap [] := va_S.rf
  have hP : va_P (dC, dI) vcl [(a_t, .inr (8, [.ref a_parts, .ref a_firsts, .ref a_lasts, .int (nI n_size), .int z_operates, .int z_lacksOperand]))] s.heap := hP
  have hl := lv_entry ([.ref a_t]) (n := 1) (Nat.le_of_ble_eq_true rfl)
  rw [lg_entry_eq]
  generalize (lg_sl ([.ref a_t]) ++ List.replicate (1 - (lg_sl ([.ref a_t])).length) Slot.unset).toArray = ls at hl ⊢
  have hl : lv_has ls 1 [(0, .ref a_t)] := hl
  refine lv_aload_n hx hb d_Row_clear_0 rfl (lv_at hl 0 rfl) ?_
  refine lv_iconst (v := 0) hx hb d_Row_clear_1 (by decide) ?_
  refine va_put (D := (dC, dI)) (ci := 8) (v := .int 0) (ty := .int) (C := R_Row) (T := F_Row) (N := 6) hx hb hz zu_Row t_Row t_Row_ok n_Row hown hK hP hD hS 0 rfl rfl 3 (by decide) (hz (.fieldLink R_Row 21 "LayoutFront$Row" "size" "I") zm_312) (fun _ h9 => h9) rfl (by decide +kernel) (by decide +kernel) rfl (Nat.le_of_ble_eq_true rfl) d_Row_clear_2 (fun H locs hP hD hS => ?_)
  have hP : va_P (dC, dI) vcl [(a_t, .inr (8, [.ref a_parts, .ref a_firsts, .ref a_lasts, .int 0, .int z_operates, .int z_lacksOperand]))] H := hP
  have hD : va_D A [(a_t, .inr (8, [.ref a_parts, .ref a_firsts, .ref a_lasts, .int 0, .int z_operates, .int z_lacksOperand]))] := hD
  refine lv_aload_n hx hb d_Row_clear_5 rfl (lv_at hl 0 rfl) ?_
  refine lv_iconst (v := 0) hx hb d_Row_clear_6 (by decide) ?_
  refine va_put (D := (dC, dI)) (ci := 8) (v := .int 0) (ty := .boolean) (C := R_Row) (T := F_Row) (N := 6) hx hb hz zu_Row t_Row t_Row_ok n_Row hown hK hP hD hS 0 rfl rfl 4 (by decide) (hz (.fieldLink R_Row 25 "LayoutFront$Row" "operates" "Z") zm_313) (fun _ h9 => h9) rfl (by decide +kernel) (by decide +kernel) rfl (Nat.le_of_ble_eq_true rfl) d_Row_clear_7 (fun H locs hP hD hS => ?_)
  have hP : va_P (dC, dI) vcl [(a_t, .inr (8, [.ref a_parts, .ref a_firsts, .ref a_lasts, .int 0, .int 0, .int z_lacksOperand]))] H := hP
  have hD : va_D A [(a_t, .inr (8, [.ref a_parts, .ref a_firsts, .ref a_lasts, .int 0, .int 0, .int z_lacksOperand]))] := hD
  refine lv_aload_n hx hb d_Row_clear_10 rfl (lv_at hl 0 rfl) ?_
  refine lv_iconst (v := 0) hx hb d_Row_clear_11 (by decide) ?_
  refine va_put (D := (dC, dI)) (ci := 8) (v := .int 0) (ty := .boolean) (C := R_Row) (T := F_Row) (N := 6) hx hb hz zu_Row t_Row t_Row_ok n_Row hown hK hP hD hS 0 rfl rfl 5 (by decide) (hz (.fieldLink R_Row 29 "LayoutFront$Row" "lacksOperand" "Z") zm_314) (fun _ h9 => h9) rfl (by decide +kernel) (by decide +kernel) rfl (Nat.le_of_ble_eq_true rfl) d_Row_clear_12 (fun H locs hP hD hS => ?_)
  have hP : va_P (dC, dI) vcl [(a_t, .inr (8, [.ref a_parts, .ref a_firsts, .ref a_lasts, .int 0, .int 0, .int 0]))] H := hP
  have hD : va_D A [(a_t, .inr (8, [.ref a_parts, .ref a_firsts, .ref a_lasts, .int 0, .int 0, .int 0]))] := hD
  have hP9 := hP.sub (ws' := [(a_t, .inr (8, [.ref a_parts, .ref a_firsts, .ref a_lasts, .int 0, .int 0, .int 0]))]) [0] rfl
  have hD9 := hD.sub (ws' := [(a_t, .inr (8, [.ref a_parts, .ref a_firsts, .ref a_lasts, .int 0, .int 0, .int 0]))]) [0] (by decide) rfl
  exact W.vret hx hb hr (fun t ht hW => ⟨⟨(), rfl, trivial, 0, 0, 0, by first | rfl | omega, by first | rfl | omega, by first | rfl | omega, by first | rfl | omega, by rw [ht]; exact hP9, va_K.moved hW.alike hK, hD9⟩, hS.F ht⟩) hS.2.2 d_Row_clear_15
set_option maxHeartbeats 4000000 in
set_option maxRecDepth 100000 in
theorem s_Row_add7 (l : Launch) (dC : Nat → ClassId) (dI : Nat → Nat → Nat) (sz : Nat) (a_t : Nat) (a_parts : Nat) (f_parts : Nat → Int32) (a_firsts : Nat) (f_firsts : Nat → Int32) (a_lasts : Nat) (f_lasts : Nat → Int32) (n_size : Nat) (z_operates : Int32) (z_lacksOperand : Int32) (y0 : Int32) (y1 : Int32) (y2 : Int32) (ka_parts : ClassId) (ka_firsts : ClassId) (ka_lasts : ClassId) (b_size : n_size ≤ 90) (hp0 : n_size < 90) : Met l y_Row_add w_Row_add ({ frames := 0, cells := 0, slots := 0, locals := 0 }) (va_Pc [.ref a_t, .int y0, .int y1, .int y2] (fun U => U.heap.size = sz ∧ va_P (dC, dI) vcl [(a_t, .inr (8, [.ref a_parts, .ref a_firsts, .ref a_lasts, .int (nI n_size), .int z_operates, .int z_lacksOperand])), (a_parts, .inl (ka_parts, 90, .inl f_parts)), (a_firsts, .inl (ka_firsts, 90, .inl f_firsts)), (a_lasts, .inl (ka_lasts, 90, .inl f_lasts))] U.heap ∧ va_K (dC, dI) vcl [(ka_parts, .int), (ka_firsts, .int), (ka_lasts, .int)] U ∧ va_D (fun _ => True) [(a_t, .inr (8, [.ref a_parts, .ref a_firsts, .ref a_lasts, .int (nI n_size), .int z_operates, .int z_lacksOperand])), (a_parts, .inl (ka_parts, 90, .inl f_parts)), (a_firsts, .inl (ka_firsts, 90, .inl f_firsts)), (a_lasts, .inl (ka_lasts, 90, .inl f_lasts))])) (va_Qv (fun (_ : Unit) => True) (fun _ t => ∃ (w_n_size : Nat) (w_f_parts : Nat → Int32) (w_f_firsts : Nat → Int32) (w_f_lasts : Nat → Int32), (w_n_size ≤ 90) ∧ (w_n_size = n_size + 1) ∧ (w_f_parts = upd f_parts n_size y0) ∧ (w_f_firsts = upd f_firsts n_size y1) ∧ (w_f_lasts = upd f_lasts n_size y2) ∧ va_P (dC, dI) vcl [(a_t, .inr (8, [.ref a_parts, .ref a_firsts, .ref a_lasts, .int (nI w_n_size), .int z_operates, .int z_lacksOperand])), (a_parts, .inl (ka_parts, 90, .inl w_f_parts)), (a_firsts, .inl (ka_firsts, 90, .inl w_f_firsts)), (a_lasts, .inl (ka_lasts, 90, .inl w_f_lasts))] t.heap ∧ va_K (dC, dI) vcl [(ka_parts, .int), (ka_firsts, .int), (ka_lasts, .int)] t ∧ va_D (va_A [(a_t, .inr (8, [.ref a_parts, .ref a_firsts, .ref a_lasts, .int (nI n_size), .int z_operates, .int z_lacksOperand])), (a_parts, .inl (ka_parts, 90, .inl f_parts)), (a_firsts, .inl (ka_firsts, 90, .inl f_firsts)), (a_lasts, .inl (ka_lasts, 90, .inl f_lasts))] sz) [(a_t, .inr (8, [.ref a_parts, .ref a_firsts, .ref a_lasts, .int (nI w_n_size), .int z_operates, .int z_lacksOperand])), (a_parts, .inl (ka_parts, 90, .inl w_f_parts)), (a_firsts, .inl (ka_firsts, 90, .inl w_f_firsts)), (a_lasts, .inl (ka_lasts, 90, .inl w_f_lasts))]) (va_A [(a_t, .inr (8, [.ref a_parts, .ref a_firsts, .ref a_lasts, .int (nI n_size), .int z_operates, .int z_lacksOperand])), (a_parts, .inl (ka_parts, 90, .inl f_parts)), (a_firsts, .inl (ka_firsts, 90, .inl f_firsts)), (a_lasts, .inl (ka_lasts, 90, .inl f_lasts))] sz)) 0 0 (va_A [(a_t, .inr (8, [.ref a_parts, .ref a_firsts, .ref a_lasts, .int (nI n_size), .int z_operates, .int z_lacksOperand])), (a_parts, .inl (ka_parts, 90, .inl f_parts)), (a_firsts, .inl (ka_firsts, 90, .inl f_firsts)), (a_lasts, .inl (ka_lasts, 90, .inl f_lasts))] sz) := by
  refine Met.ofW (cc := b_Row_add) (maxL := 4) (ret := none) (by decide) rfl ?_
  intro p e s m args below meth c s₁ B hml hv
  obtain ⟨rfl, hsz, hP, hK, hD0⟩ := hv
  have hx := B.exec
  have hb := B.bytes
  have hr := B.returns
  have hts := atoms_spec (ws := w_Row_add) B.pre
  have hz : ∀ w ∈ wz, w.before _ s = true := fun w h => hts w (List.mem_cons_of_mem _ h)
  have hown : s.vm.findClass R_Row = some m.cls := findClass_of_methodNamed B.named
  have hlocks := B.notSynchronized
  subst hsz
  have hD := hD0.self (sz := s.heap.size)
  generalize hAe : va_A [(a_t, .inr (8, [.ref a_parts, .ref a_firsts, .ref a_lasts, .int (nI n_size), .int z_operates, .int z_lacksOperand])), (a_parts, .inl (ka_parts, 90, .inl f_parts)), (a_firsts, .inl (ka_firsts, 90, .inl f_firsts)), (a_lasts, .inl (ka_lasts, 90, .inl f_lasts))] s.heap.size = A at hD ⊢
  have hA : ∀ q : Nat, s.heap.size ≤ q → A q := fun q h => by rw [← hAe]; exact Or.inr h
  have hS : va_S A s.heap s.heap [] := va_S.rf
  have hP : va_P (dC, dI) vcl [(a_t, .inr (8, [.ref a_parts, .ref a_firsts, .ref a_lasts, .int (nI n_size), .int z_operates, .int z_lacksOperand])), (a_parts, .inl (ka_parts, 90, .inl f_parts)), (a_firsts, .inl (ka_firsts, 90, .inl f_firsts)), (a_lasts, .inl (ka_lasts, 90, .inl f_lasts))] s.heap := hP
  have hl := lv_entry ([.ref a_t, .int y0, .int y1, .int y2]) (n := 4) (Nat.le_of_ble_eq_true rfl)
  rw [lg_entry_eq]
  generalize (lg_sl ([.ref a_t, .int y0, .int y1, .int y2]) ++ List.replicate (4 - (lg_sl ([.ref a_t, .int y0, .int y1, .int y2])).length) Slot.unset).toArray = ls at hl ⊢
  have hl : lv_has ls 4 [(0, .ref a_t), (1, .int y0), (2, .int y1), (3, .int y2)] := hl
  refine lv_aload_n hx hb d_Row_add_0 rfl (lv_at hl 0 rfl) ?_
  refine va_get (D := (dC, dI)) (ci := 8) (v := .int (nI n_size)) (C := R_Row) (T := F_Row) (N := 6) hx hb hz zu_Row hown hK hP 0 rfl rfl 3 (by decide) (hz (.fieldLink R_Row 21 "LayoutFront$Row" "size" "I") zm_312) (fun _ h9 => h9) rfl d_Row_add_1 ?_
  refine lv_bipush (v := 90) hx hb d_Row_add_4 (by decide) ?_
  refine lv_icmp_ge (tgt := 49) hx hb d_Row_add_6 (by decide) (fun h1 => ?_) (fun h1 => ?_)
  · have h1 : 90 ≤ n_size := (nI_leI (a := 90) (b := n_size) (by omega) (by omega)).mp h1
    (exfalso; omega)
  · have h1 : ¬ 90 ≤ n_size := fun q => h1 ((nI_leI (a := 90) (b := n_size) (by omega) (by omega)).mpr q)
    refine lv_aload_n hx hb d_Row_add_9 rfl (lv_at hl 0 rfl) ?_
    refine va_get (D := (dC, dI)) (ci := 8) (v := .ref a_parts) (C := R_Row) (T := F_Row) (N := 6) hx hb hz zu_Row hown hK hP 0 rfl rfl 0 (by decide) (hz (.fieldLink R_Row 9 "LayoutFront$Row" "parts" "[I") zm_308) (fun _ h9 => h9) rfl d_Row_add_10 ?_
    refine lv_aload_n hx hb d_Row_add_13 rfl (lv_at hl 0 rfl) ?_
    refine va_get (D := (dC, dI)) (ci := 8) (v := .int (nI n_size)) (C := R_Row) (T := F_Row) (N := 6) hx hb hz zu_Row hown hK hP 0 rfl rfl 3 (by decide) (hz (.fieldLink R_Row 21 "LayoutFront$Row" "size" "I") zm_312) (fun _ h9 => h9) rfl d_Row_add_14 ?_
    refine lv_iload_n hx hb d_Row_add_17 rfl (lv_at hl 1 rfl) ?_
    refine va_iast hx hb hK hP hD hS 1 0 rfl rfl (vp_in_nI (by omega) (by omega)) d_Row_add_18 (fun H locs hP hD hS => ?_)
    rw [show ((nI n_size) : Int32).toNatClampNeg = n_size from nI_clamp (by omega)] at hP hD
    have hP : va_P (dC, dI) vcl [(a_t, .inr (8, [.ref a_parts, .ref a_firsts, .ref a_lasts, .int (nI n_size), .int z_operates, .int z_lacksOperand])), (a_parts, .inl (ka_parts, 90, .inl (upd f_parts n_size y0))), (a_firsts, .inl (ka_firsts, 90, .inl f_firsts)), (a_lasts, .inl (ka_lasts, 90, .inl f_lasts))] H := hP
    have hD : va_D A [(a_t, .inr (8, [.ref a_parts, .ref a_firsts, .ref a_lasts, .int (nI n_size), .int z_operates, .int z_lacksOperand])), (a_parts, .inl (ka_parts, 90, .inl (upd f_parts n_size y0))), (a_firsts, .inl (ka_firsts, 90, .inl f_firsts)), (a_lasts, .inl (ka_lasts, 90, .inl f_lasts))] := hD
    refine lv_aload_n hx hb d_Row_add_19 rfl (lv_at hl 0 rfl) ?_
    refine va_get (D := (dC, dI)) (ci := 8) (v := .ref a_firsts) (C := R_Row) (T := F_Row) (N := 6) hx hb hz zu_Row hown hK hP 0 rfl rfl 1 (by decide) (hz (.fieldLink R_Row 15 "LayoutFront$Row" "firsts" "[I") zm_309) (fun _ h9 => h9) rfl d_Row_add_20 ?_
    refine lv_aload_n hx hb d_Row_add_23 rfl (lv_at hl 0 rfl) ?_
    refine va_get (D := (dC, dI)) (ci := 8) (v := .int (nI n_size)) (C := R_Row) (T := F_Row) (N := 6) hx hb hz zu_Row hown hK hP 0 rfl rfl 3 (by decide) (hz (.fieldLink R_Row 21 "LayoutFront$Row" "size" "I") zm_312) (fun _ h9 => h9) rfl d_Row_add_24 ?_
    refine lv_iload_n hx hb d_Row_add_27 rfl (lv_at hl 2 rfl) ?_
    refine va_iast hx hb hK hP hD hS 2 1 rfl rfl (vp_in_nI (by omega) (by omega)) d_Row_add_28 (fun H locs hP hD hS => ?_)
    rw [show ((nI n_size) : Int32).toNatClampNeg = n_size from nI_clamp (by omega)] at hP hD
    have hP : va_P (dC, dI) vcl [(a_t, .inr (8, [.ref a_parts, .ref a_firsts, .ref a_lasts, .int (nI n_size), .int z_operates, .int z_lacksOperand])), (a_parts, .inl (ka_parts, 90, .inl (upd f_parts n_size y0))), (a_firsts, .inl (ka_firsts, 90, .inl (upd f_firsts n_size y1))), (a_lasts, .inl (ka_lasts, 90, .inl f_lasts))] H := hP
    have hD : va_D A [(a_t, .inr (8, [.ref a_parts, .ref a_firsts, .ref a_lasts, .int (nI n_size), .int z_operates, .int z_lacksOperand])), (a_parts, .inl (ka_parts, 90, .inl (upd f_parts n_size y0))), (a_firsts, .inl (ka_firsts, 90, .inl (upd f_firsts n_size y1))), (a_lasts, .inl (ka_lasts, 90, .inl f_lasts))] := hD
    refine lv_aload_n hx hb d_Row_add_29 rfl (lv_at hl 0 rfl) ?_
    refine va_get (D := (dC, dI)) (ci := 8) (v := .ref a_lasts) (C := R_Row) (T := F_Row) (N := 6) hx hb hz zu_Row hown hK hP 0 rfl rfl 2 (by decide) (hz (.fieldLink R_Row 18 "LayoutFront$Row" "lasts" "[I") zm_310) (fun _ h9 => h9) rfl d_Row_add_30 ?_
    refine lv_aload_n hx hb d_Row_add_33 rfl (lv_at hl 0 rfl) ?_
    refine va_get (D := (dC, dI)) (ci := 8) (v := .int (nI n_size)) (C := R_Row) (T := F_Row) (N := 6) hx hb hz zu_Row hown hK hP 0 rfl rfl 3 (by decide) (hz (.fieldLink R_Row 21 "LayoutFront$Row" "size" "I") zm_312) (fun _ h9 => h9) rfl d_Row_add_34 ?_
    refine lv_iload_n hx hb d_Row_add_37 rfl (lv_at hl 3 rfl) ?_
    refine va_iast hx hb hK hP hD hS 3 2 rfl rfl (vp_in_nI (by omega) (by omega)) d_Row_add_38 (fun H locs hP hD hS => ?_)
    rw [show ((nI n_size) : Int32).toNatClampNeg = n_size from nI_clamp (by omega)] at hP hD
    have hP : va_P (dC, dI) vcl [(a_t, .inr (8, [.ref a_parts, .ref a_firsts, .ref a_lasts, .int (nI n_size), .int z_operates, .int z_lacksOperand])), (a_parts, .inl (ka_parts, 90, .inl (upd f_parts n_size y0))), (a_firsts, .inl (ka_firsts, 90, .inl (upd f_firsts n_size y1))), (a_lasts, .inl (ka_lasts, 90, .inl (upd f_lasts n_size y2)))] H := hP
    have hD : va_D A [(a_t, .inr (8, [.ref a_parts, .ref a_firsts, .ref a_lasts, .int (nI n_size), .int z_operates, .int z_lacksOperand])), (a_parts, .inl (ka_parts, 90, .inl (upd f_parts n_size y0))), (a_firsts, .inl (ka_firsts, 90, .inl (upd f_firsts n_size y1))), (a_lasts, .inl (ka_lasts, 90, .inl (upd f_lasts n_size y2)))] := hD
    refine lv_aload_n hx hb d_Row_add_39 rfl (lv_at hl 0 rfl) ?_
    refine lv_dup hx hb d_Row_add_40 rfl ?_
    refine va_get (D := (dC, dI)) (ci := 8) (v := .int (nI n_size)) (C := R_Row) (T := F_Row) (N := 6) hx hb hz zu_Row hown hK hP 0 rfl rfl 3 (by decide) (hz (.fieldLink R_Row 21 "LayoutFront$Row" "size" "I") zm_312) (fun _ h9 => h9) rfl d_Row_add_41 ?_
    refine lv_iconst (v := 1) hx hb d_Row_add_44 (by decide) ?_
    refine xr_iadd (v := (nI (n_size + 1))) hx hb d_Row_add_45 (nI_add n_size 1) ?_
    refine va_put (D := (dC, dI)) (ci := 8) (v := .int (nI (n_size + 1))) (ty := .int) (C := R_Row) (T := F_Row) (N := 6) hx hb hz zu_Row t_Row t_Row_ok n_Row hown hK hP hD hS 0 rfl rfl 3 (by decide) (hz (.fieldLink R_Row 21 "LayoutFront$Row" "size" "I") zm_312) (fun _ h9 => h9) rfl (by decide +kernel) rfl rfl (Nat.le_of_ble_eq_true rfl) d_Row_add_46 (fun H locs hP hD hS => ?_)
    have hP : va_P (dC, dI) vcl [(a_t, .inr (8, [.ref a_parts, .ref a_firsts, .ref a_lasts, .int (nI (n_size + 1)), .int z_operates, .int z_lacksOperand])), (a_parts, .inl (ka_parts, 90, .inl (upd f_parts n_size y0))), (a_firsts, .inl (ka_firsts, 90, .inl (upd f_firsts n_size y1))), (a_lasts, .inl (ka_lasts, 90, .inl (upd f_lasts n_size y2)))] H := hP
    have hD : va_D A [(a_t, .inr (8, [.ref a_parts, .ref a_firsts, .ref a_lasts, .int (nI (n_size + 1)), .int z_operates, .int z_lacksOperand])), (a_parts, .inl (ka_parts, 90, .inl (upd f_parts n_size y0))), (a_firsts, .inl (ka_firsts, 90, .inl (upd f_firsts n_size y1))), (a_lasts, .inl (ka_lasts, 90, .inl (upd f_lasts n_size y2)))] := hD
    have hP9 := hP.sub (ws' := [(a_t, .inr (8, [.ref a_parts, .ref a_firsts, .ref a_lasts, .int (nI (n_size + 1)), .int z_operates, .int z_lacksOperand])), (a_parts, .inl (ka_parts, 90, .inl (upd f_parts n_size y0))), (a_firsts, .inl (ka_firsts, 90, .inl (upd f_firsts n_size y1))), (a_lasts, .inl (ka_lasts, 90, .inl (upd f_lasts n_size y2)))]) [0, 1, 2, 3] rfl
    have hD9 := hD.sub (ws' := [(a_t, .inr (8, [.ref a_parts, .ref a_firsts, .ref a_lasts, .int (nI (n_size + 1)), .int z_operates, .int z_lacksOperand])), (a_parts, .inl (ka_parts, 90, .inl (upd f_parts n_size y0))), (a_firsts, .inl (ka_firsts, 90, .inl (upd f_firsts n_size y1))), (a_lasts, .inl (ka_lasts, 90, .inl (upd f_lasts n_size y2)))]) [0, 1, 2, 3] (by decide) rfl
    exact W.vret hx hb hr (fun t ht hW => ⟨⟨(), rfl, trivial, ((n_size + 1)), ((upd f_parts n_size y0)), ((upd f_firsts n_size y1)), ((upd f_lasts n_size y2)), by first | rfl | omega, by first | rfl | omega, by first | rfl | omega, by first | rfl | omega, by first | rfl | omega, by rw [ht]; exact hP9, va_K.moved hW.alike hK, hD9⟩, hS.F ht⟩) hS.2.2 d_Row_add_49
set_option maxHeartbeats 4000000 in
set_option maxRecDepth 100000 in
theorem s_Row_endsWithOperand7 (l : Launch) (dC : Nat → ClassId) (dI : Nat → Nat → Nat) (sz : Nat) (a_t : Nat) (a_parts : Nat) (f_parts : Nat → Int32) (a_firsts : Nat) (f_firsts : Nat → Int32) (a_lasts : Nat) (f_lasts : Nat → Int32) (n_size : Nat) (z_operates : Int32) (z_lacksOperand : Int32) (ka_parts : ClassId) (b_size : n_size ≤ 90) : Met l y_Row_endsWithOperand w_Row_endsWithOperand ({ frames := 0, cells := 0, slots := 0, locals := 0 }) (va_Pc [.ref a_t] (fun U => U.heap.size = sz ∧ va_P (dC, dI) vcl [(a_t, .inr (8, [.ref a_parts, .ref a_firsts, .ref a_lasts, .int (nI n_size), .int z_operates, .int z_lacksOperand])), (a_parts, .inl (ka_parts, 90, .inl f_parts))] U.heap ∧ va_K (dC, dI) vcl [(ka_parts, .int)] U ∧ va_D (fun _ => True) [(a_t, .inr (8, [.ref a_parts, .ref a_firsts, .ref a_lasts, .int (nI n_size), .int z_operates, .int z_lacksOperand])), (a_parts, .inl (ka_parts, 90, .inl f_parts))])) (va_Qi (fun (r : Int32) (_ : Unit) => (r = 0 ∨ r = 1) ∧ (r = b01 (eo7 (z3 f_firsts f_lasts f_parts n_size)))) (fun _ t => va_P (dC, dI) vcl [(a_t, .inr (8, [.ref a_parts, .ref a_firsts, .ref a_lasts, .int (nI n_size), .int z_operates, .int z_lacksOperand])), (a_parts, .inl (ka_parts, 90, .inl f_parts))] t.heap ∧ va_K (dC, dI) vcl [(ka_parts, .int)] t ∧ va_D (va_A [(a_t, .inr (8, [.ref a_parts, .ref a_firsts, .ref a_lasts, .int (nI n_size), .int z_operates, .int z_lacksOperand])), (a_parts, .inl (ka_parts, 90, .inl f_parts))] sz) [(a_t, .inr (8, [.ref a_parts, .ref a_firsts, .ref a_lasts, .int (nI n_size), .int z_operates, .int z_lacksOperand])), (a_parts, .inl (ka_parts, 90, .inl f_parts))]) (va_A [(a_t, .inr (8, [.ref a_parts, .ref a_firsts, .ref a_lasts, .int (nI n_size), .int z_operates, .int z_lacksOperand])), (a_parts, .inl (ka_parts, 90, .inl f_parts))] sz)) 0 0 (va_A [(a_t, .inr (8, [.ref a_parts, .ref a_firsts, .ref a_lasts, .int (nI n_size), .int z_operates, .int z_lacksOperand])), (a_parts, .inl (ka_parts, 90, .inl f_parts))] sz) := by
  refine Met.ofW (cc := b_Row_endsWithOperand) (maxL := 1) (ret := (some .boolean)) (by decide) rfl ?_
  intro p e s m args below meth c s₁ B hml hv
  obtain ⟨rfl, hsz, hP, hK, hD0⟩ := hv
  have hx := B.exec
  have hb := B.bytes
  have hr := B.returns
  have hts := atoms_spec (ws := w_Row_endsWithOperand) B.pre
  have hz : ∀ w ∈ wz, w.before _ s = true := fun w h => hts w (List.mem_cons_of_mem _ h)
  have hown : s.vm.findClass R_Row = some m.cls := findClass_of_methodNamed B.named
  have hlocks := B.notSynchronized
  subst hsz
  have hD := hD0.self (sz := s.heap.size)
  generalize hAe : va_A [(a_t, .inr (8, [.ref a_parts, .ref a_firsts, .ref a_lasts, .int (nI n_size), .int z_operates, .int z_lacksOperand])), (a_parts, .inl (ka_parts, 90, .inl f_parts))] s.heap.size = A at hD ⊢
  have hA : ∀ q : Nat, s.heap.size ≤ q → A q := fun q h => by rw [← hAe]; exact Or.inr h
  have hS : va_S A s.heap s.heap [] := va_S.rf
  have hP : va_P (dC, dI) vcl [(a_t, .inr (8, [.ref a_parts, .ref a_firsts, .ref a_lasts, .int (nI n_size), .int z_operates, .int z_lacksOperand])), (a_parts, .inl (ka_parts, 90, .inl f_parts))] s.heap := hP
  have hl := lv_entry ([.ref a_t]) (n := 1) (Nat.le_of_ble_eq_true rfl)
  rw [lg_entry_eq]
  generalize (lg_sl ([.ref a_t]) ++ List.replicate (1 - (lg_sl ([.ref a_t])).length) Slot.unset).toArray = ls at hl ⊢
  have hl : lv_has ls 1 [(0, .ref a_t)] := hl
  refine lv_aload_n hx hb d_Row_endsWithOperand_0 rfl (lv_at hl 0 rfl) ?_
  refine va_get (D := (dC, dI)) (ci := 8) (v := .int (nI n_size)) (C := R_Row) (T := F_Row) (N := 6) hx hb hz zu_Row hown hK hP 0 rfl rfl 3 (by decide) (hz (.fieldLink R_Row 21 "LayoutFront$Row" "size" "I") zm_312) (fun _ h9 => h9) rfl d_Row_endsWithOperand_1 ?_
  refine lv_if_le (tgt := 25) hx hb d_Row_endsWithOperand_4 (by decide) (fun h1 => ?_) (fun h1 => ?_)
  · have h1 : n_size ≤ 0 := (nI_leI (a := n_size) (b := 0) (by omega) (by omega)).mp h1
    refine lv_iconst (v := 0) hx hb d_Row_endsWithOperand_25 (by decide) ?_
    have hP9 := hP.sub (ws' := [(a_t, .inr (8, [.ref a_parts, .ref a_firsts, .ref a_lasts, .int (nI n_size), .int z_operates, .int z_lacksOperand])), (a_parts, .inl (ka_parts, 90, .inl f_parts))]) [0, 1] rfl
    have hD9 := hD.sub (ws' := [(a_t, .inr (8, [.ref a_parts, .ref a_firsts, .ref a_lasts, .int (nI n_size), .int z_operates, .int z_lacksOperand])), (a_parts, .inl (ka_parts, 90, .inl f_parts))]) [0, 1] (by decide) rfl
    exact W.zret (v := 0) hx hb hr (by decide +kernel) (fun t ht hW => ⟨⟨0, (), rfl, ⟨(by first | assumption | exact Or.inl rfl | exact Or.inr rfl), (by exact eo_0 (by omega))⟩, by rw [ht]; exact hP9, va_K.moved hW.alike hK, hD9⟩, hS.F ht⟩) hS.2.2 d_Row_endsWithOperand_26
  · have h1 : ¬ n_size ≤ 0 := fun q => h1 ((nI_leI (a := n_size) (b := 0) (by omega) (by omega)).mpr q)
    refine lv_aload_n hx hb d_Row_endsWithOperand_7 rfl (lv_at hl 0 rfl) ?_
    refine va_get (D := (dC, dI)) (ci := 8) (v := .ref a_parts) (C := R_Row) (T := F_Row) (N := 6) hx hb hz zu_Row hown hK hP 0 rfl rfl 0 (by decide) (hz (.fieldLink R_Row 9 "LayoutFront$Row" "parts" "[I") zm_308) (fun _ h9 => h9) rfl d_Row_endsWithOperand_8 ?_
    refine lv_aload_n hx hb d_Row_endsWithOperand_11 rfl (lv_at hl 0 rfl) ?_
    refine va_get (D := (dC, dI)) (ci := 8) (v := .int (nI n_size)) (C := R_Row) (T := F_Row) (N := 6) hx hb hz zu_Row hown hK hP 0 rfl rfl 3 (by decide) (hz (.fieldLink R_Row 21 "LayoutFront$Row" "size" "I") zm_312) (fun _ h9 => h9) rfl d_Row_endsWithOperand_12 ?_
    refine lv_iconst (v := 1) hx hb d_Row_endsWithOperand_15 (by decide) ?_
    refine xr_isub (v := (nI (n_size - 1))) hx hb d_Row_endsWithOperand_16 (pk_sub (a := n_size) (b := 1) (by omega)) ?_
    refine xr_iald (v := (f_parts (n_size - 1))) hx hb hK hP 1 0 rfl rfl (vp_in_nI (by omega) (by omega)) (congrArg f_parts (nI_clamp (by omega))) d_Row_endsWithOperand_17 ?_
    refine lv_if_ne (tgt := 25) hx hb d_Row_endsWithOperand_18 (by decide) (fun h3 => ?_) (fun h3 => ?_)
    · have e18 := h3
      refine lv_iconst (v := 0) hx hb d_Row_endsWithOperand_25 (by decide) ?_
      have hP9 := hP.sub (ws' := [(a_t, .inr (8, [.ref a_parts, .ref a_firsts, .ref a_lasts, .int (nI n_size), .int z_operates, .int z_lacksOperand])), (a_parts, .inl (ka_parts, 90, .inl f_parts))]) [0, 1] rfl
      have hD9 := hD.sub (ws' := [(a_t, .inr (8, [.ref a_parts, .ref a_firsts, .ref a_lasts, .int (nI n_size), .int z_operates, .int z_lacksOperand])), (a_parts, .inl (ka_parts, 90, .inl f_parts))]) [0, 1] (by decide) rfl
      exact W.zret (v := 0) hx hb hr (by decide +kernel) (fun t ht hW => ⟨⟨0, (), rfl, ⟨(by first | assumption | exact Or.inl rfl | exact Or.inr rfl), (by exact eo_2 (by omega) e18)⟩, by rw [ht]; exact hP9, va_K.moved hW.alike hK, hD9⟩, hS.F ht⟩) hS.2.2 d_Row_endsWithOperand_26
    · have e18 := h3
      refine lv_iconst (v := 1) hx hb d_Row_endsWithOperand_21 (by decide) ?_
      refine lv_goto (tgt := 26) hx hb d_Row_endsWithOperand_22 (by decide) ?_
      have hP9 := hP.sub (ws' := [(a_t, .inr (8, [.ref a_parts, .ref a_firsts, .ref a_lasts, .int (nI n_size), .int z_operates, .int z_lacksOperand])), (a_parts, .inl (ka_parts, 90, .inl f_parts))]) [0, 1] rfl
      have hD9 := hD.sub (ws' := [(a_t, .inr (8, [.ref a_parts, .ref a_firsts, .ref a_lasts, .int (nI n_size), .int z_operates, .int z_lacksOperand])), (a_parts, .inl (ka_parts, 90, .inl f_parts))]) [0, 1] (by decide) rfl
      exact W.zret (v := 1) hx hb hr (by decide +kernel) (fun t ht hW => ⟨⟨1, (), rfl, ⟨(by first | assumption | exact Or.inl rfl | exact Or.inr rfl), (by exact eo_1 (by omega) e18)⟩, by rw [ht]; exact hP9, va_K.moved hW.alike hK, hD9⟩, hS.F ht⟩) hS.2.2 d_Row_endsWithOperand_26
set_option maxHeartbeats 4000000 in
set_option maxRecDepth 100000 in
theorem s_Row_addOperand7 (l : Launch) (dC : Nat → ClassId) (dI : Nat → Nat → Nat) (sz : Nat) (a_t : Nat) (a_parts : Nat) (f_parts : Nat → Int32) (a_firsts : Nat) (f_firsts : Nat → Int32) (a_lasts : Nat) (f_lasts : Nat → Int32) (n_size : Nat) (z_operates : Int32) (z_lacksOperand : Int32) (y0 : Int32) (y1 : Int32) (ka_parts : ClassId) (ka_firsts : ClassId) (ka_lasts : ClassId) (b_size : n_size ≤ 90) (hp0 : n_size < 90) : Met l y_Row_addOperand w_Row_addOperand ({ frames := 1, cells := 0, slots := 0, locals := 23 }) (va_Pc [.ref a_t, .int y0, .int y1] (fun U => U.heap.size = sz ∧ va_P (dC, dI) vcl [(a_t, .inr (8, [.ref a_parts, .ref a_firsts, .ref a_lasts, .int (nI n_size), .int z_operates, .int z_lacksOperand])), (a_parts, .inl (ka_parts, 90, .inl f_parts)), (a_firsts, .inl (ka_firsts, 90, .inl f_firsts)), (a_lasts, .inl (ka_lasts, 90, .inl f_lasts))] U.heap ∧ va_K (dC, dI) vcl [(ka_parts, .int), (ka_firsts, .int), (ka_lasts, .int)] U ∧ va_D (fun _ => True) [(a_t, .inr (8, [.ref a_parts, .ref a_firsts, .ref a_lasts, .int (nI n_size), .int z_operates, .int z_lacksOperand])), (a_parts, .inl (ka_parts, 90, .inl f_parts)), (a_firsts, .inl (ka_firsts, 90, .inl f_firsts)), (a_lasts, .inl (ka_lasts, 90, .inl f_lasts))])) (va_Qv (fun (_ : Unit) => True) (fun _ t => ∃ (w_n_size : Nat) (w_f_parts : Nat → Int32) (w_f_firsts : Nat → Int32) (w_f_lasts : Nat → Int32), (w_n_size ≤ 90) ∧ ((z3 w_f_firsts w_f_lasts w_f_parts w_n_size, decide (¬ z_operates = 0), decide (¬ z_lacksOperand = 0)) = rbA y0 y1 (z3 f_firsts f_lasts f_parts n_size, decide (¬ z_operates = 0), decide (¬ z_lacksOperand = 0))) ∧ va_P (dC, dI) vcl [(a_t, .inr (8, [.ref a_parts, .ref a_firsts, .ref a_lasts, .int (nI w_n_size), .int z_operates, .int z_lacksOperand])), (a_parts, .inl (ka_parts, 90, .inl w_f_parts)), (a_firsts, .inl (ka_firsts, 90, .inl w_f_firsts)), (a_lasts, .inl (ka_lasts, 90, .inl w_f_lasts))] t.heap ∧ va_K (dC, dI) vcl [(ka_parts, .int), (ka_firsts, .int), (ka_lasts, .int)] t ∧ va_D (va_A [(a_t, .inr (8, [.ref a_parts, .ref a_firsts, .ref a_lasts, .int (nI n_size), .int z_operates, .int z_lacksOperand])), (a_parts, .inl (ka_parts, 90, .inl f_parts)), (a_firsts, .inl (ka_firsts, 90, .inl f_firsts)), (a_lasts, .inl (ka_lasts, 90, .inl f_lasts))] sz) [(a_t, .inr (8, [.ref a_parts, .ref a_firsts, .ref a_lasts, .int (nI w_n_size), .int z_operates, .int z_lacksOperand])), (a_parts, .inl (ka_parts, 90, .inl w_f_parts)), (a_firsts, .inl (ka_firsts, 90, .inl w_f_firsts)), (a_lasts, .inl (ka_lasts, 90, .inl w_f_lasts))]) (va_A [(a_t, .inr (8, [.ref a_parts, .ref a_firsts, .ref a_lasts, .int (nI n_size), .int z_operates, .int z_lacksOperand])), (a_parts, .inl (ka_parts, 90, .inl f_parts)), (a_firsts, .inl (ka_firsts, 90, .inl f_firsts)), (a_lasts, .inl (ka_lasts, 90, .inl f_lasts))] sz)) 0 0 (va_A [(a_t, .inr (8, [.ref a_parts, .ref a_firsts, .ref a_lasts, .int (nI n_size), .int z_operates, .int z_lacksOperand])), (a_parts, .inl (ka_parts, 90, .inl f_parts)), (a_firsts, .inl (ka_firsts, 90, .inl f_firsts)), (a_lasts, .inl (ka_lasts, 90, .inl f_lasts))] sz) := by
  refine Met.ofW (cc := b_Row_addOperand) (maxL := 3) (ret := none) (by decide) rfl ?_
  intro p e s m args below meth c s₁ B hml hv
  obtain ⟨rfl, hsz, hP, hK, hD0⟩ := hv
  have hx := B.exec
  have hb := B.bytes
  have hr := B.returns
  have hts := atoms_spec (ws := w_Row_addOperand) B.pre
  have hz : ∀ w ∈ wz, w.before _ s = true := fun w h => hts w (List.mem_cons_of_mem _ h)
  have hown : s.vm.findClass R_Row = some m.cls := findClass_of_methodNamed B.named
  have hlocks := B.notSynchronized
  subst hsz
  have hD := hD0.self (sz := s.heap.size)
  generalize hAe : va_A [(a_t, .inr (8, [.ref a_parts, .ref a_firsts, .ref a_lasts, .int (nI n_size), .int z_operates, .int z_lacksOperand])), (a_parts, .inl (ka_parts, 90, .inl f_parts)), (a_firsts, .inl (ka_firsts, 90, .inl f_firsts)), (a_lasts, .inl (ka_lasts, 90, .inl f_lasts))] s.heap.size = A at hD ⊢
  have hA : ∀ q : Nat, s.heap.size ≤ q → A q := fun q h => by rw [← hAe]; exact Or.inr h
  have hS : va_S A s.heap s.heap [] := va_S.rf
  have hP : va_P (dC, dI) vcl [(a_t, .inr (8, [.ref a_parts, .ref a_firsts, .ref a_lasts, .int (nI n_size), .int z_operates, .int z_lacksOperand])), (a_parts, .inl (ka_parts, 90, .inl f_parts)), (a_firsts, .inl (ka_firsts, 90, .inl f_firsts)), (a_lasts, .inl (ka_lasts, 90, .inl f_lasts))] s.heap := hP
  have hl := lv_entry ([.ref a_t, .int y0, .int y1]) (n := 3) (Nat.le_of_ble_eq_true rfl)
  rw [lg_entry_eq]
  generalize (lg_sl ([.ref a_t, .int y0, .int y1]) ++ List.replicate (3 - (lg_sl ([.ref a_t, .int y0, .int y1])).length) Slot.unset).toArray = ls at hl ⊢
  have hl : lv_has ls 3 [(0, .ref a_t), (1, .int y0), (2, .int y1)] := hl
  refine lv_aload_n hx hb d_Row_addOperand_0 rfl (lv_at hl 0 rfl) ?_
  have hPc := hP.sub (ws' := [(a_t, .inr (8, [.ref a_parts, .ref a_firsts, .ref a_lasts, .int (nI n_size), .int z_operates, .int z_lacksOperand])), (a_parts, .inl (ka_parts, 90, .inl f_parts))]) [0, 1] rfl
  have hDc := hD.sub (ws' := [(a_t, .inr (8, [.ref a_parts, .ref a_firsts, .ref a_lasts, .int (nI n_size), .int z_operates, .int z_lacksOperand])), (a_parts, .inl (ka_parts, 90, .inl f_parts))]) [0, 1] (by decide) rfl
  have hKc := hK.sub (tys' := [(ka_parts, .int)]) [0] rfl
  have hFc := va_free (wc := [(a_t, .inr (8, [.ref a_parts, .ref a_firsts, .ref a_lasts, .int (nI n_size), .int z_operates, .int z_lacksOperand])), (a_parts, .inl (ka_parts, 90, .inl f_parts))]) hD hS hA [0, 1] rfl
  refine va_calli (va_runV (As := []) (rest := []) ⟨hx, hb, hml, hown, hz⟩ (s_Row_endsWithOperand7 l dC dI s.heap.size a_t a_parts f_parts a_firsts f_firsts a_lasts f_lasts n_size z_operates z_lacksOperand ka_parts (by first | omega | assumption | exact Or.inl rfl | exact Or.inr rfl | decide)) (cwV 0 hz (zV zm_315 zm_316 zm_317 zm_318 zm_319) rfl rfl rfl (by decide +kernel) ⟨Nat.le_of_ble_eq_true rfl, Nat.le_of_ble_eq_true rfl⟩) ⟨fun a U g mk q => by obtain ⟨q0, q1, qP, qK, qD⟩ := q; exact ⟨q0, q1, qP, va_K.moved (u := U) (U := U.calling g mk a) (Vm.Alike.refl U.vm) qK, qD⟩, va_recv (q := (R_Row, F_Row, 6)) (q0 := 0) (ci := 8) hK hP rfl rfl, fun U hU hW => ⟨rfl, by rw [hU], by rw [hU]; exact hPc, va_K.moved hW.alike hKc, hDc.weaken (fun _ _ _ _ => trivial)⟩⟩ rfl rfl hl.1 rfl (lv_room (Nat.le_of_ble_eq_true rfl)) d_Row_addOperand_1 ⟨Nat.zero_le _, Nat.zero_le _⟩) hS (fun q _ h => hFc q h) hFc (fun r u t H1 locs ht hvm hw_r hB hz1 hk1 hS => ?_)
  obtain ⟨hP1, hK1, hD1⟩ := hB
  obtain ⟨hb_r, he_r⟩ := hw_r
  subst r
  rw [ht] at hP1
  obtain ⟨hP, hD⟩ := va_join (wr := [(a_firsts, .inl (ka_firsts, 90, .inl f_firsts)), (a_lasts, .inl (ka_lasts, 90, .inl f_lasts))]) (w1 := [(a_t, .inr (8, [.ref a_parts, .ref a_firsts, .ref a_lasts, .int (nI n_size), .int z_operates, .int z_lacksOperand])), (a_parts, .inl (ka_parts, 90, .inl f_parts))]) hP hD [0, 1] [2, 3] rfl rfl (by decide) (by decide) hk1 hFc hP1 hD1
  generalize H1 = H at hP hS ⊢
  have hP : va_P (dC, dI) vcl [(a_firsts, .inl (ka_firsts, 90, .inl f_firsts)), (a_lasts, .inl (ka_lasts, 90, .inl f_lasts)), (a_t, .inr (8, [.ref a_parts, .ref a_firsts, .ref a_lasts, .int (nI n_size), .int z_operates, .int z_lacksOperand])), (a_parts, .inl (ka_parts, 90, .inl f_parts))] H := hP
  have hD : va_D A [(a_firsts, .inl (ka_firsts, 90, .inl f_firsts)), (a_lasts, .inl (ka_lasts, 90, .inl f_lasts)), (a_t, .inr (8, [.ref a_parts, .ref a_firsts, .ref a_lasts, .int (nI n_size), .int z_operates, .int z_lacksOperand])), (a_parts, .inl (ka_parts, 90, .inl f_parts))] := hD
  refine lv_if_eq (tgt := 22) hx hb d_Row_addOperand_4 (by decide) (fun h1 => ?_) (fun h1 => ?_)
  · have e4 := h1
    refine lv_aload_n hx hb d_Row_addOperand_22 rfl (lv_at hl 0 rfl) ?_
    refine lv_iconst (v := 0) hx hb d_Row_addOperand_23 (by decide) ?_
    refine lv_iload_n hx hb d_Row_addOperand_24 rfl (lv_at hl 1 rfl) ?_
    refine lv_iload_n hx hb d_Row_addOperand_25 rfl (lv_at hl 2 rfl) ?_
    have hPc := hP.sub (ws' := [(a_t, .inr (8, [.ref a_parts, .ref a_firsts, .ref a_lasts, .int (nI n_size), .int z_operates, .int z_lacksOperand])), (a_parts, .inl (ka_parts, 90, .inl f_parts)), (a_firsts, .inl (ka_firsts, 90, .inl f_firsts)), (a_lasts, .inl (ka_lasts, 90, .inl f_lasts))]) [2, 3, 0, 1] rfl
    have hDc := hD.sub (ws' := [(a_t, .inr (8, [.ref a_parts, .ref a_firsts, .ref a_lasts, .int (nI n_size), .int z_operates, .int z_lacksOperand])), (a_parts, .inl (ka_parts, 90, .inl f_parts)), (a_firsts, .inl (ka_firsts, 90, .inl f_firsts)), (a_lasts, .inl (ka_lasts, 90, .inl f_lasts))]) [2, 3, 0, 1] (by decide) rfl
    have hKc := hK.sub (tys' := [(ka_parts, .int), (ka_firsts, .int), (ka_lasts, .int)]) [0, 1, 2] rfl
    have hFc := va_free (wc := [(a_t, .inr (8, [.ref a_parts, .ref a_firsts, .ref a_lasts, .int (nI n_size), .int z_operates, .int z_lacksOperand])), (a_parts, .inl (ka_parts, 90, .inl f_parts)), (a_firsts, .inl (ka_firsts, 90, .inl f_firsts)), (a_lasts, .inl (ka_lasts, 90, .inl f_lasts))]) hD hS hA [2, 3, 0, 1] rfl
    refine va_callv (va_runV (As := [.int 0, .int y0, .int y1]) (rest := []) ⟨hx, hb, hml, hown, hz⟩ (s_Row_add7 l dC dI H.size a_t a_parts f_parts a_firsts f_firsts a_lasts f_lasts n_size z_operates z_lacksOperand 0 y0 y1 ka_parts ka_firsts ka_lasts (by first | omega | assumption | exact Or.inl rfl | exact Or.inr rfl | decide) (by first | omega | assumption | exact Or.inl rfl | exact Or.inr rfl | decide)) (cwV 3 hz (zV zm_320 zm_321 zm_322 zm_318 zm_323) rfl rfl rfl (by decide +kernel) ⟨Nat.le_of_ble_eq_true rfl, Nat.le_of_ble_eq_true rfl⟩) ⟨fun a U g mk q => by obtain ⟨q0, q1, qP, qK, qD⟩ := q; exact ⟨q0, q1, qP, va_K.moved (u := U) (U := U.calling g mk a) (Vm.Alike.refl U.vm) qK, qD⟩, va_recv (q := (R_Row, F_Row, 6)) (q0 := 2) (ci := 8) hK hP rfl rfl, fun U hU hW => ⟨rfl, by rw [hU], by rw [hU]; exact hPc, va_K.moved hW.alike hKc, hDc.weaken (fun _ _ _ _ => trivial)⟩⟩ rfl rfl hl.1 rfl (lv_room (Nat.le_of_ble_eq_true rfl)) d_Row_addOperand_26 ⟨Nat.zero_le _, Nat.zero_le _⟩) hS (fun q _ h => hFc q h) hFc (fun u t H1 locs ht hvm hw hB hz1 hk1 hS => ?_)
    obtain ⟨g2, g3, g4, g5, hb_g2, hq0_26, hq1_26, hq2_26, hq3_26, hP1, hK1, hD1⟩ := hB
    subst g2
    subst g3
    subst g4
    subst g5
    rw [ht] at hP1
    obtain ⟨hP, hD⟩ := va_join (wr := []) (w1 := [(a_t, .inr (8, [.ref a_parts, .ref a_firsts, .ref a_lasts, .int (nI (n_size + 1)), .int z_operates, .int z_lacksOperand])), (a_parts, .inl (ka_parts, 90, .inl (upd f_parts n_size 0))), (a_firsts, .inl (ka_firsts, 90, .inl (upd f_firsts n_size y0))), (a_lasts, .inl (ka_lasts, 90, .inl (upd f_lasts n_size y1)))]) hP hD [2, 3, 0, 1] [] rfl rfl (by decide) (by decide) hk1 hFc hP1 hD1
    generalize H1 = H at hP hS ⊢
    have hP : va_P (dC, dI) vcl [(a_t, .inr (8, [.ref a_parts, .ref a_firsts, .ref a_lasts, .int (nI (n_size + 1)), .int z_operates, .int z_lacksOperand])), (a_parts, .inl (ka_parts, 90, .inl (upd f_parts n_size 0))), (a_firsts, .inl (ka_firsts, 90, .inl (upd f_firsts n_size y0))), (a_lasts, .inl (ka_lasts, 90, .inl (upd f_lasts n_size y1)))] H := hP
    have hD : va_D A [(a_t, .inr (8, [.ref a_parts, .ref a_firsts, .ref a_lasts, .int (nI (n_size + 1)), .int z_operates, .int z_lacksOperand])), (a_parts, .inl (ka_parts, 90, .inl (upd f_parts n_size 0))), (a_firsts, .inl (ka_firsts, 90, .inl (upd f_firsts n_size y0))), (a_lasts, .inl (ka_lasts, 90, .inl (upd f_lasts n_size y1)))] := hD
    have hP9 := hP.sub (ws' := [(a_t, .inr (8, [.ref a_parts, .ref a_firsts, .ref a_lasts, .int (nI (n_size + 1)), .int z_operates, .int z_lacksOperand])), (a_parts, .inl (ka_parts, 90, .inl (upd f_parts n_size 0))), (a_firsts, .inl (ka_firsts, 90, .inl (upd f_firsts n_size y0))), (a_lasts, .inl (ka_lasts, 90, .inl (upd f_lasts n_size y1)))]) [0, 1, 2, 3] rfl
    have hD9 := hD.sub (ws' := [(a_t, .inr (8, [.ref a_parts, .ref a_firsts, .ref a_lasts, .int (nI (n_size + 1)), .int z_operates, .int z_lacksOperand])), (a_parts, .inl (ka_parts, 90, .inl (upd f_parts n_size 0))), (a_firsts, .inl (ka_firsts, 90, .inl (upd f_firsts n_size y0))), (a_lasts, .inl (ka_lasts, 90, .inl (upd f_lasts n_size y1)))]) [0, 1, 2, 3] (by decide) rfl
    exact W.vret hx hb hr (fun t ht hW => ⟨⟨(), rfl, trivial, ((n_size + 1)), ((upd f_parts n_size 0)), ((upd f_firsts n_size y0)), ((upd f_lasts n_size y1)), by first | omega | assumption | exact Or.inl rfl | exact Or.inr rfl | decide, by exact ra_2 (b01_no e4), by rw [ht]; exact hP9, va_K.moved hW.alike hK, hD9⟩, hS.F ht⟩) hS.2.2 d_Row_addOperand_29
  · have e4 := h1
    have o1 := (eo_y (b01_yes h1)).1
    refine lv_aload_n hx hb d_Row_addOperand_7 rfl (lv_at hl 0 rfl) ?_
    refine va_get (D := (dC, dI)) (ci := 8) (v := .ref a_lasts) (C := R_Row) (T := F_Row) (N := 6) hx hb hz zu_Row hown hK hP 2 rfl rfl 2 (by decide) (hz (.fieldLink R_Row 18 "LayoutFront$Row" "lasts" "[I") zm_310) (fun _ h9 => h9) rfl d_Row_addOperand_8 ?_
    refine lv_aload_n hx hb d_Row_addOperand_11 rfl (lv_at hl 0 rfl) ?_
    refine va_get (D := (dC, dI)) (ci := 8) (v := .int (nI n_size)) (C := R_Row) (T := F_Row) (N := 6) hx hb hz zu_Row hown hK hP 2 rfl rfl 3 (by decide) (hz (.fieldLink R_Row 21 "LayoutFront$Row" "size" "I") zm_312) (fun _ h9 => h9) rfl d_Row_addOperand_12 ?_
    refine lv_iconst (v := 1) hx hb d_Row_addOperand_15 (by decide) ?_
    refine xr_isub (v := (nI (n_size - 1))) hx hb d_Row_addOperand_16 (pk_sub (a := n_size) (b := 1) (by omega)) ?_
    refine lv_iload_n hx hb d_Row_addOperand_17 rfl (lv_at hl 2 rfl) ?_
    refine va_iast hx hb hK hP hD hS 1 2 rfl rfl (vp_in_nI (by omega) (by omega)) d_Row_addOperand_18 (fun H locs hP hD hS => ?_)
    rw [show ((nI (n_size - 1)) : Int32).toNatClampNeg = (n_size - 1) from nI_clamp (by omega)] at hP hD
    have hP : va_P (dC, dI) vcl [(a_firsts, .inl (ka_firsts, 90, .inl f_firsts)), (a_lasts, .inl (ka_lasts, 90, .inl (upd f_lasts (n_size - 1) y1))), (a_t, .inr (8, [.ref a_parts, .ref a_firsts, .ref a_lasts, .int (nI n_size), .int z_operates, .int z_lacksOperand])), (a_parts, .inl (ka_parts, 90, .inl f_parts))] H := hP
    have hD : va_D A [(a_firsts, .inl (ka_firsts, 90, .inl f_firsts)), (a_lasts, .inl (ka_lasts, 90, .inl (upd f_lasts (n_size - 1) y1))), (a_t, .inr (8, [.ref a_parts, .ref a_firsts, .ref a_lasts, .int (nI n_size), .int z_operates, .int z_lacksOperand])), (a_parts, .inl (ka_parts, 90, .inl f_parts))] := hD
    refine lv_goto (tgt := 29) hx hb d_Row_addOperand_19 (by decide) ?_
    have hP9 := hP.sub (ws' := [(a_t, .inr (8, [.ref a_parts, .ref a_firsts, .ref a_lasts, .int (nI n_size), .int z_operates, .int z_lacksOperand])), (a_parts, .inl (ka_parts, 90, .inl f_parts)), (a_firsts, .inl (ka_firsts, 90, .inl f_firsts)), (a_lasts, .inl (ka_lasts, 90, .inl (upd f_lasts (n_size - 1) y1)))]) [2, 3, 0, 1] rfl
    have hD9 := hD.sub (ws' := [(a_t, .inr (8, [.ref a_parts, .ref a_firsts, .ref a_lasts, .int (nI n_size), .int z_operates, .int z_lacksOperand])), (a_parts, .inl (ka_parts, 90, .inl f_parts)), (a_firsts, .inl (ka_firsts, 90, .inl f_firsts)), (a_lasts, .inl (ka_lasts, 90, .inl (upd f_lasts (n_size - 1) y1)))]) [2, 3, 0, 1] (by decide) rfl
    exact W.vret hx hb hr (fun t ht hW => ⟨⟨(), rfl, trivial, n_size, f_parts, f_firsts, ((upd f_lasts (n_size - 1) y1)), by first | omega | assumption | exact Or.inl rfl | exact Or.inr rfl | decide, by exact ra_1 (b01_yes e4), by rw [ht]; exact hP9, va_K.moved hW.alike hK, hD9⟩, hS.F ht⟩) hS.2.2 d_Row_addOperand_29
set_option maxHeartbeats 4000000 in
set_option maxRecDepth 100000 in
theorem s_Row_addOperation7 (l : Launch) (dC : Nat → ClassId) (dI : Nat → Nat → Nat) (sz : Nat) (a_t : Nat) (a_parts : Nat) (f_parts : Nat → Int32) (a_firsts : Nat) (f_firsts : Nat → Int32) (a_lasts : Nat) (f_lasts : Nat → Int32) (n_size : Nat) (z_operates : Int32) (z_lacksOperand : Int32) (y0 : Int32) (y1 : Int32) (y2 : Int32) (ka_parts : ClassId) (ka_firsts : ClassId) (ka_lasts : ClassId) (b_size : n_size ≤ 90) (hp0 : n_size < 90) : Met l y_Row_addOperation w_Row_addOperation ({ frames := 1, cells := 0, slots := 0, locals := 23 }) (va_Pc [.ref a_t, .int y0, .int y1, .int y2] (fun U => U.heap.size = sz ∧ va_P (dC, dI) vcl [(a_t, .inr (8, [.ref a_parts, .ref a_firsts, .ref a_lasts, .int (nI n_size), .int z_operates, .int z_lacksOperand])), (a_parts, .inl (ka_parts, 90, .inl f_parts)), (a_firsts, .inl (ka_firsts, 90, .inl f_firsts)), (a_lasts, .inl (ka_lasts, 90, .inl f_lasts))] U.heap ∧ va_K (dC, dI) vcl [(ka_parts, .int), (ka_firsts, .int), (ka_lasts, .int)] U ∧ va_D (fun _ => True) [(a_t, .inr (8, [.ref a_parts, .ref a_firsts, .ref a_lasts, .int (nI n_size), .int z_operates, .int z_lacksOperand])), (a_parts, .inl (ka_parts, 90, .inl f_parts)), (a_firsts, .inl (ka_firsts, 90, .inl f_firsts)), (a_lasts, .inl (ka_lasts, 90, .inl f_lasts))])) (va_Qv (fun (_ : Unit) => True) (fun _ t => ∃ (w_n_size : Nat) (w_z_operates : Int32) (w_z_lacksOperand : Int32) (w_f_parts : Nat → Int32) (w_f_firsts : Nat → Int32) (w_f_lasts : Nat → Int32), (w_n_size ≤ 90) ∧ ((z3 w_f_firsts w_f_lasts w_f_parts w_n_size, decide (¬ w_z_operates = 0), decide (¬ w_z_lacksOperand = 0)) = rbO y0 y1 (decide (¬ y2 = 0)) (z3 f_firsts f_lasts f_parts n_size, decide (¬ z_operates = 0), decide (¬ z_lacksOperand = 0))) ∧ va_P (dC, dI) vcl [(a_t, .inr (8, [.ref a_parts, .ref a_firsts, .ref a_lasts, .int (nI w_n_size), .int w_z_operates, .int w_z_lacksOperand])), (a_parts, .inl (ka_parts, 90, .inl w_f_parts)), (a_firsts, .inl (ka_firsts, 90, .inl w_f_firsts)), (a_lasts, .inl (ka_lasts, 90, .inl w_f_lasts))] t.heap ∧ va_K (dC, dI) vcl [(ka_parts, .int), (ka_firsts, .int), (ka_lasts, .int)] t ∧ va_D (va_A [(a_t, .inr (8, [.ref a_parts, .ref a_firsts, .ref a_lasts, .int (nI n_size), .int z_operates, .int z_lacksOperand])), (a_parts, .inl (ka_parts, 90, .inl f_parts)), (a_firsts, .inl (ka_firsts, 90, .inl f_firsts)), (a_lasts, .inl (ka_lasts, 90, .inl f_lasts))] sz) [(a_t, .inr (8, [.ref a_parts, .ref a_firsts, .ref a_lasts, .int (nI w_n_size), .int w_z_operates, .int w_z_lacksOperand])), (a_parts, .inl (ka_parts, 90, .inl w_f_parts)), (a_firsts, .inl (ka_firsts, 90, .inl w_f_firsts)), (a_lasts, .inl (ka_lasts, 90, .inl w_f_lasts))]) (va_A [(a_t, .inr (8, [.ref a_parts, .ref a_firsts, .ref a_lasts, .int (nI n_size), .int z_operates, .int z_lacksOperand])), (a_parts, .inl (ka_parts, 90, .inl f_parts)), (a_firsts, .inl (ka_firsts, 90, .inl f_firsts)), (a_lasts, .inl (ka_lasts, 90, .inl f_lasts))] sz)) 0 0 (va_A [(a_t, .inr (8, [.ref a_parts, .ref a_firsts, .ref a_lasts, .int (nI n_size), .int z_operates, .int z_lacksOperand])), (a_parts, .inl (ka_parts, 90, .inl f_parts)), (a_firsts, .inl (ka_firsts, 90, .inl f_firsts)), (a_lasts, .inl (ka_lasts, 90, .inl f_lasts))] sz) := by
  refine Met.ofW (cc := b_Row_addOperation) (maxL := 5) (ret := none) (by decide) rfl ?_
  intro p e s m args below meth c s₁ B hml hv
  obtain ⟨rfl, hsz, hP, hK, hD0⟩ := hv
  have hx := B.exec
  have hb := B.bytes
  have hr := B.returns
  have hts := atoms_spec (ws := w_Row_addOperation) B.pre
  have hz : ∀ w ∈ wz, w.before _ s = true := fun w h => hts w (List.mem_cons_of_mem _ h)
  have hown : s.vm.findClass R_Row = some m.cls := findClass_of_methodNamed B.named
  have hlocks := B.notSynchronized
  subst hsz
  have hD := hD0.self (sz := s.heap.size)
  generalize hAe : va_A [(a_t, .inr (8, [.ref a_parts, .ref a_firsts, .ref a_lasts, .int (nI n_size), .int z_operates, .int z_lacksOperand])), (a_parts, .inl (ka_parts, 90, .inl f_parts)), (a_firsts, .inl (ka_firsts, 90, .inl f_firsts)), (a_lasts, .inl (ka_lasts, 90, .inl f_lasts))] s.heap.size = A at hD ⊢
  have hA : ∀ q : Nat, s.heap.size ≤ q → A q := fun q h => by rw [← hAe]; exact Or.inr h
  have hS : va_S A s.heap s.heap [] := va_S.rf
  have hP : va_P (dC, dI) vcl [(a_t, .inr (8, [.ref a_parts, .ref a_firsts, .ref a_lasts, .int (nI n_size), .int z_operates, .int z_lacksOperand])), (a_parts, .inl (ka_parts, 90, .inl f_parts)), (a_firsts, .inl (ka_firsts, 90, .inl f_firsts)), (a_lasts, .inl (ka_lasts, 90, .inl f_lasts))] s.heap := hP
  have hl := lv_entry ([.ref a_t, .int y0, .int y1, .int y2]) (n := 5) (Nat.le_of_ble_eq_true rfl)
  rw [lg_entry_eq]
  generalize (lg_sl ([.ref a_t, .int y0, .int y1, .int y2]) ++ List.replicate (5 - (lg_sl ([.ref a_t, .int y0, .int y1, .int y2])).length) Slot.unset).toArray = ls at hl ⊢
  have hl : lv_has ls 5 [(0, .ref a_t), (1, .int y0), (2, .int y1), (3, .int y2)] := hl
  refine lv_aload_n hx hb d_Row_addOperation_0 rfl (lv_at hl 0 rfl) ?_
  have hPc := hP.sub (ws' := [(a_t, .inr (8, [.ref a_parts, .ref a_firsts, .ref a_lasts, .int (nI n_size), .int z_operates, .int z_lacksOperand])), (a_parts, .inl (ka_parts, 90, .inl f_parts))]) [0, 1] rfl
  have hDc := hD.sub (ws' := [(a_t, .inr (8, [.ref a_parts, .ref a_firsts, .ref a_lasts, .int (nI n_size), .int z_operates, .int z_lacksOperand])), (a_parts, .inl (ka_parts, 90, .inl f_parts))]) [0, 1] (by decide) rfl
  have hKc := hK.sub (tys' := [(ka_parts, .int)]) [0] rfl
  have hFc := va_free (wc := [(a_t, .inr (8, [.ref a_parts, .ref a_firsts, .ref a_lasts, .int (nI n_size), .int z_operates, .int z_lacksOperand])), (a_parts, .inl (ka_parts, 90, .inl f_parts))]) hD hS hA [0, 1] rfl
  refine va_calli (va_runV (As := []) (rest := []) ⟨hx, hb, hml, hown, hz⟩ (s_Row_endsWithOperand7 l dC dI s.heap.size a_t a_parts f_parts a_firsts f_firsts a_lasts f_lasts n_size z_operates z_lacksOperand ka_parts (by first | omega | assumption | exact Or.inl rfl | exact Or.inr rfl | decide)) (cwV 0 hz (zV zm_315 zm_316 zm_317 zm_318 zm_319) rfl rfl rfl (by decide +kernel) ⟨Nat.le_of_ble_eq_true rfl, Nat.le_of_ble_eq_true rfl⟩) ⟨fun a U g mk q => by obtain ⟨q0, q1, qP, qK, qD⟩ := q; exact ⟨q0, q1, qP, va_K.moved (u := U) (U := U.calling g mk a) (Vm.Alike.refl U.vm) qK, qD⟩, va_recv (q := (R_Row, F_Row, 6)) (q0 := 0) (ci := 8) hK hP rfl rfl, fun U hU hW => ⟨rfl, by rw [hU], by rw [hU]; exact hPc, va_K.moved hW.alike hKc, hDc.weaken (fun _ _ _ _ => trivial)⟩⟩ rfl rfl hl.1 rfl (lv_room (Nat.le_of_ble_eq_true rfl)) d_Row_addOperation_1 ⟨Nat.zero_le _, Nat.zero_le _⟩) hS (fun q _ h => hFc q h) hFc (fun r u t H1 locs ht hvm hw_r hB hz1 hk1 hS => ?_)
  obtain ⟨hP1, hK1, hD1⟩ := hB
  obtain ⟨hb_r, he_r⟩ := hw_r
  subst r
  rw [ht] at hP1
  obtain ⟨hP, hD⟩ := va_join (wr := [(a_firsts, .inl (ka_firsts, 90, .inl f_firsts)), (a_lasts, .inl (ka_lasts, 90, .inl f_lasts))]) (w1 := [(a_t, .inr (8, [.ref a_parts, .ref a_firsts, .ref a_lasts, .int (nI n_size), .int z_operates, .int z_lacksOperand])), (a_parts, .inl (ka_parts, 90, .inl f_parts))]) hP hD [0, 1] [2, 3] rfl rfl (by decide) (by decide) hk1 hFc hP1 hD1
  generalize H1 = H at hP hS ⊢
  have hP : va_P (dC, dI) vcl [(a_firsts, .inl (ka_firsts, 90, .inl f_firsts)), (a_lasts, .inl (ka_lasts, 90, .inl f_lasts)), (a_t, .inr (8, [.ref a_parts, .ref a_firsts, .ref a_lasts, .int (nI n_size), .int z_operates, .int z_lacksOperand])), (a_parts, .inl (ka_parts, 90, .inl f_parts))] H := hP
  have hD : va_D A [(a_firsts, .inl (ka_firsts, 90, .inl f_firsts)), (a_lasts, .inl (ka_lasts, 90, .inl f_lasts)), (a_t, .inr (8, [.ref a_parts, .ref a_firsts, .ref a_lasts, .int (nI n_size), .int z_operates, .int z_lacksOperand])), (a_parts, .inl (ka_parts, 90, .inl f_parts))] := hD
  refine lv_if_ne (tgt := 11) hx hb d_Row_addOperation_4 (by decide) (fun h1 => ?_) (fun h1 => ?_)
  · have e4 := h1
    refine lv_iconst (v := 0) hx hb d_Row_addOperation_11 (by decide) ?_
    refine lv_istore hx hb d_Row_addOperation_12 hl (by decide) rfl (fun ls hl => ?_)
    have hl : lv_has ls 5 [(4, .int 0), (0, .ref a_t), (1, .int y0), (2, .int y1), (3, .int y2)] := hl
    refine lv_aload_n hx hb d_Row_addOperation_14 rfl (lv_at hl 1 rfl) ?_
    refine lv_iconst (v := 1) hx hb d_Row_addOperation_15 (by decide) ?_
    refine va_put (D := (dC, dI)) (ci := 8) (v := .int 1) (ty := .boolean) (C := R_Row) (T := F_Row) (N := 6) hx hb hz zu_Row t_Row t_Row_ok n_Row hown hK hP hD hS 2 rfl rfl 4 (by decide) (hz (.fieldLink R_Row 25 "LayoutFront$Row" "operates" "Z") zm_313) (fun _ h9 => h9) rfl (by decide +kernel) (by decide +kernel) rfl (Nat.le_of_ble_eq_true rfl) d_Row_addOperation_16 (fun H locs hP hD hS => ?_)
    have hP : va_P (dC, dI) vcl [(a_firsts, .inl (ka_firsts, 90, .inl f_firsts)), (a_lasts, .inl (ka_lasts, 90, .inl f_lasts)), (a_t, .inr (8, [.ref a_parts, .ref a_firsts, .ref a_lasts, .int (nI n_size), .int 1, .int z_lacksOperand])), (a_parts, .inl (ka_parts, 90, .inl f_parts))] H := hP
    have hD : va_D A [(a_firsts, .inl (ka_firsts, 90, .inl f_firsts)), (a_lasts, .inl (ka_lasts, 90, .inl f_lasts)), (a_t, .inr (8, [.ref a_parts, .ref a_firsts, .ref a_lasts, .int (nI n_size), .int 1, .int z_lacksOperand])), (a_parts, .inl (ka_parts, 90, .inl f_parts))] := hD
    refine lv_aload_n hx hb d_Row_addOperation_19 rfl (lv_at hl 1 rfl) ?_
    refine lv_aload_n hx hb d_Row_addOperation_20 rfl (lv_at hl 1 rfl) ?_
    refine va_get (D := (dC, dI)) (ci := 8) (v := .int z_lacksOperand) (C := R_Row) (T := F_Row) (N := 6) hx hb hz zu_Row hown hK hP 2 rfl rfl 5 (by decide) (hz (.fieldLink R_Row 29 "LayoutFront$Row" "lacksOperand" "Z") zm_314) (fun _ h9 => h9) rfl d_Row_addOperation_21 ?_
    refine lv_if_ne (tgt := 36) hx hb d_Row_addOperation_24 (by decide) (fun h2 => ?_) (fun h2 => ?_)
    · have e24 := h2
      refine lv_iconst (v := 1) hx hb d_Row_addOperation_36 (by decide) ?_
      refine lv_goto (tgt := 41) hx hb d_Row_addOperation_37 (by decide) ?_
      refine va_put (D := (dC, dI)) (ci := 8) (v := .int 1) (ty := .boolean) (C := R_Row) (T := F_Row) (N := 6) hx hb hz zu_Row t_Row t_Row_ok n_Row hown hK hP hD hS 2 rfl rfl 5 (by decide) (hz (.fieldLink R_Row 29 "LayoutFront$Row" "lacksOperand" "Z") zm_314) (fun _ h9 => h9) rfl (by decide +kernel) (by decide +kernel) rfl (Nat.le_of_ble_eq_true rfl) d_Row_addOperation_41 (fun H locs hP hD hS => ?_)
      have hP : va_P (dC, dI) vcl [(a_firsts, .inl (ka_firsts, 90, .inl f_firsts)), (a_lasts, .inl (ka_lasts, 90, .inl f_lasts)), (a_t, .inr (8, [.ref a_parts, .ref a_firsts, .ref a_lasts, .int (nI n_size), .int 1, .int 1])), (a_parts, .inl (ka_parts, 90, .inl f_parts))] H := hP
      have hD : va_D A [(a_firsts, .inl (ka_firsts, 90, .inl f_firsts)), (a_lasts, .inl (ka_lasts, 90, .inl f_lasts)), (a_t, .inr (8, [.ref a_parts, .ref a_firsts, .ref a_lasts, .int (nI n_size), .int 1, .int 1])), (a_parts, .inl (ka_parts, 90, .inl f_parts))] := hD
      refine lv_aload_n hx hb d_Row_addOperation_44 rfl (lv_at hl 1 rfl) ?_
      refine lv_iload hx hb d_Row_addOperation_45 (lv_at hl 0 rfl) ?_
      refine lv_if_eq (tgt := 54) hx hb d_Row_addOperation_47 (by decide) (fun _ => ?_) (fun h => (h (by decide +kernel)).elim)
      refine lv_iconst (v := 1) hx hb d_Row_addOperation_54 (by decide) ?_
      refine lv_iload_n hx hb d_Row_addOperation_55 rfl (lv_at hl 2 rfl) ?_
      refine lv_iload_n hx hb d_Row_addOperation_56 rfl (lv_at hl 3 rfl) ?_
      have hPc := hP.sub (ws' := [(a_t, .inr (8, [.ref a_parts, .ref a_firsts, .ref a_lasts, .int (nI n_size), .int 1, .int 1])), (a_parts, .inl (ka_parts, 90, .inl f_parts)), (a_firsts, .inl (ka_firsts, 90, .inl f_firsts)), (a_lasts, .inl (ka_lasts, 90, .inl f_lasts))]) [2, 3, 0, 1] rfl
      have hDc := hD.sub (ws' := [(a_t, .inr (8, [.ref a_parts, .ref a_firsts, .ref a_lasts, .int (nI n_size), .int 1, .int 1])), (a_parts, .inl (ka_parts, 90, .inl f_parts)), (a_firsts, .inl (ka_firsts, 90, .inl f_firsts)), (a_lasts, .inl (ka_lasts, 90, .inl f_lasts))]) [2, 3, 0, 1] (by decide) rfl
      have hKc := hK.sub (tys' := [(ka_parts, .int), (ka_firsts, .int), (ka_lasts, .int)]) [0, 1, 2] rfl
      have hFc := va_free (wc := [(a_t, .inr (8, [.ref a_parts, .ref a_firsts, .ref a_lasts, .int (nI n_size), .int 1, .int 1])), (a_parts, .inl (ka_parts, 90, .inl f_parts)), (a_firsts, .inl (ka_firsts, 90, .inl f_firsts)), (a_lasts, .inl (ka_lasts, 90, .inl f_lasts))]) hD hS hA [2, 3, 0, 1] rfl
      refine va_callv (va_runV (As := [.int 1, .int y0, .int y1]) (rest := []) ⟨hx, hb, hml, hown, hz⟩ (s_Row_add7 l dC dI H.size a_t a_parts f_parts a_firsts f_firsts a_lasts f_lasts n_size 1 1 1 y0 y1 ka_parts ka_firsts ka_lasts (by first | omega | assumption | exact Or.inl rfl | exact Or.inr rfl | decide) (by first | omega | assumption | exact Or.inl rfl | exact Or.inr rfl | decide)) (cwV 3 hz (zV zm_320 zm_321 zm_322 zm_318 zm_323) rfl rfl rfl (by decide +kernel) ⟨Nat.le_of_ble_eq_true rfl, Nat.le_of_ble_eq_true rfl⟩) ⟨fun a U g mk q => by obtain ⟨q0, q1, qP, qK, qD⟩ := q; exact ⟨q0, q1, qP, va_K.moved (u := U) (U := U.calling g mk a) (Vm.Alike.refl U.vm) qK, qD⟩, va_recv (q := (R_Row, F_Row, 6)) (q0 := 2) (ci := 8) hK hP rfl rfl, fun U hU hW => ⟨rfl, by rw [hU], by rw [hU]; exact hPc, va_K.moved hW.alike hKc, hDc.weaken (fun _ _ _ _ => trivial)⟩⟩ rfl rfl hl.1 rfl (lv_room (Nat.le_of_ble_eq_true rfl)) d_Row_addOperation_57 ⟨Nat.zero_le _, Nat.zero_le _⟩) hS (fun q _ h => hFc q h) hFc (fun u t H1 locs ht hvm hw hB hz1 hk1 hS => ?_)
      obtain ⟨g3, g4, g5, g6, hb_g3, hq0_57, hq1_57, hq2_57, hq3_57, hP1, hK1, hD1⟩ := hB
      subst g3
      subst g4
      subst g5
      subst g6
      rw [ht] at hP1
      obtain ⟨hP, hD⟩ := va_join (wr := []) (w1 := [(a_t, .inr (8, [.ref a_parts, .ref a_firsts, .ref a_lasts, .int (nI (n_size + 1)), .int 1, .int 1])), (a_parts, .inl (ka_parts, 90, .inl (upd f_parts n_size 1))), (a_firsts, .inl (ka_firsts, 90, .inl (upd f_firsts n_size y0))), (a_lasts, .inl (ka_lasts, 90, .inl (upd f_lasts n_size y1)))]) hP hD [2, 3, 0, 1] [] rfl rfl (by decide) (by decide) hk1 hFc hP1 hD1
      generalize H1 = H at hP hS ⊢
      have hP : va_P (dC, dI) vcl [(a_t, .inr (8, [.ref a_parts, .ref a_firsts, .ref a_lasts, .int (nI (n_size + 1)), .int 1, .int 1])), (a_parts, .inl (ka_parts, 90, .inl (upd f_parts n_size 1))), (a_firsts, .inl (ka_firsts, 90, .inl (upd f_firsts n_size y0))), (a_lasts, .inl (ka_lasts, 90, .inl (upd f_lasts n_size y1)))] H := hP
      have hD : va_D A [(a_t, .inr (8, [.ref a_parts, .ref a_firsts, .ref a_lasts, .int (nI (n_size + 1)), .int 1, .int 1])), (a_parts, .inl (ka_parts, 90, .inl (upd f_parts n_size 1))), (a_firsts, .inl (ka_firsts, 90, .inl (upd f_firsts n_size y0))), (a_lasts, .inl (ka_lasts, 90, .inl (upd f_lasts n_size y1)))] := hD
      have hP9 := hP.sub (ws' := [(a_t, .inr (8, [.ref a_parts, .ref a_firsts, .ref a_lasts, .int (nI (n_size + 1)), .int 1, .int 1])), (a_parts, .inl (ka_parts, 90, .inl (upd f_parts n_size 1))), (a_firsts, .inl (ka_firsts, 90, .inl (upd f_firsts n_size y0))), (a_lasts, .inl (ka_lasts, 90, .inl (upd f_lasts n_size y1)))]) [0, 1, 2, 3] rfl
      have hD9 := hD.sub (ws' := [(a_t, .inr (8, [.ref a_parts, .ref a_firsts, .ref a_lasts, .int (nI (n_size + 1)), .int 1, .int 1])), (a_parts, .inl (ka_parts, 90, .inl (upd f_parts n_size 1))), (a_firsts, .inl (ka_firsts, 90, .inl (upd f_firsts n_size y0))), (a_lasts, .inl (ka_lasts, 90, .inl (upd f_lasts n_size y1)))]) [0, 1, 2, 3] (by decide) rfl
      exact W.vret hx hb hr (fun t ht hW => ⟨⟨(), rfl, trivial, ((n_size + 1)), 1, 1, ((upd f_parts n_size 1)), ((upd f_firsts n_size y0)), ((upd f_lasts n_size y1)), by first | omega | assumption | exact Or.inl rfl | exact Or.inr rfl | decide, by exact ro_1 (b01_yes e4) (lk_1 e24), by rw [ht]; exact hP9, va_K.moved hW.alike hK, hD9⟩, hS.F ht⟩) hS.2.2 d_Row_addOperation_60
    · have e24 := h2
      refine lv_iload hx hb d_Row_addOperation_27 (lv_at hl 0 rfl) ?_
      refine lv_if_eq (tgt := 40) hx hb d_Row_addOperation_29 (by decide) (fun _ => ?_) (fun h => (h (by decide +kernel)).elim)
      refine lv_iconst (v := 0) hx hb d_Row_addOperation_40 (by decide) ?_
      refine va_put (D := (dC, dI)) (ci := 8) (v := .int 0) (ty := .boolean) (C := R_Row) (T := F_Row) (N := 6) hx hb hz zu_Row t_Row t_Row_ok n_Row hown hK hP hD hS 2 rfl rfl 5 (by decide) (hz (.fieldLink R_Row 29 "LayoutFront$Row" "lacksOperand" "Z") zm_314) (fun _ h9 => h9) rfl (by decide +kernel) (by decide +kernel) rfl (Nat.le_of_ble_eq_true rfl) d_Row_addOperation_41 (fun H locs hP hD hS => ?_)
      have hP : va_P (dC, dI) vcl [(a_firsts, .inl (ka_firsts, 90, .inl f_firsts)), (a_lasts, .inl (ka_lasts, 90, .inl f_lasts)), (a_t, .inr (8, [.ref a_parts, .ref a_firsts, .ref a_lasts, .int (nI n_size), .int 1, .int 0])), (a_parts, .inl (ka_parts, 90, .inl f_parts))] H := hP
      have hD : va_D A [(a_firsts, .inl (ka_firsts, 90, .inl f_firsts)), (a_lasts, .inl (ka_lasts, 90, .inl f_lasts)), (a_t, .inr (8, [.ref a_parts, .ref a_firsts, .ref a_lasts, .int (nI n_size), .int 1, .int 0])), (a_parts, .inl (ka_parts, 90, .inl f_parts))] := hD
      refine lv_aload_n hx hb d_Row_addOperation_44 rfl (lv_at hl 1 rfl) ?_
      refine lv_iload hx hb d_Row_addOperation_45 (lv_at hl 0 rfl) ?_
      refine lv_if_eq (tgt := 54) hx hb d_Row_addOperation_47 (by decide) (fun _ => ?_) (fun h => (h (by decide +kernel)).elim)
      refine lv_iconst (v := 1) hx hb d_Row_addOperation_54 (by decide) ?_
      refine lv_iload_n hx hb d_Row_addOperation_55 rfl (lv_at hl 2 rfl) ?_
      refine lv_iload_n hx hb d_Row_addOperation_56 rfl (lv_at hl 3 rfl) ?_
      have hPc := hP.sub (ws' := [(a_t, .inr (8, [.ref a_parts, .ref a_firsts, .ref a_lasts, .int (nI n_size), .int 1, .int 0])), (a_parts, .inl (ka_parts, 90, .inl f_parts)), (a_firsts, .inl (ka_firsts, 90, .inl f_firsts)), (a_lasts, .inl (ka_lasts, 90, .inl f_lasts))]) [2, 3, 0, 1] rfl
      have hDc := hD.sub (ws' := [(a_t, .inr (8, [.ref a_parts, .ref a_firsts, .ref a_lasts, .int (nI n_size), .int 1, .int 0])), (a_parts, .inl (ka_parts, 90, .inl f_parts)), (a_firsts, .inl (ka_firsts, 90, .inl f_firsts)), (a_lasts, .inl (ka_lasts, 90, .inl f_lasts))]) [2, 3, 0, 1] (by decide) rfl
      have hKc := hK.sub (tys' := [(ka_parts, .int), (ka_firsts, .int), (ka_lasts, .int)]) [0, 1, 2] rfl
      have hFc := va_free (wc := [(a_t, .inr (8, [.ref a_parts, .ref a_firsts, .ref a_lasts, .int (nI n_size), .int 1, .int 0])), (a_parts, .inl (ka_parts, 90, .inl f_parts)), (a_firsts, .inl (ka_firsts, 90, .inl f_firsts)), (a_lasts, .inl (ka_lasts, 90, .inl f_lasts))]) hD hS hA [2, 3, 0, 1] rfl
      refine va_callv (va_runV (As := [.int 1, .int y0, .int y1]) (rest := []) ⟨hx, hb, hml, hown, hz⟩ (s_Row_add7 l dC dI H.size a_t a_parts f_parts a_firsts f_firsts a_lasts f_lasts n_size 1 0 1 y0 y1 ka_parts ka_firsts ka_lasts (by first | omega | assumption | exact Or.inl rfl | exact Or.inr rfl | decide) (by first | omega | assumption | exact Or.inl rfl | exact Or.inr rfl | decide)) (cwV 3 hz (zV zm_320 zm_321 zm_322 zm_318 zm_323) rfl rfl rfl (by decide +kernel) ⟨Nat.le_of_ble_eq_true rfl, Nat.le_of_ble_eq_true rfl⟩) ⟨fun a U g mk q => by obtain ⟨q0, q1, qP, qK, qD⟩ := q; exact ⟨q0, q1, qP, va_K.moved (u := U) (U := U.calling g mk a) (Vm.Alike.refl U.vm) qK, qD⟩, va_recv (q := (R_Row, F_Row, 6)) (q0 := 2) (ci := 8) hK hP rfl rfl, fun U hU hW => ⟨rfl, by rw [hU], by rw [hU]; exact hPc, va_K.moved hW.alike hKc, hDc.weaken (fun _ _ _ _ => trivial)⟩⟩ rfl rfl hl.1 rfl (lv_room (Nat.le_of_ble_eq_true rfl)) d_Row_addOperation_57 ⟨Nat.zero_le _, Nat.zero_le _⟩) hS (fun q _ h => hFc q h) hFc (fun u t H1 locs ht hvm hw hB hz1 hk1 hS => ?_)
      obtain ⟨g7, g8, g9, g10, hb_g7, hq0_57, hq1_57, hq2_57, hq3_57, hP1, hK1, hD1⟩ := hB
      subst g7
      subst g8
      subst g9
      subst g10
      rw [ht] at hP1
      obtain ⟨hP, hD⟩ := va_join (wr := []) (w1 := [(a_t, .inr (8, [.ref a_parts, .ref a_firsts, .ref a_lasts, .int (nI (n_size + 1)), .int 1, .int 0])), (a_parts, .inl (ka_parts, 90, .inl (upd f_parts n_size 1))), (a_firsts, .inl (ka_firsts, 90, .inl (upd f_firsts n_size y0))), (a_lasts, .inl (ka_lasts, 90, .inl (upd f_lasts n_size y1)))]) hP hD [2, 3, 0, 1] [] rfl rfl (by decide) (by decide) hk1 hFc hP1 hD1
      generalize H1 = H at hP hS ⊢
      have hP : va_P (dC, dI) vcl [(a_t, .inr (8, [.ref a_parts, .ref a_firsts, .ref a_lasts, .int (nI (n_size + 1)), .int 1, .int 0])), (a_parts, .inl (ka_parts, 90, .inl (upd f_parts n_size 1))), (a_firsts, .inl (ka_firsts, 90, .inl (upd f_firsts n_size y0))), (a_lasts, .inl (ka_lasts, 90, .inl (upd f_lasts n_size y1)))] H := hP
      have hD : va_D A [(a_t, .inr (8, [.ref a_parts, .ref a_firsts, .ref a_lasts, .int (nI (n_size + 1)), .int 1, .int 0])), (a_parts, .inl (ka_parts, 90, .inl (upd f_parts n_size 1))), (a_firsts, .inl (ka_firsts, 90, .inl (upd f_firsts n_size y0))), (a_lasts, .inl (ka_lasts, 90, .inl (upd f_lasts n_size y1)))] := hD
      have hP9 := hP.sub (ws' := [(a_t, .inr (8, [.ref a_parts, .ref a_firsts, .ref a_lasts, .int (nI (n_size + 1)), .int 1, .int 0])), (a_parts, .inl (ka_parts, 90, .inl (upd f_parts n_size 1))), (a_firsts, .inl (ka_firsts, 90, .inl (upd f_firsts n_size y0))), (a_lasts, .inl (ka_lasts, 90, .inl (upd f_lasts n_size y1)))]) [0, 1, 2, 3] rfl
      have hD9 := hD.sub (ws' := [(a_t, .inr (8, [.ref a_parts, .ref a_firsts, .ref a_lasts, .int (nI (n_size + 1)), .int 1, .int 0])), (a_parts, .inl (ka_parts, 90, .inl (upd f_parts n_size 1))), (a_firsts, .inl (ka_firsts, 90, .inl (upd f_firsts n_size y0))), (a_lasts, .inl (ka_lasts, 90, .inl (upd f_lasts n_size y1)))]) [0, 1, 2, 3] (by decide) rfl
      exact W.vret hx hb hr (fun t ht hW => ⟨⟨(), rfl, trivial, ((n_size + 1)), 1, 0, ((upd f_parts n_size 1)), ((upd f_firsts n_size y0)), ((upd f_lasts n_size y1)), by first | omega | assumption | exact Or.inl rfl | exact Or.inr rfl | decide, by exact ro_1 (b01_yes e4) (lk_0 e24), by rw [ht]; exact hP9, va_K.moved hW.alike hK, hD9⟩, hS.F ht⟩) hS.2.2 d_Row_addOperation_60
  · have e4 := h1
    refine lv_iconst (v := 1) hx hb d_Row_addOperation_7 (by decide) ?_
    refine lv_goto (tgt := 12) hx hb d_Row_addOperation_8 (by decide) ?_
    refine lv_istore hx hb d_Row_addOperation_12 hl (by decide) rfl (fun ls hl => ?_)
    have hl : lv_has ls 5 [(4, .int 1), (0, .ref a_t), (1, .int y0), (2, .int y1), (3, .int y2)] := hl
    refine lv_aload_n hx hb d_Row_addOperation_14 rfl (lv_at hl 1 rfl) ?_
    refine lv_iconst (v := 1) hx hb d_Row_addOperation_15 (by decide) ?_
    refine va_put (D := (dC, dI)) (ci := 8) (v := .int 1) (ty := .boolean) (C := R_Row) (T := F_Row) (N := 6) hx hb hz zu_Row t_Row t_Row_ok n_Row hown hK hP hD hS 2 rfl rfl 4 (by decide) (hz (.fieldLink R_Row 25 "LayoutFront$Row" "operates" "Z") zm_313) (fun _ h9 => h9) rfl (by decide +kernel) (by decide +kernel) rfl (Nat.le_of_ble_eq_true rfl) d_Row_addOperation_16 (fun H locs hP hD hS => ?_)
    have hP : va_P (dC, dI) vcl [(a_firsts, .inl (ka_firsts, 90, .inl f_firsts)), (a_lasts, .inl (ka_lasts, 90, .inl f_lasts)), (a_t, .inr (8, [.ref a_parts, .ref a_firsts, .ref a_lasts, .int (nI n_size), .int 1, .int z_lacksOperand])), (a_parts, .inl (ka_parts, 90, .inl f_parts))] H := hP
    have hD : va_D A [(a_firsts, .inl (ka_firsts, 90, .inl f_firsts)), (a_lasts, .inl (ka_lasts, 90, .inl f_lasts)), (a_t, .inr (8, [.ref a_parts, .ref a_firsts, .ref a_lasts, .int (nI n_size), .int 1, .int z_lacksOperand])), (a_parts, .inl (ka_parts, 90, .inl f_parts))] := hD
    refine lv_aload_n hx hb d_Row_addOperation_19 rfl (lv_at hl 1 rfl) ?_
    refine lv_aload_n hx hb d_Row_addOperation_20 rfl (lv_at hl 1 rfl) ?_
    refine va_get (D := (dC, dI)) (ci := 8) (v := .int z_lacksOperand) (C := R_Row) (T := F_Row) (N := 6) hx hb hz zu_Row hown hK hP 2 rfl rfl 5 (by decide) (hz (.fieldLink R_Row 29 "LayoutFront$Row" "lacksOperand" "Z") zm_314) (fun _ h9 => h9) rfl d_Row_addOperation_21 ?_
    refine lv_if_ne (tgt := 36) hx hb d_Row_addOperation_24 (by decide) (fun h11 => ?_) (fun h11 => ?_)
    · have e24 := h11
      refine lv_iconst (v := 1) hx hb d_Row_addOperation_36 (by decide) ?_
      refine lv_goto (tgt := 41) hx hb d_Row_addOperation_37 (by decide) ?_
      refine va_put (D := (dC, dI)) (ci := 8) (v := .int 1) (ty := .boolean) (C := R_Row) (T := F_Row) (N := 6) hx hb hz zu_Row t_Row t_Row_ok n_Row hown hK hP hD hS 2 rfl rfl 5 (by decide) (hz (.fieldLink R_Row 29 "LayoutFront$Row" "lacksOperand" "Z") zm_314) (fun _ h9 => h9) rfl (by decide +kernel) (by decide +kernel) rfl (Nat.le_of_ble_eq_true rfl) d_Row_addOperation_41 (fun H locs hP hD hS => ?_)
      have hP : va_P (dC, dI) vcl [(a_firsts, .inl (ka_firsts, 90, .inl f_firsts)), (a_lasts, .inl (ka_lasts, 90, .inl f_lasts)), (a_t, .inr (8, [.ref a_parts, .ref a_firsts, .ref a_lasts, .int (nI n_size), .int 1, .int 1])), (a_parts, .inl (ka_parts, 90, .inl f_parts))] H := hP
      have hD : va_D A [(a_firsts, .inl (ka_firsts, 90, .inl f_firsts)), (a_lasts, .inl (ka_lasts, 90, .inl f_lasts)), (a_t, .inr (8, [.ref a_parts, .ref a_firsts, .ref a_lasts, .int (nI n_size), .int 1, .int 1])), (a_parts, .inl (ka_parts, 90, .inl f_parts))] := hD
      refine lv_aload_n hx hb d_Row_addOperation_44 rfl (lv_at hl 1 rfl) ?_
      refine lv_iload hx hb d_Row_addOperation_45 (lv_at hl 0 rfl) ?_
      refine lv_if_eq (tgt := 54) hx hb d_Row_addOperation_47 (by decide) (fun h => absurd h (by decide +kernel)) (fun _ => ?_)
      refine lv_iconst (v := 2) hx hb d_Row_addOperation_50 (by decide) ?_
      refine lv_goto (tgt := 55) hx hb d_Row_addOperation_51 (by decide) ?_
      refine lv_iload_n hx hb d_Row_addOperation_55 rfl (lv_at hl 2 rfl) ?_
      refine lv_iload_n hx hb d_Row_addOperation_56 rfl (lv_at hl 3 rfl) ?_
      have hPc := hP.sub (ws' := [(a_t, .inr (8, [.ref a_parts, .ref a_firsts, .ref a_lasts, .int (nI n_size), .int 1, .int 1])), (a_parts, .inl (ka_parts, 90, .inl f_parts)), (a_firsts, .inl (ka_firsts, 90, .inl f_firsts)), (a_lasts, .inl (ka_lasts, 90, .inl f_lasts))]) [2, 3, 0, 1] rfl
      have hDc := hD.sub (ws' := [(a_t, .inr (8, [.ref a_parts, .ref a_firsts, .ref a_lasts, .int (nI n_size), .int 1, .int 1])), (a_parts, .inl (ka_parts, 90, .inl f_parts)), (a_firsts, .inl (ka_firsts, 90, .inl f_firsts)), (a_lasts, .inl (ka_lasts, 90, .inl f_lasts))]) [2, 3, 0, 1] (by decide) rfl
      have hKc := hK.sub (tys' := [(ka_parts, .int), (ka_firsts, .int), (ka_lasts, .int)]) [0, 1, 2] rfl
      have hFc := va_free (wc := [(a_t, .inr (8, [.ref a_parts, .ref a_firsts, .ref a_lasts, .int (nI n_size), .int 1, .int 1])), (a_parts, .inl (ka_parts, 90, .inl f_parts)), (a_firsts, .inl (ka_firsts, 90, .inl f_firsts)), (a_lasts, .inl (ka_lasts, 90, .inl f_lasts))]) hD hS hA [2, 3, 0, 1] rfl
      refine va_callv (va_runV (As := [.int 2, .int y0, .int y1]) (rest := []) ⟨hx, hb, hml, hown, hz⟩ (s_Row_add7 l dC dI H.size a_t a_parts f_parts a_firsts f_firsts a_lasts f_lasts n_size 1 1 2 y0 y1 ka_parts ka_firsts ka_lasts (by first | omega | assumption | exact Or.inl rfl | exact Or.inr rfl | decide) (by first | omega | assumption | exact Or.inl rfl | exact Or.inr rfl | decide)) (cwV 3 hz (zV zm_320 zm_321 zm_322 zm_318 zm_323) rfl rfl rfl (by decide +kernel) ⟨Nat.le_of_ble_eq_true rfl, Nat.le_of_ble_eq_true rfl⟩) ⟨fun a U g mk q => by obtain ⟨q0, q1, qP, qK, qD⟩ := q; exact ⟨q0, q1, qP, va_K.moved (u := U) (U := U.calling g mk a) (Vm.Alike.refl U.vm) qK, qD⟩, va_recv (q := (R_Row, F_Row, 6)) (q0 := 2) (ci := 8) hK hP rfl rfl, fun U hU hW => ⟨rfl, by rw [hU], by rw [hU]; exact hPc, va_K.moved hW.alike hKc, hDc.weaken (fun _ _ _ _ => trivial)⟩⟩ rfl rfl hl.1 rfl (lv_room (Nat.le_of_ble_eq_true rfl)) d_Row_addOperation_57 ⟨Nat.zero_le _, Nat.zero_le _⟩) hS (fun q _ h => hFc q h) hFc (fun u t H1 locs ht hvm hw hB hz1 hk1 hS => ?_)
      obtain ⟨g12, g13, g14, g15, hb_g12, hq0_57, hq1_57, hq2_57, hq3_57, hP1, hK1, hD1⟩ := hB
      subst g12
      subst g13
      subst g14
      subst g15
      rw [ht] at hP1
      obtain ⟨hP, hD⟩ := va_join (wr := []) (w1 := [(a_t, .inr (8, [.ref a_parts, .ref a_firsts, .ref a_lasts, .int (nI (n_size + 1)), .int 1, .int 1])), (a_parts, .inl (ka_parts, 90, .inl (upd f_parts n_size 2))), (a_firsts, .inl (ka_firsts, 90, .inl (upd f_firsts n_size y0))), (a_lasts, .inl (ka_lasts, 90, .inl (upd f_lasts n_size y1)))]) hP hD [2, 3, 0, 1] [] rfl rfl (by decide) (by decide) hk1 hFc hP1 hD1
      generalize H1 = H at hP hS ⊢
      have hP : va_P (dC, dI) vcl [(a_t, .inr (8, [.ref a_parts, .ref a_firsts, .ref a_lasts, .int (nI (n_size + 1)), .int 1, .int 1])), (a_parts, .inl (ka_parts, 90, .inl (upd f_parts n_size 2))), (a_firsts, .inl (ka_firsts, 90, .inl (upd f_firsts n_size y0))), (a_lasts, .inl (ka_lasts, 90, .inl (upd f_lasts n_size y1)))] H := hP
      have hD : va_D A [(a_t, .inr (8, [.ref a_parts, .ref a_firsts, .ref a_lasts, .int (nI (n_size + 1)), .int 1, .int 1])), (a_parts, .inl (ka_parts, 90, .inl (upd f_parts n_size 2))), (a_firsts, .inl (ka_firsts, 90, .inl (upd f_firsts n_size y0))), (a_lasts, .inl (ka_lasts, 90, .inl (upd f_lasts n_size y1)))] := hD
      have hP9 := hP.sub (ws' := [(a_t, .inr (8, [.ref a_parts, .ref a_firsts, .ref a_lasts, .int (nI (n_size + 1)), .int 1, .int 1])), (a_parts, .inl (ka_parts, 90, .inl (upd f_parts n_size 2))), (a_firsts, .inl (ka_firsts, 90, .inl (upd f_firsts n_size y0))), (a_lasts, .inl (ka_lasts, 90, .inl (upd f_lasts n_size y1)))]) [0, 1, 2, 3] rfl
      have hD9 := hD.sub (ws' := [(a_t, .inr (8, [.ref a_parts, .ref a_firsts, .ref a_lasts, .int (nI (n_size + 1)), .int 1, .int 1])), (a_parts, .inl (ka_parts, 90, .inl (upd f_parts n_size 2))), (a_firsts, .inl (ka_firsts, 90, .inl (upd f_firsts n_size y0))), (a_lasts, .inl (ka_lasts, 90, .inl (upd f_lasts n_size y1)))]) [0, 1, 2, 3] (by decide) rfl
      exact W.vret hx hb hr (fun t ht hW => ⟨⟨(), rfl, trivial, ((n_size + 1)), 1, 1, ((upd f_parts n_size 2)), ((upd f_firsts n_size y0)), ((upd f_lasts n_size y1)), by first | omega | assumption | exact Or.inl rfl | exact Or.inr rfl | decide, by exact ro_2 (b01_no e4) (lk_2 e24), by rw [ht]; exact hP9, va_K.moved hW.alike hK, hD9⟩, hS.F ht⟩) hS.2.2 d_Row_addOperation_60
    · have e24 := h11
      refine lv_iload hx hb d_Row_addOperation_27 (lv_at hl 0 rfl) ?_
      refine lv_if_eq (tgt := 40) hx hb d_Row_addOperation_29 (by decide) (fun h => absurd h (by decide +kernel)) (fun _ => ?_)
      refine lv_iload_n hx hb d_Row_addOperation_32 rfl (lv_at hl 4 rfl) ?_
      refine lv_if_ne (tgt := 40) hx hb d_Row_addOperation_33 (by decide) (fun h16 => ?_) (fun h16 => ?_)
      · have e33 := h16
        refine lv_iconst (v := 0) hx hb d_Row_addOperation_40 (by decide) ?_
        refine va_put (D := (dC, dI)) (ci := 8) (v := .int 0) (ty := .boolean) (C := R_Row) (T := F_Row) (N := 6) hx hb hz zu_Row t_Row t_Row_ok n_Row hown hK hP hD hS 2 rfl rfl 5 (by decide) (hz (.fieldLink R_Row 29 "LayoutFront$Row" "lacksOperand" "Z") zm_314) (fun _ h9 => h9) rfl (by decide +kernel) (by decide +kernel) rfl (Nat.le_of_ble_eq_true rfl) d_Row_addOperation_41 (fun H locs hP hD hS => ?_)
        have hP : va_P (dC, dI) vcl [(a_firsts, .inl (ka_firsts, 90, .inl f_firsts)), (a_lasts, .inl (ka_lasts, 90, .inl f_lasts)), (a_t, .inr (8, [.ref a_parts, .ref a_firsts, .ref a_lasts, .int (nI n_size), .int 1, .int 0])), (a_parts, .inl (ka_parts, 90, .inl f_parts))] H := hP
        have hD : va_D A [(a_firsts, .inl (ka_firsts, 90, .inl f_firsts)), (a_lasts, .inl (ka_lasts, 90, .inl f_lasts)), (a_t, .inr (8, [.ref a_parts, .ref a_firsts, .ref a_lasts, .int (nI n_size), .int 1, .int 0])), (a_parts, .inl (ka_parts, 90, .inl f_parts))] := hD
        refine lv_aload_n hx hb d_Row_addOperation_44 rfl (lv_at hl 1 rfl) ?_
        refine lv_iload hx hb d_Row_addOperation_45 (lv_at hl 0 rfl) ?_
        refine lv_if_eq (tgt := 54) hx hb d_Row_addOperation_47 (by decide) (fun h => absurd h (by decide +kernel)) (fun _ => ?_)
        refine lv_iconst (v := 2) hx hb d_Row_addOperation_50 (by decide) ?_
        refine lv_goto (tgt := 55) hx hb d_Row_addOperation_51 (by decide) ?_
        refine lv_iload_n hx hb d_Row_addOperation_55 rfl (lv_at hl 2 rfl) ?_
        refine lv_iload_n hx hb d_Row_addOperation_56 rfl (lv_at hl 3 rfl) ?_
        have hPc := hP.sub (ws' := [(a_t, .inr (8, [.ref a_parts, .ref a_firsts, .ref a_lasts, .int (nI n_size), .int 1, .int 0])), (a_parts, .inl (ka_parts, 90, .inl f_parts)), (a_firsts, .inl (ka_firsts, 90, .inl f_firsts)), (a_lasts, .inl (ka_lasts, 90, .inl f_lasts))]) [2, 3, 0, 1] rfl
        have hDc := hD.sub (ws' := [(a_t, .inr (8, [.ref a_parts, .ref a_firsts, .ref a_lasts, .int (nI n_size), .int 1, .int 0])), (a_parts, .inl (ka_parts, 90, .inl f_parts)), (a_firsts, .inl (ka_firsts, 90, .inl f_firsts)), (a_lasts, .inl (ka_lasts, 90, .inl f_lasts))]) [2, 3, 0, 1] (by decide) rfl
        have hKc := hK.sub (tys' := [(ka_parts, .int), (ka_firsts, .int), (ka_lasts, .int)]) [0, 1, 2] rfl
        have hFc := va_free (wc := [(a_t, .inr (8, [.ref a_parts, .ref a_firsts, .ref a_lasts, .int (nI n_size), .int 1, .int 0])), (a_parts, .inl (ka_parts, 90, .inl f_parts)), (a_firsts, .inl (ka_firsts, 90, .inl f_firsts)), (a_lasts, .inl (ka_lasts, 90, .inl f_lasts))]) hD hS hA [2, 3, 0, 1] rfl
        refine va_callv (va_runV (As := [.int 2, .int y0, .int y1]) (rest := []) ⟨hx, hb, hml, hown, hz⟩ (s_Row_add7 l dC dI H.size a_t a_parts f_parts a_firsts f_firsts a_lasts f_lasts n_size 1 0 2 y0 y1 ka_parts ka_firsts ka_lasts (by first | omega | assumption | exact Or.inl rfl | exact Or.inr rfl | decide) (by first | omega | assumption | exact Or.inl rfl | exact Or.inr rfl | decide)) (cwV 3 hz (zV zm_320 zm_321 zm_322 zm_318 zm_323) rfl rfl rfl (by decide +kernel) ⟨Nat.le_of_ble_eq_true rfl, Nat.le_of_ble_eq_true rfl⟩) ⟨fun a U g mk q => by obtain ⟨q0, q1, qP, qK, qD⟩ := q; exact ⟨q0, q1, qP, va_K.moved (u := U) (U := U.calling g mk a) (Vm.Alike.refl U.vm) qK, qD⟩, va_recv (q := (R_Row, F_Row, 6)) (q0 := 2) (ci := 8) hK hP rfl rfl, fun U hU hW => ⟨rfl, by rw [hU], by rw [hU]; exact hPc, va_K.moved hW.alike hKc, hDc.weaken (fun _ _ _ _ => trivial)⟩⟩ rfl rfl hl.1 rfl (lv_room (Nat.le_of_ble_eq_true rfl)) d_Row_addOperation_57 ⟨Nat.zero_le _, Nat.zero_le _⟩) hS (fun q _ h => hFc q h) hFc (fun u t H1 locs ht hvm hw hB hz1 hk1 hS => ?_)
        obtain ⟨g17, g18, g19, g20, hb_g17, hq0_57, hq1_57, hq2_57, hq3_57, hP1, hK1, hD1⟩ := hB
        subst g17
        subst g18
        subst g19
        subst g20
        rw [ht] at hP1
        obtain ⟨hP, hD⟩ := va_join (wr := []) (w1 := [(a_t, .inr (8, [.ref a_parts, .ref a_firsts, .ref a_lasts, .int (nI (n_size + 1)), .int 1, .int 0])), (a_parts, .inl (ka_parts, 90, .inl (upd f_parts n_size 2))), (a_firsts, .inl (ka_firsts, 90, .inl (upd f_firsts n_size y0))), (a_lasts, .inl (ka_lasts, 90, .inl (upd f_lasts n_size y1)))]) hP hD [2, 3, 0, 1] [] rfl rfl (by decide) (by decide) hk1 hFc hP1 hD1
        generalize H1 = H at hP hS ⊢
        have hP : va_P (dC, dI) vcl [(a_t, .inr (8, [.ref a_parts, .ref a_firsts, .ref a_lasts, .int (nI (n_size + 1)), .int 1, .int 0])), (a_parts, .inl (ka_parts, 90, .inl (upd f_parts n_size 2))), (a_firsts, .inl (ka_firsts, 90, .inl (upd f_firsts n_size y0))), (a_lasts, .inl (ka_lasts, 90, .inl (upd f_lasts n_size y1)))] H := hP
        have hD : va_D A [(a_t, .inr (8, [.ref a_parts, .ref a_firsts, .ref a_lasts, .int (nI (n_size + 1)), .int 1, .int 0])), (a_parts, .inl (ka_parts, 90, .inl (upd f_parts n_size 2))), (a_firsts, .inl (ka_firsts, 90, .inl (upd f_firsts n_size y0))), (a_lasts, .inl (ka_lasts, 90, .inl (upd f_lasts n_size y1)))] := hD
        have hP9 := hP.sub (ws' := [(a_t, .inr (8, [.ref a_parts, .ref a_firsts, .ref a_lasts, .int (nI (n_size + 1)), .int 1, .int 0])), (a_parts, .inl (ka_parts, 90, .inl (upd f_parts n_size 2))), (a_firsts, .inl (ka_firsts, 90, .inl (upd f_firsts n_size y0))), (a_lasts, .inl (ka_lasts, 90, .inl (upd f_lasts n_size y1)))]) [0, 1, 2, 3] rfl
        have hD9 := hD.sub (ws' := [(a_t, .inr (8, [.ref a_parts, .ref a_firsts, .ref a_lasts, .int (nI (n_size + 1)), .int 1, .int 0])), (a_parts, .inl (ka_parts, 90, .inl (upd f_parts n_size 2))), (a_firsts, .inl (ka_firsts, 90, .inl (upd f_firsts n_size y0))), (a_lasts, .inl (ka_lasts, 90, .inl (upd f_lasts n_size y1)))]) [0, 1, 2, 3] (by decide) rfl
        exact W.vret hx hb hr (fun t ht hW => ⟨⟨(), rfl, trivial, ((n_size + 1)), 1, 0, ((upd f_parts n_size 2)), ((upd f_firsts n_size y0)), ((upd f_lasts n_size y1)), by first | omega | assumption | exact Or.inl rfl | exact Or.inr rfl | decide, by exact ro_2 (b01_no e4) (lk_3 e24 e33), by rw [ht]; exact hP9, va_K.moved hW.alike hK, hD9⟩, hS.F ht⟩) hS.2.2 d_Row_addOperation_60
      · have e33 := h16
        refine lv_iconst (v := 1) hx hb d_Row_addOperation_36 (by decide) ?_
        refine lv_goto (tgt := 41) hx hb d_Row_addOperation_37 (by decide) ?_
        refine va_put (D := (dC, dI)) (ci := 8) (v := .int 1) (ty := .boolean) (C := R_Row) (T := F_Row) (N := 6) hx hb hz zu_Row t_Row t_Row_ok n_Row hown hK hP hD hS 2 rfl rfl 5 (by decide) (hz (.fieldLink R_Row 29 "LayoutFront$Row" "lacksOperand" "Z") zm_314) (fun _ h9 => h9) rfl (by decide +kernel) (by decide +kernel) rfl (Nat.le_of_ble_eq_true rfl) d_Row_addOperation_41 (fun H locs hP hD hS => ?_)
        have hP : va_P (dC, dI) vcl [(a_firsts, .inl (ka_firsts, 90, .inl f_firsts)), (a_lasts, .inl (ka_lasts, 90, .inl f_lasts)), (a_t, .inr (8, [.ref a_parts, .ref a_firsts, .ref a_lasts, .int (nI n_size), .int 1, .int 1])), (a_parts, .inl (ka_parts, 90, .inl f_parts))] H := hP
        have hD : va_D A [(a_firsts, .inl (ka_firsts, 90, .inl f_firsts)), (a_lasts, .inl (ka_lasts, 90, .inl f_lasts)), (a_t, .inr (8, [.ref a_parts, .ref a_firsts, .ref a_lasts, .int (nI n_size), .int 1, .int 1])), (a_parts, .inl (ka_parts, 90, .inl f_parts))] := hD
        refine lv_aload_n hx hb d_Row_addOperation_44 rfl (lv_at hl 1 rfl) ?_
        refine lv_iload hx hb d_Row_addOperation_45 (lv_at hl 0 rfl) ?_
        refine lv_if_eq (tgt := 54) hx hb d_Row_addOperation_47 (by decide) (fun h => absurd h (by decide +kernel)) (fun _ => ?_)
        refine lv_iconst (v := 2) hx hb d_Row_addOperation_50 (by decide) ?_
        refine lv_goto (tgt := 55) hx hb d_Row_addOperation_51 (by decide) ?_
        refine lv_iload_n hx hb d_Row_addOperation_55 rfl (lv_at hl 2 rfl) ?_
        refine lv_iload_n hx hb d_Row_addOperation_56 rfl (lv_at hl 3 rfl) ?_
        have hPc := hP.sub (ws' := [(a_t, .inr (8, [.ref a_parts, .ref a_firsts, .ref a_lasts, .int (nI n_size), .int 1, .int 1])), (a_parts, .inl (ka_parts, 90, .inl f_parts)), (a_firsts, .inl (ka_firsts, 90, .inl f_firsts)), (a_lasts, .inl (ka_lasts, 90, .inl f_lasts))]) [2, 3, 0, 1] rfl
        have hDc := hD.sub (ws' := [(a_t, .inr (8, [.ref a_parts, .ref a_firsts, .ref a_lasts, .int (nI n_size), .int 1, .int 1])), (a_parts, .inl (ka_parts, 90, .inl f_parts)), (a_firsts, .inl (ka_firsts, 90, .inl f_firsts)), (a_lasts, .inl (ka_lasts, 90, .inl f_lasts))]) [2, 3, 0, 1] (by decide) rfl
        have hKc := hK.sub (tys' := [(ka_parts, .int), (ka_firsts, .int), (ka_lasts, .int)]) [0, 1, 2] rfl
        have hFc := va_free (wc := [(a_t, .inr (8, [.ref a_parts, .ref a_firsts, .ref a_lasts, .int (nI n_size), .int 1, .int 1])), (a_parts, .inl (ka_parts, 90, .inl f_parts)), (a_firsts, .inl (ka_firsts, 90, .inl f_firsts)), (a_lasts, .inl (ka_lasts, 90, .inl f_lasts))]) hD hS hA [2, 3, 0, 1] rfl
        refine va_callv (va_runV (As := [.int 2, .int y0, .int y1]) (rest := []) ⟨hx, hb, hml, hown, hz⟩ (s_Row_add7 l dC dI H.size a_t a_parts f_parts a_firsts f_firsts a_lasts f_lasts n_size 1 1 2 y0 y1 ka_parts ka_firsts ka_lasts (by first | omega | assumption | exact Or.inl rfl | exact Or.inr rfl | decide) (by first | omega | assumption | exact Or.inl rfl | exact Or.inr rfl | decide)) (cwV 3 hz (zV zm_320 zm_321 zm_322 zm_318 zm_323) rfl rfl rfl (by decide +kernel) ⟨Nat.le_of_ble_eq_true rfl, Nat.le_of_ble_eq_true rfl⟩) ⟨fun a U g mk q => by obtain ⟨q0, q1, qP, qK, qD⟩ := q; exact ⟨q0, q1, qP, va_K.moved (u := U) (U := U.calling g mk a) (Vm.Alike.refl U.vm) qK, qD⟩, va_recv (q := (R_Row, F_Row, 6)) (q0 := 2) (ci := 8) hK hP rfl rfl, fun U hU hW => ⟨rfl, by rw [hU], by rw [hU]; exact hPc, va_K.moved hW.alike hKc, hDc.weaken (fun _ _ _ _ => trivial)⟩⟩ rfl rfl hl.1 rfl (lv_room (Nat.le_of_ble_eq_true rfl)) d_Row_addOperation_57 ⟨Nat.zero_le _, Nat.zero_le _⟩) hS (fun q _ h => hFc q h) hFc (fun u t H1 locs ht hvm hw hB hz1 hk1 hS => ?_)
        obtain ⟨g21, g22, g23, g24, hb_g21, hq0_57, hq1_57, hq2_57, hq3_57, hP1, hK1, hD1⟩ := hB
        subst g21
        subst g22
        subst g23
        subst g24
        rw [ht] at hP1
        obtain ⟨hP, hD⟩ := va_join (wr := []) (w1 := [(a_t, .inr (8, [.ref a_parts, .ref a_firsts, .ref a_lasts, .int (nI (n_size + 1)), .int 1, .int 1])), (a_parts, .inl (ka_parts, 90, .inl (upd f_parts n_size 2))), (a_firsts, .inl (ka_firsts, 90, .inl (upd f_firsts n_size y0))), (a_lasts, .inl (ka_lasts, 90, .inl (upd f_lasts n_size y1)))]) hP hD [2, 3, 0, 1] [] rfl rfl (by decide) (by decide) hk1 hFc hP1 hD1
        generalize H1 = H at hP hS ⊢
        have hP : va_P (dC, dI) vcl [(a_t, .inr (8, [.ref a_parts, .ref a_firsts, .ref a_lasts, .int (nI (n_size + 1)), .int 1, .int 1])), (a_parts, .inl (ka_parts, 90, .inl (upd f_parts n_size 2))), (a_firsts, .inl (ka_firsts, 90, .inl (upd f_firsts n_size y0))), (a_lasts, .inl (ka_lasts, 90, .inl (upd f_lasts n_size y1)))] H := hP
        have hD : va_D A [(a_t, .inr (8, [.ref a_parts, .ref a_firsts, .ref a_lasts, .int (nI (n_size + 1)), .int 1, .int 1])), (a_parts, .inl (ka_parts, 90, .inl (upd f_parts n_size 2))), (a_firsts, .inl (ka_firsts, 90, .inl (upd f_firsts n_size y0))), (a_lasts, .inl (ka_lasts, 90, .inl (upd f_lasts n_size y1)))] := hD
        have hP9 := hP.sub (ws' := [(a_t, .inr (8, [.ref a_parts, .ref a_firsts, .ref a_lasts, .int (nI (n_size + 1)), .int 1, .int 1])), (a_parts, .inl (ka_parts, 90, .inl (upd f_parts n_size 2))), (a_firsts, .inl (ka_firsts, 90, .inl (upd f_firsts n_size y0))), (a_lasts, .inl (ka_lasts, 90, .inl (upd f_lasts n_size y1)))]) [0, 1, 2, 3] rfl
        have hD9 := hD.sub (ws' := [(a_t, .inr (8, [.ref a_parts, .ref a_firsts, .ref a_lasts, .int (nI (n_size + 1)), .int 1, .int 1])), (a_parts, .inl (ka_parts, 90, .inl (upd f_parts n_size 2))), (a_firsts, .inl (ka_firsts, 90, .inl (upd f_firsts n_size y0))), (a_lasts, .inl (ka_lasts, 90, .inl (upd f_lasts n_size y1)))]) [0, 1, 2, 3] (by decide) rfl
        exact W.vret hx hb hr (fun t ht hW => ⟨⟨(), rfl, trivial, ((n_size + 1)), 1, 1, ((upd f_parts n_size 2)), ((upd f_firsts n_size y0)), ((upd f_lasts n_size y1)), by first | omega | assumption | exact Or.inl rfl | exact Or.inr rfl | decide, by exact ro_2 (b01_no e4) (lk_4 e24 e33), by rw [ht]; exact hP9, va_K.moved hW.alike hK, hD9⟩, hS.F ht⟩) hS.2.2 d_Row_addOperation_60
set_option maxHeartbeats 4000000 in
set_option maxRecDepth 100000 in
theorem s_Row_isWhole7 (l : Launch) (dC : Nat → ClassId) (dI : Nat → Nat → Nat) (sz : Nat) (a_t : Nat) (a_parts : Nat) (f_parts : Nat → Int32) (a_firsts : Nat) (f_firsts : Nat → Int32) (a_lasts : Nat) (f_lasts : Nat → Int32) (n_size : Nat) (z_operates : Int32) (z_lacksOperand : Int32) (ka_parts : ClassId) (b_size : n_size ≤ 90) : Met l y_Row_isWhole w_Row_isWhole ({ frames := 1, cells := 0, slots := 0, locals := 20 }) (va_Pc [.ref a_t] (fun U => U.heap.size = sz ∧ va_P (dC, dI) vcl [(a_t, .inr (8, [.ref a_parts, .ref a_firsts, .ref a_lasts, .int (nI n_size), .int z_operates, .int z_lacksOperand])), (a_parts, .inl (ka_parts, 90, .inl f_parts))] U.heap ∧ va_K (dC, dI) vcl [(ka_parts, .int)] U ∧ va_D (fun _ => True) [(a_t, .inr (8, [.ref a_parts, .ref a_firsts, .ref a_lasts, .int (nI n_size), .int z_operates, .int z_lacksOperand])), (a_parts, .inl (ka_parts, 90, .inl f_parts))])) (va_Qi (fun (r : Int32) (_ : Unit) => (r = 0 ∨ r = 1) ∧ (r = b01 (wh7 (z3 f_firsts f_lasts f_parts n_size, decide (¬ z_operates = 0), decide (¬ z_lacksOperand = 0))))) (fun _ t => va_P (dC, dI) vcl [(a_t, .inr (8, [.ref a_parts, .ref a_firsts, .ref a_lasts, .int (nI n_size), .int z_operates, .int z_lacksOperand])), (a_parts, .inl (ka_parts, 90, .inl f_parts))] t.heap ∧ va_K (dC, dI) vcl [(ka_parts, .int)] t ∧ va_D (va_A [(a_t, .inr (8, [.ref a_parts, .ref a_firsts, .ref a_lasts, .int (nI n_size), .int z_operates, .int z_lacksOperand])), (a_parts, .inl (ka_parts, 90, .inl f_parts))] sz) [(a_t, .inr (8, [.ref a_parts, .ref a_firsts, .ref a_lasts, .int (nI n_size), .int z_operates, .int z_lacksOperand])), (a_parts, .inl (ka_parts, 90, .inl f_parts))]) (va_A [(a_t, .inr (8, [.ref a_parts, .ref a_firsts, .ref a_lasts, .int (nI n_size), .int z_operates, .int z_lacksOperand])), (a_parts, .inl (ka_parts, 90, .inl f_parts))] sz)) 0 0 (va_A [(a_t, .inr (8, [.ref a_parts, .ref a_firsts, .ref a_lasts, .int (nI n_size), .int z_operates, .int z_lacksOperand])), (a_parts, .inl (ka_parts, 90, .inl f_parts))] sz) := by
  refine Met.ofW (cc := b_Row_isWhole) (maxL := 1) (ret := (some .boolean)) (by decide) rfl ?_
  intro p e s m args below meth c s₁ B hml hv
  obtain ⟨rfl, hsz, hP, hK, hD0⟩ := hv
  have hx := B.exec
  have hb := B.bytes
  have hr := B.returns
  have hts := atoms_spec (ws := w_Row_isWhole) B.pre
  have hz : ∀ w ∈ wz, w.before _ s = true := fun w h => hts w (List.mem_cons_of_mem _ h)
  have hown : s.vm.findClass R_Row = some m.cls := findClass_of_methodNamed B.named
  have hlocks := B.notSynchronized
  subst hsz
  have hD := hD0.self (sz := s.heap.size)
  generalize hAe : va_A [(a_t, .inr (8, [.ref a_parts, .ref a_firsts, .ref a_lasts, .int (nI n_size), .int z_operates, .int z_lacksOperand])), (a_parts, .inl (ka_parts, 90, .inl f_parts))] s.heap.size = A at hD ⊢
  have hA : ∀ q : Nat, s.heap.size ≤ q → A q := fun q h => by rw [← hAe]; exact Or.inr h
  have hS : va_S A s.heap s.heap [] := va_S.rf
  have hP : va_P (dC, dI) vcl [(a_t, .inr (8, [.ref a_parts, .ref a_firsts, .ref a_lasts, .int (nI n_size), .int z_operates, .int z_lacksOperand])), (a_parts, .inl (ka_parts, 90, .inl f_parts))] s.heap := hP
  have hl := lv_entry ([.ref a_t]) (n := 1) (Nat.le_of_ble_eq_true rfl)
  rw [lg_entry_eq]
  generalize (lg_sl ([.ref a_t]) ++ List.replicate (1 - (lg_sl ([.ref a_t])).length) Slot.unset).toArray = ls at hl ⊢
  have hl : lv_has ls 1 [(0, .ref a_t)] := hl
  refine lv_aload_n hx hb d_Row_isWhole_0 rfl (lv_at hl 0 rfl) ?_
  refine va_get (D := (dC, dI)) (ci := 8) (v := .int z_operates) (C := R_Row) (T := F_Row) (N := 6) hx hb hz zu_Row hown hK hP 0 rfl rfl 4 (by decide) (hz (.fieldLink R_Row 25 "LayoutFront$Row" "operates" "Z") zm_313) (fun _ h9 => h9) rfl d_Row_isWhole_1 ?_
  refine lv_if_eq (tgt := 25) hx hb d_Row_isWhole_4 (by decide) (fun h1 => ?_) (fun h1 => ?_)
  · have e4 := h1
    refine lv_iconst (v := 0) hx hb d_Row_isWhole_25 (by decide) ?_
    have hP9 := hP.sub (ws' := [(a_t, .inr (8, [.ref a_parts, .ref a_firsts, .ref a_lasts, .int (nI n_size), .int z_operates, .int z_lacksOperand])), (a_parts, .inl (ka_parts, 90, .inl f_parts))]) [0, 1] rfl
    have hD9 := hD.sub (ws' := [(a_t, .inr (8, [.ref a_parts, .ref a_firsts, .ref a_lasts, .int (nI n_size), .int z_operates, .int z_lacksOperand])), (a_parts, .inl (ka_parts, 90, .inl f_parts))]) [0, 1] (by decide) rfl
    exact W.zret (v := 0) hx hb hr (by decide +kernel) (fun t ht hW => ⟨⟨0, (), rfl, ⟨(by first | assumption | exact Or.inl rfl | exact Or.inr rfl), (by exact wh_a e4)⟩, by rw [ht]; exact hP9, va_K.moved hW.alike hK, hD9⟩, hS.F ht⟩) hS.2.2 d_Row_isWhole_26
  · have e4 := h1
    refine lv_aload_n hx hb d_Row_isWhole_7 rfl (lv_at hl 0 rfl) ?_
    refine va_get (D := (dC, dI)) (ci := 8) (v := .int z_lacksOperand) (C := R_Row) (T := F_Row) (N := 6) hx hb hz zu_Row hown hK hP 0 rfl rfl 5 (by decide) (hz (.fieldLink R_Row 29 "LayoutFront$Row" "lacksOperand" "Z") zm_314) (fun _ h9 => h9) rfl d_Row_isWhole_8 ?_
    refine lv_if_ne (tgt := 25) hx hb d_Row_isWhole_11 (by decide) (fun h2 => ?_) (fun h2 => ?_)
    · have e11 := h2
      refine lv_iconst (v := 0) hx hb d_Row_isWhole_25 (by decide) ?_
      have hP9 := hP.sub (ws' := [(a_t, .inr (8, [.ref a_parts, .ref a_firsts, .ref a_lasts, .int (nI n_size), .int z_operates, .int z_lacksOperand])), (a_parts, .inl (ka_parts, 90, .inl f_parts))]) [0, 1] rfl
      have hD9 := hD.sub (ws' := [(a_t, .inr (8, [.ref a_parts, .ref a_firsts, .ref a_lasts, .int (nI n_size), .int z_operates, .int z_lacksOperand])), (a_parts, .inl (ka_parts, 90, .inl f_parts))]) [0, 1] (by decide) rfl
      exact W.zret (v := 0) hx hb hr (by decide +kernel) (fun t ht hW => ⟨⟨0, (), rfl, ⟨(by first | assumption | exact Or.inl rfl | exact Or.inr rfl), (by exact wh_b e11)⟩, by rw [ht]; exact hP9, va_K.moved hW.alike hK, hD9⟩, hS.F ht⟩) hS.2.2 d_Row_isWhole_26
    · have e11 := h2
      refine lv_aload_n hx hb d_Row_isWhole_14 rfl (lv_at hl 0 rfl) ?_
      have hPc := hP.sub (ws' := [(a_t, .inr (8, [.ref a_parts, .ref a_firsts, .ref a_lasts, .int (nI n_size), .int z_operates, .int z_lacksOperand])), (a_parts, .inl (ka_parts, 90, .inl f_parts))]) [0, 1] rfl
      have hDc := hD.sub (ws' := [(a_t, .inr (8, [.ref a_parts, .ref a_firsts, .ref a_lasts, .int (nI n_size), .int z_operates, .int z_lacksOperand])), (a_parts, .inl (ka_parts, 90, .inl f_parts))]) [0, 1] (by decide) rfl
      have hKc := hK.sub (tys' := [(ka_parts, .int)]) [0] rfl
      have hFc := va_free (wc := [(a_t, .inr (8, [.ref a_parts, .ref a_firsts, .ref a_lasts, .int (nI n_size), .int z_operates, .int z_lacksOperand])), (a_parts, .inl (ka_parts, 90, .inl f_parts))]) hD hS hA [0, 1] rfl
      refine va_calli (va_runV (As := []) (rest := []) ⟨hx, hb, hml, hown, hz⟩ (s_Row_endsWithOperand7 l dC dI s.heap.size a_t a_parts f_parts a_firsts f_firsts a_lasts f_lasts n_size z_operates z_lacksOperand ka_parts (by first | omega | assumption | exact Or.inl rfl | exact Or.inr rfl | decide)) (cwV 0 hz (zV zm_315 zm_316 zm_317 zm_318 zm_319) rfl rfl rfl (by decide +kernel) ⟨Nat.le_of_ble_eq_true rfl, Nat.le_of_ble_eq_true rfl⟩) ⟨fun a U g mk q => by obtain ⟨q0, q1, qP, qK, qD⟩ := q; exact ⟨q0, q1, qP, va_K.moved (u := U) (U := U.calling g mk a) (Vm.Alike.refl U.vm) qK, qD⟩, va_recv (q := (R_Row, F_Row, 6)) (q0 := 0) (ci := 8) hK hP rfl rfl, fun U hU hW => ⟨rfl, by rw [hU], by rw [hU]; exact hPc, va_K.moved hW.alike hKc, hDc.weaken (fun _ _ _ _ => trivial)⟩⟩ rfl rfl hl.1 rfl (lv_room (Nat.le_of_ble_eq_true rfl)) d_Row_isWhole_15 ⟨Nat.zero_le _, Nat.zero_le _⟩) hS (fun q _ h => hFc q h) hFc (fun r u t H1 locs ht hvm hw_r hB hz1 hk1 hS => ?_)
      obtain ⟨hP1, hK1, hD1⟩ := hB
      obtain ⟨hb_r, he_r⟩ := hw_r
      subst r
      rw [ht] at hP1
      obtain ⟨hP, hD⟩ := va_join (wr := []) (w1 := [(a_t, .inr (8, [.ref a_parts, .ref a_firsts, .ref a_lasts, .int (nI n_size), .int z_operates, .int z_lacksOperand])), (a_parts, .inl (ka_parts, 90, .inl f_parts))]) hP hD [0, 1] [] rfl rfl (by decide) (by decide) hk1 hFc hP1 hD1
      generalize H1 = H at hP hS ⊢
      have hP : va_P (dC, dI) vcl [(a_t, .inr (8, [.ref a_parts, .ref a_firsts, .ref a_lasts, .int (nI n_size), .int z_operates, .int z_lacksOperand])), (a_parts, .inl (ka_parts, 90, .inl f_parts))] H := hP
      have hD : va_D A [(a_t, .inr (8, [.ref a_parts, .ref a_firsts, .ref a_lasts, .int (nI n_size), .int z_operates, .int z_lacksOperand])), (a_parts, .inl (ka_parts, 90, .inl f_parts))] := hD
      refine lv_if_eq (tgt := 25) hx hb d_Row_isWhole_18 (by decide) (fun h3 => ?_) (fun h3 => ?_)
      · have e18 := h3
        refine lv_iconst (v := 0) hx hb d_Row_isWhole_25 (by decide) ?_
        have hP9 := hP.sub (ws' := [(a_t, .inr (8, [.ref a_parts, .ref a_firsts, .ref a_lasts, .int (nI n_size), .int z_operates, .int z_lacksOperand])), (a_parts, .inl (ka_parts, 90, .inl f_parts))]) [0, 1] rfl
        have hD9 := hD.sub (ws' := [(a_t, .inr (8, [.ref a_parts, .ref a_firsts, .ref a_lasts, .int (nI n_size), .int z_operates, .int z_lacksOperand])), (a_parts, .inl (ka_parts, 90, .inl f_parts))]) [0, 1] (by decide) rfl
        exact W.zret (v := 0) hx hb hr (by decide +kernel) (fun t ht hW => ⟨⟨0, (), rfl, ⟨(by first | assumption | exact Or.inl rfl | exact Or.inr rfl), (by exact wh_c (b01_no e18))⟩, by rw [ht]; exact hP9, va_K.moved hW.alike hK, hD9⟩, hS.F ht⟩) hS.2.2 d_Row_isWhole_26
      · have e18 := h3
        refine lv_iconst (v := 1) hx hb d_Row_isWhole_21 (by decide) ?_
        refine lv_goto (tgt := 26) hx hb d_Row_isWhole_22 (by decide) ?_
        have hP9 := hP.sub (ws' := [(a_t, .inr (8, [.ref a_parts, .ref a_firsts, .ref a_lasts, .int (nI n_size), .int z_operates, .int z_lacksOperand])), (a_parts, .inl (ka_parts, 90, .inl f_parts))]) [0, 1] rfl
        have hD9 := hD.sub (ws' := [(a_t, .inr (8, [.ref a_parts, .ref a_firsts, .ref a_lasts, .int (nI n_size), .int z_operates, .int z_lacksOperand])), (a_parts, .inl (ka_parts, 90, .inl f_parts))]) [0, 1] (by decide) rfl
        exact W.zret (v := 1) hx hb hr (by decide +kernel) (fun t ht hW => ⟨⟨1, (), rfl, ⟨(by first | assumption | exact Or.inl rfl | exact Or.inr rfl), (by exact wh_d e4 e11 (b01_yes e18))⟩, by rw [ht]; exact hP9, va_K.moved hW.alike hK, hD9⟩, hS.F ht⟩) hS.2.2 d_Row_isWhole_26
set_option maxHeartbeats 4000000 in
set_option maxRecDepth 100000 in
theorem s_Row_has7 (l : Launch) (dC : Nat → ClassId) (dI : Nat → Nat → Nat) (sz : Nat) (a_t : Nat) (a_parts : Nat) (a_firsts : Nat) (a_lasts : Nat) (n_size : Nat) (z_operates : Int32) (z_lacksOperand : Int32) (y0 : Int32) (b_size : n_size ≤ 90) : Met l y_Row_has w_Row_has ({ frames := 0, cells := 0, slots := 0, locals := 0 }) (va_Pc [.ref a_t, .int y0] (fun U => U.heap.size = sz ∧ va_P (dC, dI) vcl [(a_t, .inr (8, [.ref a_parts, .ref a_firsts, .ref a_lasts, .int (nI n_size), .int z_operates, .int z_lacksOperand]))] U.heap ∧ va_K (dC, dI) vcl [] U ∧ va_D (fun _ => True) [(a_t, .inr (8, [.ref a_parts, .ref a_firsts, .ref a_lasts, .int (nI n_size), .int z_operates, .int z_lacksOperand]))])) (va_Qi (fun (r : Int32) (_ : Unit) => (r = 0 ∨ r = 1) ∧ (r = hsI n_size y0)) (fun _ t => va_P (dC, dI) vcl [(a_t, .inr (8, [.ref a_parts, .ref a_firsts, .ref a_lasts, .int (nI n_size), .int z_operates, .int z_lacksOperand]))] t.heap ∧ va_K (dC, dI) vcl [] t ∧ va_D (va_A [(a_t, .inr (8, [.ref a_parts, .ref a_firsts, .ref a_lasts, .int (nI n_size), .int z_operates, .int z_lacksOperand]))] sz) [(a_t, .inr (8, [.ref a_parts, .ref a_firsts, .ref a_lasts, .int (nI n_size), .int z_operates, .int z_lacksOperand]))]) (va_A [(a_t, .inr (8, [.ref a_parts, .ref a_firsts, .ref a_lasts, .int (nI n_size), .int z_operates, .int z_lacksOperand]))] sz)) 0 0 (va_A [(a_t, .inr (8, [.ref a_parts, .ref a_firsts, .ref a_lasts, .int (nI n_size), .int z_operates, .int z_lacksOperand]))] sz) := by
  refine Met.ofW (cc := b_Row_has) (maxL := 2) (ret := (some .boolean)) (by decide) rfl ?_
  intro p e s m args below meth c s₁ B hml hv
  obtain ⟨rfl, hsz, hP, hK, hD0⟩ := hv
  have hx := B.exec
  have hb := B.bytes
  have hr := B.returns
  have hts := atoms_spec (ws := w_Row_has) B.pre
  have hz : ∀ w ∈ wz, w.before _ s = true := fun w h => hts w (List.mem_cons_of_mem _ h)
  have hown : s.vm.findClass R_Row = some m.cls := findClass_of_methodNamed B.named
  have hlocks := B.notSynchronized
  subst hsz
  have hD := hD0.self (sz := s.heap.size)
  generalize hAe : va_A [(a_t, .inr (8, [.ref a_parts, .ref a_firsts, .ref a_lasts, .int (nI n_size), .int z_operates, .int z_lacksOperand]))] s.heap.size = A at hD ⊢
  have hA : ∀ q : Nat, s.heap.size ≤ q → A q := fun q h => by rw [← hAe]; exact Or.inr h
  have hS : va_S A s.heap s.heap [] := va_S.rf
  have hP : va_P (dC, dI) vcl [(a_t, .inr (8, [.ref a_parts, .ref a_firsts, .ref a_lasts, .int (nI n_size), .int z_operates, .int z_lacksOperand]))] s.heap := hP
  have hl := lv_entry ([.ref a_t, .int y0]) (n := 2) (Nat.le_of_ble_eq_true rfl)
  rw [lg_entry_eq]
  generalize (lg_sl ([.ref a_t, .int y0]) ++ List.replicate (2 - (lg_sl ([.ref a_t, .int y0])).length) Slot.unset).toArray = ls at hl ⊢
  have hl : lv_has ls 2 [(0, .ref a_t), (1, .int y0)] := hl
  refine lv_iload_n hx hb d_Row_has_0 rfl (lv_at hl 1 rfl) ?_
  refine lv_if_lt (tgt := 16) hx hb d_Row_has_1 (by decide) (fun h1 => ?_) (fun h1 => ?_)
  · refine lv_iconst (v := 0) hx hb d_Row_has_16 (by decide) ?_
    have hP9 := hP.sub (ws' := [(a_t, .inr (8, [.ref a_parts, .ref a_firsts, .ref a_lasts, .int (nI n_size), .int z_operates, .int z_lacksOperand]))]) [0] rfl
    have hD9 := hD.sub (ws' := [(a_t, .inr (8, [.ref a_parts, .ref a_firsts, .ref a_lasts, .int (nI n_size), .int z_operates, .int z_lacksOperand]))]) [0] (by decide) rfl
    exact W.zret (v := 0) hx hb hr (by decide +kernel) (fun t ht hW => ⟨⟨0, (), rfl, ⟨(by first | assumption | exact Or.inl rfl | exact Or.inr rfl), (by unfold hsI; simp [*])⟩, by rw [ht]; exact hP9, va_K.moved hW.alike hK, hD9⟩, hS.F ht⟩) hS.2.2 d_Row_has_17
  · refine lv_iload_n hx hb d_Row_has_4 rfl (lv_at hl 1 rfl) ?_
    refine lv_aload_n hx hb d_Row_has_5 rfl (lv_at hl 0 rfl) ?_
    refine va_get (D := (dC, dI)) (ci := 8) (v := .int (nI n_size)) (C := R_Row) (T := F_Row) (N := 6) hx hb hz zu_Row hown hK hP 0 rfl rfl 3 (by decide) (hz (.fieldLink R_Row 21 "LayoutFront$Row" "size" "I") zm_312) (fun _ h9 => h9) rfl d_Row_has_6 ?_
    refine lv_icmp_ge (tgt := 16) hx hb d_Row_has_9 (by decide) (fun h2 => ?_) (fun h2 => ?_)
    · refine lv_iconst (v := 0) hx hb d_Row_has_16 (by decide) ?_
      have hP9 := hP.sub (ws' := [(a_t, .inr (8, [.ref a_parts, .ref a_firsts, .ref a_lasts, .int (nI n_size), .int z_operates, .int z_lacksOperand]))]) [0] rfl
      have hD9 := hD.sub (ws' := [(a_t, .inr (8, [.ref a_parts, .ref a_firsts, .ref a_lasts, .int (nI n_size), .int z_operates, .int z_lacksOperand]))]) [0] (by decide) rfl
      exact W.zret (v := 0) hx hb hr (by decide +kernel) (fun t ht hW => ⟨⟨0, (), rfl, ⟨(by first | assumption | exact Or.inl rfl | exact Or.inr rfl), (by unfold hsI; simp [*])⟩, by rw [ht]; exact hP9, va_K.moved hW.alike hK, hD9⟩, hS.F ht⟩) hS.2.2 d_Row_has_17
    · refine lv_iconst (v := 1) hx hb d_Row_has_12 (by decide) ?_
      refine lv_goto (tgt := 17) hx hb d_Row_has_13 (by decide) ?_
      have hP9 := hP.sub (ws' := [(a_t, .inr (8, [.ref a_parts, .ref a_firsts, .ref a_lasts, .int (nI n_size), .int z_operates, .int z_lacksOperand]))]) [0] rfl
      have hD9 := hD.sub (ws' := [(a_t, .inr (8, [.ref a_parts, .ref a_firsts, .ref a_lasts, .int (nI n_size), .int z_operates, .int z_lacksOperand]))]) [0] (by decide) rfl
      exact W.zret (v := 1) hx hb hr (by decide +kernel) (fun t ht hW => ⟨⟨1, (), rfl, ⟨(by first | assumption | exact Or.inl rfl | exact Or.inr rfl), (by unfold hsI; simp [*])⟩, by rw [ht]; exact hP9, va_K.moved hW.alike hK, hD9⟩, hS.F ht⟩) hS.2.2 d_Row_has_17
set_option maxHeartbeats 4000000 in
set_option maxRecDepth 100000 in
theorem s_Row_partAt7 (l : Launch) (dC : Nat → ClassId) (dI : Nat → Nat → Nat) (sz : Nat) (a_t : Nat) (a_parts : Nat) (f_parts : Nat → Int32) (a_firsts : Nat) (a_lasts : Nat) (n_size : Nat) (z_operates : Int32) (z_lacksOperand : Int32) (y0 : Nat) (ka_parts : ClassId) (b_size : n_size ≤ 90) (by0 : y0 ≤ 90) : Met l y_Row_partAt w_Row_partAt ({ frames := 1, cells := 0, slots := 0, locals := 21 }) (va_Pc [.ref a_t, .int (nI y0)] (fun U => U.heap.size = sz ∧ va_P (dC, dI) vcl [(a_t, .inr (8, [.ref a_parts, .ref a_firsts, .ref a_lasts, .int (nI n_size), .int z_operates, .int z_lacksOperand])), (a_parts, .inl (ka_parts, 90, .inl f_parts))] U.heap ∧ va_K (dC, dI) vcl [(ka_parts, .int)] U ∧ va_D (fun _ => True) [(a_t, .inr (8, [.ref a_parts, .ref a_firsts, .ref a_lasts, .int (nI n_size), .int z_operates, .int z_lacksOperand])), (a_parts, .inl (ka_parts, 90, .inl f_parts))])) (va_Qi (fun (r : Int32) (_ : Unit) => r = if y0 < n_size then f_parts y0 else (-1)) (fun _ t => va_P (dC, dI) vcl [(a_t, .inr (8, [.ref a_parts, .ref a_firsts, .ref a_lasts, .int (nI n_size), .int z_operates, .int z_lacksOperand])), (a_parts, .inl (ka_parts, 90, .inl f_parts))] t.heap ∧ va_K (dC, dI) vcl [(ka_parts, .int)] t ∧ va_D (va_A [(a_t, .inr (8, [.ref a_parts, .ref a_firsts, .ref a_lasts, .int (nI n_size), .int z_operates, .int z_lacksOperand])), (a_parts, .inl (ka_parts, 90, .inl f_parts))] sz) [(a_t, .inr (8, [.ref a_parts, .ref a_firsts, .ref a_lasts, .int (nI n_size), .int z_operates, .int z_lacksOperand])), (a_parts, .inl (ka_parts, 90, .inl f_parts))]) (va_A [(a_t, .inr (8, [.ref a_parts, .ref a_firsts, .ref a_lasts, .int (nI n_size), .int z_operates, .int z_lacksOperand])), (a_parts, .inl (ka_parts, 90, .inl f_parts))] sz)) 0 0 (va_A [(a_t, .inr (8, [.ref a_parts, .ref a_firsts, .ref a_lasts, .int (nI n_size), .int z_operates, .int z_lacksOperand])), (a_parts, .inl (ka_parts, 90, .inl f_parts))] sz) := by
  refine Met.ofW (cc := b_Row_partAt) (maxL := 2) (ret := (some .int)) (by decide) rfl ?_
  intro p e s m args below meth c s₁ B hml hv
  obtain ⟨rfl, hsz, hP, hK, hD0⟩ := hv
  have hx := B.exec
  have hb := B.bytes
  have hr := B.returns
  have hts := atoms_spec (ws := w_Row_partAt) B.pre
  have hz : ∀ w ∈ wz, w.before _ s = true := fun w h => hts w (List.mem_cons_of_mem _ h)
  have hown : s.vm.findClass R_Row = some m.cls := findClass_of_methodNamed B.named
  have hlocks := B.notSynchronized
  subst hsz
  have hD := hD0.self (sz := s.heap.size)
  generalize hAe : va_A [(a_t, .inr (8, [.ref a_parts, .ref a_firsts, .ref a_lasts, .int (nI n_size), .int z_operates, .int z_lacksOperand])), (a_parts, .inl (ka_parts, 90, .inl f_parts))] s.heap.size = A at hD ⊢
  have hA : ∀ q : Nat, s.heap.size ≤ q → A q := fun q h => by rw [← hAe]; exact Or.inr h
  have hS : va_S A s.heap s.heap [] := va_S.rf
  have hP : va_P (dC, dI) vcl [(a_t, .inr (8, [.ref a_parts, .ref a_firsts, .ref a_lasts, .int (nI n_size), .int z_operates, .int z_lacksOperand])), (a_parts, .inl (ka_parts, 90, .inl f_parts))] s.heap := hP
  have hl := lv_entry ([.ref a_t, .int (nI y0)]) (n := 2) (Nat.le_of_ble_eq_true rfl)
  rw [lg_entry_eq]
  generalize (lg_sl ([.ref a_t, .int (nI y0)]) ++ List.replicate (2 - (lg_sl ([.ref a_t, .int (nI y0)])).length) Slot.unset).toArray = ls at hl ⊢
  have hl : lv_has ls 2 [(0, .ref a_t), (1, .int (nI y0))] := hl
  refine lv_aload_n hx hb d_Row_partAt_0 rfl (lv_at hl 0 rfl) ?_
  refine lv_iload_n hx hb d_Row_partAt_1 rfl (lv_at hl 1 rfl) ?_
  have hPc := hP.sub (ws' := [(a_t, .inr (8, [.ref a_parts, .ref a_firsts, .ref a_lasts, .int (nI n_size), .int z_operates, .int z_lacksOperand]))]) [0] rfl
  have hDc := hD.sub (ws' := [(a_t, .inr (8, [.ref a_parts, .ref a_firsts, .ref a_lasts, .int (nI n_size), .int z_operates, .int z_lacksOperand]))]) [0] (by decide) rfl
  have hKc := hK.sub (tys' := []) [] rfl
  have hFc := va_free (wc := [(a_t, .inr (8, [.ref a_parts, .ref a_firsts, .ref a_lasts, .int (nI n_size), .int z_operates, .int z_lacksOperand]))]) hD hS hA [0] rfl
  refine va_calli (va_runV (As := [.int (nI y0)]) (rest := []) ⟨hx, hb, hml, hown, hz⟩ (s_Row_has7 l dC dI s.heap.size a_t a_parts a_firsts a_lasts n_size z_operates z_lacksOperand ((nI y0)) (by first | omega | assumption | exact Or.inl rfl | exact Or.inr rfl)) (cwV 1 hz (zV zm_324 zm_325 zm_326 zm_318 zm_327) rfl rfl rfl (by decide +kernel) ⟨Nat.le_of_ble_eq_true rfl, Nat.le_of_ble_eq_true rfl⟩) ⟨fun a U g mk q => by obtain ⟨q0, q1, qP, qK, qD⟩ := q; exact ⟨q0, q1, qP, va_K.moved (u := U) (U := U.calling g mk a) (Vm.Alike.refl U.vm) qK, qD⟩, va_recv (q := (R_Row, F_Row, 6)) (q0 := 0) (ci := 8) hK hP rfl rfl, fun U hU hW => ⟨rfl, by rw [hU], by rw [hU]; exact hPc, va_K.moved hW.alike hKc, hDc.weaken (fun _ _ _ _ => trivial)⟩⟩ rfl rfl hl.1 rfl (lv_room (Nat.le_of_ble_eq_true rfl)) d_Row_partAt_2 ⟨Nat.zero_le _, Nat.zero_le _⟩) hS (fun q _ h => hFc q h) hFc (fun r u t H1 locs ht hvm hw_r hB hz1 hk1 hS => ?_)
  obtain ⟨hP1, hK1, hD1⟩ := hB
  obtain ⟨hb_r, he_r⟩ := hw_r
  subst r
  rw [ht] at hP1
  obtain ⟨hP, hD⟩ := va_join (wr := [(a_parts, .inl (ka_parts, 90, .inl f_parts))]) (w1 := [(a_t, .inr (8, [.ref a_parts, .ref a_firsts, .ref a_lasts, .int (nI n_size), .int z_operates, .int z_lacksOperand]))]) hP hD [0] [1] rfl rfl (by decide) (by decide) hk1 hFc hP1 hD1
  generalize H1 = H at hP hS ⊢
  have hP : va_P (dC, dI) vcl [(a_parts, .inl (ka_parts, 90, .inl f_parts)), (a_t, .inr (8, [.ref a_parts, .ref a_firsts, .ref a_lasts, .int (nI n_size), .int z_operates, .int z_lacksOperand]))] H := hP
  have hD : va_D A [(a_parts, .inl (ka_parts, 90, .inl f_parts)), (a_t, .inr (8, [.ref a_parts, .ref a_firsts, .ref a_lasts, .int (nI n_size), .int z_operates, .int z_lacksOperand]))] := hD
  refine lv_if_eq (tgt := 17) hx hb d_Row_partAt_5 (by decide) (fun h1 => ?_) (fun h1 => ?_)
  · have e5 := hs_no h1 (by omega) (by omega)
    refine lv_iconst (v := (-1)) hx hb d_Row_partAt_17 (by decide) ?_
    have hP9 := hP.sub (ws' := [(a_t, .inr (8, [.ref a_parts, .ref a_firsts, .ref a_lasts, .int (nI n_size), .int z_operates, .int z_lacksOperand])), (a_parts, .inl (ka_parts, 90, .inl f_parts))]) [1, 0] rfl
    have hD9 := hD.sub (ws' := [(a_t, .inr (8, [.ref a_parts, .ref a_firsts, .ref a_lasts, .int (nI n_size), .int z_operates, .int z_lacksOperand])), (a_parts, .inl (ka_parts, 90, .inl f_parts))]) [1, 0] (by decide) rfl
    exact W.iret (v := (-1)) hx hb hr (fun t ht hW => ⟨⟨(-1), (), rfl, (by first | exact (if_neg e5).symm | exact (if_pos e5).symm), by rw [ht]; exact hP9, va_K.moved hW.alike hK, hD9⟩, hS.F ht⟩) hS.2.2 d_Row_partAt_18
  · have e5 := hs_yes h1 (by omega) (by omega)
    refine lv_aload_n hx hb d_Row_partAt_8 rfl (lv_at hl 0 rfl) ?_
    refine va_get (D := (dC, dI)) (ci := 8) (v := .ref a_parts) (C := R_Row) (T := F_Row) (N := 6) hx hb hz zu_Row hown hK hP 1 rfl rfl 0 (by decide) (hz (.fieldLink R_Row 9 "LayoutFront$Row" "parts" "[I") zm_308) (fun _ h9 => h9) rfl d_Row_partAt_9 ?_
    refine lv_iload_n hx hb d_Row_partAt_12 rfl (lv_at hl 1 rfl) ?_
    refine xr_iald (v := (f_parts y0)) hx hb hK hP 0 0 rfl rfl (vp_in_nI (by omega) (by omega)) (congrArg f_parts (nI_clamp (by omega))) d_Row_partAt_13 ?_
    refine lv_goto (tgt := 18) hx hb d_Row_partAt_14 (by decide) ?_
    have hP9 := hP.sub (ws' := [(a_t, .inr (8, [.ref a_parts, .ref a_firsts, .ref a_lasts, .int (nI n_size), .int z_operates, .int z_lacksOperand])), (a_parts, .inl (ka_parts, 90, .inl f_parts))]) [1, 0] rfl
    have hD9 := hD.sub (ws' := [(a_t, .inr (8, [.ref a_parts, .ref a_firsts, .ref a_lasts, .int (nI n_size), .int z_operates, .int z_lacksOperand])), (a_parts, .inl (ka_parts, 90, .inl f_parts))]) [1, 0] (by decide) rfl
    exact W.iret (v := (f_parts y0)) hx hb hr (fun t ht hW => ⟨⟨(f_parts y0), (), rfl, (by first | exact (if_neg e5).symm | exact (if_pos e5).symm), by rw [ht]; exact hP9, va_K.moved hW.alike hK, hD9⟩, hS.F ht⟩) hS.2.2 d_Row_partAt_18
set_option maxHeartbeats 4000000 in
set_option maxRecDepth 100000 in
theorem s_Row_firstAt7 (l : Launch) (dC : Nat → ClassId) (dI : Nat → Nat → Nat) (sz : Nat) (a_t : Nat) (a_parts : Nat) (a_firsts : Nat) (f_firsts : Nat → Int32) (a_lasts : Nat) (n_size : Nat) (z_operates : Int32) (z_lacksOperand : Int32) (y0 : Nat) (ka_firsts : ClassId) (b_size : n_size ≤ 90) (by0 : y0 ≤ 90) : Met l y_Row_firstAt w_Row_firstAt ({ frames := 1, cells := 0, slots := 0, locals := 21 }) (va_Pc [.ref a_t, .int (nI y0)] (fun U => U.heap.size = sz ∧ va_P (dC, dI) vcl [(a_t, .inr (8, [.ref a_parts, .ref a_firsts, .ref a_lasts, .int (nI n_size), .int z_operates, .int z_lacksOperand])), (a_firsts, .inl (ka_firsts, 90, .inl f_firsts))] U.heap ∧ va_K (dC, dI) vcl [(ka_firsts, .int)] U ∧ va_D (fun _ => True) [(a_t, .inr (8, [.ref a_parts, .ref a_firsts, .ref a_lasts, .int (nI n_size), .int z_operates, .int z_lacksOperand])), (a_firsts, .inl (ka_firsts, 90, .inl f_firsts))])) (va_Qi (fun (r : Int32) (_ : Unit) => r = if y0 < n_size then f_firsts y0 else (-1)) (fun _ t => va_P (dC, dI) vcl [(a_t, .inr (8, [.ref a_parts, .ref a_firsts, .ref a_lasts, .int (nI n_size), .int z_operates, .int z_lacksOperand])), (a_firsts, .inl (ka_firsts, 90, .inl f_firsts))] t.heap ∧ va_K (dC, dI) vcl [(ka_firsts, .int)] t ∧ va_D (va_A [(a_t, .inr (8, [.ref a_parts, .ref a_firsts, .ref a_lasts, .int (nI n_size), .int z_operates, .int z_lacksOperand])), (a_firsts, .inl (ka_firsts, 90, .inl f_firsts))] sz) [(a_t, .inr (8, [.ref a_parts, .ref a_firsts, .ref a_lasts, .int (nI n_size), .int z_operates, .int z_lacksOperand])), (a_firsts, .inl (ka_firsts, 90, .inl f_firsts))]) (va_A [(a_t, .inr (8, [.ref a_parts, .ref a_firsts, .ref a_lasts, .int (nI n_size), .int z_operates, .int z_lacksOperand])), (a_firsts, .inl (ka_firsts, 90, .inl f_firsts))] sz)) 0 0 (va_A [(a_t, .inr (8, [.ref a_parts, .ref a_firsts, .ref a_lasts, .int (nI n_size), .int z_operates, .int z_lacksOperand])), (a_firsts, .inl (ka_firsts, 90, .inl f_firsts))] sz) := by
  refine Met.ofW (cc := b_Row_firstAt) (maxL := 2) (ret := (some .int)) (by decide) rfl ?_
  intro p e s m args below meth c s₁ B hml hv
  obtain ⟨rfl, hsz, hP, hK, hD0⟩ := hv
  have hx := B.exec
  have hb := B.bytes
  have hr := B.returns
  have hts := atoms_spec (ws := w_Row_firstAt) B.pre
  have hz : ∀ w ∈ wz, w.before _ s = true := fun w h => hts w (List.mem_cons_of_mem _ h)
  have hown : s.vm.findClass R_Row = some m.cls := findClass_of_methodNamed B.named
  have hlocks := B.notSynchronized
  subst hsz
  have hD := hD0.self (sz := s.heap.size)
  generalize hAe : va_A [(a_t, .inr (8, [.ref a_parts, .ref a_firsts, .ref a_lasts, .int (nI n_size), .int z_operates, .int z_lacksOperand])), (a_firsts, .inl (ka_firsts, 90, .inl f_firsts))] s.heap.size = A at hD ⊢
  have hA : ∀ q : Nat, s.heap.size ≤ q → A q := fun q h => by rw [← hAe]; exact Or.inr h
  have hS : va_S A s.heap s.heap [] := va_S.rf
  have hP : va_P (dC, dI) vcl [(a_t, .inr (8, [.ref a_parts, .ref a_firsts, .ref a_lasts, .int (nI n_size), .int z_operates, .int z_lacksOperand])), (a_firsts, .inl (ka_firsts, 90, .inl f_firsts))] s.heap := hP
  have hl := lv_entry ([.ref a_t, .int (nI y0)]) (n := 2) (Nat.le_of_ble_eq_true rfl)
  rw [lg_entry_eq]
  generalize (lg_sl ([.ref a_t, .int (nI y0)]) ++ List.replicate (2 - (lg_sl ([.ref a_t, .int (nI y0)])).length) Slot.unset).toArray = ls at hl ⊢
  have hl : lv_has ls 2 [(0, .ref a_t), (1, .int (nI y0))] := hl
  refine lv_aload_n hx hb d_Row_firstAt_0 rfl (lv_at hl 0 rfl) ?_
  refine lv_iload_n hx hb d_Row_firstAt_1 rfl (lv_at hl 1 rfl) ?_
  have hPc := hP.sub (ws' := [(a_t, .inr (8, [.ref a_parts, .ref a_firsts, .ref a_lasts, .int (nI n_size), .int z_operates, .int z_lacksOperand]))]) [0] rfl
  have hDc := hD.sub (ws' := [(a_t, .inr (8, [.ref a_parts, .ref a_firsts, .ref a_lasts, .int (nI n_size), .int z_operates, .int z_lacksOperand]))]) [0] (by decide) rfl
  have hKc := hK.sub (tys' := []) [] rfl
  have hFc := va_free (wc := [(a_t, .inr (8, [.ref a_parts, .ref a_firsts, .ref a_lasts, .int (nI n_size), .int z_operates, .int z_lacksOperand]))]) hD hS hA [0] rfl
  refine va_calli (va_runV (As := [.int (nI y0)]) (rest := []) ⟨hx, hb, hml, hown, hz⟩ (s_Row_has7 l dC dI s.heap.size a_t a_parts a_firsts a_lasts n_size z_operates z_lacksOperand ((nI y0)) (by first | omega | assumption | exact Or.inl rfl | exact Or.inr rfl)) (cwV 1 hz (zV zm_324 zm_325 zm_326 zm_318 zm_327) rfl rfl rfl (by decide +kernel) ⟨Nat.le_of_ble_eq_true rfl, Nat.le_of_ble_eq_true rfl⟩) ⟨fun a U g mk q => by obtain ⟨q0, q1, qP, qK, qD⟩ := q; exact ⟨q0, q1, qP, va_K.moved (u := U) (U := U.calling g mk a) (Vm.Alike.refl U.vm) qK, qD⟩, va_recv (q := (R_Row, F_Row, 6)) (q0 := 0) (ci := 8) hK hP rfl rfl, fun U hU hW => ⟨rfl, by rw [hU], by rw [hU]; exact hPc, va_K.moved hW.alike hKc, hDc.weaken (fun _ _ _ _ => trivial)⟩⟩ rfl rfl hl.1 rfl (lv_room (Nat.le_of_ble_eq_true rfl)) d_Row_firstAt_2 ⟨Nat.zero_le _, Nat.zero_le _⟩) hS (fun q _ h => hFc q h) hFc (fun r u t H1 locs ht hvm hw_r hB hz1 hk1 hS => ?_)
  obtain ⟨hP1, hK1, hD1⟩ := hB
  obtain ⟨hb_r, he_r⟩ := hw_r
  subst r
  rw [ht] at hP1
  obtain ⟨hP, hD⟩ := va_join (wr := [(a_firsts, .inl (ka_firsts, 90, .inl f_firsts))]) (w1 := [(a_t, .inr (8, [.ref a_parts, .ref a_firsts, .ref a_lasts, .int (nI n_size), .int z_operates, .int z_lacksOperand]))]) hP hD [0] [1] rfl rfl (by decide) (by decide) hk1 hFc hP1 hD1
  generalize H1 = H at hP hS ⊢
  have hP : va_P (dC, dI) vcl [(a_firsts, .inl (ka_firsts, 90, .inl f_firsts)), (a_t, .inr (8, [.ref a_parts, .ref a_firsts, .ref a_lasts, .int (nI n_size), .int z_operates, .int z_lacksOperand]))] H := hP
  have hD : va_D A [(a_firsts, .inl (ka_firsts, 90, .inl f_firsts)), (a_t, .inr (8, [.ref a_parts, .ref a_firsts, .ref a_lasts, .int (nI n_size), .int z_operates, .int z_lacksOperand]))] := hD
  refine lv_if_eq (tgt := 17) hx hb d_Row_firstAt_5 (by decide) (fun h1 => ?_) (fun h1 => ?_)
  · have e5 := hs_no h1 (by omega) (by omega)
    refine lv_iconst (v := (-1)) hx hb d_Row_firstAt_17 (by decide) ?_
    have hP9 := hP.sub (ws' := [(a_t, .inr (8, [.ref a_parts, .ref a_firsts, .ref a_lasts, .int (nI n_size), .int z_operates, .int z_lacksOperand])), (a_firsts, .inl (ka_firsts, 90, .inl f_firsts))]) [1, 0] rfl
    have hD9 := hD.sub (ws' := [(a_t, .inr (8, [.ref a_parts, .ref a_firsts, .ref a_lasts, .int (nI n_size), .int z_operates, .int z_lacksOperand])), (a_firsts, .inl (ka_firsts, 90, .inl f_firsts))]) [1, 0] (by decide) rfl
    exact W.iret (v := (-1)) hx hb hr (fun t ht hW => ⟨⟨(-1), (), rfl, (by first | exact (if_neg e5).symm | exact (if_pos e5).symm), by rw [ht]; exact hP9, va_K.moved hW.alike hK, hD9⟩, hS.F ht⟩) hS.2.2 d_Row_firstAt_18
  · have e5 := hs_yes h1 (by omega) (by omega)
    refine lv_aload_n hx hb d_Row_firstAt_8 rfl (lv_at hl 0 rfl) ?_
    refine va_get (D := (dC, dI)) (ci := 8) (v := .ref a_firsts) (C := R_Row) (T := F_Row) (N := 6) hx hb hz zu_Row hown hK hP 1 rfl rfl 1 (by decide) (hz (.fieldLink R_Row 15 "LayoutFront$Row" "firsts" "[I") zm_309) (fun _ h9 => h9) rfl d_Row_firstAt_9 ?_
    refine lv_iload_n hx hb d_Row_firstAt_12 rfl (lv_at hl 1 rfl) ?_
    refine xr_iald (v := (f_firsts y0)) hx hb hK hP 0 0 rfl rfl (vp_in_nI (by omega) (by omega)) (congrArg f_firsts (nI_clamp (by omega))) d_Row_firstAt_13 ?_
    refine lv_goto (tgt := 18) hx hb d_Row_firstAt_14 (by decide) ?_
    have hP9 := hP.sub (ws' := [(a_t, .inr (8, [.ref a_parts, .ref a_firsts, .ref a_lasts, .int (nI n_size), .int z_operates, .int z_lacksOperand])), (a_firsts, .inl (ka_firsts, 90, .inl f_firsts))]) [1, 0] rfl
    have hD9 := hD.sub (ws' := [(a_t, .inr (8, [.ref a_parts, .ref a_firsts, .ref a_lasts, .int (nI n_size), .int z_operates, .int z_lacksOperand])), (a_firsts, .inl (ka_firsts, 90, .inl f_firsts))]) [1, 0] (by decide) rfl
    exact W.iret (v := (f_firsts y0)) hx hb hr (fun t ht hW => ⟨⟨(f_firsts y0), (), rfl, (by first | exact (if_neg e5).symm | exact (if_pos e5).symm), by rw [ht]; exact hP9, va_K.moved hW.alike hK, hD9⟩, hS.F ht⟩) hS.2.2 d_Row_firstAt_18
set_option maxHeartbeats 4000000 in
set_option maxRecDepth 100000 in
theorem s_Row_lastAt7 (l : Launch) (dC : Nat → ClassId) (dI : Nat → Nat → Nat) (sz : Nat) (a_t : Nat) (a_parts : Nat) (a_firsts : Nat) (a_lasts : Nat) (f_lasts : Nat → Int32) (n_size : Nat) (z_operates : Int32) (z_lacksOperand : Int32) (y0 : Nat) (ka_lasts : ClassId) (b_size : n_size ≤ 90) (by0 : y0 ≤ 90) : Met l y_Row_lastAt w_Row_lastAt ({ frames := 1, cells := 0, slots := 0, locals := 21 }) (va_Pc [.ref a_t, .int (nI y0)] (fun U => U.heap.size = sz ∧ va_P (dC, dI) vcl [(a_t, .inr (8, [.ref a_parts, .ref a_firsts, .ref a_lasts, .int (nI n_size), .int z_operates, .int z_lacksOperand])), (a_lasts, .inl (ka_lasts, 90, .inl f_lasts))] U.heap ∧ va_K (dC, dI) vcl [(ka_lasts, .int)] U ∧ va_D (fun _ => True) [(a_t, .inr (8, [.ref a_parts, .ref a_firsts, .ref a_lasts, .int (nI n_size), .int z_operates, .int z_lacksOperand])), (a_lasts, .inl (ka_lasts, 90, .inl f_lasts))])) (va_Qi (fun (r : Int32) (_ : Unit) => r = if y0 < n_size then f_lasts y0 else (-1)) (fun _ t => va_P (dC, dI) vcl [(a_t, .inr (8, [.ref a_parts, .ref a_firsts, .ref a_lasts, .int (nI n_size), .int z_operates, .int z_lacksOperand])), (a_lasts, .inl (ka_lasts, 90, .inl f_lasts))] t.heap ∧ va_K (dC, dI) vcl [(ka_lasts, .int)] t ∧ va_D (va_A [(a_t, .inr (8, [.ref a_parts, .ref a_firsts, .ref a_lasts, .int (nI n_size), .int z_operates, .int z_lacksOperand])), (a_lasts, .inl (ka_lasts, 90, .inl f_lasts))] sz) [(a_t, .inr (8, [.ref a_parts, .ref a_firsts, .ref a_lasts, .int (nI n_size), .int z_operates, .int z_lacksOperand])), (a_lasts, .inl (ka_lasts, 90, .inl f_lasts))]) (va_A [(a_t, .inr (8, [.ref a_parts, .ref a_firsts, .ref a_lasts, .int (nI n_size), .int z_operates, .int z_lacksOperand])), (a_lasts, .inl (ka_lasts, 90, .inl f_lasts))] sz)) 0 0 (va_A [(a_t, .inr (8, [.ref a_parts, .ref a_firsts, .ref a_lasts, .int (nI n_size), .int z_operates, .int z_lacksOperand])), (a_lasts, .inl (ka_lasts, 90, .inl f_lasts))] sz) := by
  refine Met.ofW (cc := b_Row_lastAt) (maxL := 2) (ret := (some .int)) (by decide) rfl ?_
  intro p e s m args below meth c s₁ B hml hv
  obtain ⟨rfl, hsz, hP, hK, hD0⟩ := hv
  have hx := B.exec
  have hb := B.bytes
  have hr := B.returns
  have hts := atoms_spec (ws := w_Row_lastAt) B.pre
  have hz : ∀ w ∈ wz, w.before _ s = true := fun w h => hts w (List.mem_cons_of_mem _ h)
  have hown : s.vm.findClass R_Row = some m.cls := findClass_of_methodNamed B.named
  have hlocks := B.notSynchronized
  subst hsz
  have hD := hD0.self (sz := s.heap.size)
  generalize hAe : va_A [(a_t, .inr (8, [.ref a_parts, .ref a_firsts, .ref a_lasts, .int (nI n_size), .int z_operates, .int z_lacksOperand])), (a_lasts, .inl (ka_lasts, 90, .inl f_lasts))] s.heap.size = A at hD ⊢
  have hA : ∀ q : Nat, s.heap.size ≤ q → A q := fun q h => by rw [← hAe]; exact Or.inr h
  have hS : va_S A s.heap s.heap [] := va_S.rf
  have hP : va_P (dC, dI) vcl [(a_t, .inr (8, [.ref a_parts, .ref a_firsts, .ref a_lasts, .int (nI n_size), .int z_operates, .int z_lacksOperand])), (a_lasts, .inl (ka_lasts, 90, .inl f_lasts))] s.heap := hP
  have hl := lv_entry ([.ref a_t, .int (nI y0)]) (n := 2) (Nat.le_of_ble_eq_true rfl)
  rw [lg_entry_eq]
  generalize (lg_sl ([.ref a_t, .int (nI y0)]) ++ List.replicate (2 - (lg_sl ([.ref a_t, .int (nI y0)])).length) Slot.unset).toArray = ls at hl ⊢
  have hl : lv_has ls 2 [(0, .ref a_t), (1, .int (nI y0))] := hl
  refine lv_aload_n hx hb d_Row_lastAt_0 rfl (lv_at hl 0 rfl) ?_
  refine lv_iload_n hx hb d_Row_lastAt_1 rfl (lv_at hl 1 rfl) ?_
  have hPc := hP.sub (ws' := [(a_t, .inr (8, [.ref a_parts, .ref a_firsts, .ref a_lasts, .int (nI n_size), .int z_operates, .int z_lacksOperand]))]) [0] rfl
  have hDc := hD.sub (ws' := [(a_t, .inr (8, [.ref a_parts, .ref a_firsts, .ref a_lasts, .int (nI n_size), .int z_operates, .int z_lacksOperand]))]) [0] (by decide) rfl
  have hKc := hK.sub (tys' := []) [] rfl
  have hFc := va_free (wc := [(a_t, .inr (8, [.ref a_parts, .ref a_firsts, .ref a_lasts, .int (nI n_size), .int z_operates, .int z_lacksOperand]))]) hD hS hA [0] rfl
  refine va_calli (va_runV (As := [.int (nI y0)]) (rest := []) ⟨hx, hb, hml, hown, hz⟩ (s_Row_has7 l dC dI s.heap.size a_t a_parts a_firsts a_lasts n_size z_operates z_lacksOperand ((nI y0)) (by first | omega | assumption | exact Or.inl rfl | exact Or.inr rfl)) (cwV 1 hz (zV zm_324 zm_325 zm_326 zm_318 zm_327) rfl rfl rfl (by decide +kernel) ⟨Nat.le_of_ble_eq_true rfl, Nat.le_of_ble_eq_true rfl⟩) ⟨fun a U g mk q => by obtain ⟨q0, q1, qP, qK, qD⟩ := q; exact ⟨q0, q1, qP, va_K.moved (u := U) (U := U.calling g mk a) (Vm.Alike.refl U.vm) qK, qD⟩, va_recv (q := (R_Row, F_Row, 6)) (q0 := 0) (ci := 8) hK hP rfl rfl, fun U hU hW => ⟨rfl, by rw [hU], by rw [hU]; exact hPc, va_K.moved hW.alike hKc, hDc.weaken (fun _ _ _ _ => trivial)⟩⟩ rfl rfl hl.1 rfl (lv_room (Nat.le_of_ble_eq_true rfl)) d_Row_lastAt_2 ⟨Nat.zero_le _, Nat.zero_le _⟩) hS (fun q _ h => hFc q h) hFc (fun r u t H1 locs ht hvm hw_r hB hz1 hk1 hS => ?_)
  obtain ⟨hP1, hK1, hD1⟩ := hB
  obtain ⟨hb_r, he_r⟩ := hw_r
  subst r
  rw [ht] at hP1
  obtain ⟨hP, hD⟩ := va_join (wr := [(a_lasts, .inl (ka_lasts, 90, .inl f_lasts))]) (w1 := [(a_t, .inr (8, [.ref a_parts, .ref a_firsts, .ref a_lasts, .int (nI n_size), .int z_operates, .int z_lacksOperand]))]) hP hD [0] [1] rfl rfl (by decide) (by decide) hk1 hFc hP1 hD1
  generalize H1 = H at hP hS ⊢
  have hP : va_P (dC, dI) vcl [(a_lasts, .inl (ka_lasts, 90, .inl f_lasts)), (a_t, .inr (8, [.ref a_parts, .ref a_firsts, .ref a_lasts, .int (nI n_size), .int z_operates, .int z_lacksOperand]))] H := hP
  have hD : va_D A [(a_lasts, .inl (ka_lasts, 90, .inl f_lasts)), (a_t, .inr (8, [.ref a_parts, .ref a_firsts, .ref a_lasts, .int (nI n_size), .int z_operates, .int z_lacksOperand]))] := hD
  refine lv_if_eq (tgt := 17) hx hb d_Row_lastAt_5 (by decide) (fun h1 => ?_) (fun h1 => ?_)
  · have e5 := hs_no h1 (by omega) (by omega)
    refine lv_iconst (v := (-1)) hx hb d_Row_lastAt_17 (by decide) ?_
    have hP9 := hP.sub (ws' := [(a_t, .inr (8, [.ref a_parts, .ref a_firsts, .ref a_lasts, .int (nI n_size), .int z_operates, .int z_lacksOperand])), (a_lasts, .inl (ka_lasts, 90, .inl f_lasts))]) [1, 0] rfl
    have hD9 := hD.sub (ws' := [(a_t, .inr (8, [.ref a_parts, .ref a_firsts, .ref a_lasts, .int (nI n_size), .int z_operates, .int z_lacksOperand])), (a_lasts, .inl (ka_lasts, 90, .inl f_lasts))]) [1, 0] (by decide) rfl
    exact W.iret (v := (-1)) hx hb hr (fun t ht hW => ⟨⟨(-1), (), rfl, (by first | exact (if_neg e5).symm | exact (if_pos e5).symm), by rw [ht]; exact hP9, va_K.moved hW.alike hK, hD9⟩, hS.F ht⟩) hS.2.2 d_Row_lastAt_18
  · have e5 := hs_yes h1 (by omega) (by omega)
    refine lv_aload_n hx hb d_Row_lastAt_8 rfl (lv_at hl 0 rfl) ?_
    refine va_get (D := (dC, dI)) (ci := 8) (v := .ref a_lasts) (C := R_Row) (T := F_Row) (N := 6) hx hb hz zu_Row hown hK hP 1 rfl rfl 2 (by decide) (hz (.fieldLink R_Row 18 "LayoutFront$Row" "lasts" "[I") zm_310) (fun _ h9 => h9) rfl d_Row_lastAt_9 ?_
    refine lv_iload_n hx hb d_Row_lastAt_12 rfl (lv_at hl 1 rfl) ?_
    refine xr_iald (v := (f_lasts y0)) hx hb hK hP 0 0 rfl rfl (vp_in_nI (by omega) (by omega)) (congrArg f_lasts (nI_clamp (by omega))) d_Row_lastAt_13 ?_
    refine lv_goto (tgt := 18) hx hb d_Row_lastAt_14 (by decide) ?_
    have hP9 := hP.sub (ws' := [(a_t, .inr (8, [.ref a_parts, .ref a_firsts, .ref a_lasts, .int (nI n_size), .int z_operates, .int z_lacksOperand])), (a_lasts, .inl (ka_lasts, 90, .inl f_lasts))]) [1, 0] rfl
    have hD9 := hD.sub (ws' := [(a_t, .inr (8, [.ref a_parts, .ref a_firsts, .ref a_lasts, .int (nI n_size), .int z_operates, .int z_lacksOperand])), (a_lasts, .inl (ka_lasts, 90, .inl f_lasts))]) [1, 0] (by decide) rfl
    exact W.iret (v := (f_lasts y0)) hx hb hr (fun t ht hW => ⟨⟨(f_lasts y0), (), rfl, (by first | exact (if_neg e5).symm | exact (if_pos e5).symm), by rw [ht]; exact hP9, va_K.moved hW.alike hK, hD9⟩, hS.F ht⟩) hS.2.2 d_Row_lastAt_18
