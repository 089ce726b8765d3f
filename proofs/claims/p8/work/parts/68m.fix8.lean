set_option maxHeartbeats 4000000 in
set_option maxRecDepth 100000 in
theorem s_Fixities_find8 (l : Launch) (dC : Nat → ClassId) (dI : Nat → Nat → Nat) (sz : Nat) (a_t : Nat) (a_names : Nat) (f_names : Nat → Int64) (a_sides : Nat) (a_levels : Nat) (n_size : Nat) (y0 : Int64) (ka_names : ClassId) (b_size : n_size ≤ 12) : Met l y_Fixities_find w_Fixities_find ({ frames := 0, cells := 0, slots := 0, locals := 0 }) (va_Pc [.ref a_t, .long y0] (fun U => U.heap.size = sz ∧ va_P (dC, dI) vcl [(a_t, .inr (4, [.ref a_names, .ref a_sides, .ref a_levels, .int (nI n_size)])), (a_names, .inl (ka_names, 12, .inr (.inl f_names)))] U.heap ∧ va_K (dC, dI) vcl [(ka_names, .long)] U ∧ va_D (fun _ => True) [(a_t, .inr (4, [.ref a_names, .ref a_sides, .ref a_levels, .int (nI n_size)])), (a_names, .inl (ka_names, 12, .inr (.inl f_names)))])) (va_Qi (fun (r : Int32) (u : Int32) => u = r ∧ (r = (-1) ∨ (0 ≤ r ∧ r < (nI n_size)))) (fun u t => (u = ixE f_names y0 n_size 0) ∧ va_P (dC, dI) vcl [(a_t, .inr (4, [.ref a_names, .ref a_sides, .ref a_levels, .int (nI n_size)])), (a_names, .inl (ka_names, 12, .inr (.inl f_names)))] t.heap ∧ va_K (dC, dI) vcl [(ka_names, .long)] t ∧ va_D (va_A [(a_t, .inr (4, [.ref a_names, .ref a_sides, .ref a_levels, .int (nI n_size)])), (a_names, .inl (ka_names, 12, .inr (.inl f_names)))] sz) [(a_t, .inr (4, [.ref a_names, .ref a_sides, .ref a_levels, .int (nI n_size)])), (a_names, .inl (ka_names, 12, .inr (.inl f_names)))]) (va_A [(a_t, .inr (4, [.ref a_names, .ref a_sides, .ref a_levels, .int (nI n_size)])), (a_names, .inl (ka_names, 12, .inr (.inl f_names)))] sz)) 0 0 (va_A [(a_t, .inr (4, [.ref a_names, .ref a_sides, .ref a_levels, .int (nI n_size)])), (a_names, .inl (ka_names, 12, .inr (.inl f_names)))] sz) := by
  refine Met.ofW (cc := b_Fixities_find) (maxL := 4) (ret := (some .int)) (by decide) rfl ?_
  intro p e s m args below meth c s₁ B hml hv
  obtain ⟨rfl, hsz, hP, hK, hD0⟩ := hv
  have hx := B.exec
  have hb := B.bytes
  have hr := B.returns
  have hts := atoms_spec (ws := w_Fixities_find) B.pre
  have hz : ∀ w ∈ wz, w.before _ s = true := fun w h => hts w (List.mem_cons_of_mem _ h)
  have hown : s.vm.findClass R_Fixities = some m.cls := findClass_of_methodNamed B.named
  have hlocks := B.notSynchronized
  subst hsz
  have hD := hD0.self (sz := s.heap.size)
  generalize hAe : va_A [(a_t, .inr (4, [.ref a_names, .ref a_sides, .ref a_levels, .int (nI n_size)])), (a_names, .inl (ka_names, 12, .inr (.inl f_names)))] s.heap.size = A at hD ⊢
  have hA : ∀ q : Nat, s.heap.size ≤ q → A q := fun q h => by rw [← hAe]; exact Or.inr h
  have hS : va_S A s.heap s.heap [] := va_S.rf
  have hP : va_P (dC, dI) vcl [(a_t, .inr (4, [.ref a_names, .ref a_sides, .ref a_levels, .int (nI n_size)])), (a_names, .inl (ka_names, 12, .inr (.inl f_names)))] s.heap := hP
  have hl := lv_entry ([.ref a_t, .long y0]) (n := 4) (Nat.le_of_ble_eq_true rfl)
  rw [lg_entry_eq]
  generalize (lg_sl ([.ref a_t, .long y0]) ++ List.replicate (4 - (lg_sl ([.ref a_t, .long y0])).length) Slot.unset).toArray = ls at hl ⊢
  have hl : lv_has ls 4 [(0, .ref a_t), (1, .long y0)] := hl
  refine lv_iconst (v := 0) hx hb d_Fixities_find_0 (by decide) ?_
  refine lv_istore_n hx hb d_Fixities_find_1 rfl hl (by decide) rfl (fun ls hl => ?_)
  have hl : lv_has ls 4 [(3, .int 0), (0, .ref a_t), (1, .long y0)] := hl
  refine xr_loop (α := (Nat)) (fun a => (fun (k3 : Nat) => 12 - k3) a) (fun a H locs ls => (fun (k3 : Nat) => (k3 ≤ 12) ∧ (k3 ≤ n_size) ∧ (ixE f_names y0 n_size k3 = ixE f_names y0 n_size 0) ∧ lv_has ls 4 [(3, .int (nI k3)), (0, .ref a_t), (1, .long y0)] ∧ va_P (dC, dI) vcl [(a_t, .inr (4, [.ref a_names, .ref a_sides, .ref a_levels, .int (nI n_size)])), (a_names, .inl (ka_names, 12, .inr (.inl f_names)))] H ∧ va_D A [(a_t, .inr (4, [.ref a_names, .ref a_sides, .ref a_levels, .int (nI n_size)])), (a_names, .inl (ka_names, 12, .inr (.inl f_names)))] ∧ va_S A s.heap H locs) a) (fun a ih2 H locs ls hI => ?_) (0) _ _ _ ⟨by show 0 ≤ 12; first | omega | assumption, by show 0 ≤ n_size; first | omega | assumption, by show ixE f_names y0 n_size 0 = ixE f_names y0 n_size 0; rfl, hl, hP, hD, hS⟩
  generalize a = k3 at ih2 hI
  obtain ⟨bl0, bl1, bl2, hl, hP, hD, hS⟩ := hI
  have bl0 : k3 ≤ 12 := bl0
  have bl1 : k3 ≤ n_size := bl1
  have bl2 : ixE f_names y0 n_size k3 = ixE f_names y0 n_size 0 := bl2
  have iE := bl2
  have hl : lv_has ls 4 [(3, .int (nI k3)), (0, .ref a_t), (1, .long y0)] := hl
  have hP : va_P (dC, dI) vcl [(a_t, .inr (4, [.ref a_names, .ref a_sides, .ref a_levels, .int (nI n_size)])), (a_names, .inl (ka_names, 12, .inr (.inl f_names)))] H := hP
  have hD : va_D A [(a_t, .inr (4, [.ref a_names, .ref a_sides, .ref a_levels, .int (nI n_size)])), (a_names, .inl (ka_names, 12, .inr (.inl f_names)))] := hD
  refine lv_iload_n hx hb d_Fixities_find_2 rfl (lv_at hl 0 rfl) ?_
  refine lv_aload_n hx hb d_Fixities_find_3 rfl (lv_at hl 1 rfl) ?_
  refine va_get (D := (dC, dI)) (ci := 4) (v := .int (nI n_size)) (C := R_Fixities) (T := F_Fixities) (N := 4) hx hb hz zu_Fixities hown hK hP 0 rfl rfl 3 (by decide) (hz (.fieldLink R_Fixities 22 "LayoutFront$Fixities" "size" "I") zm_21) (fun _ h9 => h9) rfl d_Fixities_find_4 ?_
  refine lv_icmp_ge (tgt := 29) hx hb d_Fixities_find_7 (by decide) (fun h1 => ?_) (fun h1 => ?_)
  · have h1 : n_size ≤ k3 := (nI_leI (a := n_size) (b := k3) (by omega) (by omega)).mp h1
    refine lv_iconst (v := (-1)) hx hb d_Fixities_find_29 (by decide) ?_
    have hP9 := hP.sub (ws' := [(a_t, .inr (4, [.ref a_names, .ref a_sides, .ref a_levels, .int (nI n_size)])), (a_names, .inl (ka_names, 12, .inr (.inl f_names)))]) [0, 1] rfl
    have hD9 := hD.sub (ws' := [(a_t, .inr (4, [.ref a_names, .ref a_sides, .ref a_levels, .int (nI n_size)])), (a_names, .inl (ka_names, 12, .inr (.inl f_names)))]) [0, 1] (by decide) rfl
    exact W.iret (v := (-1)) hx hb hr (fun t ht hW => ⟨⟨(-1), (-1), rfl, ⟨rfl, Or.inl rfl⟩, by exact (ix_end (by omega)).symm.trans iE, by rw [ht]; exact hP9, va_K.moved hW.alike hK, hD9⟩, hS.F ht⟩) hS.2.2 d_Fixities_find_30
  · have h1 : ¬ n_size ≤ k3 := fun q => h1 ((nI_leI (a := n_size) (b := k3) (by omega) (by omega)).mpr q)
    refine lv_aload_n hx hb d_Fixities_find_10 rfl (lv_at hl 1 rfl) ?_
    refine va_get (D := (dC, dI)) (ci := 4) (v := .ref a_names) (C := R_Fixities) (T := F_Fixities) (N := 4) hx hb hz zu_Fixities hown hK hP 0 rfl rfl 0 (by decide) (hz (.fieldLink R_Fixities 9 "LayoutFront$Fixities" "names" "[J") zm_16) (fun _ h9 => h9) rfl d_Fixities_find_11 ?_
    refine lv_iload_n hx hb d_Fixities_find_14 rfl (lv_at hl 0 rfl) ?_
    refine xr_lald (v := (f_names k3)) hx hb hK hP 1 0 rfl rfl (vp_in_nI (by omega) (by omega)) (congrArg f_names (nI_clamp (by omega))) d_Fixities_find_15 ?_
    refine lv_lload_n hx hb d_Fixities_find_16 rfl (lv_at hl 2 rfl) ?_
    refine W.lcmp hx hb d_Fixities_find_17 ?_
    refine lv_if_ne (tgt := 23) hx hb d_Fixities_find_18 (by decide) (fun h3 => ?_) (fun h3 => ?_)
    · have e18 := h3
      refine lv_iinc (k := 0) (v := (nI (k3 + 1))) hx hb d_Fixities_find_23 hl rfl (nI_1 k3) (by decide) rfl (fun ls hl => ?_)
      have hl : lv_has ls 4 [(3, .int (nI (k3 + 1))), (0, .ref a_t), (1, .long y0)] := hl
      refine lv_goto (tgt := 2) hx hb d_Fixities_find_26 (by decide) ?_
      have hP9 := hP.sub (ws' := [(a_t, .inr (4, [.ref a_names, .ref a_sides, .ref a_levels, .int (nI n_size)])), (a_names, .inl (ka_names, 12, .inr (.inl f_names)))]) [0, 1] rfl
      have hD9 := hD.sub (ws' := [(a_t, .inr (4, [.ref a_names, .ref a_sides, .ref a_levels, .int (nI n_size)])), (a_names, .inl (ka_names, 12, .inr (.inl f_names)))]) [0, 1] (by decide) rfl
      exact ih2 ((k3 + 1)) (by show 12 - ((k3 + 1)) < 12 - k3; omega) _ _ _ ⟨by show ((k3 + 1)) ≤ 12; first | omega | assumption, by show ((k3 + 1)) ≤ n_size; first | omega | assumption, by show ixE f_names y0 n_size ((k3 + 1)) = ixE f_names y0 n_size 0; exact (ix_go (by omega) (fun q9 => e18 ((lg_cmp_eq _ _).mpr q9))).symm.trans iE, hl, hP9, hD9, hS⟩
    · have e18 := h3
      refine lv_iload_n hx hb d_Fixities_find_21 rfl (lv_at hl 0 rfl) ?_
      have hP9 := hP.sub (ws' := [(a_t, .inr (4, [.ref a_names, .ref a_sides, .ref a_levels, .int (nI n_size)])), (a_names, .inl (ka_names, 12, .inr (.inl f_names)))]) [0, 1] rfl
      have hD9 := hD.sub (ws' := [(a_t, .inr (4, [.ref a_names, .ref a_sides, .ref a_levels, .int (nI n_size)])), (a_names, .inl (ka_names, 12, .inr (.inl f_names)))]) [0, 1] (by decide) rfl
      exact W.iret (v := (nI k3)) hx hb hr (fun t ht hW => ⟨⟨(nI k3), (nI k3), rfl, ⟨rfl, Or.inr ⟨(nI_leI (a := 0) (b := k3) (by omega) (by omega)).mpr (by omega), (nI_ltI (a := k3) (b := n_size) (by omega) (by omega)).mpr (by omega)⟩⟩, by exact (ix_at (by omega) ((lg_cmp_eq _ _).mp e18)).symm.trans iE, by rw [ht]; exact hP9, va_K.moved hW.alike hK, hD9⟩, hS.F ht⟩) hS.2.2 d_Fixities_find_22
set_option maxHeartbeats 4000000 in
set_option maxRecDepth 100000 in
theorem s_Fixities_hasRoomFor8 (l : Launch) (dC : Nat → ClassId) (dI : Nat → Nat → Nat) (sz : Nat) (a_t : Nat) (a_names : Nat) (f_names : Nat → Int64) (a_sides : Nat) (a_levels : Nat) (n_size : Nat) (y0 : Int64) (ka_names : ClassId) (b_size : n_size ≤ 12) : Met l y_Fixities_hasRoomFor w_Fixities_hasRoomFor ({ frames := 1, cells := 0, slots := 0, locals := 23 }) (va_Pc [.ref a_t, .long y0] (fun U => U.heap.size = sz ∧ va_P (dC, dI) vcl [(a_t, .inr (4, [.ref a_names, .ref a_sides, .ref a_levels, .int (nI n_size)])), (a_names, .inl (ka_names, 12, .inr (.inl f_names)))] U.heap ∧ va_K (dC, dI) vcl [(ka_names, .long)] U ∧ va_D (fun _ => True) [(a_t, .inr (4, [.ref a_names, .ref a_sides, .ref a_levels, .int (nI n_size)])), (a_names, .inl (ka_names, 12, .inr (.inl f_names)))])) (va_Qi (fun (r : Int32) (_ : Unit) => (r = 0 ∨ r = 1) ∧ (r = b01 (decide (n_size < 12) || hx7 f_names y0 n_size))) (fun _ t => va_P (dC, dI) vcl [(a_t, .inr (4, [.ref a_names, .ref a_sides, .ref a_levels, .int (nI n_size)])), (a_names, .inl (ka_names, 12, .inr (.inl f_names)))] t.heap ∧ va_K (dC, dI) vcl [(ka_names, .long)] t ∧ va_D (va_A [(a_t, .inr (4, [.ref a_names, .ref a_sides, .ref a_levels, .int (nI n_size)])), (a_names, .inl (ka_names, 12, .inr (.inl f_names)))] sz) [(a_t, .inr (4, [.ref a_names, .ref a_sides, .ref a_levels, .int (nI n_size)])), (a_names, .inl (ka_names, 12, .inr (.inl f_names)))]) (va_A [(a_t, .inr (4, [.ref a_names, .ref a_sides, .ref a_levels, .int (nI n_size)])), (a_names, .inl (ka_names, 12, .inr (.inl f_names)))] sz)) 0 0 (va_A [(a_t, .inr (4, [.ref a_names, .ref a_sides, .ref a_levels, .int (nI n_size)])), (a_names, .inl (ka_names, 12, .inr (.inl f_names)))] sz) := by
  refine Met.ofW (cc := b_Fixities_hasRoomFor) (maxL := 3) (ret := (some .boolean)) (by decide) rfl ?_
  intro p e s m args below meth c s₁ B hml hv
  obtain ⟨rfl, hsz, hP, hK, hD0⟩ := hv
  have hx := B.exec
  have hb := B.bytes
  have hr := B.returns
  have hts := atoms_spec (ws := w_Fixities_hasRoomFor) B.pre
  have hz : ∀ w ∈ wz, w.before _ s = true := fun w h => hts w (List.mem_cons_of_mem _ h)
  have hown : s.vm.findClass R_Fixities = some m.cls := findClass_of_methodNamed B.named
  have hlocks := B.notSynchronized
  subst hsz
  have hD := hD0.self (sz := s.heap.size)
  generalize hAe : va_A [(a_t, .inr (4, [.ref a_names, .ref a_sides, .ref a_levels, .int (nI n_size)])), (a_names, .inl (ka_names, 12, .inr (.inl f_names)))] s.heap.size = A at hD ⊢
  have hA : ∀ q : Nat, s.heap.size ≤ q → A q := fun q h => by rw [← hAe]; exact Or.inr h
  have hS : va_S A s.heap s.heap [] := va_S.rf
  have hP : va_P (dC, dI) vcl [(a_t, .inr (4, [.ref a_names, .ref a_sides, .ref a_levels, .int (nI n_size)])), (a_names, .inl (ka_names, 12, .inr (.inl f_names)))] s.heap := hP
  have hl := lv_entry ([.ref a_t, .long y0]) (n := 3) (Nat.le_of_ble_eq_true rfl)
  rw [lg_entry_eq]
  generalize (lg_sl ([.ref a_t, .long y0]) ++ List.replicate (3 - (lg_sl ([.ref a_t, .long y0])).length) Slot.unset).toArray = ls at hl ⊢
  have hl : lv_has ls 3 [(0, .ref a_t), (1, .long y0)] := hl
  refine lv_aload_n hx hb d_Fixities_hasRoomFor_0 rfl (lv_at hl 0 rfl) ?_
  refine va_get (D := (dC, dI)) (ci := 4) (v := .int (nI n_size)) (C := R_Fixities) (T := F_Fixities) (N := 4) hx hb hz zu_Fixities hown hK hP 0 rfl rfl 3 (by decide) (hz (.fieldLink R_Fixities 22 "LayoutFront$Fixities" "size" "I") zm_21) (fun _ h9 => h9) rfl d_Fixities_hasRoomFor_1 ?_
  refine lv_bipush (v := 12) hx hb d_Fixities_hasRoomFor_4 (by decide) ?_
  refine lv_icmp_lt (tgt := 18) hx hb d_Fixities_hasRoomFor_6 (by decide) (fun h1 => ?_) (fun h1 => ?_)
  · have h1 : n_size < 12 := (nI_ltI (a := n_size) (b := 12) (by omega) (by omega)).mp h1
    refine lv_iconst (v := 1) hx hb d_Fixities_hasRoomFor_18 (by decide) ?_
    refine lv_goto (tgt := 23) hx hb d_Fixities_hasRoomFor_19 (by decide) ?_
    have hP9 := hP.sub (ws' := [(a_t, .inr (4, [.ref a_names, .ref a_sides, .ref a_levels, .int (nI n_size)])), (a_names, .inl (ka_names, 12, .inr (.inl f_names)))]) [0, 1] rfl
    have hD9 := hD.sub (ws' := [(a_t, .inr (4, [.ref a_names, .ref a_sides, .ref a_levels, .int (nI n_size)])), (a_names, .inl (ka_names, 12, .inr (.inl f_names)))]) [0, 1] (by decide) rfl
    exact W.zret (v := 1) hx hb hr (by decide +kernel) (fun t ht hW => ⟨⟨1, (), rfl, ⟨(by first | assumption | exact Or.inl rfl | exact Or.inr rfl), (by exact hr_a (by omega))⟩, by rw [ht]; exact hP9, va_K.moved hW.alike hK, hD9⟩, hS.F ht⟩) hS.2.2 d_Fixities_hasRoomFor_23
  · have h1 : ¬ n_size < 12 := fun q => h1 ((nI_ltI (a := n_size) (b := 12) (by omega) (by omega)).mpr q)
    refine lv_aload_n hx hb d_Fixities_hasRoomFor_9 rfl (lv_at hl 0 rfl) ?_
    refine lv_lload_n hx hb d_Fixities_hasRoomFor_10 rfl (lv_at hl 1 rfl) ?_
    have hPc := hP.sub (ws' := [(a_t, .inr (4, [.ref a_names, .ref a_sides, .ref a_levels, .int (nI n_size)])), (a_names, .inl (ka_names, 12, .inr (.inl f_names)))]) [0, 1] rfl
    have hDc := hD.sub (ws' := [(a_t, .inr (4, [.ref a_names, .ref a_sides, .ref a_levels, .int (nI n_size)])), (a_names, .inl (ka_names, 12, .inr (.inl f_names)))]) [0, 1] (by decide) rfl
    have hKc := hK.sub (tys' := [(ka_names, .long)]) [0] rfl
    have hFc := va_free (wc := [(a_t, .inr (4, [.ref a_names, .ref a_sides, .ref a_levels, .int (nI n_size)])), (a_names, .inl (ka_names, 12, .inr (.inl f_names)))]) hD hS hA [0, 1] rfl
    refine va_calli (va_runV (As := [.long y0]) (rest := []) ⟨hx, hb, hml, hown, hz⟩ (s_Fixities_find8 l dC dI s.heap.size a_t a_names f_names a_sides a_levels n_size y0 ka_names (by first | omega | assumption)) (cwV 1 hz (zV zm_22 zm_23 zm_24 zm_25 zm_26) rfl rfl rfl (by decide +kernel) ⟨Nat.le_of_ble_eq_true rfl, Nat.le_of_ble_eq_true rfl⟩) ⟨fun a U g mk q => by obtain ⟨q0, q1, qP, qK, qD⟩ := q; exact ⟨q0, q1, qP, va_K.moved (u := U) (U := U.calling g mk a) (Vm.Alike.refl U.vm) qK, qD⟩, va_recv (q := (R_Fixities, F_Fixities, 4)) (q0 := 0) (ci := 4) hK hP rfl rfl, fun U hU hW => ⟨rfl, by rw [hU], by rw [hU]; exact hPc, va_K.moved hW.alike hKc, hDc.weaken (fun _ _ _ _ => trivial)⟩⟩ rfl rfl hl.1 rfl (lv_room (Nat.le_of_ble_eq_true rfl)) d_Fixities_hasRoomFor_11 ⟨Nat.zero_le _, Nat.zero_le _⟩) hS (fun q _ h => hFc q h) hFc (fun x2 u t H1 locs ht hvm hw_x2 hB hz1 hk1 hS => ?_)
    obtain ⟨hu, hw_x2⟩ := hw_x2
    have hu := hu.symm
    subst hu
    obtain ⟨hq0_11, hP1, hK1, hD1⟩ := hB
    rw [ht] at hP1
    obtain ⟨hP, hD⟩ := va_join (wr := []) (w1 := [(a_t, .inr (4, [.ref a_names, .ref a_sides, .ref a_levels, .int (nI n_size)])), (a_names, .inl (ka_names, 12, .inr (.inl f_names)))]) hP hD [0, 1] [] rfl rfl (by decide) (by decide) hk1 hFc hP1 hD1
    generalize H1 = H at hP hS ⊢
    have hP : va_P (dC, dI) vcl [(a_t, .inr (4, [.ref a_names, .ref a_sides, .ref a_levels, .int (nI n_size)])), (a_names, .inl (ka_names, 12, .inr (.inl f_names)))] H := hP
    have hD : va_D A [(a_t, .inr (4, [.ref a_names, .ref a_sides, .ref a_levels, .int (nI n_size)])), (a_names, .inl (ka_names, 12, .inr (.inl f_names)))] := hD
    refine lv_iconst (v := (-1)) hx hb d_Fixities_hasRoomFor_14 (by decide) ?_
    refine lv_icmp_eq (tgt := 22) hx hb d_Fixities_hasRoomFor_15 (by decide) (fun h3 => ?_) (fun h3 => ?_)
    · refine lv_iconst (v := 0) hx hb d_Fixities_hasRoomFor_22 (by decide) ?_
      have hP9 := hP.sub (ws' := [(a_t, .inr (4, [.ref a_names, .ref a_sides, .ref a_levels, .int (nI n_size)])), (a_names, .inl (ka_names, 12, .inr (.inl f_names)))]) [0, 1] rfl
      have hD9 := hD.sub (ws' := [(a_t, .inr (4, [.ref a_names, .ref a_sides, .ref a_levels, .int (nI n_size)])), (a_names, .inl (ka_names, 12, .inr (.inl f_names)))]) [0, 1] (by decide) rfl
      exact W.zret (v := 0) hx hb hr (by decide +kernel) (fun t ht hW => ⟨⟨0, (), rfl, ⟨(by first | assumption | exact Or.inl rfl | exact Or.inr rfl), (by exact hr_b (by omega) (hq0_11.symm.trans (by assumption)))⟩, by rw [ht]; exact hP9, va_K.moved hW.alike hK, hD9⟩, hS.F ht⟩) hS.2.2 d_Fixities_hasRoomFor_23
    · obtain ⟨j4, l_j4, e_j4⟩ := xr_nat (hw_x2.resolve_left h3) (by omega)
      subst e_j4
      have hl : lv_has ls 3 [(0, .ref a_t), (1, .long y0)] := hl
      refine lv_iconst (v := 1) hx hb d_Fixities_hasRoomFor_18 (by decide) ?_
      refine lv_goto (tgt := 23) hx hb d_Fixities_hasRoomFor_19 (by decide) ?_
      have hP9 := hP.sub (ws' := [(a_t, .inr (4, [.ref a_names, .ref a_sides, .ref a_levels, .int (nI n_size)])), (a_names, .inl (ka_names, 12, .inr (.inl f_names)))]) [0, 1] rfl
      have hD9 := hD.sub (ws' := [(a_t, .inr (4, [.ref a_names, .ref a_sides, .ref a_levels, .int (nI n_size)])), (a_names, .inl (ka_names, 12, .inr (.inl f_names)))]) [0, 1] (by decide) rfl
      exact W.zret (v := 1) hx hb hr (by decide +kernel) (fun t ht hW => ⟨⟨1, (), rfl, ⟨(by first | assumption | exact Or.inl rfl | exact Or.inr rfl), (by exact hr_c (fun z9 => nI_n1 (by omega) (hq0_11.trans z9)))⟩, by rw [ht]; exact hP9, va_K.moved hW.alike hK, hD9⟩, hS.F ht⟩) hS.2.2 d_Fixities_hasRoomFor_23
set_option maxHeartbeats 4000000 in
set_option maxRecDepth 100000 in
theorem s_Fixities_set8 (l : Launch) (dC : Nat → ClassId) (dI : Nat → Nat → Nat) (sz : Nat) (a_t : Nat) (a_names : Nat) (f_names : Nat → Int64) (a_sides : Nat) (f_sides : Nat → Int32) (a_levels : Nat) (f_levels : Nat → Int32) (n_size : Nat) (y0 : Int64) (y1 : Int32) (y2 : Int32) (ka_names : ClassId) (ka_sides : ClassId) (ka_levels : ClassId) (b_size : n_size ≤ 12) (hp0 : n_size < 12 ∨ ¬ ixE f_names y0 n_size 0 = -1) : Met l y_Fixities_set w_Fixities_set ({ frames := 1, cells := 0, slots := 0, locals := 40 }) (va_Pc [.ref a_t, .long y0, .int y1, .int y2] (fun U => U.heap.size = sz ∧ va_P (dC, dI) vcl [(a_t, .inr (4, [.ref a_names, .ref a_sides, .ref a_levels, .int (nI n_size)])), (a_names, .inl (ka_names, 12, .inr (.inl f_names))), (a_sides, .inl (ka_sides, 12, .inl f_sides)), (a_levels, .inl (ka_levels, 12, .inl f_levels))] U.heap ∧ va_K (dC, dI) vcl [(ka_names, .long), (ka_sides, .int), (ka_levels, .int)] U ∧ va_D (fun _ => True) [(a_t, .inr (4, [.ref a_names, .ref a_sides, .ref a_levels, .int (nI n_size)])), (a_names, .inl (ka_names, 12, .inr (.inl f_names))), (a_sides, .inl (ka_sides, 12, .inl f_sides)), (a_levels, .inl (ka_levels, 12, .inl f_levels))])) (va_Qv (fun (_ : Unit) => True) (fun _ t => ∃ (w_n_size : Nat) (w_f_names : Nat → Int64) (w_f_sides : Nat → Int32) (w_f_levels : Nat → Int32), (w_n_size ≤ 12) ∧ (hx7 f_names y0 n_size = true → w_n_size = n_size) ∧ (hx7 f_names y0 n_size = false → w_n_size = n_size + 1) ∧ (∀ v9, hx7 w_f_names v9 w_n_size = (hx7 f_names v9 n_size || v9 == y0)) ∧ (∀ v9, lvC w_f_names w_f_levels w_n_size 9 v9 = if v9 = y0 then y2 else lvC f_names f_levels n_size 9 v9) ∧ (∀ v9, lvC w_f_names w_f_sides w_n_size 0 v9 = if v9 = y0 then y1 else lvC f_names f_sides n_size 0 v9) ∧ va_P (dC, dI) vcl [(a_t, .inr (4, [.ref a_names, .ref a_sides, .ref a_levels, .int (nI w_n_size)])), (a_names, .inl (ka_names, 12, .inr (.inl w_f_names))), (a_sides, .inl (ka_sides, 12, .inl w_f_sides)), (a_levels, .inl (ka_levels, 12, .inl w_f_levels))] t.heap ∧ va_K (dC, dI) vcl [(ka_names, .long), (ka_sides, .int), (ka_levels, .int)] t ∧ va_D (va_A [(a_t, .inr (4, [.ref a_names, .ref a_sides, .ref a_levels, .int (nI n_size)])), (a_names, .inl (ka_names, 12, .inr (.inl f_names))), (a_sides, .inl (ka_sides, 12, .inl f_sides)), (a_levels, .inl (ka_levels, 12, .inl f_levels))] sz) [(a_t, .inr (4, [.ref a_names, .ref a_sides, .ref a_levels, .int (nI w_n_size)])), (a_names, .inl (ka_names, 12, .inr (.inl w_f_names))), (a_sides, .inl (ka_sides, 12, .inl w_f_sides)), (a_levels, .inl (ka_levels, 12, .inl w_f_levels))]) (va_A [(a_t, .inr (4, [.ref a_names, .ref a_sides, .ref a_levels, .int (nI n_size)])), (a_names, .inl (ka_names, 12, .inr (.inl f_names))), (a_sides, .inl (ka_sides, 12, .inl f_sides)), (a_levels, .inl (ka_levels, 12, .inl f_levels))] sz)) 0 0 (va_A [(a_t, .inr (4, [.ref a_names, .ref a_sides, .ref a_levels, .int (nI n_size)])), (a_names, .inl (ka_names, 12, .inr (.inl f_names))), (a_sides, .inl (ka_sides, 12, .inl f_sides)), (a_levels, .inl (ka_levels, 12, .inl f_levels))] sz) := by
  refine Met.ofW (cc := b_Fixities_set) (maxL := 6) (ret := none) (by decide) rfl ?_
  intro p e s m args below meth c s₁ B hml hv
  obtain ⟨rfl, hsz, hP, hK, hD0⟩ := hv
  have hx := B.exec
  have hb := B.bytes
  have hr := B.returns
  have hts := atoms_spec (ws := w_Fixities_set) B.pre
  have hz : ∀ w ∈ wz, w.before _ s = true := fun w h => hts w (List.mem_cons_of_mem _ h)
  have hown : s.vm.findClass R_Fixities = some m.cls := findClass_of_methodNamed B.named
  have hlocks := B.notSynchronized
  subst hsz
  have hD := hD0.self (sz := s.heap.size)
  generalize hAe : va_A [(a_t, .inr (4, [.ref a_names, .ref a_sides, .ref a_levels, .int (nI n_size)])), (a_names, .inl (ka_names, 12, .inr (.inl f_names))), (a_sides, .inl (ka_sides, 12, .inl f_sides)), (a_levels, .inl (ka_levels, 12, .inl f_levels))] s.heap.size = A at hD ⊢
  have hA : ∀ q : Nat, s.heap.size ≤ q → A q := fun q h => by rw [← hAe]; exact Or.inr h
  have hS : va_S A s.heap s.heap [] := va_S.rf
  have hP : va_P (dC, dI) vcl [(a_t, .inr (4, [.ref a_names, .ref a_sides, .ref a_levels, .int (nI n_size)])), (a_names, .inl (ka_names, 12, .inr (.inl f_names))), (a_sides, .inl (ka_sides, 12, .inl f_sides)), (a_levels, .inl (ka_levels, 12, .inl f_levels))] s.heap := hP
  have hl := lv_entry ([.ref a_t, .long y0, .int y1, .int y2]) (n := 6) (Nat.le_of_ble_eq_true rfl)
  rw [lg_entry_eq]
  generalize (lg_sl ([.ref a_t, .long y0, .int y1, .int y2]) ++ List.replicate (6 - (lg_sl ([.ref a_t, .long y0, .int y1, .int y2])).length) Slot.unset).toArray = ls at hl ⊢
  have hl : lv_has ls 6 [(0, .ref a_t), (1, .long y0), (3, .int y1), (4, .int y2)] := hl
  refine lv_aload_n hx hb d_Fixities_set_0 rfl (lv_at hl 0 rfl) ?_
  refine lv_lload_n hx hb d_Fixities_set_1 rfl (lv_at hl 1 rfl) ?_
  have hPc := hP.sub (ws' := [(a_t, .inr (4, [.ref a_names, .ref a_sides, .ref a_levels, .int (nI n_size)])), (a_names, .inl (ka_names, 12, .inr (.inl f_names)))]) [0, 1] rfl
  have hDc := hD.sub (ws' := [(a_t, .inr (4, [.ref a_names, .ref a_sides, .ref a_levels, .int (nI n_size)])), (a_names, .inl (ka_names, 12, .inr (.inl f_names)))]) [0, 1] (by decide) rfl
  have hKc := hK.sub (tys' := [(ka_names, .long)]) [0] rfl
  have hFc := va_free (wc := [(a_t, .inr (4, [.ref a_names, .ref a_sides, .ref a_levels, .int (nI n_size)])), (a_names, .inl (ka_names, 12, .inr (.inl f_names)))]) hD hS hA [0, 1] rfl
  refine va_calli (va_runV (As := [.long y0]) (rest := []) ⟨hx, hb, hml, hown, hz⟩ (s_Fixities_find8 l dC dI s.heap.size a_t a_names f_names a_sides a_levels n_size y0 ka_names (by first | omega | assumption)) (cwV 1 hz (zV zm_22 zm_23 zm_24 zm_25 zm_26) rfl rfl rfl (by decide +kernel) ⟨Nat.le_of_ble_eq_true rfl, Nat.le_of_ble_eq_true rfl⟩) ⟨fun a U g mk q => by obtain ⟨q0, q1, qP, qK, qD⟩ := q; exact ⟨q0, q1, qP, va_K.moved (u := U) (U := U.calling g mk a) (Vm.Alike.refl U.vm) qK, qD⟩, va_recv (q := (R_Fixities, F_Fixities, 4)) (q0 := 0) (ci := 4) hK hP rfl rfl, fun U hU hW => ⟨rfl, by rw [hU], by rw [hU]; exact hPc, va_K.moved hW.alike hKc, hDc.weaken (fun _ _ _ _ => trivial)⟩⟩ rfl rfl hl.1 rfl (lv_room (Nat.le_of_ble_eq_true rfl)) d_Fixities_set_2 ⟨Nat.zero_le _, Nat.zero_le _⟩) hS (fun q _ h => hFc q h) hFc (fun x1 u t H1 locs ht hvm hw_x1 hB hz1 hk1 hS => ?_)
  obtain ⟨hu, hw_x1⟩ := hw_x1
  have hu := hu.symm
  subst hu
  obtain ⟨hq0_2, hP1, hK1, hD1⟩ := hB
  rw [ht] at hP1
  obtain ⟨hP, hD⟩ := va_join (wr := [(a_sides, .inl (ka_sides, 12, .inl f_sides)), (a_levels, .inl (ka_levels, 12, .inl f_levels))]) (w1 := [(a_t, .inr (4, [.ref a_names, .ref a_sides, .ref a_levels, .int (nI n_size)])), (a_names, .inl (ka_names, 12, .inr (.inl f_names)))]) hP hD [0, 1] [2, 3] rfl rfl (by decide) (by decide) hk1 hFc hP1 hD1
  generalize H1 = H at hP hS ⊢
  have hP : va_P (dC, dI) vcl [(a_sides, .inl (ka_sides, 12, .inl f_sides)), (a_levels, .inl (ka_levels, 12, .inl f_levels)), (a_t, .inr (4, [.ref a_names, .ref a_sides, .ref a_levels, .int (nI n_size)])), (a_names, .inl (ka_names, 12, .inr (.inl f_names)))] H := hP
  have hD : va_D A [(a_sides, .inl (ka_sides, 12, .inl f_sides)), (a_levels, .inl (ka_levels, 12, .inl f_levels)), (a_t, .inr (4, [.ref a_names, .ref a_sides, .ref a_levels, .int (nI n_size)])), (a_names, .inl (ka_names, 12, .inr (.inl f_names)))] := hD
  refine lv_istore hx hb d_Fixities_set_5 hl (by decide) rfl (fun ls hl => ?_)
  have hl : lv_has ls 6 [(5, .int x1), (0, .ref a_t), (1, .long y0), (3, .int y1), (4, .int y2)] := hl
  refine lv_iload hx hb d_Fixities_set_7 (lv_at hl 0 rfl) ?_
  refine lv_iconst (v := (-1)) hx hb d_Fixities_set_9 (by decide) ?_
  refine lv_icmp_ne (tgt := 19) hx hb d_Fixities_set_10 (by decide) (fun h2 => ?_) (fun h2 => ?_)
  · obtain ⟨j3, l_j3, e_j3⟩ := xr_nat (hw_x1.resolve_left h2) (by omega)
    subst e_j3
    have hl : lv_has ls 6 [(5, .int (nI j3)), (0, .ref a_t), (1, .long y0), (3, .int y1), (4, .int y2)] := hl
    refine lv_iload hx hb d_Fixities_set_19 (lv_at hl 0 rfl) ?_
    refine lv_bipush (v := 12) hx hb d_Fixities_set_21 (by decide) ?_
    refine lv_icmp_ge (tgt := 66) hx hb d_Fixities_set_23 (by decide) (fun h4 => ?_) (fun h4 => ?_)
    · have h4 : 12 ≤ j3 := (nI_leI (a := 12) (b := j3) (by omega) (by omega)).mp h4
      (exfalso; omega)
    · have h4 : ¬ 12 ≤ j3 := fun q => h4 ((nI_leI (a := 12) (b := j3) (by omega) (by omega)).mpr q)
      refine lv_aload_n hx hb d_Fixities_set_26 rfl (lv_at hl 1 rfl) ?_
      refine va_get (D := (dC, dI)) (ci := 4) (v := .ref a_names) (C := R_Fixities) (T := F_Fixities) (N := 4) hx hb hz zu_Fixities hown hK hP 2 rfl rfl 0 (by decide) (hz (.fieldLink R_Fixities 9 "LayoutFront$Fixities" "names" "[J") zm_16) (fun _ h9 => h9) rfl d_Fixities_set_27 ?_
      refine lv_iload hx hb d_Fixities_set_30 (lv_at hl 0 rfl) ?_
      refine lv_lload_n hx hb d_Fixities_set_32 rfl (lv_at hl 2 rfl) ?_
      refine va_last hx hb hK hP hD hS 3 0 rfl rfl (vp_in_nI (by omega) (by omega)) d_Fixities_set_33 (fun H locs hP hD hS => ?_)
      rw [show ((nI j3) : Int32).toNatClampNeg = j3 from nI_clamp (by omega)] at hP hD
      generalize hf_f5 : vp_updL f_names j3 y0 = f5 at hP hD
      have hP : va_P (dC, dI) vcl [(a_sides, .inl (ka_sides, 12, .inl f_sides)), (a_levels, .inl (ka_levels, 12, .inl f_levels)), (a_t, .inr (4, [.ref a_names, .ref a_sides, .ref a_levels, .int (nI n_size)])), (a_names, .inl (ka_names, 12, .inr (.inl f5)))] H := hP
      have hD : va_D A [(a_sides, .inl (ka_sides, 12, .inl f_sides)), (a_levels, .inl (ka_levels, 12, .inl f_levels)), (a_t, .inr (4, [.ref a_names, .ref a_sides, .ref a_levels, .int (nI n_size)])), (a_names, .inl (ka_names, 12, .inr (.inl f5)))] := hD
      refine lv_aload_n hx hb d_Fixities_set_34 rfl (lv_at hl 1 rfl) ?_
      refine va_get (D := (dC, dI)) (ci := 4) (v := .ref a_sides) (C := R_Fixities) (T := F_Fixities) (N := 4) hx hb hz zu_Fixities hown hK hP 2 rfl rfl 1 (by decide) (hz (.fieldLink R_Fixities 15 "LayoutFront$Fixities" "sides" "[I") zm_18) (fun _ h9 => h9) rfl d_Fixities_set_35 ?_
      refine lv_iload hx hb d_Fixities_set_38 (lv_at hl 0 rfl) ?_
      refine lv_iload_n hx hb d_Fixities_set_40 rfl (lv_at hl 3 rfl) ?_
      refine va_iast hx hb hK hP hD hS 0 1 rfl rfl (vp_in_nI (by omega) (by omega)) d_Fixities_set_41 (fun H locs hP hD hS => ?_)
      rw [show ((nI j3) : Int32).toNatClampNeg = j3 from nI_clamp (by omega)] at hP hD
      generalize hf_f6 : upd f_sides j3 y1 = f6 at hP hD
      have hP : va_P (dC, dI) vcl [(a_sides, .inl (ka_sides, 12, .inl f6)), (a_levels, .inl (ka_levels, 12, .inl f_levels)), (a_t, .inr (4, [.ref a_names, .ref a_sides, .ref a_levels, .int (nI n_size)])), (a_names, .inl (ka_names, 12, .inr (.inl f5)))] H := hP
      have hD : va_D A [(a_sides, .inl (ka_sides, 12, .inl f6)), (a_levels, .inl (ka_levels, 12, .inl f_levels)), (a_t, .inr (4, [.ref a_names, .ref a_sides, .ref a_levels, .int (nI n_size)])), (a_names, .inl (ka_names, 12, .inr (.inl f5)))] := hD
      refine lv_aload_n hx hb d_Fixities_set_42 rfl (lv_at hl 1 rfl) ?_
      refine va_get (D := (dC, dI)) (ci := 4) (v := .ref a_levels) (C := R_Fixities) (T := F_Fixities) (N := 4) hx hb hz zu_Fixities hown hK hP 2 rfl rfl 2 (by decide) (hz (.fieldLink R_Fixities 19 "LayoutFront$Fixities" "levels" "[I") zm_19) (fun _ h9 => h9) rfl d_Fixities_set_43 ?_
      refine lv_iload hx hb d_Fixities_set_46 (lv_at hl 0 rfl) ?_
      refine lv_iload hx hb d_Fixities_set_48 (lv_at hl 4 rfl) ?_
      refine va_iast hx hb hK hP hD hS 1 2 rfl rfl (vp_in_nI (by omega) (by omega)) d_Fixities_set_50 (fun H locs hP hD hS => ?_)
      rw [show ((nI j3) : Int32).toNatClampNeg = j3 from nI_clamp (by omega)] at hP hD
      generalize hf_f7 : upd f_levels j3 y2 = f7 at hP hD
      have hP : va_P (dC, dI) vcl [(a_sides, .inl (ka_sides, 12, .inl f6)), (a_levels, .inl (ka_levels, 12, .inl f7)), (a_t, .inr (4, [.ref a_names, .ref a_sides, .ref a_levels, .int (nI n_size)])), (a_names, .inl (ka_names, 12, .inr (.inl f5)))] H := hP
      have hD : va_D A [(a_sides, .inl (ka_sides, 12, .inl f6)), (a_levels, .inl (ka_levels, 12, .inl f7)), (a_t, .inr (4, [.ref a_names, .ref a_sides, .ref a_levels, .int (nI n_size)])), (a_names, .inl (ka_names, 12, .inr (.inl f5)))] := hD
      refine lv_aload_n hx hb d_Fixities_set_51 rfl (lv_at hl 1 rfl) ?_
      refine lv_aload_n hx hb d_Fixities_set_52 rfl (lv_at hl 1 rfl) ?_
      refine va_get (D := (dC, dI)) (ci := 4) (v := .int (nI n_size)) (C := R_Fixities) (T := F_Fixities) (N := 4) hx hb hz zu_Fixities hown hK hP 2 rfl rfl 3 (by decide) (hz (.fieldLink R_Fixities 22 "LayoutFront$Fixities" "size" "I") zm_21) (fun _ h9 => h9) rfl d_Fixities_set_53 ?_
      refine lv_iload hx hb d_Fixities_set_56 (lv_at hl 0 rfl) ?_
      refine lv_iconst (v := 1) hx hb d_Fixities_set_58 (by decide) ?_
      refine xr_iadd (v := (nI (j3 + 1))) hx hb d_Fixities_set_59 (nI_add j3 1) ?_
      refine xr_max (v := (nI (max n_size (j3 + 1)))) hx hb (hml.trans hl.1.symm) hown (hz (.methodLink R_Fixities 30 Lib.Math.max.name) zm_27) (hz (.static Lib.Math.max.name) zm_1023) (hz (.initialized "java/lang/Math") zm_1024) (hz (.code Lib.Math.max.name Lib.Math.max.code 2 (some .int)) zm_1025) (Nat.le_of_ble_eq_true rfl) (Nat.le_of_ble_eq_true rfl) (Nat.le_of_ble_eq_true rfl) (Nat.le_of_ble_eq_true rfl) d_Fixities_set_60 (xr_maxn (by omega) (by omega)) ?_
      refine va_put (D := (dC, dI)) (ci := 4) (v := .int (nI (max n_size (j3 + 1)))) (ty := .int) (C := R_Fixities) (T := F_Fixities) (N := 4) hx hb hz zu_Fixities t_Fixities t_Fixities_ok n_Fixities hown hK hP hD hS 2 rfl rfl 3 (by decide) (hz (.fieldLink R_Fixities 22 "LayoutFront$Fixities" "size" "I") zm_21) (fun _ h9 => h9) rfl (by decide +kernel) rfl rfl (Nat.le_of_ble_eq_true rfl) d_Fixities_set_63 (fun H locs hP hD hS => ?_)
      have hP : va_P (dC, dI) vcl [(a_sides, .inl (ka_sides, 12, .inl f6)), (a_levels, .inl (ka_levels, 12, .inl f7)), (a_t, .inr (4, [.ref a_names, .ref a_sides, .ref a_levels, .int (nI (max n_size (j3 + 1)))])), (a_names, .inl (ka_names, 12, .inr (.inl f5)))] H := hP
      have hD : va_D A [(a_sides, .inl (ka_sides, 12, .inl f6)), (a_levels, .inl (ka_levels, 12, .inl f7)), (a_t, .inr (4, [.ref a_names, .ref a_sides, .ref a_levels, .int (nI (max n_size (j3 + 1)))])), (a_names, .inl (ka_names, 12, .inr (.inl f5)))] := hD
      have hP9 := hP.sub (ws' := [(a_t, .inr (4, [.ref a_names, .ref a_sides, .ref a_levels, .int (nI (max n_size (j3 + 1)))])), (a_names, .inl (ka_names, 12, .inr (.inl f5))), (a_sides, .inl (ka_sides, 12, .inl f6)), (a_levels, .inl (ka_levels, 12, .inl f7))]) [2, 3, 0, 1] rfl
      have hD9 := hD.sub (ws' := [(a_t, .inr (4, [.ref a_names, .ref a_sides, .ref a_levels, .int (nI (max n_size (j3 + 1)))])), (a_names, .inl (ka_names, 12, .inr (.inl f5))), (a_sides, .inl (ka_sides, 12, .inl f6)), (a_levels, .inl (ka_levels, 12, .inl f7))]) [2, 3, 0, 1] (by decide) rfl
      exact W.vret hx hb hr (fun t ht hW => ⟨⟨(), rfl, trivial, ((max n_size (j3 + 1))), f5, f6, f7, by first | omega | assumption, by (intro _; omega), by (intro z9; exact absurd hq0_2.symm (fun q9 => (of_decide_eq_false z9) (fun r9 => nI_n1 (by omega) (hq0_2.trans r9)))), by (intro v9; rw [show (max n_size (j3 + 1)) = n_size by omega]; exact fa_hx hq0_2.symm (by omega) (by assumption) hf_f5), by (intro v9; rw [show (max n_size (j3 + 1)) = n_size by omega]; exact fa_lv hq0_2.symm (by omega) (by assumption) hf_f5 hf_f7), by (intro v9; rw [show (max n_size (j3 + 1)) = n_size by omega]; exact fa_lv hq0_2.symm (by omega) (by assumption) hf_f5 hf_f6), by rw [ht]; exact hP9, va_K.moved hW.alike hK, hD9⟩, hS.F ht⟩) hS.2.2 d_Fixities_set_66
  · have e10 := h2
    rw [e10] at hq0_2
    refine lv_aload_n hx hb d_Fixities_set_13 rfl (lv_at hl 1 rfl) ?_
    refine va_get (D := (dC, dI)) (ci := 4) (v := .int (nI n_size)) (C := R_Fixities) (T := F_Fixities) (N := 4) hx hb hz zu_Fixities hown hK hP 2 rfl rfl 3 (by decide) (hz (.fieldLink R_Fixities 22 "LayoutFront$Fixities" "size" "I") zm_21) (fun _ h9 => h9) rfl d_Fixities_set_14 ?_
    refine lv_istore hx hb d_Fixities_set_17 hl (by decide) rfl (fun ls hl => ?_)
    have hl : lv_has ls 6 [(5, .int (nI n_size)), (0, .ref a_t), (1, .long y0), (3, .int y1), (4, .int y2)] := hl
    refine lv_iload hx hb d_Fixities_set_19 (lv_at hl 0 rfl) ?_
    refine lv_bipush (v := 12) hx hb d_Fixities_set_21 (by decide) ?_
    refine lv_icmp_ge (tgt := 66) hx hb d_Fixities_set_23 (by decide) (fun h9 => ?_) (fun h9 => ?_)
    · have h9 : 12 ≤ n_size := (nI_leI (a := 12) (b := n_size) (by omega) (by omega)).mp h9
      (rcases hp0 with z9 | z9; (exfalso; omega); exact absurd hq0_2.symm z9)
    · have h9 : ¬ 12 ≤ n_size := fun q => h9 ((nI_leI (a := 12) (b := n_size) (by omega) (by omega)).mpr q)
      refine lv_aload_n hx hb d_Fixities_set_26 rfl (lv_at hl 1 rfl) ?_
      refine va_get (D := (dC, dI)) (ci := 4) (v := .ref a_names) (C := R_Fixities) (T := F_Fixities) (N := 4) hx hb hz zu_Fixities hown hK hP 2 rfl rfl 0 (by decide) (hz (.fieldLink R_Fixities 9 "LayoutFront$Fixities" "names" "[J") zm_16) (fun _ h9 => h9) rfl d_Fixities_set_27 ?_
      refine lv_iload hx hb d_Fixities_set_30 (lv_at hl 0 rfl) ?_
      refine lv_lload_n hx hb d_Fixities_set_32 rfl (lv_at hl 2 rfl) ?_
      refine va_last hx hb hK hP hD hS 3 0 rfl rfl (vp_in_nI (by omega) (by omega)) d_Fixities_set_33 (fun H locs hP hD hS => ?_)
      rw [show ((nI n_size) : Int32).toNatClampNeg = n_size from nI_clamp (by omega)] at hP hD
      generalize hf_f10 : vp_updL f_names n_size y0 = f10 at hP hD
      have hP : va_P (dC, dI) vcl [(a_sides, .inl (ka_sides, 12, .inl f_sides)), (a_levels, .inl (ka_levels, 12, .inl f_levels)), (a_t, .inr (4, [.ref a_names, .ref a_sides, .ref a_levels, .int (nI n_size)])), (a_names, .inl (ka_names, 12, .inr (.inl f10)))] H := hP
      have hD : va_D A [(a_sides, .inl (ka_sides, 12, .inl f_sides)), (a_levels, .inl (ka_levels, 12, .inl f_levels)), (a_t, .inr (4, [.ref a_names, .ref a_sides, .ref a_levels, .int (nI n_size)])), (a_names, .inl (ka_names, 12, .inr (.inl f10)))] := hD
      refine lv_aload_n hx hb d_Fixities_set_34 rfl (lv_at hl 1 rfl) ?_
      refine va_get (D := (dC, dI)) (ci := 4) (v := .ref a_sides) (C := R_Fixities) (T := F_Fixities) (N := 4) hx hb hz zu_Fixities hown hK hP 2 rfl rfl 1 (by decide) (hz (.fieldLink R_Fixities 15 "LayoutFront$Fixities" "sides" "[I") zm_18) (fun _ h9 => h9) rfl d_Fixities_set_35 ?_
      refine lv_iload hx hb d_Fixities_set_38 (lv_at hl 0 rfl) ?_
      refine lv_iload_n hx hb d_Fixities_set_40 rfl (lv_at hl 3 rfl) ?_
      refine va_iast hx hb hK hP hD hS 0 1 rfl rfl (vp_in_nI (by omega) (by omega)) d_Fixities_set_41 (fun H locs hP hD hS => ?_)
      rw [show ((nI n_size) : Int32).toNatClampNeg = n_size from nI_clamp (by omega)] at hP hD
      generalize hf_f11 : upd f_sides n_size y1 = f11 at hP hD
      have hP : va_P (dC, dI) vcl [(a_sides, .inl (ka_sides, 12, .inl f11)), (a_levels, .inl (ka_levels, 12, .inl f_levels)), (a_t, .inr (4, [.ref a_names, .ref a_sides, .ref a_levels, .int (nI n_size)])), (a_names, .inl (ka_names, 12, .inr (.inl f10)))] H := hP
      have hD : va_D A [(a_sides, .inl (ka_sides, 12, .inl f11)), (a_levels, .inl (ka_levels, 12, .inl f_levels)), (a_t, .inr (4, [.ref a_names, .ref a_sides, .ref a_levels, .int (nI n_size)])), (a_names, .inl (ka_names, 12, .inr (.inl f10)))] := hD
      refine lv_aload_n hx hb d_Fixities_set_42 rfl (lv_at hl 1 rfl) ?_
      refine va_get (D := (dC, dI)) (ci := 4) (v := .ref a_levels) (C := R_Fixities) (T := F_Fixities) (N := 4) hx hb hz zu_Fixities hown hK hP 2 rfl rfl 2 (by decide) (hz (.fieldLink R_Fixities 19 "LayoutFront$Fixities" "levels" "[I") zm_19) (fun _ h9 => h9) rfl d_Fixities_set_43 ?_
      refine lv_iload hx hb d_Fixities_set_46 (lv_at hl 0 rfl) ?_
      refine lv_iload hx hb d_Fixities_set_48 (lv_at hl 4 rfl) ?_
      refine va_iast hx hb hK hP hD hS 1 2 rfl rfl (vp_in_nI (by omega) (by omega)) d_Fixities_set_50 (fun H locs hP hD hS => ?_)
      rw [show ((nI n_size) : Int32).toNatClampNeg = n_size from nI_clamp (by omega)] at hP hD
      generalize hf_f12 : upd f_levels n_size y2 = f12 at hP hD
      have hP : va_P (dC, dI) vcl [(a_sides, .inl (ka_sides, 12, .inl f11)), (a_levels, .inl (ka_levels, 12, .inl f12)), (a_t, .inr (4, [.ref a_names, .ref a_sides, .ref a_levels, .int (nI n_size)])), (a_names, .inl (ka_names, 12, .inr (.inl f10)))] H := hP
      have hD : va_D A [(a_sides, .inl (ka_sides, 12, .inl f11)), (a_levels, .inl (ka_levels, 12, .inl f12)), (a_t, .inr (4, [.ref a_names, .ref a_sides, .ref a_levels, .int (nI n_size)])), (a_names, .inl (ka_names, 12, .inr (.inl f10)))] := hD
      refine lv_aload_n hx hb d_Fixities_set_51 rfl (lv_at hl 1 rfl) ?_
      refine lv_aload_n hx hb d_Fixities_set_52 rfl (lv_at hl 1 rfl) ?_
      refine va_get (D := (dC, dI)) (ci := 4) (v := .int (nI n_size)) (C := R_Fixities) (T := F_Fixities) (N := 4) hx hb hz zu_Fixities hown hK hP 2 rfl rfl 3 (by decide) (hz (.fieldLink R_Fixities 22 "LayoutFront$Fixities" "size" "I") zm_21) (fun _ h9 => h9) rfl d_Fixities_set_53 ?_
      refine lv_iload hx hb d_Fixities_set_56 (lv_at hl 0 rfl) ?_
      refine lv_iconst (v := 1) hx hb d_Fixities_set_58 (by decide) ?_
      refine xr_iadd (v := (nI (n_size + 1))) hx hb d_Fixities_set_59 (nI_add n_size 1) ?_
      refine xr_max (v := (nI (max n_size (n_size + 1)))) hx hb (hml.trans hl.1.symm) hown (hz (.methodLink R_Fixities 30 Lib.Math.max.name) zm_27) (hz (.static Lib.Math.max.name) zm_1023) (hz (.initialized "java/lang/Math") zm_1024) (hz (.code Lib.Math.max.name Lib.Math.max.code 2 (some .int)) zm_1025) (Nat.le_of_ble_eq_true rfl) (Nat.le_of_ble_eq_true rfl) (Nat.le_of_ble_eq_true rfl) (Nat.le_of_ble_eq_true rfl) d_Fixities_set_60 (xr_maxn (by omega) (by omega)) ?_
      refine va_put (D := (dC, dI)) (ci := 4) (v := .int (nI (max n_size (n_size + 1)))) (ty := .int) (C := R_Fixities) (T := F_Fixities) (N := 4) hx hb hz zu_Fixities t_Fixities t_Fixities_ok n_Fixities hown hK hP hD hS 2 rfl rfl 3 (by decide) (hz (.fieldLink R_Fixities 22 "LayoutFront$Fixities" "size" "I") zm_21) (fun _ h9 => h9) rfl (by decide +kernel) rfl rfl (Nat.le_of_ble_eq_true rfl) d_Fixities_set_63 (fun H locs hP hD hS => ?_)
      have hP : va_P (dC, dI) vcl [(a_sides, .inl (ka_sides, 12, .inl f11)), (a_levels, .inl (ka_levels, 12, .inl f12)), (a_t, .inr (4, [.ref a_names, .ref a_sides, .ref a_levels, .int (nI (max n_size (n_size + 1)))])), (a_names, .inl (ka_names, 12, .inr (.inl f10)))] H := hP
      have hD : va_D A [(a_sides, .inl (ka_sides, 12, .inl f11)), (a_levels, .inl (ka_levels, 12, .inl f12)), (a_t, .inr (4, [.ref a_names, .ref a_sides, .ref a_levels, .int (nI (max n_size (n_size + 1)))])), (a_names, .inl (ka_names, 12, .inr (.inl f10)))] := hD
      have hP9 := hP.sub (ws' := [(a_t, .inr (4, [.ref a_names, .ref a_sides, .ref a_levels, .int (nI (max n_size (n_size + 1)))])), (a_names, .inl (ka_names, 12, .inr (.inl f10))), (a_sides, .inl (ka_sides, 12, .inl f11)), (a_levels, .inl (ka_levels, 12, .inl f12))]) [2, 3, 0, 1] rfl
      have hD9 := hD.sub (ws' := [(a_t, .inr (4, [.ref a_names, .ref a_sides, .ref a_levels, .int (nI (max n_size (n_size + 1)))])), (a_names, .inl (ka_names, 12, .inr (.inl f10))), (a_sides, .inl (ka_sides, 12, .inl f11)), (a_levels, .inl (ka_levels, 12, .inl f12))]) [2, 3, 0, 1] (by decide) rfl
      exact W.vret hx hb hr (fun t ht hW => ⟨⟨(), rfl, trivial, ((max n_size (n_size + 1))), f10, f11, f12, by first | omega | assumption, by (intro z9; exact absurd (of_decide_eq_true z9) (fun q9 => q9 hq0_2.symm)), by (intro _; omega), by (intro v9; rw [show (max n_size (n_size + 1)) = n_size + 1 by omega]; exact fb_hx hq0_2.symm (by omega) hf_f10), by (intro v9; rw [show (max n_size (n_size + 1)) = n_size + 1 by omega]; exact fb_lv hq0_2.symm (by omega) hf_f10 hf_f12), by (intro v9; rw [show (max n_size (n_size + 1)) = n_size + 1 by omega]; exact fb_lv hq0_2.symm (by omega) hf_f10 hf_f11), by rw [ht]; exact hP9, va_K.moved hW.alike hK, hD9⟩, hS.F ht⟩) hS.2.2 d_Fixities_set_66
set_option maxHeartbeats 4000000 in
set_option maxRecDepth 100000 in
theorem s_LF_fixity8 (l : Launch) (hnt : l.stackTraces = false) (dC : Nat → ClassId) (dI : Nat → Nat → Nat) (sz : Nat) (a_t : Nat) (a_text : Nat) (a_fixities : Nat) (a_fixities_names : Nat) (f_fixities_names : Nat → Int64) (a_fixities_sides : Nat) (f_fixities_sides : Nat → Int32) (a_fixities_levels : Nat) (f_fixities_levels : Nat → Int32) (n_fixities_size : Nat) (a_cutter : Nat) (a_blocks : Nat) (a_rows : Nat) (a_tokens : Nat) (a_counts : Nat) (z_wrongPlace : Int32) (y0 : Int64) (y1 : Int32) (y2 : Int32) (ka_fixities_names : ClassId) (ka_fixities_sides : ClassId) (ka_fixities_levels : ClassId) (b_fixities_size : n_fixities_size ≤ 12) : ty_Met l y_LF_fixity w_LF_fixity ({ frames := 7, cells := 1, slots := 6, locals := 120 }) (va_Pc [.ref a_t, .long y0, .int y1, .int y2] (fun U => U.heap.size = sz ∧ va_P (dC, dI) vcl [(a_t, .inr (0, [.ref a_text, .ref a_fixities, .ref a_cutter, .ref a_blocks, .ref a_rows, .ref a_tokens, .ref a_counts, .int z_wrongPlace])), (a_fixities, .inr (4, [.ref a_fixities_names, .ref a_fixities_sides, .ref a_fixities_levels, .int (nI n_fixities_size)])), (a_fixities_names, .inl (ka_fixities_names, 12, .inr (.inl f_fixities_names))), (a_fixities_sides, .inl (ka_fixities_sides, 12, .inl f_fixities_sides)), (a_fixities_levels, .inl (ka_fixities_levels, 12, .inl f_fixities_levels))] U.heap ∧ va_K (dC, dI) vcl [(ka_fixities_names, .long), (ka_fixities_sides, .int), (ka_fixities_levels, .int)] U ∧ va_D (fun _ => True) [(a_t, .inr (0, [.ref a_text, .ref a_fixities, .ref a_cutter, .ref a_blocks, .ref a_rows, .ref a_tokens, .ref a_counts, .int z_wrongPlace])), (a_fixities, .inr (4, [.ref a_fixities_names, .ref a_fixities_sides, .ref a_fixities_levels, .int (nI n_fixities_size)])), (a_fixities_names, .inl (ka_fixities_names, 12, .inr (.inl f_fixities_names))), (a_fixities_sides, .inl (ka_fixities_sides, 12, .inl f_fixities_sides)), (a_fixities_levels, .inl (ka_fixities_levels, 12, .inl f_fixities_levels))] ∧ cx_E (va_A [(a_t, .inr (0, [.ref a_text, .ref a_fixities, .ref a_cutter, .ref a_blocks, .ref a_rows, .ref a_tokens, .ref a_counts, .int z_wrongPlace])), (a_fixities, .inr (4, [.ref a_fixities_names, .ref a_fixities_sides, .ref a_fixities_levels, .int (nI n_fixities_size)])), (a_fixities_names, .inl (ka_fixities_names, 12, .inr (.inl f_fixities_names))), (a_fixities_sides, .inl (ka_fixities_sides, 12, .inl f_fixities_sides)), (a_fixities_levels, .inl (ka_fixities_levels, 12, .inl f_fixities_levels))] sz) U U.heap)) (va_Qi (fun (r : Int32) (_ : Unit) => True) (fun _ t => ∃ (w_n_fixities_size : Nat) (w_f_fixities_names : Nat → Int64) (w_f_fixities_sides : Nat → Int32) (w_f_fixities_levels : Nat → Int32), (w_n_fixities_size ≤ 12) ∧ (w_n_fixities_size = if (fxK (hx7 f_fixities_names y0 n_fixities_size) n_fixities_size y1 y2 && !hx7 f_fixities_names y0 n_fixities_size) = true then n_fixities_size + 1 else n_fixities_size) ∧ (∀ v9, hx7 w_f_fixities_names v9 w_n_fixities_size = (hx7 f_fixities_names v9 n_fixities_size || (fxK (hx7 f_fixities_names y0 n_fixities_size) n_fixities_size y1 y2 && v9 == y0))) ∧ (∀ v9, lvC w_f_fixities_names w_f_fixities_levels w_n_fixities_size 9 v9 = if (fxK (hx7 f_fixities_names y0 n_fixities_size) n_fixities_size y1 y2 && v9 == y0) = true then y2 else lvC f_fixities_names f_fixities_levels n_fixities_size 9 v9) ∧ (∀ v9, lvC w_f_fixities_names w_f_fixities_sides w_n_fixities_size 0 v9 = if (fxK (hx7 f_fixities_names y0 n_fixities_size) n_fixities_size y1 y2 && v9 == y0) = true then y1 else lvC f_fixities_names f_fixities_sides n_fixities_size 0 v9) ∧ va_P (dC, dI) vcl [(a_t, .inr (0, [.ref a_text, .ref a_fixities, .ref a_cutter, .ref a_blocks, .ref a_rows, .ref a_tokens, .ref a_counts, .int z_wrongPlace])), (a_fixities, .inr (4, [.ref a_fixities_names, .ref a_fixities_sides, .ref a_fixities_levels, .int (nI w_n_fixities_size)])), (a_fixities_names, .inl (ka_fixities_names, 12, .inr (.inl w_f_fixities_names))), (a_fixities_sides, .inl (ka_fixities_sides, 12, .inl w_f_fixities_sides)), (a_fixities_levels, .inl (ka_fixities_levels, 12, .inl w_f_fixities_levels))] t.heap ∧ va_K (dC, dI) vcl [(ka_fixities_names, .long), (ka_fixities_sides, .int), (ka_fixities_levels, .int)] t ∧ va_D (va_A [(a_t, .inr (0, [.ref a_text, .ref a_fixities, .ref a_cutter, .ref a_blocks, .ref a_rows, .ref a_tokens, .ref a_counts, .int z_wrongPlace])), (a_fixities, .inr (4, [.ref a_fixities_names, .ref a_fixities_sides, .ref a_fixities_levels, .int (nI n_fixities_size)])), (a_fixities_names, .inl (ka_fixities_names, 12, .inr (.inl f_fixities_names))), (a_fixities_sides, .inl (ka_fixities_sides, 12, .inl f_fixities_sides)), (a_fixities_levels, .inl (ka_fixities_levels, 12, .inl f_fixities_levels))] sz) [(a_t, .inr (0, [.ref a_text, .ref a_fixities, .ref a_cutter, .ref a_blocks, .ref a_rows, .ref a_tokens, .ref a_counts, .int z_wrongPlace])), (a_fixities, .inr (4, [.ref a_fixities_names, .ref a_fixities_sides, .ref a_fixities_levels, .int (nI w_n_fixities_size)])), (a_fixities_names, .inl (ka_fixities_names, 12, .inr (.inl w_f_fixities_names))), (a_fixities_sides, .inl (ka_fixities_sides, 12, .inl w_f_fixities_sides)), (a_fixities_levels, .inl (ka_fixities_levels, 12, .inl w_f_fixities_levels))]) (va_A [(a_t, .inr (0, [.ref a_text, .ref a_fixities, .ref a_cutter, .ref a_blocks, .ref a_rows, .ref a_tokens, .ref a_counts, .int z_wrongPlace])), (a_fixities, .inr (4, [.ref a_fixities_names, .ref a_fixities_sides, .ref a_fixities_levels, .int (nI n_fixities_size)])), (a_fixities_names, .inl (ka_fixities_names, 12, .inr (.inl f_fixities_names))), (a_fixities_sides, .inl (ka_fixities_sides, 12, .inl f_fixities_sides)), (a_fixities_levels, .inl (ka_fixities_levels, 12, .inl f_fixities_levels))] sz)) [xIAE, xISE] (fun t => ∃ (w_n_fixities_size : Nat) (w_f_fixities_names : Nat → Int64) (w_f_fixities_sides : Nat → Int32) (w_f_fixities_levels : Nat → Int32), (w_n_fixities_size ≤ 12) ∧ (w_n_fixities_size = if (fxK (hx7 f_fixities_names y0 n_fixities_size) n_fixities_size y1 y2 && !hx7 f_fixities_names y0 n_fixities_size) = true then n_fixities_size + 1 else n_fixities_size) ∧ (∀ v9, hx7 w_f_fixities_names v9 w_n_fixities_size = (hx7 f_fixities_names v9 n_fixities_size || (fxK (hx7 f_fixities_names y0 n_fixities_size) n_fixities_size y1 y2 && v9 == y0))) ∧ (∀ v9, lvC w_f_fixities_names w_f_fixities_levels w_n_fixities_size 9 v9 = if (fxK (hx7 f_fixities_names y0 n_fixities_size) n_fixities_size y1 y2 && v9 == y0) = true then y2 else lvC f_fixities_names f_fixities_levels n_fixities_size 9 v9) ∧ (∀ v9, lvC w_f_fixities_names w_f_fixities_sides w_n_fixities_size 0 v9 = if (fxK (hx7 f_fixities_names y0 n_fixities_size) n_fixities_size y1 y2 && v9 == y0) = true then y1 else lvC f_fixities_names f_fixities_sides n_fixities_size 0 v9) ∧ va_P (dC, dI) vcl [(a_t, .inr (0, [.ref a_text, .ref a_fixities, .ref a_cutter, .ref a_blocks, .ref a_rows, .ref a_tokens, .ref a_counts, .int z_wrongPlace])), (a_fixities, .inr (4, [.ref a_fixities_names, .ref a_fixities_sides, .ref a_fixities_levels, .int (nI w_n_fixities_size)])), (a_fixities_names, .inl (ka_fixities_names, 12, .inr (.inl w_f_fixities_names))), (a_fixities_sides, .inl (ka_fixities_sides, 12, .inl w_f_fixities_sides)), (a_fixities_levels, .inl (ka_fixities_levels, 12, .inl w_f_fixities_levels))] t.heap ∧ va_K (dC, dI) vcl [(ka_fixities_names, .long), (ka_fixities_sides, .int), (ka_fixities_levels, .int)] t ∧ va_D (va_A [(a_t, .inr (0, [.ref a_text, .ref a_fixities, .ref a_cutter, .ref a_blocks, .ref a_rows, .ref a_tokens, .ref a_counts, .int z_wrongPlace])), (a_fixities, .inr (4, [.ref a_fixities_names, .ref a_fixities_sides, .ref a_fixities_levels, .int (nI n_fixities_size)])), (a_fixities_names, .inl (ka_fixities_names, 12, .inr (.inl f_fixities_names))), (a_fixities_sides, .inl (ka_fixities_sides, 12, .inl f_fixities_sides)), (a_fixities_levels, .inl (ka_fixities_levels, 12, .inl f_fixities_levels))] sz) [(a_t, .inr (0, [.ref a_text, .ref a_fixities, .ref a_cutter, .ref a_blocks, .ref a_rows, .ref a_tokens, .ref a_counts, .int z_wrongPlace])), (a_fixities, .inr (4, [.ref a_fixities_names, .ref a_fixities_sides, .ref a_fixities_levels, .int (nI w_n_fixities_size)])), (a_fixities_names, .inl (ka_fixities_names, 12, .inr (.inl w_f_fixities_names))), (a_fixities_sides, .inl (ka_fixities_sides, 12, .inl w_f_fixities_sides)), (a_fixities_levels, .inl (ka_fixities_levels, 12, .inl w_f_fixities_levels))]) (va_A [(a_t, .inr (0, [.ref a_text, .ref a_fixities, .ref a_cutter, .ref a_blocks, .ref a_rows, .ref a_tokens, .ref a_counts, .int z_wrongPlace])), (a_fixities, .inr (4, [.ref a_fixities_names, .ref a_fixities_sides, .ref a_fixities_levels, .int (nI n_fixities_size)])), (a_fixities_names, .inl (ka_fixities_names, 12, .inr (.inl f_fixities_names))), (a_fixities_sides, .inl (ka_fixities_sides, 12, .inl f_fixities_sides)), (a_fixities_levels, .inl (ka_fixities_levels, 12, .inl f_fixities_levels))] sz) 1 6 := by
  refine ty_ofW (cc := b_LF_fixity) (maxL := 5) (ret := (some .int)) (by decide) rfl ?_
  intro p e s m args below meth c s₁ B hml hv
  obtain ⟨rfl, hsz, hP, hK, hD0, hE⟩ := hv
  have hx := B.exec
  have hb := B.bytes
  have hr := B.returns
  have hts := atoms_spec (ws := w_LF_fixity) B.pre
  have hz : ∀ w ∈ wz, w.before _ s = true := fun w h => hts w (List.mem_cons_of_mem _ h)
  have hown : s.vm.findClass R_LF = some m.cls := findClass_of_methodNamed B.named
  have hlocks := B.notSynchronized
  subst hsz
  have hD := hD0.self (sz := s.heap.size)
  generalize hAe : va_A [(a_t, .inr (0, [.ref a_text, .ref a_fixities, .ref a_cutter, .ref a_blocks, .ref a_rows, .ref a_tokens, .ref a_counts, .int z_wrongPlace])), (a_fixities, .inr (4, [.ref a_fixities_names, .ref a_fixities_sides, .ref a_fixities_levels, .int (nI n_fixities_size)])), (a_fixities_names, .inl (ka_fixities_names, 12, .inr (.inl f_fixities_names))), (a_fixities_sides, .inl (ka_fixities_sides, 12, .inl f_fixities_sides)), (a_fixities_levels, .inl (ka_fixities_levels, 12, .inl f_fixities_levels))] s.heap.size = A at hD hE ⊢
  have hA : ∀ q : Nat, s.heap.size ≤ q → A q := fun q h => by rw [← hAe]; exact Or.inr h
  have hS : va_S A s.heap s.heap [] := va_S.rf
  have hP : va_P (dC, dI) vcl [(a_t, .inr (0, [.ref a_text, .ref a_fixities, .ref a_cutter, .ref a_blocks, .ref a_rows, .ref a_tokens, .ref a_counts, .int z_wrongPlace])), (a_fixities, .inr (4, [.ref a_fixities_names, .ref a_fixities_sides, .ref a_fixities_levels, .int (nI n_fixities_size)])), (a_fixities_names, .inl (ka_fixities_names, 12, .inr (.inl f_fixities_names))), (a_fixities_sides, .inl (ka_fixities_sides, 12, .inl f_fixities_sides)), (a_fixities_levels, .inl (ka_fixities_levels, 12, .inl f_fixities_levels))] s.heap := hP
  have hl := lv_entry ([.ref a_t, .long y0, .int y1, .int y2]) (n := 5) (Nat.le_of_ble_eq_true rfl)
  rw [lg_entry_eq]
  generalize (lg_sl ([.ref a_t, .long y0, .int y1, .int y2]) ++ List.replicate (5 - (lg_sl ([.ref a_t, .long y0, .int y1, .int y2])).length) Slot.unset).toArray = ls at hl ⊢
  have hl : lv_has ls 5 [(0, .ref a_t), (1, .long y0), (3, .int y1), (4, .int y2)] := hl
  refine lv_iload_n hx hb d_LF_fixity_0 rfl (lv_at hl 2 rfl) ?_
  refine lv_if_lt (tgt := 21) hx hb d_LF_fixity_1 (by decide) (fun h1 => ?_) (fun h1 => ?_)
  · have e1 := h1
    have hP9 := hP.sub (ws' := [(a_t, .inr (0, [.ref a_text, .ref a_fixities, .ref a_cutter, .ref a_blocks, .ref a_rows, .ref a_tokens, .ref a_counts, .int z_wrongPlace])), (a_fixities, .inr (4, [.ref a_fixities_names, .ref a_fixities_sides, .ref a_fixities_levels, .int (nI n_fixities_size)])), (a_fixities_names, .inl (ka_fixities_names, 12, .inr (.inl f_fixities_names))), (a_fixities_sides, .inl (ka_fixities_sides, 12, .inl f_fixities_sides)), (a_fixities_levels, .inl (ka_fixities_levels, 12, .inl f_fixities_levels))]) [0, 1, 2, 3, 4] rfl
    have hD9 := hD.sub (ws' := [(a_t, .inr (0, [.ref a_text, .ref a_fixities, .ref a_cutter, .ref a_blocks, .ref a_rows, .ref a_tokens, .ref a_counts, .int z_wrongPlace])), (a_fixities, .inr (4, [.ref a_fixities_names, .ref a_fixities_sides, .ref a_fixities_levels, .int (nI n_fixities_size)])), (a_fixities_names, .inl (ka_fixities_names, 12, .inr (.inl f_fixities_names))), (a_fixities_sides, .inl (ka_fixities_sides, 12, .inl f_fixities_sides)), (a_fixities_levels, .inl (ka_fixities_levels, 12, .inl f_fixities_levels))]) [0, 1, 2, 3, 4] (by decide) rfl
    obtain ⟨qs, hqs⟩ := hE.msg _ (List.mem_of_getElem? (l := tx_str) (i := 2) rfl)
    exact ty_throw hx hb hnt hlocks (hl.1.trans hml.symm) hown (by decide +kernel) (by decide +kernel) (fun U hv hh => cx_xIAE (cx_hz hz hv) (hE.at hS hv hh)) (fun U hv => word_at (cx_warm hv) (zgood _ zm_543).2 (hz _ zm_543)) (fun U hv => word_at (cx_warm hv) (zgood _ zm_544).2 (hz _ zm_544)) (fun U hv => word_at (cx_warm hv) (zgood _ zm_545).2 (hz _ zm_545)) hqs d_LF_fixity_21 d_LF_fixity_24 d_LF_fixity_25 d_LF_fixity_27 d_LF_fixity_30 (covers_of_empty (B.noHandlers (hts _ List.mem_cons_self)) _) (Nat.le_of_ble_eq_true rfl) (Nat.le_of_ble_eq_true rfl) (Nat.le_of_ble_eq_true rfl) (Nat.le_of_ble_eq_true rfl) hS (Nat.le_refl _) (Nat.le_refl _) (by simp) (fun t ha h8 h9 => ⟨n_fixities_size, f_fixities_names, f_fixities_sides, f_fixities_levels, by first | omega | assumption | rfl, by exact fj_0 (fk_1 (wy_l e1)), by (intro v9; exact fh_0 (fk_1 (wy_l e1))), by (intro v9; exact fp_0 (fk_1 (wy_l e1))), by (intro v9; exact fp_0 (fk_1 (wy_l e1))), cx_grown hP9 h9, va_K.moved ha hK, hD9⟩)
  · have e1 := h1
    refine lv_iload_n hx hb d_LF_fixity_4 rfl (lv_at hl 2 rfl) ?_
    refine lv_iconst (v := 2) hx hb d_LF_fixity_5 (by decide) ?_
    refine lv_icmp_gt (tgt := 21) hx hb d_LF_fixity_6 (by decide) (fun h2 => ?_) (fun h2 => ?_)
    · have e6 := h2
      have hP9 := hP.sub (ws' := [(a_t, .inr (0, [.ref a_text, .ref a_fixities, .ref a_cutter, .ref a_blocks, .ref a_rows, .ref a_tokens, .ref a_counts, .int z_wrongPlace])), (a_fixities, .inr (4, [.ref a_fixities_names, .ref a_fixities_sides, .ref a_fixities_levels, .int (nI n_fixities_size)])), (a_fixities_names, .inl (ka_fixities_names, 12, .inr (.inl f_fixities_names))), (a_fixities_sides, .inl (ka_fixities_sides, 12, .inl f_fixities_sides)), (a_fixities_levels, .inl (ka_fixities_levels, 12, .inl f_fixities_levels))]) [0, 1, 2, 3, 4] rfl
      have hD9 := hD.sub (ws' := [(a_t, .inr (0, [.ref a_text, .ref a_fixities, .ref a_cutter, .ref a_blocks, .ref a_rows, .ref a_tokens, .ref a_counts, .int z_wrongPlace])), (a_fixities, .inr (4, [.ref a_fixities_names, .ref a_fixities_sides, .ref a_fixities_levels, .int (nI n_fixities_size)])), (a_fixities_names, .inl (ka_fixities_names, 12, .inr (.inl f_fixities_names))), (a_fixities_sides, .inl (ka_fixities_sides, 12, .inl f_fixities_sides)), (a_fixities_levels, .inl (ka_fixities_levels, 12, .inl f_fixities_levels))]) [0, 1, 2, 3, 4] (by decide) rfl
      obtain ⟨qs, hqs⟩ := hE.msg _ (List.mem_of_getElem? (l := tx_str) (i := 2) rfl)
      exact ty_throw hx hb hnt hlocks (hl.1.trans hml.symm) hown (by decide +kernel) (by decide +kernel) (fun U hv hh => cx_xIAE (cx_hz hz hv) (hE.at hS hv hh)) (fun U hv => word_at (cx_warm hv) (zgood _ zm_543).2 (hz _ zm_543)) (fun U hv => word_at (cx_warm hv) (zgood _ zm_544).2 (hz _ zm_544)) (fun U hv => word_at (cx_warm hv) (zgood _ zm_545).2 (hz _ zm_545)) hqs d_LF_fixity_21 d_LF_fixity_24 d_LF_fixity_25 d_LF_fixity_27 d_LF_fixity_30 (covers_of_empty (B.noHandlers (hts _ List.mem_cons_self)) _) (Nat.le_of_ble_eq_true rfl) (Nat.le_of_ble_eq_true rfl) (Nat.le_of_ble_eq_true rfl) (Nat.le_of_ble_eq_true rfl) hS (Nat.le_refl _) (Nat.le_refl _) (by simp) (fun t ha h8 h9 => ⟨n_fixities_size, f_fixities_names, f_fixities_sides, f_fixities_levels, by first | omega | assumption | rfl, by exact fj_0 (fk_1 (wy_g e6)), by (intro v9; exact fh_0 (fk_1 (wy_g e6))), by (intro v9; exact fp_0 (fk_1 (wy_g e6))), by (intro v9; exact fp_0 (fk_1 (wy_g e6))), cx_grown hP9 h9, va_K.moved ha hK, hD9⟩)
    · have e6 := h2
      refine lv_iload hx hb d_LF_fixity_9 (lv_at hl 3 rfl) ?_
      refine lv_if_lt (tgt := 21) hx hb d_LF_fixity_11 (by decide) (fun h3 => ?_) (fun h3 => ?_)
      · have e11 := h3
        have hP9 := hP.sub (ws' := [(a_t, .inr (0, [.ref a_text, .ref a_fixities, .ref a_cutter, .ref a_blocks, .ref a_rows, .ref a_tokens, .ref a_counts, .int z_wrongPlace])), (a_fixities, .inr (4, [.ref a_fixities_names, .ref a_fixities_sides, .ref a_fixities_levels, .int (nI n_fixities_size)])), (a_fixities_names, .inl (ka_fixities_names, 12, .inr (.inl f_fixities_names))), (a_fixities_sides, .inl (ka_fixities_sides, 12, .inl f_fixities_sides)), (a_fixities_levels, .inl (ka_fixities_levels, 12, .inl f_fixities_levels))]) [0, 1, 2, 3, 4] rfl
        have hD9 := hD.sub (ws' := [(a_t, .inr (0, [.ref a_text, .ref a_fixities, .ref a_cutter, .ref a_blocks, .ref a_rows, .ref a_tokens, .ref a_counts, .int z_wrongPlace])), (a_fixities, .inr (4, [.ref a_fixities_names, .ref a_fixities_sides, .ref a_fixities_levels, .int (nI n_fixities_size)])), (a_fixities_names, .inl (ka_fixities_names, 12, .inr (.inl f_fixities_names))), (a_fixities_sides, .inl (ka_fixities_sides, 12, .inl f_fixities_sides)), (a_fixities_levels, .inl (ka_fixities_levels, 12, .inl f_fixities_levels))]) [0, 1, 2, 3, 4] (by decide) rfl
        obtain ⟨qs, hqs⟩ := hE.msg _ (List.mem_of_getElem? (l := tx_str) (i := 2) rfl)
        exact ty_throw hx hb hnt hlocks (hl.1.trans hml.symm) hown (by decide +kernel) (by decide +kernel) (fun U hv hh => cx_xIAE (cx_hz hz hv) (hE.at hS hv hh)) (fun U hv => word_at (cx_warm hv) (zgood _ zm_543).2 (hz _ zm_543)) (fun U hv => word_at (cx_warm hv) (zgood _ zm_544).2 (hz _ zm_544)) (fun U hv => word_at (cx_warm hv) (zgood _ zm_545).2 (hz _ zm_545)) hqs d_LF_fixity_21 d_LF_fixity_24 d_LF_fixity_25 d_LF_fixity_27 d_LF_fixity_30 (covers_of_empty (B.noHandlers (hts _ List.mem_cons_self)) _) (Nat.le_of_ble_eq_true rfl) (Nat.le_of_ble_eq_true rfl) (Nat.le_of_ble_eq_true rfl) (Nat.le_of_ble_eq_true rfl) hS (Nat.le_refl _) (Nat.le_refl _) (by simp) (fun t ha h8 h9 => ⟨n_fixities_size, f_fixities_names, f_fixities_sides, f_fixities_levels, by first | omega | assumption | rfl, by exact fj_0 (fk_2 (wy_l e11)), by (intro v9; exact fh_0 (fk_2 (wy_l e11))), by (intro v9; exact fp_0 (fk_2 (wy_l e11))), by (intro v9; exact fp_0 (fk_2 (wy_l e11))), cx_grown hP9 h9, va_K.moved ha hK, hD9⟩)
      · have e11 := h3
        refine lv_iload hx hb d_LF_fixity_14 (lv_at hl 3 rfl) ?_
        refine lv_bipush (v := 9) hx hb d_LF_fixity_16 (by decide) ?_
        refine lv_icmp_le (tgt := 31) hx hb d_LF_fixity_18 (by decide) (fun h4 => ?_) (fun h4 => ?_)
        · have e18 := h4
          refine lv_aload_n hx hb d_LF_fixity_31 rfl (lv_at hl 0 rfl) ?_
          refine va_get (D := (dC, dI)) (ci := 0) (v := .ref a_fixities) (C := R_LF) (T := F_LF) (N := 8) hx hb hz zu_LF hown hK hP 0 rfl rfl 1 (by decide) (hz (.fieldLink R_LF 19 "LayoutFront" "fixities" "LLayoutFront$Fixities;") zm_509) (fun _ h9 => h9) rfl d_LF_fixity_32 ?_
          refine lv_lload_n hx hb d_LF_fixity_35 rfl (lv_at hl 1 rfl) ?_
          have hPc := hP.sub (ws' := [(a_fixities, .inr (4, [.ref a_fixities_names, .ref a_fixities_sides, .ref a_fixities_levels, .int (nI n_fixities_size)])), (a_fixities_names, .inl (ka_fixities_names, 12, .inr (.inl f_fixities_names)))]) [1, 2] rfl
          have hDc := hD.sub (ws' := [(a_fixities, .inr (4, [.ref a_fixities_names, .ref a_fixities_sides, .ref a_fixities_levels, .int (nI n_fixities_size)])), (a_fixities_names, .inl (ka_fixities_names, 12, .inr (.inl f_fixities_names)))]) [1, 2] (by decide) rfl
          have hKc := hK.sub (tys' := [(ka_fixities_names, .long)]) [0] rfl
          have hFc := va_free (wc := [(a_fixities, .inr (4, [.ref a_fixities_names, .ref a_fixities_sides, .ref a_fixities_levels, .int (nI n_fixities_size)])), (a_fixities_names, .inl (ka_fixities_names, 12, .inr (.inl f_fixities_names)))]) hD hS hA [1, 2] rfl
          refine va_calli (va_runV (As := [.long y0]) (rest := []) ⟨hx, hb, hml, hown, hz⟩ (s_Fixities_hasRoomFor8 l dC dI s.heap.size a_fixities a_fixities_names f_fixities_names a_fixities_sides a_fixities_levels n_fixities_size y0 ka_fixities_names (by first | omega | assumption)) (cwV 1 hz (zV zm_553 zm_554 zm_555 zm_25 zm_556) rfl rfl rfl (by decide +kernel) ⟨Nat.le_of_ble_eq_true rfl, Nat.le_of_ble_eq_true rfl⟩) ⟨fun a U g mk q => by obtain ⟨q0, q1, qP, qK, qD⟩ := q; exact ⟨q0, q1, qP, va_K.moved (u := U) (U := U.calling g mk a) (Vm.Alike.refl U.vm) qK, qD⟩, va_recv (q := (R_Fixities, F_Fixities, 4)) (q0 := 1) (ci := 4) hK hP rfl rfl, fun U hU hW => ⟨rfl, by rw [hU], by rw [hU]; exact hPc, va_K.moved hW.alike hKc, hDc.weaken (fun _ _ _ _ => trivial)⟩⟩ rfl rfl hl.1 rfl (lv_room (Nat.le_of_ble_eq_true rfl)) d_LF_fixity_36 ⟨Nat.zero_le _, Nat.zero_le _⟩) hS (fun q _ h => hFc q h) hFc (fun r u t H1 locs ht hvm hw_r hB hz1 hk1 hS => ?_)
          obtain ⟨hP1, hK1, hD1⟩ := hB
          obtain ⟨hb_r, he_r⟩ := hw_r
          subst r
          rw [ht] at hP1
          obtain ⟨hP, hD⟩ := va_join (wr := [(a_t, .inr (0, [.ref a_text, .ref a_fixities, .ref a_cutter, .ref a_blocks, .ref a_rows, .ref a_tokens, .ref a_counts, .int z_wrongPlace])), (a_fixities_sides, .inl (ka_fixities_sides, 12, .inl f_fixities_sides)), (a_fixities_levels, .inl (ka_fixities_levels, 12, .inl f_fixities_levels))]) (w1 := [(a_fixities, .inr (4, [.ref a_fixities_names, .ref a_fixities_sides, .ref a_fixities_levels, .int (nI n_fixities_size)])), (a_fixities_names, .inl (ka_fixities_names, 12, .inr (.inl f_fixities_names)))]) hP hD [1, 2] [0, 3, 4] rfl rfl (by decide) (by decide) hk1 hFc hP1 hD1
          generalize H1 = H at hP hS ⊢
          have hP : va_P (dC, dI) vcl [(a_t, .inr (0, [.ref a_text, .ref a_fixities, .ref a_cutter, .ref a_blocks, .ref a_rows, .ref a_tokens, .ref a_counts, .int z_wrongPlace])), (a_fixities_sides, .inl (ka_fixities_sides, 12, .inl f_fixities_sides)), (a_fixities_levels, .inl (ka_fixities_levels, 12, .inl f_fixities_levels)), (a_fixities, .inr (4, [.ref a_fixities_names, .ref a_fixities_sides, .ref a_fixities_levels, .int (nI n_fixities_size)])), (a_fixities_names, .inl (ka_fixities_names, 12, .inr (.inl f_fixities_names)))] H := hP
          have hD : va_D A [(a_t, .inr (0, [.ref a_text, .ref a_fixities, .ref a_cutter, .ref a_blocks, .ref a_rows, .ref a_tokens, .ref a_counts, .int z_wrongPlace])), (a_fixities_sides, .inl (ka_fixities_sides, 12, .inl f_fixities_sides)), (a_fixities_levels, .inl (ka_fixities_levels, 12, .inl f_fixities_levels)), (a_fixities, .inr (4, [.ref a_fixities_names, .ref a_fixities_sides, .ref a_fixities_levels, .int (nI n_fixities_size)])), (a_fixities_names, .inl (ka_fixities_names, 12, .inr (.inl f_fixities_names)))] := hD
          refine lv_if_ne (tgt := 52) hx hb d_LF_fixity_39 (by decide) (fun h5 => ?_) (fun h5 => ?_)
          · have e39 := h5
            refine lv_aload_n hx hb d_LF_fixity_52 rfl (lv_at hl 0 rfl) ?_
            refine va_get (D := (dC, dI)) (ci := 0) (v := .ref a_fixities) (C := R_LF) (T := F_LF) (N := 8) hx hb hz zu_LF hown hK hP 0 rfl rfl 1 (by decide) (hz (.fieldLink R_LF 19 "LayoutFront" "fixities" "LLayoutFront$Fixities;") zm_509) (fun _ h9 => h9) rfl d_LF_fixity_53 ?_
            refine lv_lload_n hx hb d_LF_fixity_56 rfl (lv_at hl 1 rfl) ?_
            refine lv_iload_n hx hb d_LF_fixity_57 rfl (lv_at hl 2 rfl) ?_
            refine lv_iload hx hb d_LF_fixity_58 (lv_at hl 3 rfl) ?_
            have hPc := hP.sub (ws' := [(a_fixities, .inr (4, [.ref a_fixities_names, .ref a_fixities_sides, .ref a_fixities_levels, .int (nI n_fixities_size)])), (a_fixities_names, .inl (ka_fixities_names, 12, .inr (.inl f_fixities_names))), (a_fixities_sides, .inl (ka_fixities_sides, 12, .inl f_fixities_sides)), (a_fixities_levels, .inl (ka_fixities_levels, 12, .inl f_fixities_levels))]) [3, 4, 1, 2] rfl
            have hDc := hD.sub (ws' := [(a_fixities, .inr (4, [.ref a_fixities_names, .ref a_fixities_sides, .ref a_fixities_levels, .int (nI n_fixities_size)])), (a_fixities_names, .inl (ka_fixities_names, 12, .inr (.inl f_fixities_names))), (a_fixities_sides, .inl (ka_fixities_sides, 12, .inl f_fixities_sides)), (a_fixities_levels, .inl (ka_fixities_levels, 12, .inl f_fixities_levels))]) [3, 4, 1, 2] (by decide) rfl
            have hKc := hK.sub (tys' := [(ka_fixities_names, .long), (ka_fixities_sides, .int), (ka_fixities_levels, .int)]) [0, 1, 2] rfl
            have hFc := va_free (wc := [(a_fixities, .inr (4, [.ref a_fixities_names, .ref a_fixities_sides, .ref a_fixities_levels, .int (nI n_fixities_size)])), (a_fixities_names, .inl (ka_fixities_names, 12, .inr (.inl f_fixities_names))), (a_fixities_sides, .inl (ka_fixities_sides, 12, .inl f_fixities_sides)), (a_fixities_levels, .inl (ka_fixities_levels, 12, .inl f_fixities_levels))]) hD hS hA [3, 4, 1, 2] rfl
            refine va_callv (va_runV (As := [.long y0, .int y1, .int y2]) (rest := []) ⟨hx, hb, hml, hown, hz⟩ (s_Fixities_set8 l dC dI H.size a_fixities a_fixities_names f_fixities_names a_fixities_sides f_fixities_sides a_fixities_levels f_fixities_levels n_fixities_size y0 y1 y2 ka_fixities_names ka_fixities_sides ka_fixities_levels (by first | omega | assumption) (by exact (Bool.or_eq_true_iff.mp (b01_yes e39)).imp of_decide_eq_true of_decide_eq_true)) (cwV 3 hz (zV zm_557 zm_558 zm_559 zm_25 zm_560) rfl rfl rfl (by decide +kernel) ⟨Nat.le_of_ble_eq_true rfl, Nat.le_of_ble_eq_true rfl⟩) ⟨fun a U g mk q => by obtain ⟨q0, q1, qP, qK, qD⟩ := q; exact ⟨q0, q1, qP, va_K.moved (u := U) (U := U.calling g mk a) (Vm.Alike.refl U.vm) qK, qD⟩, va_recv (q := (R_Fixities, F_Fixities, 4)) (q0 := 3) (ci := 4) hK hP rfl rfl, fun U hU hW => ⟨rfl, by rw [hU], by rw [hU]; exact hPc, va_K.moved hW.alike hKc, hDc.weaken (fun _ _ _ _ => trivial)⟩⟩ rfl rfl hl.1 rfl (lv_room (Nat.le_of_ble_eq_true rfl)) d_LF_fixity_60 ⟨Nat.zero_le _, Nat.zero_le _⟩) hS (fun q _ h => hFc q h) hFc (fun u t H1 locs ht hvm hw hB hz1 hk1 hS => ?_)
            obtain ⟨g6, g7, g8, g9, hb_g6, hq0_60, hq1_60, hq2_60, hq3_60, hq4_60, hP1, hK1, hD1⟩ := hB
            rw [ht] at hP1
            obtain ⟨hP, hD⟩ := va_join (wr := [(a_t, .inr (0, [.ref a_text, .ref a_fixities, .ref a_cutter, .ref a_blocks, .ref a_rows, .ref a_tokens, .ref a_counts, .int z_wrongPlace]))]) (w1 := [(a_fixities, .inr (4, [.ref a_fixities_names, .ref a_fixities_sides, .ref a_fixities_levels, .int (nI g6)])), (a_fixities_names, .inl (ka_fixities_names, 12, .inr (.inl g7))), (a_fixities_sides, .inl (ka_fixities_sides, 12, .inl g8)), (a_fixities_levels, .inl (ka_fixities_levels, 12, .inl g9))]) hP hD [3, 4, 1, 2] [0] rfl rfl (by decide) (by decide) hk1 hFc hP1 hD1
            generalize H1 = H at hP hS ⊢
            have hP : va_P (dC, dI) vcl [(a_t, .inr (0, [.ref a_text, .ref a_fixities, .ref a_cutter, .ref a_blocks, .ref a_rows, .ref a_tokens, .ref a_counts, .int z_wrongPlace])), (a_fixities, .inr (4, [.ref a_fixities_names, .ref a_fixities_sides, .ref a_fixities_levels, .int (nI g6)])), (a_fixities_names, .inl (ka_fixities_names, 12, .inr (.inl g7))), (a_fixities_sides, .inl (ka_fixities_sides, 12, .inl g8)), (a_fixities_levels, .inl (ka_fixities_levels, 12, .inl g9))] H := hP
            have hD : va_D A [(a_t, .inr (0, [.ref a_text, .ref a_fixities, .ref a_cutter, .ref a_blocks, .ref a_rows, .ref a_tokens, .ref a_counts, .int z_wrongPlace])), (a_fixities, .inr (4, [.ref a_fixities_names, .ref a_fixities_sides, .ref a_fixities_levels, .int (nI g6)])), (a_fixities_names, .inl (ka_fixities_names, 12, .inr (.inl g7))), (a_fixities_sides, .inl (ka_fixities_sides, 12, .inl g8)), (a_fixities_levels, .inl (ka_fixities_levels, 12, .inl g9))] := hD
            refine lv_aload_n hx hb d_LF_fixity_63 rfl (lv_at hl 0 rfl) ?_
            refine va_get (D := (dC, dI)) (ci := 0) (v := .ref a_fixities) (C := R_LF) (T := F_LF) (N := 8) hx hb hz zu_LF hown hK hP 0 rfl rfl 1 (by decide) (hz (.fieldLink R_LF 19 "LayoutFront" "fixities" "LLayoutFront$Fixities;") zm_509) (fun _ h9 => h9) rfl d_LF_fixity_64 ?_
            have hPc := hP.sub (ws' := [(a_fixities, .inr (4, [.ref a_fixities_names, .ref a_fixities_sides, .ref a_fixities_levels, .int (nI g6)]))]) [1] rfl
            have hDc := hD.sub (ws' := [(a_fixities, .inr (4, [.ref a_fixities_names, .ref a_fixities_sides, .ref a_fixities_levels, .int (nI g6)]))]) [1] (by decide) rfl
            have hKc := hK.sub (tys' := []) [] rfl
            have hFc := va_free (wc := [(a_fixities, .inr (4, [.ref a_fixities_names, .ref a_fixities_sides, .ref a_fixities_levels, .int (nI g6)]))]) hD hS hA [1] rfl
            refine va_calli (va_runV (As := []) (rest := []) ⟨hx, hb, hml, hown, hz⟩ (s_Fixities_size l dC dI H.size a_fixities a_fixities_names a_fixities_sides a_fixities_levels g6 (by first | omega | assumption)) (cwV 0 hz (zV zm_561 zm_562 zm_563 zm_25 zm_564) rfl rfl rfl (by decide +kernel) ⟨Nat.le_of_ble_eq_true rfl, Nat.le_of_ble_eq_true rfl⟩) ⟨fun a U g mk q => by obtain ⟨q0, q1, qP, qK, qD⟩ := q; exact ⟨q0, q1, qP, va_K.moved (u := U) (U := U.calling g mk a) (Vm.Alike.refl U.vm) qK, qD⟩, va_recv (q := (R_Fixities, F_Fixities, 4)) (q0 := 1) (ci := 4) hK hP rfl rfl, fun U hU hW => ⟨rfl, by rw [hU], by rw [hU]; exact hPc, va_K.moved hW.alike hKc, hDc.weaken (fun _ _ _ _ => trivial)⟩⟩ rfl rfl hl.1 rfl (lv_room (Nat.le_of_ble_eq_true rfl)) d_LF_fixity_67 ⟨Nat.zero_le _, Nat.zero_le _⟩) hS (fun q _ h => hFc q h) hFc (fun r u t H1 locs ht hvm hw hB hz1 hk1 hS => ?_)
            obtain ⟨hP1, hK1, hD1⟩ := hB
            subst r
            rw [ht] at hP1
            obtain ⟨hP, hD⟩ := va_join (wr := [(a_t, .inr (0, [.ref a_text, .ref a_fixities, .ref a_cutter, .ref a_blocks, .ref a_rows, .ref a_tokens, .ref a_counts, .int z_wrongPlace])), (a_fixities_names, .inl (ka_fixities_names, 12, .inr (.inl g7))), (a_fixities_sides, .inl (ka_fixities_sides, 12, .inl g8)), (a_fixities_levels, .inl (ka_fixities_levels, 12, .inl g9))]) (w1 := [(a_fixities, .inr (4, [.ref a_fixities_names, .ref a_fixities_sides, .ref a_fixities_levels, .int (nI g6)]))]) hP hD [1] [0, 2, 3, 4] rfl rfl (by decide) (by decide) hk1 hFc hP1 hD1
            generalize H1 = H at hP hS ⊢
            have hP : va_P (dC, dI) vcl [(a_t, .inr (0, [.ref a_text, .ref a_fixities, .ref a_cutter, .ref a_blocks, .ref a_rows, .ref a_tokens, .ref a_counts, .int z_wrongPlace])), (a_fixities_names, .inl (ka_fixities_names, 12, .inr (.inl g7))), (a_fixities_sides, .inl (ka_fixities_sides, 12, .inl g8)), (a_fixities_levels, .inl (ka_fixities_levels, 12, .inl g9)), (a_fixities, .inr (4, [.ref a_fixities_names, .ref a_fixities_sides, .ref a_fixities_levels, .int (nI g6)]))] H := hP
            have hD : va_D A [(a_t, .inr (0, [.ref a_text, .ref a_fixities, .ref a_cutter, .ref a_blocks, .ref a_rows, .ref a_tokens, .ref a_counts, .int z_wrongPlace])), (a_fixities_names, .inl (ka_fixities_names, 12, .inr (.inl g7))), (a_fixities_sides, .inl (ka_fixities_sides, 12, .inl g8)), (a_fixities_levels, .inl (ka_fixities_levels, 12, .inl g9)), (a_fixities, .inr (4, [.ref a_fixities_names, .ref a_fixities_sides, .ref a_fixities_levels, .int (nI g6)]))] := hD
            have hP9 := hP.sub (ws' := [(a_t, .inr (0, [.ref a_text, .ref a_fixities, .ref a_cutter, .ref a_blocks, .ref a_rows, .ref a_tokens, .ref a_counts, .int z_wrongPlace])), (a_fixities, .inr (4, [.ref a_fixities_names, .ref a_fixities_sides, .ref a_fixities_levels, .int (nI g6)])), (a_fixities_names, .inl (ka_fixities_names, 12, .inr (.inl g7))), (a_fixities_sides, .inl (ka_fixities_sides, 12, .inl g8)), (a_fixities_levels, .inl (ka_fixities_levels, 12, .inl g9))]) [0, 4, 1, 2, 3] rfl
            have hD9 := hD.sub (ws' := [(a_t, .inr (0, [.ref a_text, .ref a_fixities, .ref a_cutter, .ref a_blocks, .ref a_rows, .ref a_tokens, .ref a_counts, .int z_wrongPlace])), (a_fixities, .inr (4, [.ref a_fixities_names, .ref a_fixities_sides, .ref a_fixities_levels, .int (nI g6)])), (a_fixities_names, .inl (ka_fixities_names, 12, .inr (.inl g7))), (a_fixities_sides, .inl (ka_fixities_sides, 12, .inl g8)), (a_fixities_levels, .inl (ka_fixities_levels, 12, .inl g9))]) [0, 4, 1, 2, 3] (by decide) rfl
            refine ty_ret (Nat.zero_le _) (Nat.zero_le _) ?_
            exact W.iret (v := (nI g6)) hx hb hr (fun t ht hW => ⟨⟨(nI g6), (), rfl, trivial, g6, g7, g8, g9, by first | omega | assumption | rfl, by exact fn_b (fk_t (wy_y e1 e6) (wy_y e11 (Int32.not_lt.mpr e18)) (b01_yes e39)) hq0_60 hq1_60, by (intro v9; exact fh_1 (fk_t (wy_y e1 e6) (wy_y e11 (Int32.not_lt.mpr e18)) (b01_yes e39)) (hq2_60 v9)), by (intro v9; exact fp_1 (fk_t (wy_y e1 e6) (wy_y e11 (Int32.not_lt.mpr e18)) (b01_yes e39)) (hq3_60 v9)), by (intro v9; exact fp_1 (fk_t (wy_y e1 e6) (wy_y e11 (Int32.not_lt.mpr e18)) (b01_yes e39)) (hq4_60 v9)), by rw [ht]; exact hP9, va_K.moved hW.alike hK, hD9⟩, hS.F ht⟩) hS.2.2 d_LF_fixity_70
          · have e39 := h5
            have hP9 := hP.sub (ws' := [(a_t, .inr (0, [.ref a_text, .ref a_fixities, .ref a_cutter, .ref a_blocks, .ref a_rows, .ref a_tokens, .ref a_counts, .int z_wrongPlace])), (a_fixities, .inr (4, [.ref a_fixities_names, .ref a_fixities_sides, .ref a_fixities_levels, .int (nI n_fixities_size)])), (a_fixities_names, .inl (ka_fixities_names, 12, .inr (.inl f_fixities_names))), (a_fixities_sides, .inl (ka_fixities_sides, 12, .inl f_fixities_sides)), (a_fixities_levels, .inl (ka_fixities_levels, 12, .inl f_fixities_levels))]) [0, 3, 4, 1, 2] rfl
            have hD9 := hD.sub (ws' := [(a_t, .inr (0, [.ref a_text, .ref a_fixities, .ref a_cutter, .ref a_blocks, .ref a_rows, .ref a_tokens, .ref a_counts, .int z_wrongPlace])), (a_fixities, .inr (4, [.ref a_fixities_names, .ref a_fixities_sides, .ref a_fixities_levels, .int (nI n_fixities_size)])), (a_fixities_names, .inl (ka_fixities_names, 12, .inr (.inl f_fixities_names))), (a_fixities_sides, .inl (ka_fixities_sides, 12, .inl f_fixities_sides)), (a_fixities_levels, .inl (ka_fixities_levels, 12, .inl f_fixities_levels))]) [0, 3, 4, 1, 2] (by decide) rfl
            obtain ⟨qs, hqs⟩ := hE.msg _ (List.mem_of_getElem? (l := tx_str) (i := 3) rfl)
            exact ty_throw hx hb hnt hlocks (hl.1.trans hml.symm) hown (by decide +kernel) (by decide +kernel) (fun U hv hh => cx_xISE (cx_hz hz hv) (hE.at hS hv hh)) (fun U hv => word_at (cx_warm hv) (zgood _ zm_546).2 (hz _ zm_546)) (fun U hv => word_at (cx_warm hv) (zgood _ zm_547).2 (hz _ zm_547)) (fun U hv => word_at (cx_warm hv) (zgood _ zm_548).2 (hz _ zm_548)) hqs d_LF_fixity_42 d_LF_fixity_45 d_LF_fixity_46 d_LF_fixity_48 d_LF_fixity_51 (covers_of_empty (B.noHandlers (hts _ List.mem_cons_self)) _) (Nat.le_of_ble_eq_true rfl) (Nat.le_of_ble_eq_true rfl) (Nat.le_of_ble_eq_true rfl) (Nat.le_of_ble_eq_true rfl) hS (Nat.le_refl _) (Nat.le_refl _) (by simp) (fun t ha h8 h9 => ⟨n_fixities_size, f_fixities_names, f_fixities_sides, f_fixities_levels, by first | omega | assumption | rfl, by exact fj_0 (fk_3 (b01_no e39)), by (intro v9; exact fh_0 (fk_3 (b01_no e39))), by (intro v9; exact fp_0 (fk_3 (b01_no e39))), by (intro v9; exact fp_0 (fk_3 (b01_no e39))), cx_grown hP9 h9, va_K.moved ha hK, hD9⟩)
        · have e18 := h4
          have hP9 := hP.sub (ws' := [(a_t, .inr (0, [.ref a_text, .ref a_fixities, .ref a_cutter, .ref a_blocks, .ref a_rows, .ref a_tokens, .ref a_counts, .int z_wrongPlace])), (a_fixities, .inr (4, [.ref a_fixities_names, .ref a_fixities_sides, .ref a_fixities_levels, .int (nI n_fixities_size)])), (a_fixities_names, .inl (ka_fixities_names, 12, .inr (.inl f_fixities_names))), (a_fixities_sides, .inl (ka_fixities_sides, 12, .inl f_fixities_sides)), (a_fixities_levels, .inl (ka_fixities_levels, 12, .inl f_fixities_levels))]) [0, 1, 2, 3, 4] rfl
          have hD9 := hD.sub (ws' := [(a_t, .inr (0, [.ref a_text, .ref a_fixities, .ref a_cutter, .ref a_blocks, .ref a_rows, .ref a_tokens, .ref a_counts, .int z_wrongPlace])), (a_fixities, .inr (4, [.ref a_fixities_names, .ref a_fixities_sides, .ref a_fixities_levels, .int (nI n_fixities_size)])), (a_fixities_names, .inl (ka_fixities_names, 12, .inr (.inl f_fixities_names))), (a_fixities_sides, .inl (ka_fixities_sides, 12, .inl f_fixities_sides)), (a_fixities_levels, .inl (ka_fixities_levels, 12, .inl f_fixities_levels))]) [0, 1, 2, 3, 4] (by decide) rfl
          obtain ⟨qs, hqs⟩ := hE.msg _ (List.mem_of_getElem? (l := tx_str) (i := 2) rfl)
          exact ty_throw hx hb hnt hlocks (hl.1.trans hml.symm) hown (by decide +kernel) (by decide +kernel) (fun U hv hh => cx_xIAE (cx_hz hz hv) (hE.at hS hv hh)) (fun U hv => word_at (cx_warm hv) (zgood _ zm_543).2 (hz _ zm_543)) (fun U hv => word_at (cx_warm hv) (zgood _ zm_544).2 (hz _ zm_544)) (fun U hv => word_at (cx_warm hv) (zgood _ zm_545).2 (hz _ zm_545)) hqs d_LF_fixity_21 d_LF_fixity_24 d_LF_fixity_25 d_LF_fixity_27 d_LF_fixity_30 (covers_of_empty (B.noHandlers (hts _ List.mem_cons_self)) _) (Nat.le_of_ble_eq_true rfl) (Nat.le_of_ble_eq_true rfl) (Nat.le_of_ble_eq_true rfl) (Nat.le_of_ble_eq_true rfl) hS (Nat.le_refl _) (Nat.le_refl _) (by simp) (fun t ha h8 h9 => ⟨n_fixities_size, f_fixities_names, f_fixities_sides, f_fixities_levels, by first | omega | assumption | rfl, by exact fj_0 (fk_2 (wy_g (Int32.not_le.mp e18))), by (intro v9; exact fh_0 (fk_2 (wy_g (Int32.not_le.mp e18)))), by (intro v9; exact fp_0 (fk_2 (wy_g (Int32.not_le.mp e18)))), by (intro v9; exact fp_0 (fk_2 (wy_g (Int32.not_le.mp e18)))), cx_grown hP9 h9, va_K.moved ha hK, hD9⟩)
set_option maxHeartbeats 4000000 in
set_option maxRecDepth 100000 in
theorem s_Model_fixity8 (l : Launch) (dC : Nat → ClassId) (dI : Nat → Nat → Nat) (sz : Nat) (a_t : Nat) (z_thrown : Int32) (n_length : Nat) (a_text : Nat) (z_bad : Int32) (z_place : Int32) (n_at : Nat) (n_lexemes : Nat) (a_kind : Nat) (a_value : Nat) (a_where : Nat) (a_column : Nat) (a_leads : Nat) (n_open : Nat) (z_highest : Int32) (a_row : Nat) (n_tokens : Nat) (z_blocks : Int32) (a_sort : Nat) (a_is : Nat) (a_before : Nat) (a_behind : Nat) (a_partner : Nat) (a_done : Nat) (n_all : Nat) (a_kinds : Nat) (a_values : Nat) (z_told : Int32) (z_toldBlocks : Int32) (z_toldRows : Int32) (z_toldConflicts : Int32) (z_toldHighest : Int32) (n_set : Nat) (a_names : Nat) (f_names : Nat → Int64) (a_sides : Nat) (f_sides : Nat → Int32) (a_levels : Nat) (f_levels : Nat → Int32) (n_items : Nat) (n_operands : Nat) (n_waiting : Nat) (n_pairs : Nat) (z_rows : Int32) (z_conflicts : Int32) (a_from : Nat) (a_to : Nat) (a_what : Nat) (a_left : Nat) (a_right : Nat) (a_waits : Nat) (a_opens : Nat) (a_closes : Nat) (a_waitsFor : Nat) (y0 : Int64) (y1 : Int32) (y2 : Int32) (ka_names : ClassId) (ka_sides : ClassId) (ka_levels : ClassId) (b_length : n_length ≤ 240) (b_bad : z_bad = 0 ∨ z_bad = 1 ∨ z_bad = 2) (b_at : n_at ≤ 240) (b_lexemes : n_lexemes ≤ 90) (b_open : n_open ≤ 200) (b_tokens : n_tokens ≤ 600) (b_all : n_all ≤ 900) (b_set : n_set ≤ 12) (b_items : n_items ≤ 96) (b_operands : n_operands ≤ 96) (b_waiting : n_waiting ≤ 96) (b_pairs : n_pairs ≤ 96) : Met l y_Model_fixity w_Model_fixity ({ frames := 1, cells := 0, slots := 0, locals := 24 }) (va_Pc [.ref a_t, .long y0, .int y1, .int y2] (fun U => U.heap.size = sz ∧ va_P (dC, dI) vcl [(a_t, .inr (1, [.int z_thrown, .int (nI n_length), .ref a_text, .int z_bad, .int z_place, .int (nI n_at), .int (nI n_lexemes), .ref a_kind, .ref a_value, .ref a_where, .ref a_column, .ref a_leads, .int (nI n_open), .int z_highest, .ref a_row, .int (nI n_tokens), .int z_blocks, .ref a_sort, .ref a_is, .ref a_before, .ref a_behind, .ref a_partner, .ref a_done, .int (nI n_all), .ref a_kinds, .ref a_values, .int z_told, .int z_toldBlocks, .int z_toldRows, .int z_toldConflicts, .int z_toldHighest, .int (nI n_set), .ref a_names, .ref a_sides, .ref a_levels, .int (nI n_items), .int (nI n_operands), .int (nI n_waiting), .int (nI n_pairs), .int z_rows, .int z_conflicts, .ref a_from, .ref a_to, .ref a_what, .ref a_left, .ref a_right, .ref a_waits, .ref a_opens, .ref a_closes, .ref a_waitsFor])), (a_names, .inl (ka_names, 12, .inr (.inl f_names))), (a_sides, .inl (ka_sides, 12, .inl f_sides)), (a_levels, .inl (ka_levels, 12, .inl f_levels))] U.heap ∧ va_K (dC, dI) vcl [(ka_names, .long), (ka_sides, .int), (ka_levels, .int)] U ∧ va_D (fun _ => True) [(a_t, .inr (1, [.int z_thrown, .int (nI n_length), .ref a_text, .int z_bad, .int z_place, .int (nI n_at), .int (nI n_lexemes), .ref a_kind, .ref a_value, .ref a_where, .ref a_column, .ref a_leads, .int (nI n_open), .int z_highest, .ref a_row, .int (nI n_tokens), .int z_blocks, .ref a_sort, .ref a_is, .ref a_before, .ref a_behind, .ref a_partner, .ref a_done, .int (nI n_all), .ref a_kinds, .ref a_values, .int z_told, .int z_toldBlocks, .int z_toldRows, .int z_toldConflicts, .int z_toldHighest, .int (nI n_set), .ref a_names, .ref a_sides, .ref a_levels, .int (nI n_items), .int (nI n_operands), .int (nI n_waiting), .int (nI n_pairs), .int z_rows, .int z_conflicts, .ref a_from, .ref a_to, .ref a_what, .ref a_left, .ref a_right, .ref a_waits, .ref a_opens, .ref a_closes, .ref a_waitsFor])), (a_names, .inl (ka_names, 12, .inr (.inl f_names))), (a_sides, .inl (ka_sides, 12, .inl f_sides)), (a_levels, .inl (ka_levels, 12, .inl f_levels))])) (va_Qi (fun (r : Int32) (_ : Unit) => True) (fun _ t => ∃ (w_z_thrown : Int32) (w_n_set : Nat) (w_f_names : Nat → Int64) (w_f_sides : Nat → Int32) (w_f_levels : Nat → Int32), (w_n_set ≤ 12) ∧ (w_n_set = if (fxK (hM f_names y0 n_set) n_set y1 y2 && !hM f_names y0 n_set) = true then n_set + 1 else n_set) ∧ (∀ v9, hM w_f_names v9 w_n_set = (hM f_names v9 n_set || (fxK (hM f_names y0 n_set) n_set y1 y2 && v9 == y0))) ∧ (∀ v9, lvM w_f_names w_f_levels 9 v9 w_n_set = if (fxK (hM f_names y0 n_set) n_set y1 y2 && v9 == y0) = true then y2 else lvM f_names f_levels 9 v9 n_set) ∧ (∀ v9, lvM w_f_names w_f_sides 0 v9 w_n_set = if (fxK (hM f_names y0 n_set) n_set y1 y2 && v9 == y0) = true then y1 else lvM f_names f_sides 0 v9 n_set) ∧ va_P (dC, dI) vcl [(a_t, .inr (1, [.int w_z_thrown, .int (nI n_length), .ref a_text, .int z_bad, .int z_place, .int (nI n_at), .int (nI n_lexemes), .ref a_kind, .ref a_value, .ref a_where, .ref a_column, .ref a_leads, .int (nI n_open), .int z_highest, .ref a_row, .int (nI n_tokens), .int z_blocks, .ref a_sort, .ref a_is, .ref a_before, .ref a_behind, .ref a_partner, .ref a_done, .int (nI n_all), .ref a_kinds, .ref a_values, .int z_told, .int z_toldBlocks, .int z_toldRows, .int z_toldConflicts, .int z_toldHighest, .int (nI w_n_set), .ref a_names, .ref a_sides, .ref a_levels, .int (nI n_items), .int (nI n_operands), .int (nI n_waiting), .int (nI n_pairs), .int z_rows, .int z_conflicts, .ref a_from, .ref a_to, .ref a_what, .ref a_left, .ref a_right, .ref a_waits, .ref a_opens, .ref a_closes, .ref a_waitsFor])), (a_names, .inl (ka_names, 12, .inr (.inl w_f_names))), (a_sides, .inl (ka_sides, 12, .inl w_f_sides)), (a_levels, .inl (ka_levels, 12, .inl w_f_levels))] t.heap ∧ va_K (dC, dI) vcl [(ka_names, .long), (ka_sides, .int), (ka_levels, .int)] t ∧ va_D (va_A [(a_t, .inr (1, [.int z_thrown, .int (nI n_length), .ref a_text, .int z_bad, .int z_place, .int (nI n_at), .int (nI n_lexemes), .ref a_kind, .ref a_value, .ref a_where, .ref a_column, .ref a_leads, .int (nI n_open), .int z_highest, .ref a_row, .int (nI n_tokens), .int z_blocks, .ref a_sort, .ref a_is, .ref a_before, .ref a_behind, .ref a_partner, .ref a_done, .int (nI n_all), .ref a_kinds, .ref a_values, .int z_told, .int z_toldBlocks, .int z_toldRows, .int z_toldConflicts, .int z_toldHighest, .int (nI n_set), .ref a_names, .ref a_sides, .ref a_levels, .int (nI n_items), .int (nI n_operands), .int (nI n_waiting), .int (nI n_pairs), .int z_rows, .int z_conflicts, .ref a_from, .ref a_to, .ref a_what, .ref a_left, .ref a_right, .ref a_waits, .ref a_opens, .ref a_closes, .ref a_waitsFor])), (a_names, .inl (ka_names, 12, .inr (.inl f_names))), (a_sides, .inl (ka_sides, 12, .inl f_sides)), (a_levels, .inl (ka_levels, 12, .inl f_levels))] sz) [(a_t, .inr (1, [.int w_z_thrown, .int (nI n_length), .ref a_text, .int z_bad, .int z_place, .int (nI n_at), .int (nI n_lexemes), .ref a_kind, .ref a_value, .ref a_where, .ref a_column, .ref a_leads, .int (nI n_open), .int z_highest, .ref a_row, .int (nI n_tokens), .int z_blocks, .ref a_sort, .ref a_is, .ref a_before, .ref a_behind, .ref a_partner, .ref a_done, .int (nI n_all), .ref a_kinds, .ref a_values, .int z_told, .int z_toldBlocks, .int z_toldRows, .int z_toldConflicts, .int z_toldHighest, .int (nI w_n_set), .ref a_names, .ref a_sides, .ref a_levels, .int (nI n_items), .int (nI n_operands), .int (nI n_waiting), .int (nI n_pairs), .int z_rows, .int z_conflicts, .ref a_from, .ref a_to, .ref a_what, .ref a_left, .ref a_right, .ref a_waits, .ref a_opens, .ref a_closes, .ref a_waitsFor])), (a_names, .inl (ka_names, 12, .inr (.inl w_f_names))), (a_sides, .inl (ka_sides, 12, .inl w_f_sides)), (a_levels, .inl (ka_levels, 12, .inl w_f_levels))]) (va_A [(a_t, .inr (1, [.int z_thrown, .int (nI n_length), .ref a_text, .int z_bad, .int z_place, .int (nI n_at), .int (nI n_lexemes), .ref a_kind, .ref a_value, .ref a_where, .ref a_column, .ref a_leads, .int (nI n_open), .int z_highest, .ref a_row, .int (nI n_tokens), .int z_blocks, .ref a_sort, .ref a_is, .ref a_before, .ref a_behind, .ref a_partner, .ref a_done, .int (nI n_all), .ref a_kinds, .ref a_values, .int z_told, .int z_toldBlocks, .int z_toldRows, .int z_toldConflicts, .int z_toldHighest, .int (nI n_set), .ref a_names, .ref a_sides, .ref a_levels, .int (nI n_items), .int (nI n_operands), .int (nI n_waiting), .int (nI n_pairs), .int z_rows, .int z_conflicts, .ref a_from, .ref a_to, .ref a_what, .ref a_left, .ref a_right, .ref a_waits, .ref a_opens, .ref a_closes, .ref a_waitsFor])), (a_names, .inl (ka_names, 12, .inr (.inl f_names))), (a_sides, .inl (ka_sides, 12, .inl f_sides)), (a_levels, .inl (ka_levels, 12, .inl f_levels))] sz)) 0 0 (va_A [(a_t, .inr (1, [.int z_thrown, .int (nI n_length), .ref a_text, .int z_bad, .int z_place, .int (nI n_at), .int (nI n_lexemes), .ref a_kind, .ref a_value, .ref a_where, .ref a_column, .ref a_leads, .int (nI n_open), .int z_highest, .ref a_row, .int (nI n_tokens), .int z_blocks, .ref a_sort, .ref a_is, .ref a_before, .ref a_behind, .ref a_partner, .ref a_done, .int (nI n_all), .ref a_kinds, .ref a_values, .int z_told, .int z_toldBlocks, .int z_toldRows, .int z_toldConflicts, .int z_toldHighest, .int (nI n_set), .ref a_names, .ref a_sides, .ref a_levels, .int (nI n_items), .int (nI n_operands), .int (nI n_waiting), .int (nI n_pairs), .int z_rows, .int z_conflicts, .ref a_from, .ref a_to, .ref a_what, .ref a_left, .ref a_right, .ref a_waits, .ref a_opens, .ref a_closes, .ref a_waitsFor])), (a_names, .inl (ka_names, 12, .inr (.inl f_names))), (a_sides, .inl (ka_sides, 12, .inl f_sides)), (a_levels, .inl (ka_levels, 12, .inl f_levels))] sz) := by
  refine Met.ofW (cc := b_Model_fixity) (maxL := 6) (ret := (some .int)) (by decide) rfl ?_
  intro p e s m args below meth c s₁ B hml hv
  obtain ⟨rfl, hsz, hP, hK, hD0⟩ := hv
  have hx := B.exec
  have hb := B.bytes
  have hr := B.returns
  have hts := atoms_spec (ws := w_Model_fixity) B.pre
  have hz : ∀ w ∈ wz, w.before _ s = true := fun w h => hts w (List.mem_cons_of_mem _ h)
  have hown : s.vm.findClass R_Model = some m.cls := findClass_of_methodNamed B.named
  have hlocks := B.notSynchronized
  subst hsz
  have hD := hD0.self (sz := s.heap.size)
  generalize hAe : va_A [(a_t, .inr (1, [.int z_thrown, .int (nI n_length), .ref a_text, .int z_bad, .int z_place, .int (nI n_at), .int (nI n_lexemes), .ref a_kind, .ref a_value, .ref a_where, .ref a_column, .ref a_leads, .int (nI n_open), .int z_highest, .ref a_row, .int (nI n_tokens), .int z_blocks, .ref a_sort, .ref a_is, .ref a_before, .ref a_behind, .ref a_partner, .ref a_done, .int (nI n_all), .ref a_kinds, .ref a_values, .int z_told, .int z_toldBlocks, .int z_toldRows, .int z_toldConflicts, .int z_toldHighest, .int (nI n_set), .ref a_names, .ref a_sides, .ref a_levels, .int (nI n_items), .int (nI n_operands), .int (nI n_waiting), .int (nI n_pairs), .int z_rows, .int z_conflicts, .ref a_from, .ref a_to, .ref a_what, .ref a_left, .ref a_right, .ref a_waits, .ref a_opens, .ref a_closes, .ref a_waitsFor])), (a_names, .inl (ka_names, 12, .inr (.inl f_names))), (a_sides, .inl (ka_sides, 12, .inl f_sides)), (a_levels, .inl (ka_levels, 12, .inl f_levels))] s.heap.size = A at hD ⊢
  have hA : ∀ q : Nat, s.heap.size ≤ q → A q := fun q h => by rw [← hAe]; exact Or.inr h
  have hS : va_S A s.heap s.heap [] := va_S.rf
  have hP : va_P (dC, dI) vcl [(a_t, .inr (1, [.int z_thrown, .int (nI n_length), .ref a_text, .int z_bad, .int z_place, .int (nI n_at), .int (nI n_lexemes), .ref a_kind, .ref a_value, .ref a_where, .ref a_column, .ref a_leads, .int (nI n_open), .int z_highest, .ref a_row, .int (nI n_tokens), .int z_blocks, .ref a_sort, .ref a_is, .ref a_before, .ref a_behind, .ref a_partner, .ref a_done, .int (nI n_all), .ref a_kinds, .ref a_values, .int z_told, .int z_toldBlocks, .int z_toldRows, .int z_toldConflicts, .int z_toldHighest, .int (nI n_set), .ref a_names, .ref a_sides, .ref a_levels, .int (nI n_items), .int (nI n_operands), .int (nI n_waiting), .int (nI n_pairs), .int z_rows, .int z_conflicts, .ref a_from, .ref a_to, .ref a_what, .ref a_left, .ref a_right, .ref a_waits, .ref a_opens, .ref a_closes, .ref a_waitsFor])), (a_names, .inl (ka_names, 12, .inr (.inl f_names))), (a_sides, .inl (ka_sides, 12, .inl f_sides)), (a_levels, .inl (ka_levels, 12, .inl f_levels))] s.heap := hP
  have hl := lv_entry ([.ref a_t, .long y0, .int y1, .int y2]) (n := 6) (Nat.le_of_ble_eq_true rfl)
  rw [lg_entry_eq]
  generalize (lg_sl ([.ref a_t, .long y0, .int y1, .int y2]) ++ List.replicate (6 - (lg_sl ([.ref a_t, .long y0, .int y1, .int y2])).length) Slot.unset).toArray = ls at hl ⊢
  have hl : lv_has ls 6 [(0, .ref a_t), (1, .long y0), (3, .int y1), (4, .int y2)] := hl
  refine lv_aload_n hx hb d_Model_fixity_0 rfl (lv_at hl 0 rfl) ?_
  refine lv_iconst (v := 0) hx hb d_Model_fixity_1 (by decide) ?_
  refine va_put (D := (dC, dI)) (ci := 1) (v := .int 0) (ty := .int) (C := R_Model) (T := F_Model) (N := 50) hx hb hz zu_Model t_Model t_Model_ok n_Model hown hK hP hD hS 0 rfl rfl 0 (by decide) (hz (.fieldLink R_Model 97 "LayoutFrontModel" "thrown" "I") zm_652) (fun _ h9 => h9) rfl (by decide +kernel) (by decide +kernel) rfl (Nat.le_of_ble_eq_true rfl) d_Model_fixity_2 (fun H locs hP hD hS => ?_)
  have hP : va_P (dC, dI) vcl [(a_t, .inr (1, [.int 0, .int (nI n_length), .ref a_text, .int z_bad, .int z_place, .int (nI n_at), .int (nI n_lexemes), .ref a_kind, .ref a_value, .ref a_where, .ref a_column, .ref a_leads, .int (nI n_open), .int z_highest, .ref a_row, .int (nI n_tokens), .int z_blocks, .ref a_sort, .ref a_is, .ref a_before, .ref a_behind, .ref a_partner, .ref a_done, .int (nI n_all), .ref a_kinds, .ref a_values, .int z_told, .int z_toldBlocks, .int z_toldRows, .int z_toldConflicts, .int z_toldHighest, .int (nI n_set), .ref a_names, .ref a_sides, .ref a_levels, .int (nI n_items), .int (nI n_operands), .int (nI n_waiting), .int (nI n_pairs), .int z_rows, .int z_conflicts, .ref a_from, .ref a_to, .ref a_what, .ref a_left, .ref a_right, .ref a_waits, .ref a_opens, .ref a_closes, .ref a_waitsFor])), (a_names, .inl (ka_names, 12, .inr (.inl f_names))), (a_sides, .inl (ka_sides, 12, .inl f_sides)), (a_levels, .inl (ka_levels, 12, .inl f_levels))] H := hP
  have hD : va_D A [(a_t, .inr (1, [.int 0, .int (nI n_length), .ref a_text, .int z_bad, .int z_place, .int (nI n_at), .int (nI n_lexemes), .ref a_kind, .ref a_value, .ref a_where, .ref a_column, .ref a_leads, .int (nI n_open), .int z_highest, .ref a_row, .int (nI n_tokens), .int z_blocks, .ref a_sort, .ref a_is, .ref a_before, .ref a_behind, .ref a_partner, .ref a_done, .int (nI n_all), .ref a_kinds, .ref a_values, .int z_told, .int z_toldBlocks, .int z_toldRows, .int z_toldConflicts, .int z_toldHighest, .int (nI n_set), .ref a_names, .ref a_sides, .ref a_levels, .int (nI n_items), .int (nI n_operands), .int (nI n_waiting), .int (nI n_pairs), .int z_rows, .int z_conflicts, .ref a_from, .ref a_to, .ref a_what, .ref a_left, .ref a_right, .ref a_waits, .ref a_opens, .ref a_closes, .ref a_waitsFor])), (a_names, .inl (ka_names, 12, .inr (.inl f_names))), (a_sides, .inl (ka_sides, 12, .inl f_sides)), (a_levels, .inl (ka_levels, 12, .inl f_levels))] := hD
  refine lv_iload_n hx hb d_Model_fixity_5 rfl (lv_at hl 2 rfl) ?_
  refine lv_iconst (v := 0) hx hb d_Model_fixity_6 (by decide) ?_
  refine lv_iconst (v := 2) hx hb d_Model_fixity_7 (by decide) ?_
  have hPc := hP.sub (ws' := []) [] rfl
  have hDc := hD.sub (ws' := []) [] (by decide) rfl
  have hKc := hK.sub (tys' := []) [] rfl
  have hFc := va_free (wc := []) hD hS hA [] rfl
  refine va_calli (va_runS (As := [.int y1, .int 0, .int 2]) (rest := []) ⟨hx, hb, hml, hown, hz⟩ (s_Model_within l dC dI H.size y1 0 2) (cwS 3 hz (zS zm_653 zm_654 zm_655 zm_656) rfl rfl rfl (by decide +kernel) ⟨Nat.le_of_ble_eq_true rfl, Nat.le_of_ble_eq_true rfl⟩) ⟨fun a U g mk q => by obtain ⟨q0, q1, qP, qK, qD⟩ := q; exact ⟨q0, q1, qP, va_K.moved (u := U) (U := U.calling g mk a) (Vm.Alike.refl U.vm) qK, qD⟩, fun U hU hW => ⟨rfl, by rw [hU], by rw [hU]; exact hPc, va_K.moved hW.alike hKc, hDc.weaken (fun _ _ _ _ => trivial)⟩⟩ rfl rfl hl.1 rfl (lv_room (Nat.le_of_ble_eq_true rfl)) d_Model_fixity_8 ⟨Nat.zero_le _, Nat.zero_le _⟩) hS (fun q _ h => hFc q h) hFc (fun r u t H1 locs ht hvm hw_r hB hz1 hk1 hS => ?_)
  obtain ⟨hP1, hK1, hD1⟩ := hB
  obtain ⟨hb_r, he_r⟩ := hw_r
  subst r
  rw [ht] at hP1
  obtain ⟨hP, hD⟩ := va_join (wr := [(a_t, .inr (1, [.int 0, .int (nI n_length), .ref a_text, .int z_bad, .int z_place, .int (nI n_at), .int (nI n_lexemes), .ref a_kind, .ref a_value, .ref a_where, .ref a_column, .ref a_leads, .int (nI n_open), .int z_highest, .ref a_row, .int (nI n_tokens), .int z_blocks, .ref a_sort, .ref a_is, .ref a_before, .ref a_behind, .ref a_partner, .ref a_done, .int (nI n_all), .ref a_kinds, .ref a_values, .int z_told, .int z_toldBlocks, .int z_toldRows, .int z_toldConflicts, .int z_toldHighest, .int (nI n_set), .ref a_names, .ref a_sides, .ref a_levels, .int (nI n_items), .int (nI n_operands), .int (nI n_waiting), .int (nI n_pairs), .int z_rows, .int z_conflicts, .ref a_from, .ref a_to, .ref a_what, .ref a_left, .ref a_right, .ref a_waits, .ref a_opens, .ref a_closes, .ref a_waitsFor])), (a_names, .inl (ka_names, 12, .inr (.inl f_names))), (a_sides, .inl (ka_sides, 12, .inl f_sides)), (a_levels, .inl (ka_levels, 12, .inl f_levels))]) (w1 := []) hP hD [] [0, 1, 2, 3] rfl rfl (by decide) (by decide) hk1 hFc hP1 hD1
  generalize H1 = H at hP hS ⊢
  have hP : va_P (dC, dI) vcl [(a_t, .inr (1, [.int 0, .int (nI n_length), .ref a_text, .int z_bad, .int z_place, .int (nI n_at), .int (nI n_lexemes), .ref a_kind, .ref a_value, .ref a_where, .ref a_column, .ref a_leads, .int (nI n_open), .int z_highest, .ref a_row, .int (nI n_tokens), .int z_blocks, .ref a_sort, .ref a_is, .ref a_before, .ref a_behind, .ref a_partner, .ref a_done, .int (nI n_all), .ref a_kinds, .ref a_values, .int z_told, .int z_toldBlocks, .int z_toldRows, .int z_toldConflicts, .int z_toldHighest, .int (nI n_set), .ref a_names, .ref a_sides, .ref a_levels, .int (nI n_items), .int (nI n_operands), .int (nI n_waiting), .int (nI n_pairs), .int z_rows, .int z_conflicts, .ref a_from, .ref a_to, .ref a_what, .ref a_left, .ref a_right, .ref a_waits, .ref a_opens, .ref a_closes, .ref a_waitsFor])), (a_names, .inl (ka_names, 12, .inr (.inl f_names))), (a_sides, .inl (ka_sides, 12, .inl f_sides)), (a_levels, .inl (ka_levels, 12, .inl f_levels))] H := hP
  have hD : va_D A [(a_t, .inr (1, [.int 0, .int (nI n_length), .ref a_text, .int z_bad, .int z_place, .int (nI n_at), .int (nI n_lexemes), .ref a_kind, .ref a_value, .ref a_where, .ref a_column, .ref a_leads, .int (nI n_open), .int z_highest, .ref a_row, .int (nI n_tokens), .int z_blocks, .ref a_sort, .ref a_is, .ref a_before, .ref a_behind, .ref a_partner, .ref a_done, .int (nI n_all), .ref a_kinds, .ref a_values, .int z_told, .int z_toldBlocks, .int z_toldRows, .int z_toldConflicts, .int z_toldHighest, .int (nI n_set), .ref a_names, .ref a_sides, .ref a_levels, .int (nI n_items), .int (nI n_operands), .int (nI n_waiting), .int (nI n_pairs), .int z_rows, .int z_conflicts, .ref a_from, .ref a_to, .ref a_what, .ref a_left, .ref a_right, .ref a_waits, .ref a_opens, .ref a_closes, .ref a_waitsFor])), (a_names, .inl (ka_names, 12, .inr (.inl f_names))), (a_sides, .inl (ka_sides, 12, .inl f_sides)), (a_levels, .inl (ka_levels, 12, .inl f_levels))] := hD
  refine lv_if_eq (tgt := 25) hx hb d_Model_fixity_11 (by decide) (fun h1 => ?_) (fun h1 => ?_)
  · have e11 := h1
    refine lv_aload_n hx hb d_Model_fixity_25 rfl (lv_at hl 0 rfl) ?_
    refine lv_iconst (v := 1) hx hb d_Model_fixity_26 (by decide) ?_
    have hPc := hP.sub (ws' := [(a_t, .inr (1, [.int 0, .int (nI n_length), .ref a_text, .int z_bad, .int z_place, .int (nI n_at), .int (nI n_lexemes), .ref a_kind, .ref a_value, .ref a_where, .ref a_column, .ref a_leads, .int (nI n_open), .int z_highest, .ref a_row, .int (nI n_tokens), .int z_blocks, .ref a_sort, .ref a_is, .ref a_before, .ref a_behind, .ref a_partner, .ref a_done, .int (nI n_all), .ref a_kinds, .ref a_values, .int z_told, .int z_toldBlocks, .int z_toldRows, .int z_toldConflicts, .int z_toldHighest, .int (nI n_set), .ref a_names, .ref a_sides, .ref a_levels, .int (nI n_items), .int (nI n_operands), .int (nI n_waiting), .int (nI n_pairs), .int z_rows, .int z_conflicts, .ref a_from, .ref a_to, .ref a_what, .ref a_left, .ref a_right, .ref a_waits, .ref a_opens, .ref a_closes, .ref a_waitsFor]))]) [0] rfl
    have hDc := hD.sub (ws' := [(a_t, .inr (1, [.int 0, .int (nI n_length), .ref a_text, .int z_bad, .int z_place, .int (nI n_at), .int (nI n_lexemes), .ref a_kind, .ref a_value, .ref a_where, .ref a_column, .ref a_leads, .int (nI n_open), .int z_highest, .ref a_row, .int (nI n_tokens), .int z_blocks, .ref a_sort, .ref a_is, .ref a_before, .ref a_behind, .ref a_partner, .ref a_done, .int (nI n_all), .ref a_kinds, .ref a_values, .int z_told, .int z_toldBlocks, .int z_toldRows, .int z_toldConflicts, .int z_toldHighest, .int (nI n_set), .ref a_names, .ref a_sides, .ref a_levels, .int (nI n_items), .int (nI n_operands), .int (nI n_waiting), .int (nI n_pairs), .int z_rows, .int z_conflicts, .ref a_from, .ref a_to, .ref a_what, .ref a_left, .ref a_right, .ref a_waits, .ref a_opens, .ref a_closes, .ref a_waitsFor]))]) [0] (by decide) rfl
    have hKc := hK.sub (tys' := []) [] rfl
    have hFc := va_free (wc := [(a_t, .inr (1, [.int 0, .int (nI n_length), .ref a_text, .int z_bad, .int z_place, .int (nI n_at), .int (nI n_lexemes), .ref a_kind, .ref a_value, .ref a_where, .ref a_column, .ref a_leads, .int (nI n_open), .int z_highest, .ref a_row, .int (nI n_tokens), .int z_blocks, .ref a_sort, .ref a_is, .ref a_before, .ref a_behind, .ref a_partner, .ref a_done, .int (nI n_all), .ref a_kinds, .ref a_values, .int z_told, .int z_toldBlocks, .int z_toldRows, .int z_toldConflicts, .int z_toldHighest, .int (nI n_set), .ref a_names, .ref a_sides, .ref a_levels, .int (nI n_items), .int (nI n_operands), .int (nI n_waiting), .int (nI n_pairs), .int z_rows, .int z_conflicts, .ref a_from, .ref a_to, .ref a_what, .ref a_left, .ref a_right, .ref a_waits, .ref a_opens, .ref a_closes, .ref a_waitsFor]))]) hD hS hA [0] rfl
    refine va_calli (va_runV (As := [.int 1]) (rest := []) ⟨hx, hb, hml, hown, hz⟩ (s_Model_failX l dC dI H.size a_t 0 n_length a_text z_bad z_place n_at n_lexemes a_kind a_value a_where a_column a_leads n_open z_highest a_row n_tokens z_blocks a_sort a_is a_before a_behind a_partner a_done n_all a_kinds a_values z_told z_toldBlocks z_toldRows z_toldConflicts z_toldHighest n_set a_names a_sides a_levels n_items n_operands n_waiting n_pairs z_rows z_conflicts a_from a_to a_what a_left a_right a_waits a_opens a_closes a_waitsFor 1 (by first | rfl | omega | assumption) (by first | assumption | exact Or.inl rfl | exact Or.inr (Or.inl rfl) | exact Or.inr (Or.inr rfl) | exact Or.inr (by assumption)) (by first | rfl | omega | assumption) (by first | rfl | omega | assumption) (by first | rfl | omega | assumption) (by first | rfl | omega | assumption) (by first | rfl | omega | assumption) (by first | rfl | omega | assumption) (by first | rfl | omega | assumption) (by first | rfl | omega | assumption) (by first | rfl | omega | assumption) (by first | rfl | omega | assumption)) (cwV 1 hz (zV zm_657 zm_658 zm_659 zm_655 zm_660) rfl rfl rfl (by decide +kernel) ⟨Nat.le_of_ble_eq_true rfl, Nat.le_of_ble_eq_true rfl⟩) ⟨fun a U g mk q => by obtain ⟨q0, q1, qP, qK, qD⟩ := q; exact ⟨q0, q1, qP, va_K.moved (u := U) (U := U.calling g mk a) (Vm.Alike.refl U.vm) qK, qD⟩, va_recv (q := (R_Model, F_Model, 50)) (q0 := 0) (ci := 1) hK hP rfl rfl, fun U hU hW => ⟨rfl, by rw [hU], by rw [hU]; exact hPc, va_K.moved hW.alike hKc, hDc.weaken (fun _ _ _ _ => trivial)⟩⟩ rfl rfl hl.1 rfl (lv_room (Nat.le_of_ble_eq_true rfl)) d_Model_fixity_27 ⟨Nat.zero_le _, Nat.zero_le _⟩) hS (fun q _ h => hFc q h) hFc (fun r u t H1 locs ht hvm hw hB hz1 hk1 hS => ?_)
    obtain ⟨g2, hq0_27, hP1, hK1, hD1⟩ := hB
    subst g2
    subst r
    rw [ht] at hP1
    obtain ⟨hP, hD⟩ := va_join (wr := [(a_names, .inl (ka_names, 12, .inr (.inl f_names))), (a_sides, .inl (ka_sides, 12, .inl f_sides)), (a_levels, .inl (ka_levels, 12, .inl f_levels))]) (w1 := [(a_t, .inr (1, [.int (1), .int (nI n_length), .ref a_text, .int z_bad, .int z_place, .int (nI n_at), .int (nI n_lexemes), .ref a_kind, .ref a_value, .ref a_where, .ref a_column, .ref a_leads, .int (nI n_open), .int z_highest, .ref a_row, .int (nI n_tokens), .int z_blocks, .ref a_sort, .ref a_is, .ref a_before, .ref a_behind, .ref a_partner, .ref a_done, .int (nI n_all), .ref a_kinds, .ref a_values, .int z_told, .int z_toldBlocks, .int z_toldRows, .int z_toldConflicts, .int z_toldHighest, .int (nI n_set), .ref a_names, .ref a_sides, .ref a_levels, .int (nI n_items), .int (nI n_operands), .int (nI n_waiting), .int (nI n_pairs), .int z_rows, .int z_conflicts, .ref a_from, .ref a_to, .ref a_what, .ref a_left, .ref a_right, .ref a_waits, .ref a_opens, .ref a_closes, .ref a_waitsFor]))]) hP hD [0] [1, 2, 3] rfl rfl (by decide) (by decide) hk1 hFc hP1 hD1
    generalize H1 = H at hP hS ⊢
    have hP : va_P (dC, dI) vcl [(a_names, .inl (ka_names, 12, .inr (.inl f_names))), (a_sides, .inl (ka_sides, 12, .inl f_sides)), (a_levels, .inl (ka_levels, 12, .inl f_levels)), (a_t, .inr (1, [.int (1), .int (nI n_length), .ref a_text, .int z_bad, .int z_place, .int (nI n_at), .int (nI n_lexemes), .ref a_kind, .ref a_value, .ref a_where, .ref a_column, .ref a_leads, .int (nI n_open), .int z_highest, .ref a_row, .int (nI n_tokens), .int z_blocks, .ref a_sort, .ref a_is, .ref a_before, .ref a_behind, .ref a_partner, .ref a_done, .int (nI n_all), .ref a_kinds, .ref a_values, .int z_told, .int z_toldBlocks, .int z_toldRows, .int z_toldConflicts, .int z_toldHighest, .int (nI n_set), .ref a_names, .ref a_sides, .ref a_levels, .int (nI n_items), .int (nI n_operands), .int (nI n_waiting), .int (nI n_pairs), .int z_rows, .int z_conflicts, .ref a_from, .ref a_to, .ref a_what, .ref a_left, .ref a_right, .ref a_waits, .ref a_opens, .ref a_closes, .ref a_waitsFor]))] H := hP
    have hD : va_D A [(a_names, .inl (ka_names, 12, .inr (.inl f_names))), (a_sides, .inl (ka_sides, 12, .inl f_sides)), (a_levels, .inl (ka_levels, 12, .inl f_levels)), (a_t, .inr (1, [.int (1), .int (nI n_length), .ref a_text, .int z_bad, .int z_place, .int (nI n_at), .int (nI n_lexemes), .ref a_kind, .ref a_value, .ref a_where, .ref a_column, .ref a_leads, .int (nI n_open), .int z_highest, .ref a_row, .int (nI n_tokens), .int z_blocks, .ref a_sort, .ref a_is, .ref a_before, .ref a_behind, .ref a_partner, .ref a_done, .int (nI n_all), .ref a_kinds, .ref a_values, .int z_told, .int z_toldBlocks, .int z_toldRows, .int z_toldConflicts, .int z_toldHighest, .int (nI n_set), .ref a_names, .ref a_sides, .ref a_levels, .int (nI n_items), .int (nI n_operands), .int (nI n_waiting), .int (nI n_pairs), .int z_rows, .int z_conflicts, .ref a_from, .ref a_to, .ref a_what, .ref a_left, .ref a_right, .ref a_waits, .ref a_opens, .ref a_closes, .ref a_waitsFor]))] := hD
    have hP9 := hP.sub (ws' := [(a_t, .inr (1, [.int (1), .int (nI n_length), .ref a_text, .int z_bad, .int z_place, .int (nI n_at), .int (nI n_lexemes), .ref a_kind, .ref a_value, .ref a_where, .ref a_column, .ref a_leads, .int (nI n_open), .int z_highest, .ref a_row, .int (nI n_tokens), .int z_blocks, .ref a_sort, .ref a_is, .ref a_before, .ref a_behind, .ref a_partner, .ref a_done, .int (nI n_all), .ref a_kinds, .ref a_values, .int z_told, .int z_toldBlocks, .int z_toldRows, .int z_toldConflicts, .int z_toldHighest, .int (nI n_set), .ref a_names, .ref a_sides, .ref a_levels, .int (nI n_items), .int (nI n_operands), .int (nI n_waiting), .int (nI n_pairs), .int z_rows, .int z_conflicts, .ref a_from, .ref a_to, .ref a_what, .ref a_left, .ref a_right, .ref a_waits, .ref a_opens, .ref a_closes, .ref a_waitsFor])), (a_names, .inl (ka_names, 12, .inr (.inl f_names))), (a_sides, .inl (ka_sides, 12, .inl f_sides)), (a_levels, .inl (ka_levels, 12, .inl f_levels))]) [3, 0, 1, 2] rfl
    have hD9 := hD.sub (ws' := [(a_t, .inr (1, [.int (1), .int (nI n_length), .ref a_text, .int z_bad, .int z_place, .int (nI n_at), .int (nI n_lexemes), .ref a_kind, .ref a_value, .ref a_where, .ref a_column, .ref a_leads, .int (nI n_open), .int z_highest, .ref a_row, .int (nI n_tokens), .int z_blocks, .ref a_sort, .ref a_is, .ref a_before, .ref a_behind, .ref a_partner, .ref a_done, .int (nI n_all), .ref a_kinds, .ref a_values, .int z_told, .int z_toldBlocks, .int z_toldRows, .int z_toldConflicts, .int z_toldHighest, .int (nI n_set), .ref a_names, .ref a_sides, .ref a_levels, .int (nI n_items), .int (nI n_operands), .int (nI n_waiting), .int (nI n_pairs), .int z_rows, .int z_conflicts, .ref a_from, .ref a_to, .ref a_what, .ref a_left, .ref a_right, .ref a_waits, .ref a_opens, .ref a_closes, .ref a_waitsFor])), (a_names, .inl (ka_names, 12, .inr (.inl f_names))), (a_sides, .inl (ka_sides, 12, .inl f_sides)), (a_levels, .inl (ka_levels, 12, .inl f_levels))]) [3, 0, 1, 2] (by decide) rfl
    exact W.iret (v := 0) hx hb hr (fun t ht hW => ⟨⟨0, (), rfl, trivial, ((1)), n_set, f_names, f_sides, f_levels, by first | rfl | omega | assumption, by exact fj_0 (fk_1 e11), by (intro v9; exact fh_0 (fk_1 e11)), by (intro v9; exact fp_0 (fk_1 e11)), by (intro v9; exact fp_0 (fk_1 e11)), by rw [ht]; exact hP9, va_K.moved hW.alike hK, hD9⟩, hS.F ht⟩) hS.2.2 d_Model_fixity_30
  · have e11 := h1
    refine lv_iload hx hb d_Model_fixity_14 (lv_at hl 3 rfl) ?_
    refine lv_iconst (v := 0) hx hb d_Model_fixity_16 (by decide) ?_
    refine lv_bipush (v := 9) hx hb d_Model_fixity_17 (by decide) ?_
    have hPc := hP.sub (ws' := []) [] rfl
    have hDc := hD.sub (ws' := []) [] (by decide) rfl
    have hKc := hK.sub (tys' := []) [] rfl
    have hFc := va_free (wc := []) hD hS hA [] rfl
    refine va_calli (va_runS (As := [.int y2, .int 0, .int 9]) (rest := []) ⟨hx, hb, hml, hown, hz⟩ (s_Model_within l dC dI H.size y2 0 9) (cwS 3 hz (zS zm_653 zm_654 zm_655 zm_656) rfl rfl rfl (by decide +kernel) ⟨Nat.le_of_ble_eq_true rfl, Nat.le_of_ble_eq_true rfl⟩) ⟨fun a U g mk q => by obtain ⟨q0, q1, qP, qK, qD⟩ := q; exact ⟨q0, q1, qP, va_K.moved (u := U) (U := U.calling g mk a) (Vm.Alike.refl U.vm) qK, qD⟩, fun U hU hW => ⟨rfl, by rw [hU], by rw [hU]; exact hPc, va_K.moved hW.alike hKc, hDc.weaken (fun _ _ _ _ => trivial)⟩⟩ rfl rfl hl.1 rfl (lv_room (Nat.le_of_ble_eq_true rfl)) d_Model_fixity_19 ⟨Nat.zero_le _, Nat.zero_le _⟩) hS (fun q _ h => hFc q h) hFc (fun r u t H1 locs ht hvm hw_r hB hz1 hk1 hS => ?_)
    obtain ⟨hP1, hK1, hD1⟩ := hB
    obtain ⟨hb_r, he_r⟩ := hw_r
    subst r
    rw [ht] at hP1
    obtain ⟨hP, hD⟩ := va_join (wr := [(a_t, .inr (1, [.int 0, .int (nI n_length), .ref a_text, .int z_bad, .int z_place, .int (nI n_at), .int (nI n_lexemes), .ref a_kind, .ref a_value, .ref a_where, .ref a_column, .ref a_leads, .int (nI n_open), .int z_highest, .ref a_row, .int (nI n_tokens), .int z_blocks, .ref a_sort, .ref a_is, .ref a_before, .ref a_behind, .ref a_partner, .ref a_done, .int (nI n_all), .ref a_kinds, .ref a_values, .int z_told, .int z_toldBlocks, .int z_toldRows, .int z_toldConflicts, .int z_toldHighest, .int (nI n_set), .ref a_names, .ref a_sides, .ref a_levels, .int (nI n_items), .int (nI n_operands), .int (nI n_waiting), .int (nI n_pairs), .int z_rows, .int z_conflicts, .ref a_from, .ref a_to, .ref a_what, .ref a_left, .ref a_right, .ref a_waits, .ref a_opens, .ref a_closes, .ref a_waitsFor])), (a_names, .inl (ka_names, 12, .inr (.inl f_names))), (a_sides, .inl (ka_sides, 12, .inl f_sides)), (a_levels, .inl (ka_levels, 12, .inl f_levels))]) (w1 := []) hP hD [] [0, 1, 2, 3] rfl rfl (by decide) (by decide) hk1 hFc hP1 hD1
    generalize H1 = H at hP hS ⊢
    have hP : va_P (dC, dI) vcl [(a_t, .inr (1, [.int 0, .int (nI n_length), .ref a_text, .int z_bad, .int z_place, .int (nI n_at), .int (nI n_lexemes), .ref a_kind, .ref a_value, .ref a_where, .ref a_column, .ref a_leads, .int (nI n_open), .int z_highest, .ref a_row, .int (nI n_tokens), .int z_blocks, .ref a_sort, .ref a_is, .ref a_before, .ref a_behind, .ref a_partner, .ref a_done, .int (nI n_all), .ref a_kinds, .ref a_values, .int z_told, .int z_toldBlocks, .int z_toldRows, .int z_toldConflicts, .int z_toldHighest, .int (nI n_set), .ref a_names, .ref a_sides, .ref a_levels, .int (nI n_items), .int (nI n_operands), .int (nI n_waiting), .int (nI n_pairs), .int z_rows, .int z_conflicts, .ref a_from, .ref a_to, .ref a_what, .ref a_left, .ref a_right, .ref a_waits, .ref a_opens, .ref a_closes, .ref a_waitsFor])), (a_names, .inl (ka_names, 12, .inr (.inl f_names))), (a_sides, .inl (ka_sides, 12, .inl f_sides)), (a_levels, .inl (ka_levels, 12, .inl f_levels))] H := hP
    have hD : va_D A [(a_t, .inr (1, [.int 0, .int (nI n_length), .ref a_text, .int z_bad, .int z_place, .int (nI n_at), .int (nI n_lexemes), .ref a_kind, .ref a_value, .ref a_where, .ref a_column, .ref a_leads, .int (nI n_open), .int z_highest, .ref a_row, .int (nI n_tokens), .int z_blocks, .ref a_sort, .ref a_is, .ref a_before, .ref a_behind, .ref a_partner, .ref a_done, .int (nI n_all), .ref a_kinds, .ref a_values, .int z_told, .int z_toldBlocks, .int z_toldRows, .int z_toldConflicts, .int z_toldHighest, .int (nI n_set), .ref a_names, .ref a_sides, .ref a_levels, .int (nI n_items), .int (nI n_operands), .int (nI n_waiting), .int (nI n_pairs), .int z_rows, .int z_conflicts, .ref a_from, .ref a_to, .ref a_what, .ref a_left, .ref a_right, .ref a_waits, .ref a_opens, .ref a_closes, .ref a_waitsFor])), (a_names, .inl (ka_names, 12, .inr (.inl f_names))), (a_sides, .inl (ka_sides, 12, .inl f_sides)), (a_levels, .inl (ka_levels, 12, .inl f_levels))] := hD
    refine lv_if_ne (tgt := 31) hx hb d_Model_fixity_22 (by decide) (fun h3 => ?_) (fun h3 => ?_)
    · have e22 := h3
      refine lv_aload_n hx hb d_Model_fixity_31 rfl (lv_at hl 0 rfl) ?_
      refine lv_lload_n hx hb d_Model_fixity_32 rfl (lv_at hl 1 rfl) ?_
      have hPc := hP.sub (ws' := [(a_t, .inr (1, [.int 0, .int (nI n_length), .ref a_text, .int z_bad, .int z_place, .int (nI n_at), .int (nI n_lexemes), .ref a_kind, .ref a_value, .ref a_where, .ref a_column, .ref a_leads, .int (nI n_open), .int z_highest, .ref a_row, .int (nI n_tokens), .int z_blocks, .ref a_sort, .ref a_is, .ref a_before, .ref a_behind, .ref a_partner, .ref a_done, .int (nI n_all), .ref a_kinds, .ref a_values, .int z_told, .int z_toldBlocks, .int z_toldRows, .int z_toldConflicts, .int z_toldHighest, .int (nI n_set), .ref a_names, .ref a_sides, .ref a_levels, .int (nI n_items), .int (nI n_operands), .int (nI n_waiting), .int (nI n_pairs), .int z_rows, .int z_conflicts, .ref a_from, .ref a_to, .ref a_what, .ref a_left, .ref a_right, .ref a_waits, .ref a_opens, .ref a_closes, .ref a_waitsFor])), (a_names, .inl (ka_names, 12, .inr (.inl f_names)))]) [0, 1] rfl
      have hDc := hD.sub (ws' := [(a_t, .inr (1, [.int 0, .int (nI n_length), .ref a_text, .int z_bad, .int z_place, .int (nI n_at), .int (nI n_lexemes), .ref a_kind, .ref a_value, .ref a_where, .ref a_column, .ref a_leads, .int (nI n_open), .int z_highest, .ref a_row, .int (nI n_tokens), .int z_blocks, .ref a_sort, .ref a_is, .ref a_before, .ref a_behind, .ref a_partner, .ref a_done, .int (nI n_all), .ref a_kinds, .ref a_values, .int z_told, .int z_toldBlocks, .int z_toldRows, .int z_toldConflicts, .int z_toldHighest, .int (nI n_set), .ref a_names, .ref a_sides, .ref a_levels, .int (nI n_items), .int (nI n_operands), .int (nI n_waiting), .int (nI n_pairs), .int z_rows, .int z_conflicts, .ref a_from, .ref a_to, .ref a_what, .ref a_left, .ref a_right, .ref a_waits, .ref a_opens, .ref a_closes, .ref a_waitsFor])), (a_names, .inl (ka_names, 12, .inr (.inl f_names)))]) [0, 1] (by decide) rfl
      have hKc := hK.sub (tys' := [(ka_names, .long)]) [0] rfl
      have hFc := va_free (wc := [(a_t, .inr (1, [.int 0, .int (nI n_length), .ref a_text, .int z_bad, .int z_place, .int (nI n_at), .int (nI n_lexemes), .ref a_kind, .ref a_value, .ref a_where, .ref a_column, .ref a_leads, .int (nI n_open), .int z_highest, .ref a_row, .int (nI n_tokens), .int z_blocks, .ref a_sort, .ref a_is, .ref a_before, .ref a_behind, .ref a_partner, .ref a_done, .int (nI n_all), .ref a_kinds, .ref a_values, .int z_told, .int z_toldBlocks, .int z_toldRows, .int z_toldConflicts, .int z_toldHighest, .int (nI n_set), .ref a_names, .ref a_sides, .ref a_levels, .int (nI n_items), .int (nI n_operands), .int (nI n_waiting), .int (nI n_pairs), .int z_rows, .int z_conflicts, .ref a_from, .ref a_to, .ref a_what, .ref a_left, .ref a_right, .ref a_waits, .ref a_opens, .ref a_closes, .ref a_waitsFor])), (a_names, .inl (ka_names, 12, .inr (.inl f_names)))]) hD hS hA [0, 1] rfl
      refine va_calli (va_runV (As := [.long y0]) (rest := []) ⟨hx, hb, hml, hown, hz⟩ (s_Model_find l dC dI H.size a_t 0 n_length a_text z_bad z_place n_at n_lexemes a_kind a_value a_where a_column a_leads n_open z_highest a_row n_tokens z_blocks a_sort a_is a_before a_behind a_partner a_done n_all a_kinds a_values z_told z_toldBlocks z_toldRows z_toldConflicts z_toldHighest n_set a_names f_names a_sides a_levels n_items n_operands n_waiting n_pairs z_rows z_conflicts a_from a_to a_what a_left a_right a_waits a_opens a_closes a_waitsFor y0 ka_names (by first | rfl | omega | assumption) (by first | assumption | exact Or.inl rfl | exact Or.inr (Or.inl rfl) | exact Or.inr (Or.inr rfl) | exact Or.inr (by assumption)) (by first | rfl | omega | assumption) (by first | rfl | omega | assumption) (by first | rfl | omega | assumption) (by first | rfl | omega | assumption) (by first | rfl | omega | assumption) (by first | rfl | omega | assumption) (by first | rfl | omega | assumption) (by first | rfl | omega | assumption) (by first | rfl | omega | assumption) (by first | rfl | omega | assumption)) (cwV 1 hz (zV zm_664 zm_665 zm_666 zm_655 zm_667) rfl rfl rfl (by decide +kernel) ⟨Nat.le_of_ble_eq_true rfl, Nat.le_of_ble_eq_true rfl⟩) ⟨fun a U g mk q => by obtain ⟨q0, q1, qP, qK, qD⟩ := q; exact ⟨q0, q1, qP, va_K.moved (u := U) (U := U.calling g mk a) (Vm.Alike.refl U.vm) qK, qD⟩, va_recv (q := (R_Model, F_Model, 50)) (q0 := 0) (ci := 1) hK hP rfl rfl, fun U hU hW => ⟨rfl, by rw [hU], by rw [hU]; exact hPc, va_K.moved hW.alike hKc, hDc.weaken (fun _ _ _ _ => trivial)⟩⟩ rfl rfl hl.1 rfl (lv_room (Nat.le_of_ble_eq_true rfl)) d_Model_fixity_33 ⟨Nat.zero_le _, Nat.zero_le _⟩) hS (fun q _ h => hFc q h) hFc (fun r u t H1 locs ht hvm hw hB hz1 hk1 hS => ?_)
      obtain ⟨hP1, hK1, hD1⟩ := hB
      subst r
      rw [ht] at hP1
      obtain ⟨hP, hD⟩ := va_join (wr := [(a_sides, .inl (ka_sides, 12, .inl f_sides)), (a_levels, .inl (ka_levels, 12, .inl f_levels))]) (w1 := [(a_t, .inr (1, [.int 0, .int (nI n_length), .ref a_text, .int z_bad, .int z_place, .int (nI n_at), .int (nI n_lexemes), .ref a_kind, .ref a_value, .ref a_where, .ref a_column, .ref a_leads, .int (nI n_open), .int z_highest, .ref a_row, .int (nI n_tokens), .int z_blocks, .ref a_sort, .ref a_is, .ref a_before, .ref a_behind, .ref a_partner, .ref a_done, .int (nI n_all), .ref a_kinds, .ref a_values, .int z_told, .int z_toldBlocks, .int z_toldRows, .int z_toldConflicts, .int z_toldHighest, .int (nI n_set), .ref a_names, .ref a_sides, .ref a_levels, .int (nI n_items), .int (nI n_operands), .int (nI n_waiting), .int (nI n_pairs), .int z_rows, .int z_conflicts, .ref a_from, .ref a_to, .ref a_what, .ref a_left, .ref a_right, .ref a_waits, .ref a_opens, .ref a_closes, .ref a_waitsFor])), (a_names, .inl (ka_names, 12, .inr (.inl f_names)))]) hP hD [0, 1] [2, 3] rfl rfl (by decide) (by decide) hk1 hFc hP1 hD1
      generalize H1 = H at hP hS ⊢
      have hP : va_P (dC, dI) vcl [(a_sides, .inl (ka_sides, 12, .inl f_sides)), (a_levels, .inl (ka_levels, 12, .inl f_levels)), (a_t, .inr (1, [.int 0, .int (nI n_length), .ref a_text, .int z_bad, .int z_place, .int (nI n_at), .int (nI n_lexemes), .ref a_kind, .ref a_value, .ref a_where, .ref a_column, .ref a_leads, .int (nI n_open), .int z_highest, .ref a_row, .int (nI n_tokens), .int z_blocks, .ref a_sort, .ref a_is, .ref a_before, .ref a_behind, .ref a_partner, .ref a_done, .int (nI n_all), .ref a_kinds, .ref a_values, .int z_told, .int z_toldBlocks, .int z_toldRows, .int z_toldConflicts, .int z_toldHighest, .int (nI n_set), .ref a_names, .ref a_sides, .ref a_levels, .int (nI n_items), .int (nI n_operands), .int (nI n_waiting), .int (nI n_pairs), .int z_rows, .int z_conflicts, .ref a_from, .ref a_to, .ref a_what, .ref a_left, .ref a_right, .ref a_waits, .ref a_opens, .ref a_closes, .ref a_waitsFor])), (a_names, .inl (ka_names, 12, .inr (.inl f_names)))] H := hP
      have hD : va_D A [(a_sides, .inl (ka_sides, 12, .inl f_sides)), (a_levels, .inl (ka_levels, 12, .inl f_levels)), (a_t, .inr (1, [.int 0, .int (nI n_length), .ref a_text, .int z_bad, .int z_place, .int (nI n_at), .int (nI n_lexemes), .ref a_kind, .ref a_value, .ref a_where, .ref a_column, .ref a_leads, .int (nI n_open), .int z_highest, .ref a_row, .int (nI n_tokens), .int z_blocks, .ref a_sort, .ref a_is, .ref a_before, .ref a_behind, .ref a_partner, .ref a_done, .int (nI n_all), .ref a_kinds, .ref a_values, .int z_told, .int z_toldBlocks, .int z_toldRows, .int z_toldConflicts, .int z_toldHighest, .int (nI n_set), .ref a_names, .ref a_sides, .ref a_levels, .int (nI n_items), .int (nI n_operands), .int (nI n_waiting), .int (nI n_pairs), .int z_rows, .int z_conflicts, .ref a_from, .ref a_to, .ref a_what, .ref a_left, .ref a_right, .ref a_waits, .ref a_opens, .ref a_closes, .ref a_waitsFor])), (a_names, .inl (ka_names, 12, .inr (.inl f_names)))] := hD
      refine lv_istore hx hb d_Model_fixity_36 hl (by decide) rfl (fun ls hl => ?_)
      have hl : lv_has ls 6 [(5, .int (fnN f_names y0 n_set)), (0, .ref a_t), (1, .long y0), (3, .int y1), (4, .int y2)] := hl
      refine lv_iload hx hb d_Model_fixity_38 (lv_at hl 0 rfl) ?_
      refine lv_if_ge (tgt := 58) hx hb d_Model_fixity_40 (by decide) (fun h4 => ?_) (fun h4 => ?_)
      · generalize hfn : fnN f_names y0 n_set = fz at hl h4
        obtain ⟨j9, l9, e9⟩ := fn_fd hfn h4
        subst e9
        have hl : lv_has ls 6 [(5, .int (nI j9)), (0, .ref a_t), (1, .long y0), (3, .int y1), (4, .int y2)] := hl
        refine lv_iload hx hb d_Model_fixity_58 (lv_at hl 0 rfl) ?_
        refine lv_if_ge (tgt := 79) hx hb d_Model_fixity_60 (by decide) (fun h5 => ?_) (fun h5 => ?_)
        · have h5 : 0 ≤ j9 := (nI_leI (a := 0) (b := j9) (by omega) (by omega)).mp h5
          refine lv_aload_n hx hb d_Model_fixity_79 rfl (lv_at hl 1 rfl) ?_
          refine va_get (D := (dC, dI)) (ci := 1) (v := .ref a_names) (C := R_Model) (T := F_Model) (N := 50) hx hb hz zu_Model hown hK hP 2 rfl rfl 32 (by decide) (hz (.fieldLink R_Model 61 "LayoutFrontModel" "names" "[J") zm_639) (fun _ h9 => h9) rfl d_Model_fixity_80 ?_
          refine lv_iload hx hb d_Model_fixity_83 (lv_at hl 0 rfl) ?_
          refine lv_lload_n hx hb d_Model_fixity_85 rfl (lv_at hl 2 rfl) ?_
          refine va_last hx hb hK hP hD hS 3 0 rfl rfl (vp_in_nI (by omega) (by omega)) d_Model_fixity_86 (fun H locs hP hD hS => ?_)
          rw [show ((nI j9) : Int32).toNatClampNeg = j9 from nI_clamp (by omega)] at hP hD
          generalize hf_f6 : vp_updL f_names j9 y0 = f6 at hP hD
          have hP : va_P (dC, dI) vcl [(a_sides, .inl (ka_sides, 12, .inl f_sides)), (a_levels, .inl (ka_levels, 12, .inl f_levels)), (a_t, .inr (1, [.int 0, .int (nI n_length), .ref a_text, .int z_bad, .int z_place, .int (nI n_at), .int (nI n_lexemes), .ref a_kind, .ref a_value, .ref a_where, .ref a_column, .ref a_leads, .int (nI n_open), .int z_highest, .ref a_row, .int (nI n_tokens), .int z_blocks, .ref a_sort, .ref a_is, .ref a_before, .ref a_behind, .ref a_partner, .ref a_done, .int (nI n_all), .ref a_kinds, .ref a_values, .int z_told, .int z_toldBlocks, .int z_toldRows, .int z_toldConflicts, .int z_toldHighest, .int (nI n_set), .ref a_names, .ref a_sides, .ref a_levels, .int (nI n_items), .int (nI n_operands), .int (nI n_waiting), .int (nI n_pairs), .int z_rows, .int z_conflicts, .ref a_from, .ref a_to, .ref a_what, .ref a_left, .ref a_right, .ref a_waits, .ref a_opens, .ref a_closes, .ref a_waitsFor])), (a_names, .inl (ka_names, 12, .inr (.inl f6)))] H := hP
          have hD : va_D A [(a_sides, .inl (ka_sides, 12, .inl f_sides)), (a_levels, .inl (ka_levels, 12, .inl f_levels)), (a_t, .inr (1, [.int 0, .int (nI n_length), .ref a_text, .int z_bad, .int z_place, .int (nI n_at), .int (nI n_lexemes), .ref a_kind, .ref a_value, .ref a_where, .ref a_column, .ref a_leads, .int (nI n_open), .int z_highest, .ref a_row, .int (nI n_tokens), .int z_blocks, .ref a_sort, .ref a_is, .ref a_before, .ref a_behind, .ref a_partner, .ref a_done, .int (nI n_all), .ref a_kinds, .ref a_values, .int z_told, .int z_toldBlocks, .int z_toldRows, .int z_toldConflicts, .int z_toldHighest, .int (nI n_set), .ref a_names, .ref a_sides, .ref a_levels, .int (nI n_items), .int (nI n_operands), .int (nI n_waiting), .int (nI n_pairs), .int z_rows, .int z_conflicts, .ref a_from, .ref a_to, .ref a_what, .ref a_left, .ref a_right, .ref a_waits, .ref a_opens, .ref a_closes, .ref a_waitsFor])), (a_names, .inl (ka_names, 12, .inr (.inl f6)))] := hD
          refine lv_aload_n hx hb d_Model_fixity_87 rfl (lv_at hl 1 rfl) ?_
          refine va_get (D := (dC, dI)) (ci := 1) (v := .ref a_sides) (C := R_Model) (T := F_Model) (N := 50) hx hb hz zu_Model hown hK hP 2 rfl rfl 33 (by decide) (hz (.fieldLink R_Model 64 "LayoutFrontModel" "sides" "[I") zm_640) (fun _ h9 => h9) rfl d_Model_fixity_88 ?_
          refine lv_iload hx hb d_Model_fixity_91 (lv_at hl 0 rfl) ?_
          refine lv_iload_n hx hb d_Model_fixity_93 rfl (lv_at hl 3 rfl) ?_
          refine va_iast hx hb hK hP hD hS 0 1 rfl rfl (vp_in_nI (by omega) (by omega)) d_Model_fixity_94 (fun H locs hP hD hS => ?_)
          rw [show ((nI j9) : Int32).toNatClampNeg = j9 from nI_clamp (by omega)] at hP hD
          generalize hf_f7 : upd f_sides j9 y1 = f7 at hP hD
          have hP : va_P (dC, dI) vcl [(a_sides, .inl (ka_sides, 12, .inl f7)), (a_levels, .inl (ka_levels, 12, .inl f_levels)), (a_t, .inr (1, [.int 0, .int (nI n_length), .ref a_text, .int z_bad, .int z_place, .int (nI n_at), .int (nI n_lexemes), .ref a_kind, .ref a_value, .ref a_where, .ref a_column, .ref a_leads, .int (nI n_open), .int z_highest, .ref a_row, .int (nI n_tokens), .int z_blocks, .ref a_sort, .ref a_is, .ref a_before, .ref a_behind, .ref a_partner, .ref a_done, .int (nI n_all), .ref a_kinds, .ref a_values, .int z_told, .int z_toldBlocks, .int z_toldRows, .int z_toldConflicts, .int z_toldHighest, .int (nI n_set), .ref a_names, .ref a_sides, .ref a_levels, .int (nI n_items), .int (nI n_operands), .int (nI n_waiting), .int (nI n_pairs), .int z_rows, .int z_conflicts, .ref a_from, .ref a_to, .ref a_what, .ref a_left, .ref a_right, .ref a_waits, .ref a_opens, .ref a_closes, .ref a_waitsFor])), (a_names, .inl (ka_names, 12, .inr (.inl f6)))] H := hP
          have hD : va_D A [(a_sides, .inl (ka_sides, 12, .inl f7)), (a_levels, .inl (ka_levels, 12, .inl f_levels)), (a_t, .inr (1, [.int 0, .int (nI n_length), .ref a_text, .int z_bad, .int z_place, .int (nI n_at), .int (nI n_lexemes), .ref a_kind, .ref a_value, .ref a_where, .ref a_column, .ref a_leads, .int (nI n_open), .int z_highest, .ref a_row, .int (nI n_tokens), .int z_blocks, .ref a_sort, .ref a_is, .ref a_before, .ref a_behind, .ref a_partner, .ref a_done, .int (nI n_all), .ref a_kinds, .ref a_values, .int z_told, .int z_toldBlocks, .int z_toldRows, .int z_toldConflicts, .int z_toldHighest, .int (nI n_set), .ref a_names, .ref a_sides, .ref a_levels, .int (nI n_items), .int (nI n_operands), .int (nI n_waiting), .int (nI n_pairs), .int z_rows, .int z_conflicts, .ref a_from, .ref a_to, .ref a_what, .ref a_left, .ref a_right, .ref a_waits, .ref a_opens, .ref a_closes, .ref a_waitsFor])), (a_names, .inl (ka_names, 12, .inr (.inl f6)))] := hD
          refine lv_aload_n hx hb d_Model_fixity_95 rfl (lv_at hl 1 rfl) ?_
          refine va_get (D := (dC, dI)) (ci := 1) (v := .ref a_levels) (C := R_Model) (T := F_Model) (N := 50) hx hb hz zu_Model hown hK hP 2 rfl rfl 34 (by decide) (hz (.fieldLink R_Model 67 "LayoutFrontModel" "levels" "[I") zm_641) (fun _ h9 => h9) rfl d_Model_fixity_96 ?_
          refine lv_iload hx hb d_Model_fixity_99 (lv_at hl 0 rfl) ?_
          refine lv_iload hx hb d_Model_fixity_101 (lv_at hl 4 rfl) ?_
          refine va_iast hx hb hK hP hD hS 1 2 rfl rfl (vp_in_nI (by omega) (by omega)) d_Model_fixity_103 (fun H locs hP hD hS => ?_)
          rw [show ((nI j9) : Int32).toNatClampNeg = j9 from nI_clamp (by omega)] at hP hD
          generalize hf_f8 : upd f_levels j9 y2 = f8 at hP hD
          have hP : va_P (dC, dI) vcl [(a_sides, .inl (ka_sides, 12, .inl f7)), (a_levels, .inl (ka_levels, 12, .inl f8)), (a_t, .inr (1, [.int 0, .int (nI n_length), .ref a_text, .int z_bad, .int z_place, .int (nI n_at), .int (nI n_lexemes), .ref a_kind, .ref a_value, .ref a_where, .ref a_column, .ref a_leads, .int (nI n_open), .int z_highest, .ref a_row, .int (nI n_tokens), .int z_blocks, .ref a_sort, .ref a_is, .ref a_before, .ref a_behind, .ref a_partner, .ref a_done, .int (nI n_all), .ref a_kinds, .ref a_values, .int z_told, .int z_toldBlocks, .int z_toldRows, .int z_toldConflicts, .int z_toldHighest, .int (nI n_set), .ref a_names, .ref a_sides, .ref a_levels, .int (nI n_items), .int (nI n_operands), .int (nI n_waiting), .int (nI n_pairs), .int z_rows, .int z_conflicts, .ref a_from, .ref a_to, .ref a_what, .ref a_left, .ref a_right, .ref a_waits, .ref a_opens, .ref a_closes, .ref a_waitsFor])), (a_names, .inl (ka_names, 12, .inr (.inl f6)))] H := hP
          have hD : va_D A [(a_sides, .inl (ka_sides, 12, .inl f7)), (a_levels, .inl (ka_levels, 12, .inl f8)), (a_t, .inr (1, [.int 0, .int (nI n_length), .ref a_text, .int z_bad, .int z_place, .int (nI n_at), .int (nI n_lexemes), .ref a_kind, .ref a_value, .ref a_where, .ref a_column, .ref a_leads, .int (nI n_open), .int z_highest, .ref a_row, .int (nI n_tokens), .int z_blocks, .ref a_sort, .ref a_is, .ref a_before, .ref a_behind, .ref a_partner, .ref a_done, .int (nI n_all), .ref a_kinds, .ref a_values, .int z_told, .int z_toldBlocks, .int z_toldRows, .int z_toldConflicts, .int z_toldHighest, .int (nI n_set), .ref a_names, .ref a_sides, .ref a_levels, .int (nI n_items), .int (nI n_operands), .int (nI n_waiting), .int (nI n_pairs), .int z_rows, .int z_conflicts, .ref a_from, .ref a_to, .ref a_what, .ref a_left, .ref a_right, .ref a_waits, .ref a_opens, .ref a_closes, .ref a_waitsFor])), (a_names, .inl (ka_names, 12, .inr (.inl f6)))] := hD
          refine lv_aload_n hx hb d_Model_fixity_104 rfl (lv_at hl 1 rfl) ?_
          refine va_get (D := (dC, dI)) (ci := 1) (v := .int (nI n_set)) (C := R_Model) (T := F_Model) (N := 50) hx hb hz zu_Model hown hK hP 2 rfl rfl 31 (by decide) (hz (.fieldLink R_Model 113 "LayoutFrontModel" "set" "I") zm_663) (fun _ h9 => h9) rfl d_Model_fixity_105 ?_
          have hP9 := hP.sub (ws' := [(a_t, .inr (1, [.int 0, .int (nI n_length), .ref a_text, .int z_bad, .int z_place, .int (nI n_at), .int (nI n_lexemes), .ref a_kind, .ref a_value, .ref a_where, .ref a_column, .ref a_leads, .int (nI n_open), .int z_highest, .ref a_row, .int (nI n_tokens), .int z_blocks, .ref a_sort, .ref a_is, .ref a_before, .ref a_behind, .ref a_partner, .ref a_done, .int (nI n_all), .ref a_kinds, .ref a_values, .int z_told, .int z_toldBlocks, .int z_toldRows, .int z_toldConflicts, .int z_toldHighest, .int (nI n_set), .ref a_names, .ref a_sides, .ref a_levels, .int (nI n_items), .int (nI n_operands), .int (nI n_waiting), .int (nI n_pairs), .int z_rows, .int z_conflicts, .ref a_from, .ref a_to, .ref a_what, .ref a_left, .ref a_right, .ref a_waits, .ref a_opens, .ref a_closes, .ref a_waitsFor])), (a_names, .inl (ka_names, 12, .inr (.inl f6))), (a_sides, .inl (ka_sides, 12, .inl f7)), (a_levels, .inl (ka_levels, 12, .inl f8))]) [2, 3, 0, 1] rfl
          have hD9 := hD.sub (ws' := [(a_t, .inr (1, [.int 0, .int (nI n_length), .ref a_text, .int z_bad, .int z_place, .int (nI n_at), .int (nI n_lexemes), .ref a_kind, .ref a_value, .ref a_where, .ref a_column, .ref a_leads, .int (nI n_open), .int z_highest, .ref a_row, .int (nI n_tokens), .int z_blocks, .ref a_sort, .ref a_is, .ref a_before, .ref a_behind, .ref a_partner, .ref a_done, .int (nI n_all), .ref a_kinds, .ref a_values, .int z_told, .int z_toldBlocks, .int z_toldRows, .int z_toldConflicts, .int z_toldHighest, .int (nI n_set), .ref a_names, .ref a_sides, .ref a_levels, .int (nI n_items), .int (nI n_operands), .int (nI n_waiting), .int (nI n_pairs), .int z_rows, .int z_conflicts, .ref a_from, .ref a_to, .ref a_what, .ref a_left, .ref a_right, .ref a_waits, .ref a_opens, .ref a_closes, .ref a_waitsFor])), (a_names, .inl (ka_names, 12, .inr (.inl f6))), (a_sides, .inl (ka_sides, 12, .inl f7)), (a_levels, .inl (ka_levels, 12, .inl f8))]) [2, 3, 0, 1] (by decide) rfl
          exact W.iret (v := (nI n_set)) hx hb hr (fun t ht hW => ⟨⟨(nI n_set), (), rfl, trivial, 0, n_set, f6, f7, f8, by first | rfl | omega | assumption, by exact fj_1 (fk_t e11 e22 (or_r (hM_t hfn (by omega)))) (hM_t hfn (by omega)) (by omega), by (intro v9; exact fh_1 (fk_t e11 e22 (or_r (hM_t hfn (by omega)))) (ga_hx hfn (by omega) l9 hf_f6)), by (intro v9; exact fp_1 (fk_t e11 e22 (or_r (hM_t hfn (by omega)))) (ga_lv hfn (by omega) l9 hf_f6 hf_f8)), by (intro v9; exact fp_1 (fk_t e11 e22 (or_r (hM_t hfn (by omega)))) (ga_lv hfn (by omega) l9 hf_f6 hf_f7)), by rw [ht]; exact hP9, va_K.moved hW.alike hK, hD9⟩, hS.F ht⟩) hS.2.2 d_Model_fixity_108
        · have h5 : ¬ 0 ≤ j9 := fun q => h5 ((nI_leI (a := 0) (b := j9) (by omega) (by omega)).mpr q)
          (exfalso; omega)
      · have pJ := h4
        refine lv_aload_n hx hb d_Model_fixity_43 rfl (lv_at hl 1 rfl) ?_
        refine va_get (D := (dC, dI)) (ci := 1) (v := .int (nI n_set)) (C := R_Model) (T := F_Model) (N := 50) hx hb hz zu_Model hown hK hP 2 rfl rfl 31 (by decide) (hz (.fieldLink R_Model 113 "LayoutFrontModel" "set" "I") zm_663) (fun _ h9 => h9) rfl d_Model_fixity_44 ?_
        refine lv_bipush (v := 12) hx hb d_Model_fixity_47 (by decide) ?_
        refine lv_icmp_ne (tgt := 58) hx hb d_Model_fixity_49 (by decide) (fun h12 => ?_) (fun h12 => ?_)
        · have h12 : ¬ n_set = 12 := fun q => h12 ((nI_eq (a := n_set) (b := 12) (by omega) (by omega)).mpr q)
          have p12 := h12
          refine lv_iload hx hb d_Model_fixity_58 (lv_at hl 0 rfl) ?_
          refine lv_if_ge (tgt := 79) hx hb d_Model_fixity_60 (by decide) (fun h13 => ?_) (fun h13 => ?_)
          · exact absurd h13 pJ
          · refine lv_aload_n hx hb d_Model_fixity_63 rfl (lv_at hl 1 rfl) ?_
            refine va_get (D := (dC, dI)) (ci := 1) (v := .int (nI n_set)) (C := R_Model) (T := F_Model) (N := 50) hx hb hz zu_Model hown hK hP 2 rfl rfl 31 (by decide) (hz (.fieldLink R_Model 113 "LayoutFrontModel" "set" "I") zm_663) (fun _ h9 => h9) rfl d_Model_fixity_64 ?_
            refine lv_istore hx hb d_Model_fixity_67 hl (by decide) rfl (fun ls hl => ?_)
            have hl : lv_has ls 6 [(5, .int (nI n_set)), (0, .ref a_t), (1, .long y0), (3, .int y1), (4, .int y2)] := hl
            refine lv_aload_n hx hb d_Model_fixity_69 rfl (lv_at hl 1 rfl) ?_
            refine lv_dup hx hb d_Model_fixity_70 rfl ?_
            refine va_get (D := (dC, dI)) (ci := 1) (v := .int (nI n_set)) (C := R_Model) (T := F_Model) (N := 50) hx hb hz zu_Model hown hK hP 2 rfl rfl 31 (by decide) (hz (.fieldLink R_Model 113 "LayoutFrontModel" "set" "I") zm_663) (fun _ h9 => h9) rfl d_Model_fixity_71 ?_
            refine lv_iconst (v := 1) hx hb d_Model_fixity_74 (by decide) ?_
            refine xr_iadd (v := (nI (n_set + 1))) hx hb d_Model_fixity_75 (nI_add n_set 1) ?_
            refine va_put (D := (dC, dI)) (ci := 1) (v := .int (nI (n_set + 1))) (ty := .int) (C := R_Model) (T := F_Model) (N := 50) hx hb hz zu_Model t_Model t_Model_ok n_Model hown hK hP hD hS 2 rfl rfl 31 (by decide) (hz (.fieldLink R_Model 113 "LayoutFrontModel" "set" "I") zm_663) (fun _ h9 => h9) rfl (by decide +kernel) rfl rfl (Nat.le_of_ble_eq_true rfl) d_Model_fixity_76 (fun H locs hP hD hS => ?_)
            have hP : va_P (dC, dI) vcl [(a_sides, .inl (ka_sides, 12, .inl f_sides)), (a_levels, .inl (ka_levels, 12, .inl f_levels)), (a_t, .inr (1, [.int 0, .int (nI n_length), .ref a_text, .int z_bad, .int z_place, .int (nI n_at), .int (nI n_lexemes), .ref a_kind, .ref a_value, .ref a_where, .ref a_column, .ref a_leads, .int (nI n_open), .int z_highest, .ref a_row, .int (nI n_tokens), .int z_blocks, .ref a_sort, .ref a_is, .ref a_before, .ref a_behind, .ref a_partner, .ref a_done, .int (nI n_all), .ref a_kinds, .ref a_values, .int z_told, .int z_toldBlocks, .int z_toldRows, .int z_toldConflicts, .int z_toldHighest, .int (nI (n_set + 1)), .ref a_names, .ref a_sides, .ref a_levels, .int (nI n_items), .int (nI n_operands), .int (nI n_waiting), .int (nI n_pairs), .int z_rows, .int z_conflicts, .ref a_from, .ref a_to, .ref a_what, .ref a_left, .ref a_right, .ref a_waits, .ref a_opens, .ref a_closes, .ref a_waitsFor])), (a_names, .inl (ka_names, 12, .inr (.inl f_names)))] H := hP
            have hD : va_D A [(a_sides, .inl (ka_sides, 12, .inl f_sides)), (a_levels, .inl (ka_levels, 12, .inl f_levels)), (a_t, .inr (1, [.int 0, .int (nI n_length), .ref a_text, .int z_bad, .int z_place, .int (nI n_at), .int (nI n_lexemes), .ref a_kind, .ref a_value, .ref a_where, .ref a_column, .ref a_leads, .int (nI n_open), .int z_highest, .ref a_row, .int (nI n_tokens), .int z_blocks, .ref a_sort, .ref a_is, .ref a_before, .ref a_behind, .ref a_partner, .ref a_done, .int (nI n_all), .ref a_kinds, .ref a_values, .int z_told, .int z_toldBlocks, .int z_toldRows, .int z_toldConflicts, .int z_toldHighest, .int (nI (n_set + 1)), .ref a_names, .ref a_sides, .ref a_levels, .int (nI n_items), .int (nI n_operands), .int (nI n_waiting), .int (nI n_pairs), .int z_rows, .int z_conflicts, .ref a_from, .ref a_to, .ref a_what, .ref a_left, .ref a_right, .ref a_waits, .ref a_opens, .ref a_closes, .ref a_waitsFor])), (a_names, .inl (ka_names, 12, .inr (.inl f_names)))] := hD
            refine lv_aload_n hx hb d_Model_fixity_79 rfl (lv_at hl 1 rfl) ?_
            refine va_get (D := (dC, dI)) (ci := 1) (v := .ref a_names) (C := R_Model) (T := F_Model) (N := 50) hx hb hz zu_Model hown hK hP 2 rfl rfl 32 (by decide) (hz (.fieldLink R_Model 61 "LayoutFrontModel" "names" "[J") zm_639) (fun _ h9 => h9) rfl d_Model_fixity_80 ?_
            refine lv_iload hx hb d_Model_fixity_83 (lv_at hl 0 rfl) ?_
            refine lv_lload_n hx hb d_Model_fixity_85 rfl (lv_at hl 2 rfl) ?_
            refine va_last hx hb hK hP hD hS 3 0 rfl rfl (vp_in_nI (by omega) (by omega)) d_Model_fixity_86 (fun H locs hP hD hS => ?_)
            rw [show ((nI n_set) : Int32).toNatClampNeg = n_set from nI_clamp (by omega)] at hP hD
            generalize hf_f17 : vp_updL f_names n_set y0 = f17 at hP hD
            have hP : va_P (dC, dI) vcl [(a_sides, .inl (ka_sides, 12, .inl f_sides)), (a_levels, .inl (ka_levels, 12, .inl f_levels)), (a_t, .inr (1, [.int 0, .int (nI n_length), .ref a_text, .int z_bad, .int z_place, .int (nI n_at), .int (nI n_lexemes), .ref a_kind, .ref a_value, .ref a_where, .ref a_column, .ref a_leads, .int (nI n_open), .int z_highest, .ref a_row, .int (nI n_tokens), .int z_blocks, .ref a_sort, .ref a_is, .ref a_before, .ref a_behind, .ref a_partner, .ref a_done, .int (nI n_all), .ref a_kinds, .ref a_values, .int z_told, .int z_toldBlocks, .int z_toldRows, .int z_toldConflicts, .int z_toldHighest, .int (nI (n_set + 1)), .ref a_names, .ref a_sides, .ref a_levels, .int (nI n_items), .int (nI n_operands), .int (nI n_waiting), .int (nI n_pairs), .int z_rows, .int z_conflicts, .ref a_from, .ref a_to, .ref a_what, .ref a_left, .ref a_right, .ref a_waits, .ref a_opens, .ref a_closes, .ref a_waitsFor])), (a_names, .inl (ka_names, 12, .inr (.inl f17)))] H := hP
            have hD : va_D A [(a_sides, .inl (ka_sides, 12, .inl f_sides)), (a_levels, .inl (ka_levels, 12, .inl f_levels)), (a_t, .inr (1, [.int 0, .int (nI n_length), .ref a_text, .int z_bad, .int z_place, .int (nI n_at), .int (nI n_lexemes), .ref a_kind, .ref a_value, .ref a_where, .ref a_column, .ref a_leads, .int (nI n_open), .int z_highest, .ref a_row, .int (nI n_tokens), .int z_blocks, .ref a_sort, .ref a_is, .ref a_before, .ref a_behind, .ref a_partner, .ref a_done, .int (nI n_all), .ref a_kinds, .ref a_values, .int z_told, .int z_toldBlocks, .int z_toldRows, .int z_toldConflicts, .int z_toldHighest, .int (nI (n_set + 1)), .ref a_names, .ref a_sides, .ref a_levels, .int (nI n_items), .int (nI n_operands), .int (nI n_waiting), .int (nI n_pairs), .int z_rows, .int z_conflicts, .ref a_from, .ref a_to, .ref a_what, .ref a_left, .ref a_right, .ref a_waits, .ref a_opens, .ref a_closes, .ref a_waitsFor])), (a_names, .inl (ka_names, 12, .inr (.inl f17)))] := hD
            refine lv_aload_n hx hb d_Model_fixity_87 rfl (lv_at hl 1 rfl) ?_
            refine va_get (D := (dC, dI)) (ci := 1) (v := .ref a_sides) (C := R_Model) (T := F_Model) (N := 50) hx hb hz zu_Model hown hK hP 2 rfl rfl 33 (by decide) (hz (.fieldLink R_Model 64 "LayoutFrontModel" "sides" "[I") zm_640) (fun _ h9 => h9) rfl d_Model_fixity_88 ?_
            refine lv_iload hx hb d_Model_fixity_91 (lv_at hl 0 rfl) ?_
            refine lv_iload_n hx hb d_Model_fixity_93 rfl (lv_at hl 3 rfl) ?_
            refine va_iast hx hb hK hP hD hS 0 1 rfl rfl (vp_in_nI (by omega) (by omega)) d_Model_fixity_94 (fun H locs hP hD hS => ?_)
            rw [show ((nI n_set) : Int32).toNatClampNeg = n_set from nI_clamp (by omega)] at hP hD
            generalize hf_f18 : upd f_sides n_set y1 = f18 at hP hD
            have hP : va_P (dC, dI) vcl [(a_sides, .inl (ka_sides, 12, .inl f18)), (a_levels, .inl (ka_levels, 12, .inl f_levels)), (a_t, .inr (1, [.int 0, .int (nI n_length), .ref a_text, .int z_bad, .int z_place, .int (nI n_at), .int (nI n_lexemes), .ref a_kind, .ref a_value, .ref a_where, .ref a_column, .ref a_leads, .int (nI n_open), .int z_highest, .ref a_row, .int (nI n_tokens), .int z_blocks, .ref a_sort, .ref a_is, .ref a_before, .ref a_behind, .ref a_partner, .ref a_done, .int (nI n_all), .ref a_kinds, .ref a_values, .int z_told, .int z_toldBlocks, .int z_toldRows, .int z_toldConflicts, .int z_toldHighest, .int (nI (n_set + 1)), .ref a_names, .ref a_sides, .ref a_levels, .int (nI n_items), .int (nI n_operands), .int (nI n_waiting), .int (nI n_pairs), .int z_rows, .int z_conflicts, .ref a_from, .ref a_to, .ref a_what, .ref a_left, .ref a_right, .ref a_waits, .ref a_opens, .ref a_closes, .ref a_waitsFor])), (a_names, .inl (ka_names, 12, .inr (.inl f17)))] H := hP
            have hD : va_D A [(a_sides, .inl (ka_sides, 12, .inl f18)), (a_levels, .inl (ka_levels, 12, .inl f_levels)), (a_t, .inr (1, [.int 0, .int (nI n_length), .ref a_text, .int z_bad, .int z_place, .int (nI n_at), .int (nI n_lexemes), .ref a_kind, .ref a_value, .ref a_where, .ref a_column, .ref a_leads, .int (nI n_open), .int z_highest, .ref a_row, .int (nI n_tokens), .int z_blocks, .ref a_sort, .ref a_is, .ref a_before, .ref a_behind, .ref a_partner, .ref a_done, .int (nI n_all), .ref a_kinds, .ref a_values, .int z_told, .int z_toldBlocks, .int z_toldRows, .int z_toldConflicts, .int z_toldHighest, .int (nI (n_set + 1)), .ref a_names, .ref a_sides, .ref a_levels, .int (nI n_items), .int (nI n_operands), .int (nI n_waiting), .int (nI n_pairs), .int z_rows, .int z_conflicts, .ref a_from, .ref a_to, .ref a_what, .ref a_left, .ref a_right, .ref a_waits, .ref a_opens, .ref a_closes, .ref a_waitsFor])), (a_names, .inl (ka_names, 12, .inr (.inl f17)))] := hD
            refine lv_aload_n hx hb d_Model_fixity_95 rfl (lv_at hl 1 rfl) ?_
            refine va_get (D := (dC, dI)) (ci := 1) (v := .ref a_levels) (C := R_Model) (T := F_Model) (N := 50) hx hb hz zu_Model hown hK hP 2 rfl rfl 34 (by decide) (hz (.fieldLink R_Model 67 "LayoutFrontModel" "levels" "[I") zm_641) (fun _ h9 => h9) rfl d_Model_fixity_96 ?_
            refine lv_iload hx hb d_Model_fixity_99 (lv_at hl 0 rfl) ?_
            refine lv_iload hx hb d_Model_fixity_101 (lv_at hl 4 rfl) ?_
            refine va_iast hx hb hK hP hD hS 1 2 rfl rfl (vp_in_nI (by omega) (by omega)) d_Model_fixity_103 (fun H locs hP hD hS => ?_)
            rw [show ((nI n_set) : Int32).toNatClampNeg = n_set from nI_clamp (by omega)] at hP hD
            generalize hf_f19 : upd f_levels n_set y2 = f19 at hP hD
            have hP : va_P (dC, dI) vcl [(a_sides, .inl (ka_sides, 12, .inl f18)), (a_levels, .inl (ka_levels, 12, .inl f19)), (a_t, .inr (1, [.int 0, .int (nI n_length), .ref a_text, .int z_bad, .int z_place, .int (nI n_at), .int (nI n_lexemes), .ref a_kind, .ref a_value, .ref a_where, .ref a_column, .ref a_leads, .int (nI n_open), .int z_highest, .ref a_row, .int (nI n_tokens), .int z_blocks, .ref a_sort, .ref a_is, .ref a_before, .ref a_behind, .ref a_partner, .ref a_done, .int (nI n_all), .ref a_kinds, .ref a_values, .int z_told, .int z_toldBlocks, .int z_toldRows, .int z_toldConflicts, .int z_toldHighest, .int (nI (n_set + 1)), .ref a_names, .ref a_sides, .ref a_levels, .int (nI n_items), .int (nI n_operands), .int (nI n_waiting), .int (nI n_pairs), .int z_rows, .int z_conflicts, .ref a_from, .ref a_to, .ref a_what, .ref a_left, .ref a_right, .ref a_waits, .ref a_opens, .ref a_closes, .ref a_waitsFor])), (a_names, .inl (ka_names, 12, .inr (.inl f17)))] H := hP
            have hD : va_D A [(a_sides, .inl (ka_sides, 12, .inl f18)), (a_levels, .inl (ka_levels, 12, .inl f19)), (a_t, .inr (1, [.int 0, .int (nI n_length), .ref a_text, .int z_bad, .int z_place, .int (nI n_at), .int (nI n_lexemes), .ref a_kind, .ref a_value, .ref a_where, .ref a_column, .ref a_leads, .int (nI n_open), .int z_highest, .ref a_row, .int (nI n_tokens), .int z_blocks, .ref a_sort, .ref a_is, .ref a_before, .ref a_behind, .ref a_partner, .ref a_done, .int (nI n_all), .ref a_kinds, .ref a_values, .int z_told, .int z_toldBlocks, .int z_toldRows, .int z_toldConflicts, .int z_toldHighest, .int (nI (n_set + 1)), .ref a_names, .ref a_sides, .ref a_levels, .int (nI n_items), .int (nI n_operands), .int (nI n_waiting), .int (nI n_pairs), .int z_rows, .int z_conflicts, .ref a_from, .ref a_to, .ref a_what, .ref a_left, .ref a_right, .ref a_waits, .ref a_opens, .ref a_closes, .ref a_waitsFor])), (a_names, .inl (ka_names, 12, .inr (.inl f17)))] := hD
            refine lv_aload_n hx hb d_Model_fixity_104 rfl (lv_at hl 1 rfl) ?_
            refine va_get (D := (dC, dI)) (ci := 1) (v := .int (nI (n_set + 1))) (C := R_Model) (T := F_Model) (N := 50) hx hb hz zu_Model hown hK hP 2 rfl rfl 31 (by decide) (hz (.fieldLink R_Model 113 "LayoutFrontModel" "set" "I") zm_663) (fun _ h9 => h9) rfl d_Model_fixity_105 ?_
            have hP9 := hP.sub (ws' := [(a_t, .inr (1, [.int 0, .int (nI n_length), .ref a_text, .int z_bad, .int z_place, .int (nI n_at), .int (nI n_lexemes), .ref a_kind, .ref a_value, .ref a_where, .ref a_column, .ref a_leads, .int (nI n_open), .int z_highest, .ref a_row, .int (nI n_tokens), .int z_blocks, .ref a_sort, .ref a_is, .ref a_before, .ref a_behind, .ref a_partner, .ref a_done, .int (nI n_all), .ref a_kinds, .ref a_values, .int z_told, .int z_toldBlocks, .int z_toldRows, .int z_toldConflicts, .int z_toldHighest, .int (nI (n_set + 1)), .ref a_names, .ref a_sides, .ref a_levels, .int (nI n_items), .int (nI n_operands), .int (nI n_waiting), .int (nI n_pairs), .int z_rows, .int z_conflicts, .ref a_from, .ref a_to, .ref a_what, .ref a_left, .ref a_right, .ref a_waits, .ref a_opens, .ref a_closes, .ref a_waitsFor])), (a_names, .inl (ka_names, 12, .inr (.inl f17))), (a_sides, .inl (ka_sides, 12, .inl f18)), (a_levels, .inl (ka_levels, 12, .inl f19))]) [2, 3, 0, 1] rfl
            have hD9 := hD.sub (ws' := [(a_t, .inr (1, [.int 0, .int (nI n_length), .ref a_text, .int z_bad, .int z_place, .int (nI n_at), .int (nI n_lexemes), .ref a_kind, .ref a_value, .ref a_where, .ref a_column, .ref a_leads, .int (nI n_open), .int z_highest, .ref a_row, .int (nI n_tokens), .int z_blocks, .ref a_sort, .ref a_is, .ref a_before, .ref a_behind, .ref a_partner, .ref a_done, .int (nI n_all), .ref a_kinds, .ref a_values, .int z_told, .int z_toldBlocks, .int z_toldRows, .int z_toldConflicts, .int z_toldHighest, .int (nI (n_set + 1)), .ref a_names, .ref a_sides, .ref a_levels, .int (nI n_items), .int (nI n_operands), .int (nI n_waiting), .int (nI n_pairs), .int z_rows, .int z_conflicts, .ref a_from, .ref a_to, .ref a_what, .ref a_left, .ref a_right, .ref a_waits, .ref a_opens, .ref a_closes, .ref a_waitsFor])), (a_names, .inl (ka_names, 12, .inr (.inl f17))), (a_sides, .inl (ka_sides, 12, .inl f18)), (a_levels, .inl (ka_levels, 12, .inl f19))]) [2, 3, 0, 1] (by decide) rfl
            exact W.iret (v := (nI (n_set + 1))) hx hb hr (fun t ht hW => ⟨⟨(nI (n_set + 1)), (), rfl, trivial, 0, ((n_set + 1)), f17, f18, f19, by first | rfl | omega | assumption, by exact fj_2 (fk_t e11 e22 (or_l (by omega))) (hM_f pJ) (by omega), by (intro v9; exact fh_1 (fk_t e11 e22 (or_l (by omega))) (gb_hx (by omega) hf_f17)), by (intro v9; exact fp_1 (fk_t e11 e22 (or_l (by omega))) (gb_lv hf_f17 hf_f19)), by (intro v9; exact fp_1 (fk_t e11 e22 (or_l (by omega))) (gb_lv hf_f17 hf_f18)), by rw [ht]; exact hP9, va_K.moved hW.alike hK, hD9⟩, hS.F ht⟩) hS.2.2 d_Model_fixity_108
        · have h12 : n_set = 12 := (nI_eq (a := n_set) (b := 12) (by omega) (by omega)).mp h12
          refine lv_aload_n hx hb d_Model_fixity_52 rfl (lv_at hl 1 rfl) ?_
          refine lv_iconst (v := 2) hx hb d_Model_fixity_53 (by decide) ?_
          have hPc := hP.sub (ws' := [(a_t, .inr (1, [.int 0, .int (nI n_length), .ref a_text, .int z_bad, .int z_place, .int (nI n_at), .int (nI n_lexemes), .ref a_kind, .ref a_value, .ref a_where, .ref a_column, .ref a_leads, .int (nI n_open), .int z_highest, .ref a_row, .int (nI n_tokens), .int z_blocks, .ref a_sort, .ref a_is, .ref a_before, .ref a_behind, .ref a_partner, .ref a_done, .int (nI n_all), .ref a_kinds, .ref a_values, .int z_told, .int z_toldBlocks, .int z_toldRows, .int z_toldConflicts, .int z_toldHighest, .int (nI n_set), .ref a_names, .ref a_sides, .ref a_levels, .int (nI n_items), .int (nI n_operands), .int (nI n_waiting), .int (nI n_pairs), .int z_rows, .int z_conflicts, .ref a_from, .ref a_to, .ref a_what, .ref a_left, .ref a_right, .ref a_waits, .ref a_opens, .ref a_closes, .ref a_waitsFor]))]) [2] rfl
          have hDc := hD.sub (ws' := [(a_t, .inr (1, [.int 0, .int (nI n_length), .ref a_text, .int z_bad, .int z_place, .int (nI n_at), .int (nI n_lexemes), .ref a_kind, .ref a_value, .ref a_where, .ref a_column, .ref a_leads, .int (nI n_open), .int z_highest, .ref a_row, .int (nI n_tokens), .int z_blocks, .ref a_sort, .ref a_is, .ref a_before, .ref a_behind, .ref a_partner, .ref a_done, .int (nI n_all), .ref a_kinds, .ref a_values, .int z_told, .int z_toldBlocks, .int z_toldRows, .int z_toldConflicts, .int z_toldHighest, .int (nI n_set), .ref a_names, .ref a_sides, .ref a_levels, .int (nI n_items), .int (nI n_operands), .int (nI n_waiting), .int (nI n_pairs), .int z_rows, .int z_conflicts, .ref a_from, .ref a_to, .ref a_what, .ref a_left, .ref a_right, .ref a_waits, .ref a_opens, .ref a_closes, .ref a_waitsFor]))]) [2] (by decide) rfl
          have hKc := hK.sub (tys' := []) [] rfl
          have hFc := va_free (wc := [(a_t, .inr (1, [.int 0, .int (nI n_length), .ref a_text, .int z_bad, .int z_place, .int (nI n_at), .int (nI n_lexemes), .ref a_kind, .ref a_value, .ref a_where, .ref a_column, .ref a_leads, .int (nI n_open), .int z_highest, .ref a_row, .int (nI n_tokens), .int z_blocks, .ref a_sort, .ref a_is, .ref a_before, .ref a_behind, .ref a_partner, .ref a_done, .int (nI n_all), .ref a_kinds, .ref a_values, .int z_told, .int z_toldBlocks, .int z_toldRows, .int z_toldConflicts, .int z_toldHighest, .int (nI n_set), .ref a_names, .ref a_sides, .ref a_levels, .int (nI n_items), .int (nI n_operands), .int (nI n_waiting), .int (nI n_pairs), .int z_rows, .int z_conflicts, .ref a_from, .ref a_to, .ref a_what, .ref a_left, .ref a_right, .ref a_waits, .ref a_opens, .ref a_closes, .ref a_waitsFor]))]) hD hS hA [2] rfl
          refine va_calli (va_runV (As := [.int 2]) (rest := []) ⟨hx, hb, hml, hown, hz⟩ (s_Model_failX l dC dI H.size a_t 0 n_length a_text z_bad z_place n_at n_lexemes a_kind a_value a_where a_column a_leads n_open z_highest a_row n_tokens z_blocks a_sort a_is a_before a_behind a_partner a_done n_all a_kinds a_values z_told z_toldBlocks z_toldRows z_toldConflicts z_toldHighest n_set a_names a_sides a_levels n_items n_operands n_waiting n_pairs z_rows z_conflicts a_from a_to a_what a_left a_right a_waits a_opens a_closes a_waitsFor 2 (by first | rfl | omega | assumption) (by first | assumption | exact Or.inl rfl | exact Or.inr (Or.inl rfl) | exact Or.inr (Or.inr rfl) | exact Or.inr (by assumption)) (by first | rfl | omega | assumption) (by first | rfl | omega | assumption) (by first | rfl | omega | assumption) (by first | rfl | omega | assumption) (by first | rfl | omega | assumption) (by first | rfl | omega | assumption) (by first | rfl | omega | assumption) (by first | rfl | omega | assumption) (by first | rfl | omega | assumption) (by first | rfl | omega | assumption)) (cwV 1 hz (zV zm_657 zm_658 zm_659 zm_655 zm_660) rfl rfl rfl (by decide +kernel) ⟨Nat.le_of_ble_eq_true rfl, Nat.le_of_ble_eq_true rfl⟩) ⟨fun a U g mk q => by obtain ⟨q0, q1, qP, qK, qD⟩ := q; exact ⟨q0, q1, qP, va_K.moved (u := U) (U := U.calling g mk a) (Vm.Alike.refl U.vm) qK, qD⟩, va_recv (q := (R_Model, F_Model, 50)) (q0 := 2) (ci := 1) hK hP rfl rfl, fun U hU hW => ⟨rfl, by rw [hU], by rw [hU]; exact hPc, va_K.moved hW.alike hKc, hDc.weaken (fun _ _ _ _ => trivial)⟩⟩ rfl rfl hl.1 rfl (lv_room (Nat.le_of_ble_eq_true rfl)) d_Model_fixity_54 ⟨Nat.zero_le _, Nat.zero_le _⟩) hS (fun q _ h => hFc q h) hFc (fun r u t H1 locs ht hvm hw hB hz1 hk1 hS => ?_)
          obtain ⟨g20, hq0_54, hP1, hK1, hD1⟩ := hB
          subst g20
          subst r
          rw [ht] at hP1
          obtain ⟨hP, hD⟩ := va_join (wr := [(a_sides, .inl (ka_sides, 12, .inl f_sides)), (a_levels, .inl (ka_levels, 12, .inl f_levels)), (a_names, .inl (ka_names, 12, .inr (.inl f_names)))]) (w1 := [(a_t, .inr (1, [.int (2), .int (nI n_length), .ref a_text, .int z_bad, .int z_place, .int (nI n_at), .int (nI n_lexemes), .ref a_kind, .ref a_value, .ref a_where, .ref a_column, .ref a_leads, .int (nI n_open), .int z_highest, .ref a_row, .int (nI n_tokens), .int z_blocks, .ref a_sort, .ref a_is, .ref a_before, .ref a_behind, .ref a_partner, .ref a_done, .int (nI n_all), .ref a_kinds, .ref a_values, .int z_told, .int z_toldBlocks, .int z_toldRows, .int z_toldConflicts, .int z_toldHighest, .int (nI n_set), .ref a_names, .ref a_sides, .ref a_levels, .int (nI n_items), .int (nI n_operands), .int (nI n_waiting), .int (nI n_pairs), .int z_rows, .int z_conflicts, .ref a_from, .ref a_to, .ref a_what, .ref a_left, .ref a_right, .ref a_waits, .ref a_opens, .ref a_closes, .ref a_waitsFor]))]) hP hD [2] [0, 1, 3] rfl rfl (by decide) (by decide) hk1 hFc hP1 hD1
          generalize H1 = H at hP hS ⊢
          have hP : va_P (dC, dI) vcl [(a_sides, .inl (ka_sides, 12, .inl f_sides)), (a_levels, .inl (ka_levels, 12, .inl f_levels)), (a_names, .inl (ka_names, 12, .inr (.inl f_names))), (a_t, .inr (1, [.int (2), .int (nI n_length), .ref a_text, .int z_bad, .int z_place, .int (nI n_at), .int (nI n_lexemes), .ref a_kind, .ref a_value, .ref a_where, .ref a_column, .ref a_leads, .int (nI n_open), .int z_highest, .ref a_row, .int (nI n_tokens), .int z_blocks, .ref a_sort, .ref a_is, .ref a_before, .ref a_behind, .ref a_partner, .ref a_done, .int (nI n_all), .ref a_kinds, .ref a_values, .int z_told, .int z_toldBlocks, .int z_toldRows, .int z_toldConflicts, .int z_toldHighest, .int (nI n_set), .ref a_names, .ref a_sides, .ref a_levels, .int (nI n_items), .int (nI n_operands), .int (nI n_waiting), .int (nI n_pairs), .int z_rows, .int z_conflicts, .ref a_from, .ref a_to, .ref a_what, .ref a_left, .ref a_right, .ref a_waits, .ref a_opens, .ref a_closes, .ref a_waitsFor]))] H := hP
          have hD : va_D A [(a_sides, .inl (ka_sides, 12, .inl f_sides)), (a_levels, .inl (ka_levels, 12, .inl f_levels)), (a_names, .inl (ka_names, 12, .inr (.inl f_names))), (a_t, .inr (1, [.int (2), .int (nI n_length), .ref a_text, .int z_bad, .int z_place, .int (nI n_at), .int (nI n_lexemes), .ref a_kind, .ref a_value, .ref a_where, .ref a_column, .ref a_leads, .int (nI n_open), .int z_highest, .ref a_row, .int (nI n_tokens), .int z_blocks, .ref a_sort, .ref a_is, .ref a_before, .ref a_behind, .ref a_partner, .ref a_done, .int (nI n_all), .ref a_kinds, .ref a_values, .int z_told, .int z_toldBlocks, .int z_toldRows, .int z_toldConflicts, .int z_toldHighest, .int (nI n_set), .ref a_names, .ref a_sides, .ref a_levels, .int (nI n_items), .int (nI n_operands), .int (nI n_waiting), .int (nI n_pairs), .int z_rows, .int z_conflicts, .ref a_from, .ref a_to, .ref a_what, .ref a_left, .ref a_right, .ref a_waits, .ref a_opens, .ref a_closes, .ref a_waitsFor]))] := hD
          have hP9 := hP.sub (ws' := [(a_t, .inr (1, [.int (2), .int (nI n_length), .ref a_text, .int z_bad, .int z_place, .int (nI n_at), .int (nI n_lexemes), .ref a_kind, .ref a_value, .ref a_where, .ref a_column, .ref a_leads, .int (nI n_open), .int z_highest, .ref a_row, .int (nI n_tokens), .int z_blocks, .ref a_sort, .ref a_is, .ref a_before, .ref a_behind, .ref a_partner, .ref a_done, .int (nI n_all), .ref a_kinds, .ref a_values, .int z_told, .int z_toldBlocks, .int z_toldRows, .int z_toldConflicts, .int z_toldHighest, .int (nI n_set), .ref a_names, .ref a_sides, .ref a_levels, .int (nI n_items), .int (nI n_operands), .int (nI n_waiting), .int (nI n_pairs), .int z_rows, .int z_conflicts, .ref a_from, .ref a_to, .ref a_what, .ref a_left, .ref a_right, .ref a_waits, .ref a_opens, .ref a_closes, .ref a_waitsFor])), (a_names, .inl (ka_names, 12, .inr (.inl f_names))), (a_sides, .inl (ka_sides, 12, .inl f_sides)), (a_levels, .inl (ka_levels, 12, .inl f_levels))]) [3, 2, 0, 1] rfl
          have hD9 := hD.sub (ws' := [(a_t, .inr (1, [.int (2), .int (nI n_length), .ref a_text, .int z_bad, .int z_place, .int (nI n_at), .int (nI n_lexemes), .ref a_kind, .ref a_value, .ref a_where, .ref a_column, .ref a_leads, .int (nI n_open), .int z_highest, .ref a_row, .int (nI n_tokens), .int z_blocks, .ref a_sort, .ref a_is, .ref a_before, .ref a_behind, .ref a_partner, .ref a_done, .int (nI n_all), .ref a_kinds, .ref a_values, .int z_told, .int z_toldBlocks, .int z_toldRows, .int z_toldConflicts, .int z_toldHighest, .int (nI n_set), .ref a_names, .ref a_sides, .ref a_levels, .int (nI n_items), .int (nI n_operands), .int (nI n_waiting), .int (nI n_pairs), .int z_rows, .int z_conflicts, .ref a_from, .ref a_to, .ref a_what, .ref a_left, .ref a_right, .ref a_waits, .ref a_opens, .ref a_closes, .ref a_waitsFor])), (a_names, .inl (ka_names, 12, .inr (.inl f_names))), (a_sides, .inl (ka_sides, 12, .inl f_sides)), (a_levels, .inl (ka_levels, 12, .inl f_levels))]) [3, 2, 0, 1] (by decide) rfl
          exact W.iret (v := 0) hx hb hr (fun t ht hW => ⟨⟨0, (), rfl, trivial, ((2)), n_set, f_names, f_sides, f_levels, by first | rfl | omega | assumption, by exact fj_0 (fk_3 (or_n (by omega) (hM_f pJ))), by (intro v9; exact fh_0 (fk_3 (or_n (by omega) (hM_f pJ)))), by (intro v9; exact fp_0 (fk_3 (or_n (by omega) (hM_f pJ)))), by (intro v9; exact fp_0 (fk_3 (or_n (by omega) (hM_f pJ)))), by rw [ht]; exact hP9, va_K.moved hW.alike hK, hD9⟩, hS.F ht⟩) hS.2.2 d_Model_fixity_57
    · have e22 := h3
      refine lv_aload_n hx hb d_Model_fixity_25 rfl (lv_at hl 0 rfl) ?_
      refine lv_iconst (v := 1) hx hb d_Model_fixity_26 (by decide) ?_
      have hPc := hP.sub (ws' := [(a_t, .inr (1, [.int 0, .int (nI n_length), .ref a_text, .int z_bad, .int z_place, .int (nI n_at), .int (nI n_lexemes), .ref a_kind, .ref a_value, .ref a_where, .ref a_column, .ref a_leads, .int (nI n_open), .int z_highest, .ref a_row, .int (nI n_tokens), .int z_blocks, .ref a_sort, .ref a_is, .ref a_before, .ref a_behind, .ref a_partner, .ref a_done, .int (nI n_all), .ref a_kinds, .ref a_values, .int z_told, .int z_toldBlocks, .int z_toldRows, .int z_toldConflicts, .int z_toldHighest, .int (nI n_set), .ref a_names, .ref a_sides, .ref a_levels, .int (nI n_items), .int (nI n_operands), .int (nI n_waiting), .int (nI n_pairs), .int z_rows, .int z_conflicts, .ref a_from, .ref a_to, .ref a_what, .ref a_left, .ref a_right, .ref a_waits, .ref a_opens, .ref a_closes, .ref a_waitsFor]))]) [0] rfl
      have hDc := hD.sub (ws' := [(a_t, .inr (1, [.int 0, .int (nI n_length), .ref a_text, .int z_bad, .int z_place, .int (nI n_at), .int (nI n_lexemes), .ref a_kind, .ref a_value, .ref a_where, .ref a_column, .ref a_leads, .int (nI n_open), .int z_highest, .ref a_row, .int (nI n_tokens), .int z_blocks, .ref a_sort, .ref a_is, .ref a_before, .ref a_behind, .ref a_partner, .ref a_done, .int (nI n_all), .ref a_kinds, .ref a_values, .int z_told, .int z_toldBlocks, .int z_toldRows, .int z_toldConflicts, .int z_toldHighest, .int (nI n_set), .ref a_names, .ref a_sides, .ref a_levels, .int (nI n_items), .int (nI n_operands), .int (nI n_waiting), .int (nI n_pairs), .int z_rows, .int z_conflicts, .ref a_from, .ref a_to, .ref a_what, .ref a_left, .ref a_right, .ref a_waits, .ref a_opens, .ref a_closes, .ref a_waitsFor]))]) [0] (by decide) rfl
      have hKc := hK.sub (tys' := []) [] rfl
      have hFc := va_free (wc := [(a_t, .inr (1, [.int 0, .int (nI n_length), .ref a_text, .int z_bad, .int z_place, .int (nI n_at), .int (nI n_lexemes), .ref a_kind, .ref a_value, .ref a_where, .ref a_column, .ref a_leads, .int (nI n_open), .int z_highest, .ref a_row, .int (nI n_tokens), .int z_blocks, .ref a_sort, .ref a_is, .ref a_before, .ref a_behind, .ref a_partner, .ref a_done, .int (nI n_all), .ref a_kinds, .ref a_values, .int z_told, .int z_toldBlocks, .int z_toldRows, .int z_toldConflicts, .int z_toldHighest, .int (nI n_set), .ref a_names, .ref a_sides, .ref a_levels, .int (nI n_items), .int (nI n_operands), .int (nI n_waiting), .int (nI n_pairs), .int z_rows, .int z_conflicts, .ref a_from, .ref a_to, .ref a_what, .ref a_left, .ref a_right, .ref a_waits, .ref a_opens, .ref a_closes, .ref a_waitsFor]))]) hD hS hA [0] rfl
      refine va_calli (va_runV (As := [.int 1]) (rest := []) ⟨hx, hb, hml, hown, hz⟩ (s_Model_failX l dC dI H.size a_t 0 n_length a_text z_bad z_place n_at n_lexemes a_kind a_value a_where a_column a_leads n_open z_highest a_row n_tokens z_blocks a_sort a_is a_before a_behind a_partner a_done n_all a_kinds a_values z_told z_toldBlocks z_toldRows z_toldConflicts z_toldHighest n_set a_names a_sides a_levels n_items n_operands n_waiting n_pairs z_rows z_conflicts a_from a_to a_what a_left a_right a_waits a_opens a_closes a_waitsFor 1 (by first | rfl | omega | assumption) (by first | assumption | exact Or.inl rfl | exact Or.inr (Or.inl rfl) | exact Or.inr (Or.inr rfl) | exact Or.inr (by assumption)) (by first | rfl | omega | assumption) (by first | rfl | omega | assumption) (by first | rfl | omega | assumption) (by first | rfl | omega | assumption) (by first | rfl | omega | assumption) (by first | rfl | omega | assumption) (by first | rfl | omega | assumption) (by first | rfl | omega | assumption) (by first | rfl | omega | assumption) (by first | rfl | omega | assumption)) (cwV 1 hz (zV zm_657 zm_658 zm_659 zm_655 zm_660) rfl rfl rfl (by decide +kernel) ⟨Nat.le_of_ble_eq_true rfl, Nat.le_of_ble_eq_true rfl⟩) ⟨fun a U g mk q => by obtain ⟨q0, q1, qP, qK, qD⟩ := q; exact ⟨q0, q1, qP, va_K.moved (u := U) (U := U.calling g mk a) (Vm.Alike.refl U.vm) qK, qD⟩, va_recv (q := (R_Model, F_Model, 50)) (q0 := 0) (ci := 1) hK hP rfl rfl, fun U hU hW => ⟨rfl, by rw [hU], by rw [hU]; exact hPc, va_K.moved hW.alike hKc, hDc.weaken (fun _ _ _ _ => trivial)⟩⟩ rfl rfl hl.1 rfl (lv_room (Nat.le_of_ble_eq_true rfl)) d_Model_fixity_27 ⟨Nat.zero_le _, Nat.zero_le _⟩) hS (fun q _ h => hFc q h) hFc (fun r u t H1 locs ht hvm hw hB hz1 hk1 hS => ?_)
      obtain ⟨g21, hq0_27, hP1, hK1, hD1⟩ := hB
      subst g21
      subst r
      rw [ht] at hP1
      obtain ⟨hP, hD⟩ := va_join (wr := [(a_names, .inl (ka_names, 12, .inr (.inl f_names))), (a_sides, .inl (ka_sides, 12, .inl f_sides)), (a_levels, .inl (ka_levels, 12, .inl f_levels))]) (w1 := [(a_t, .inr (1, [.int (1), .int (nI n_length), .ref a_text, .int z_bad, .int z_place, .int (nI n_at), .int (nI n_lexemes), .ref a_kind, .ref a_value, .ref a_where, .ref a_column, .ref a_leads, .int (nI n_open), .int z_highest, .ref a_row, .int (nI n_tokens), .int z_blocks, .ref a_sort, .ref a_is, .ref a_before, .ref a_behind, .ref a_partner, .ref a_done, .int (nI n_all), .ref a_kinds, .ref a_values, .int z_told, .int z_toldBlocks, .int z_toldRows, .int z_toldConflicts, .int z_toldHighest, .int (nI n_set), .ref a_names, .ref a_sides, .ref a_levels, .int (nI n_items), .int (nI n_operands), .int (nI n_waiting), .int (nI n_pairs), .int z_rows, .int z_conflicts, .ref a_from, .ref a_to, .ref a_what, .ref a_left, .ref a_right, .ref a_waits, .ref a_opens, .ref a_closes, .ref a_waitsFor]))]) hP hD [0] [1, 2, 3] rfl rfl (by decide) (by decide) hk1 hFc hP1 hD1
      generalize H1 = H at hP hS ⊢
      have hP : va_P (dC, dI) vcl [(a_names, .inl (ka_names, 12, .inr (.inl f_names))), (a_sides, .inl (ka_sides, 12, .inl f_sides)), (a_levels, .inl (ka_levels, 12, .inl f_levels)), (a_t, .inr (1, [.int (1), .int (nI n_length), .ref a_text, .int z_bad, .int z_place, .int (nI n_at), .int (nI n_lexemes), .ref a_kind, .ref a_value, .ref a_where, .ref a_column, .ref a_leads, .int (nI n_open), .int z_highest, .ref a_row, .int (nI n_tokens), .int z_blocks, .ref a_sort, .ref a_is, .ref a_before, .ref a_behind, .ref a_partner, .ref a_done, .int (nI n_all), .ref a_kinds, .ref a_values, .int z_told, .int z_toldBlocks, .int z_toldRows, .int z_toldConflicts, .int z_toldHighest, .int (nI n_set), .ref a_names, .ref a_sides, .ref a_levels, .int (nI n_items), .int (nI n_operands), .int (nI n_waiting), .int (nI n_pairs), .int z_rows, .int z_conflicts, .ref a_from, .ref a_to, .ref a_what, .ref a_left, .ref a_right, .ref a_waits, .ref a_opens, .ref a_closes, .ref a_waitsFor]))] H := hP
      have hD : va_D A [(a_names, .inl (ka_names, 12, .inr (.inl f_names))), (a_sides, .inl (ka_sides, 12, .inl f_sides)), (a_levels, .inl (ka_levels, 12, .inl f_levels)), (a_t, .inr (1, [.int (1), .int (nI n_length), .ref a_text, .int z_bad, .int z_place, .int (nI n_at), .int (nI n_lexemes), .ref a_kind, .ref a_value, .ref a_where, .ref a_column, .ref a_leads, .int (nI n_open), .int z_highest, .ref a_row, .int (nI n_tokens), .int z_blocks, .ref a_sort, .ref a_is, .ref a_before, .ref a_behind, .ref a_partner, .ref a_done, .int (nI n_all), .ref a_kinds, .ref a_values, .int z_told, .int z_toldBlocks, .int z_toldRows, .int z_toldConflicts, .int z_toldHighest, .int (nI n_set), .ref a_names, .ref a_sides, .ref a_levels, .int (nI n_items), .int (nI n_operands), .int (nI n_waiting), .int (nI n_pairs), .int z_rows, .int z_conflicts, .ref a_from, .ref a_to, .ref a_what, .ref a_left, .ref a_right, .ref a_waits, .ref a_opens, .ref a_closes, .ref a_waitsFor]))] := hD
      have hP9 := hP.sub (ws' := [(a_t, .inr (1, [.int (1), .int (nI n_length), .ref a_text, .int z_bad, .int z_place, .int (nI n_at), .int (nI n_lexemes), .ref a_kind, .ref a_value, .ref a_where, .ref a_column, .ref a_leads, .int (nI n_open), .int z_highest, .ref a_row, .int (nI n_tokens), .int z_blocks, .ref a_sort, .ref a_is, .ref a_before, .ref a_behind, .ref a_partner, .ref a_done, .int (nI n_all), .ref a_kinds, .ref a_values, .int z_told, .int z_toldBlocks, .int z_toldRows, .int z_toldConflicts, .int z_toldHighest, .int (nI n_set), .ref a_names, .ref a_sides, .ref a_levels, .int (nI n_items), .int (nI n_operands), .int (nI n_waiting), .int (nI n_pairs), .int z_rows, .int z_conflicts, .ref a_from, .ref a_to, .ref a_what, .ref a_left, .ref a_right, .ref a_waits, .ref a_opens, .ref a_closes, .ref a_waitsFor])), (a_names, .inl (ka_names, 12, .inr (.inl f_names))), (a_sides, .inl (ka_sides, 12, .inl f_sides)), (a_levels, .inl (ka_levels, 12, .inl f_levels))]) [3, 0, 1, 2] rfl
      have hD9 := hD.sub (ws' := [(a_t, .inr (1, [.int (1), .int (nI n_length), .ref a_text, .int z_bad, .int z_place, .int (nI n_at), .int (nI n_lexemes), .ref a_kind, .ref a_value, .ref a_where, .ref a_column, .ref a_leads, .int (nI n_open), .int z_highest, .ref a_row, .int (nI n_tokens), .int z_blocks, .ref a_sort, .ref a_is, .ref a_before, .ref a_behind, .ref a_partner, .ref a_done, .int (nI n_all), .ref a_kinds, .ref a_values, .int z_told, .int z_toldBlocks, .int z_toldRows, .int z_toldConflicts, .int z_toldHighest, .int (nI n_set), .ref a_names, .ref a_sides, .ref a_levels, .int (nI n_items), .int (nI n_operands), .int (nI n_waiting), .int (nI n_pairs), .int z_rows, .int z_conflicts, .ref a_from, .ref a_to, .ref a_what, .ref a_left, .ref a_right, .ref a_waits, .ref a_opens, .ref a_closes, .ref a_waitsFor])), (a_names, .inl (ka_names, 12, .inr (.inl f_names))), (a_sides, .inl (ka_sides, 12, .inl f_sides)), (a_levels, .inl (ka_levels, 12, .inl f_levels))]) [3, 0, 1, 2] (by decide) rfl
      exact W.iret (v := 0) hx hb hr (fun t ht hW => ⟨⟨0, (), rfl, trivial, ((1)), n_set, f_names, f_sides, f_levels, by first | rfl | omega | assumption, by exact fj_0 (fk_2 e22), by (intro v9; exact fh_0 (fk_2 e22)), by (intro v9; exact fp_0 (fk_2 e22)), by (intro v9; exact fp_0 (fk_2 e22)), by rw [ht]; exact hP9, va_K.moved hW.alike hK, hD9⟩, hS.F ht⟩) hS.2.2 d_Model_fixity_30
/-! reading: what is laid, and that it was found right -/
section RWU
variable {kd : Nat → Int32} {vl : Nat → Int64} {wh col ld c : Nat → Int32} {n m len : Nat} {L : List Lx}
theorem rp_wh : ∀ L : List Lx, Rp kd vl wh col ld L → ∀ j, j < L.length → ¬ wh j = -1
  | [], _, j, hj => absurd hj (Nat.not_lt_zero _)
  | x :: L, ⟨_, _, ⟨h3, h3'⟩, _, _, h6⟩, j, hj => by
    rw [List.length_cons] at hj
    by_cases e : j = L.length
    · rw [e, h3]; exact nI_n1 (by omega)
    · exact rp_wh L h6 j (by omega)
theorem lf_np (hw : ∀ j, j < n → ¬ wh j = -1) : ∀ (f i : Nat) (s : Ly) (b p : Int32), lyF kd vl wh col ld n f i s b = .inl p → ¬ p = -1
  | 0, i, s, b, p, e => by rw [lyF] at e; cases e
  | f + 1, i, s, b, p, e => by
    rw [lyF] at e
    by_cases a : i < n
    · rw [if_pos a] at e
      cases q : lyT kd vl i (lyB kd vl col ld n i s) with
      | none =>
        rw [q] at e
        have e' : (Sum.inl (wh i) : Lz) = Sum.inl p := e
        have e2 : wh i = p := Sum.inl.inj e'
        rw [← e2]; exact hw i a
      | some u =>
        rw [q] at e
        exact lf_np hw f (i + 1) _ _ p e
    · rw [if_neg a] at e; cases e
theorem ly_np (hw : ∀ j, j < n → ¬ wh j = -1) (hl : len ≤ 600) : ∀ p, lyR kd vl wh col ld n len = .inl p → ¬ p = -1 := by
  intro p e
  unfold lyR lyE at e
  cases q : lyF kd vl wh col ld n (n - 0) 0 ([], [], 0) 0 with
  | inl z =>
    rw [q] at e
    have e' : (Sum.inl z : Lr) = Sum.inl p := e
    rw [← Sum.inl.inj e']; exact lf_np hw _ _ _ _ _ q
  | inr z =>
    obtain ⟨t, b⟩ := z
    rw [q] at e
    have e' : lyW len (lyB kd vl col ld n n t) (lyG kd vl n n b) = .inl p := e
    unfold lyW at e'
    cases w : lvL true (lyB kd vl col ld n n t).1 (lyB kd vl col ld n n t).2.1 with
    | mk S O =>
      rw [w] at e'
      cases S with
      | nil => cases e'
      | cons a S =>
        have e2 : (Sum.inl (nI len) : Lr) = Sum.inl p := e'
        rw [← Sum.inl.inj e2]; exact nI_n1 (by omega)
theorem lr_some {X : Lr} (h : lrO X = -1) (hp : ∀ p, X = .inl p → ¬ p = -1) : ∃ r, X = .inr r := by
  cases X with
  | inl p => exact absurd h (hp p rfl)
  | inr r => exact ⟨r, rfl⟩
theorem rx_e (h : cuE c n 0 [] = (none, L)) (hR : Rp kd vl wh col ld L) (hm : m = L.length) : lyR kd vl wh col ld m n = rdX c n := by
  have h2 : (cuE c n 0 []).2 = L := by rw [h]
  exact rd_x (by rw [h]) (by rw [h2]; exact hR) (by rw [h2]; exact hm)
theorem rx_1 {p : Nat} (h : cuE c n 0 [] = (some p, L)) : rdX c n = .inl (nI p) := by
  unfold rdX; rw [h]
theorem rx_w (h : ¬ wpO (cuE c n 0 []) = -1) : ∀ r, ¬ rdX c n = .inr r := by
  intro r e
  unfold rdX at e
  unfold wpO at h
  cases hx : (cuE c n 0 []).1 with
  | none => rw [hx] at h; exact h rfl
  | some p => rw [hx] at e; cases e
theorem rx_l {X : Lr} (h : ¬ lrO X = -1) : ∀ r, ¬ X = .inr r := fun r e => h (by rw [e]; rfl)
theorem rx_c {z : Int32} (h : z = 1) (h2 : z ≤ 0) : False := by rw [h] at h2; exact absurd h2 (by decide)
theorem rx_d {z : Int32} (h : z = 0) (h2 : ¬ z ≤ 0) : False := by rw [h] at h2; exact absurd (by decide) h2
end RWU
/-! what is counted depends on the tokens alone -/
section RWV
variable {s s' : Nat → Int32} {v v' : Nat → Int64} {P P' : Nat → Int32} {n n' k : Nat} {F G : Int64 → Int32}
def SV (s s' : Nat → Int32) (v v' : Nat → Int64) (n : Nat) : Prop := ∀ x, x < n → s x = s' x ∧ v x = v' x
theorem tks_inj : ∀ n n', tks s v n = tks s' v' n' → n = n' ∧ SV s s' v v' n
  | 0, 0, _ => ⟨rfl, fun x h => absurd h (Nat.not_lt_zero _)⟩
  | 0, n' + 1, h => by rw [tks, tks] at h; cases h
  | n + 1, 0, h => by rw [tks, tks] at h; cases h
  | n + 1, n' + 1, h => by
    rw [tks, tks] at h
    have h1 := List.cons.inj h
    obtain ⟨e, i⟩ := tks_inj n n' h1.2
    subst e
    refine ⟨rfl, fun x hx => ?_⟩
    by_cases q : x = n
    · rw [q]; exact ⟨congrArg Prod.fst h1.1, congrArg Prod.snd h1.1⟩
    · exact i x (by omega)
theorem sk_cg (h : SV s s' v v' n) : ∀ k, k ≤ n → sk s v k = sk s' v' k
  | 0, _ => rfl
  | k + 1, hk => by
    rw [sk, sk, sk_cg h k (by omega), (h k (by omega)).1, (h k (by omega)).2]
theorem dep_cg (h : SV s s' v v' n) : ∀ k, k ≤ n → dep s v k = dep s' v' k
  | 0, _ => rfl
  | k + 1, hk => by
    rw [dep, dep, dep_cg h k (by omega), (h k (by omega)).1, (h k (by omega)).2]
theorem pn_P (hb : bl7 s v n) (h : SV s s' v v' n) (hP : PN s v P n) (hP' : PN s' v' P' n) (hk : k < n) (ho : opn (s k) (v k) = true) : P k = P' k := by
  obtain ⟨p, p1, p2, p3, p4, -⟩ := grp hb hk ho
  have e1 := hP p k p2 p3 (by rw [p4]; rfl)
  have e2 := hP' p k p2 (by rw [← (h p p2).1, ← (h p p2).2]; exact p3) (by rw [← sk_cg h p (by omega), p4]; rfl)
  rw [e1, e2]
theorem nm_cg (h : SV s s' v v' n) : nmB wdB s v n k = nmB wdB s' v' n k := by
  unfold nmB
  by_cases q : k < n
  · rw [(h k q).1, (h k q).2]
  · rw [decide_eq_false q]; rfl
theorem tk_cg (h : SV s s' v v' n) : tkB s v n k = tkB s' v' n k := by
  unfold tkB
  by_cases q : k < n
  · rw [(h k q).1, (h k q).2]
  · rw [decide_eq_false q]; rfl
theorem t3_cg (h : SV s s' v v' n) : t3 s v n k = t3 s' v' n k := by
  unfold t3; rw [tk_cg h, nm_cg h, tk_cg h]
theorem cv_cg (h : SV s s' v v' n) : ∀ k, cv s v n k = cv s' v' n k
  | 0 => rfl
  | k + 1 => by rw [cv, cv, cv_cg h k, t3_cg h]
/-- two ways to hold the same tokens and partners -/
def CG (s s' : Nat → Int32) (v v' : Nat → Int64) (P P' : Nat → Int32) (n : Nat) : Prop := bl7 s v n ∧ n ≤ 600 ∧ SV s s' v v' n ∧ PN s v P n ∧ PN s' v' P' n
theorem CG.b (c : CG s s' v v' P P' n) : bl7 s v n := c.1
theorem CG.le (c : CG s s' v v' P P' n) : n ≤ 600 := c.2.1
theorem CG.h (c : CG s s' v v' P P' n) : SV s s' v v' n := c.2.2.1
theorem CG.p (c : CG s s' v v' P P' n) : PN s v P n := c.2.2.2.1
theorem CG.p' (c : CG s s' v v' P P' n) : PN s' v' P' n := c.2.2.2.2
theorem e7_cg (c : CG s s' v v' P P' n) : e7 s v P n k = e7 s' v' P' n k := by
  unfold e7 exN
  by_cases q : n ≤ k
  · rw [if_pos q, if_pos q]
  · have hk : k < n := by omega
    rw [if_neg q, if_neg q, nm_cg c.h, nm_cg c.h, tk_cg c.h, tk_cg c.h, ← (c.h k hk).1, ← (c.h k hk).2]
    by_cases o : opn (s k) (v k) = true
    · rw [pn_P c.b c.h c.p c.p' hk o]
    · rw [if_neg o, if_neg o]
theorem lk_cg (c : CG s s' v v' P P' n) (hk : k ≤ n) : lk7 s v P n k = lk7 s' v' P' n k := by
  unfold lk7
  by_cases q : 1 ≤ k
  · rw [(c.h (k - 1) (by omega)).1, (c.h (k - 1) (by omega)).2, cv_cg c.h, e7_cg c]
  · rw [decide_eq_false q]; rfl
theorem st_cg (c : CG s s' v v' P P' n) (hk : k ≤ n) : st7 s v P n k = st7 s' v' P' n k := by
  unfold st7; rw [cv_cg c.h, e7_cg c, lk_cg c hk]
theorem op_cg (h : SV s s' v v' n) (hk : k < n) : opB s v n k = opB s' v' n k := by
  unfold opB; rw [(h k hk).1, tk_cg h]
theorem rb_cg (c : CG s s' v v' P P' n) (hk : k < n) {r : Rb} : rbN s v P n k r = rbN s' v' P' n k r := by
  unfold rbN; rw [op_cg c.h hk, e7_cg c, (c.h k hk).2]
theorem ch_cg (c : CG s s' v v' P P' n) : ∀ (f k : Nat) (r : Rb), ch7 s v P n f k r = ch7 s' v' P' n f k r
  | 0, _, _ => rfl
  | f + 1, k, r => by
    rw [ch7, ch7]
    by_cases z : 0 < e7 s v P n k
    · have hk := e7_lt z
      rw [if_pos z, if_pos (by rw [← e7_cg c]; exact z), rb_cg c hk, e7_cg c]
      exact ch_cg c f _ _
    · rw [if_neg z, if_neg (by rw [← e7_cg c]; exact z)]
theorem rw_cg (c : CG s s' v v' P P' n) : rw7 s v P n k = rw7 s' v' P' n k := by
  unfold rw7 chE; rw [ch_cg c]
/-- the names -/
def NE (v v' : Nat → Int64) (L : List It) : Prop := ∀ i, i ∈ L → ¬ i.2.2 = 0 → nm7 v i.1 i.2.1 = nm7 v' i.1 i.2.1
theorem ne_k (c : CG s s' v v' P P' n) (he : 0 < e7 s v P n k) (ho : opB s v n k = true) : nm7 v (nI k) (nI (k + e7 s v P n k - 1)) = nm7 v' (nI k) (nI (k + e7 s v P n k - 1)) := by
  have hk := e7_lt he
  have le := c.le
  have hT := pn_pt c.b c.le c.p
  unfold nm7
  unfold opB at ho
  rcases Bool.or_eq_true_iff.mp ho with z | z
  · have s2 : s k = 2 := by simpa using z
    have e1 : e7 s v P n k = 1 := by
      obtain ⟨-, c1 | c2 | c3⟩ := exN_cases c.le hT he
      · exact c1.1
      · have := (br_no (Or.inl c2.1)).1; rw [s2] at this; exact absurd this (by decide)
      · have := c3.2.2.1; rw [s2] at this; exact absurd this (by decide)
    rw [e1, show k + 1 - 1 = k by omega, if_pos rfl, if_pos rfl, nI_clamp (by omega), (c.h k hk).2]
  · have w := tkB_s z
    obtain ⟨t, e3⟩ := ex_t3 w.1 w.2 he
    have n1 : k + 1 < n := by
      simp only [t3, Bool.and_eq_true, nmB, decide_eq_true_eq] at t; exact t.2.1.1
    have ne : ¬ nI k = nI (k + 3 - 1) := fun q => by have := (nI_eq (a := k) (b := k + 3 - 1) (by omega) (by omega)).mp q; omega
    rw [e3, if_neg ne, if_neg ne, nI_1 k, nI_clamp (by omega), (c.h (k + 1) n1).2]
theorem ne_A {a b : Int32} {r : Rb} (h : NE v v' r.1) : NE v v' (rbA a b r).1 := by
  have ps : NE v v' ((a, b, 0) :: r.1) := fun i hi => by
    rcases List.mem_cons.mp hi with e | e
    · rw [e]; exact fun z => absurd rfl z
    · exact h i e
  unfold rbA
  cases hr : r.1 with
  | nil => rw [hr] at ps; exact ps
  | cons x L =>
    rw [hr] at ps h
    show NE v v' (if x.2.2 = 0 then ((x.1, b, x.2.2) :: L, r.2) else ((a, b, 0) :: x :: L, r.2)).1
    by_cases z : x.2.2 = 0
    · rw [if_pos z]
      intro i hi
      rcases List.mem_cons.mp hi with e | e
      · rw [e]; exact fun w => absurd z w
      · exact h i (List.mem_cons_of_mem _ e)
    · rw [if_neg z]; exact ps
theorem ne_N (c : CG s s' v v' P P' n) (he : 0 < e7 s v P n k) {r : Rb} (h : NE v v' r.1) : NE v v' (rbN s v P n k r).1 := by
  unfold rbN
  by_cases ho : opB s v n k = true
  · rw [if_pos ho]
    intro i hi
    rcases List.mem_cons.mp hi with e | e
    · rw [e]; exact fun _ => ne_k c he ho
    · exact h i e
  · rw [if_neg ho]; exact ne_A h
theorem ne_ch (c : CG s s' v v' P P' n) : ∀ (f k : Nat) (r : Rb), NE v v' r.1 → NE v v' (ch7 s v P n f k r).2.1
  | 0, _, _, h => h
  | f + 1, k, r, h => by
    rw [ch7]
    by_cases z : 0 < e7 s v P n k
    · rw [if_pos z]; exact ne_ch c f _ _ (ne_N c z h)
    · rw [if_neg z]; exact h
theorem rs_cg {B : List Sp} : ∀ L : List It, NE v v' L → rs7 v F G B L = rs7 v' F G B L
  | [], _ => rfl
  | i :: L, h => by
    rw [rs7, rs7, rs_cg L (fun j hj => h j (List.mem_cons_of_mem _ hj))]
    cases rs7 v' F G B L with
    | none => rfl
    | some x =>
      show tI7 v F G i x = tI7 v' F G i x
      unfold tI7
      by_cases z : i.2.2 = 1
      · rw [if_pos z, if_pos z, h i List.mem_cons_self (by rw [z]; decide)]
      · rw [if_neg z, if_neg z]
theorem rk_cg (c : CG s s' v v' P P' n) : rk7 s v P n F G k = rk7 s' v' P' n F G k := by
  have hN : NE v v' (rw7 s v P n k).1 := ne_ch c _ _ _ (fun i hi => absurd hi List.not_mem_nil)
  show rr7 v F G (rw7 s v P n k) = rr7 v' F G (rw7 s' v' P' n k)
  rw [← rw_cg c]
  unfold rr7
  rw [rs_cg _ hN]
theorem gs_cg (c : CG s s' v v' P P' n) {f g : Nat → Nat} (e : ∀ x, f x = g x) : sm (gS7 s v P n f) n = sm (gS7 s' v' P' n g) n := sm_eq n (fun x hx => by
  unfold gS7; rw [st_cg c (by omega), e])
theorem ct_R (c : CG s s' v v' P P' n) : sm (gS7 s v P n (fR s v P n F G)) n = sm (gS7 s' v' P' n (fR s' v' P' n F G)) n := gs_cg c (fun x => by unfold fR; rw [rk_cg c])
theorem ct_C (c : CG s s' v v' P P' n) : sm (gS7 s v P n (fC s v P n F G)) n = sm (gS7 s' v' P' n (fC s' v' P' n F G)) n := gs_cg c (fun x => by unfold fC; rw [rk_cg c])
theorem ct_F (c : CG s s' v v' P P' n) {y : Nat} : sm (gS7 s v P n (fF s v P n F G y)) n = sm (gS7 s' v' P' n (fF s' v' P' n F G y)) n := gs_cg c (fun x => by unfold fF; rw [rk_cg c])
theorem ct_B (c : CG s s' v v' P P' n) {y : Nat} : sm (gS7 s v P n (fB s v P n F G y)) n = sm (gS7 s' v' P' n (fB s' v' P' n F G y)) n := gs_cg c (fun x => by unfold fB; rw [rk_cg c])
/-- what both reads tell of a text -/
def TLD (r : List Tk × Int32 × Int32) (F G : Int64 → Int32) (a b : Int32) : Prop := ∃ (s : Nat → Int32) (v : Nat → Int64) (P : Nat → Int32) (n : Nat), tks s v n = r.1 ∧ bl7 s v n ∧ n ≤ 460 ∧ PN s v P n ∧ a = nI (sm (gS7 s v P n (fR s v P n F G)) n) ∧ b = nI (sm (gS7 s v P n (fC s v P n F G)) n)
theorem tld_eq {r : List Tk × Int32 × Int32} {F' G' : Int64 → Int32} {a b a' b' : Int32} (h : TLD r F G a b) (h' : TLD r F' G' a' b') (hF : ∀ z, F z = F' z) (hG : ∀ z, G z = G' z) : a = a' ∧ b = b' := by
  obtain ⟨s, v, P, n, h1, h2, h3, h4, h5, h6⟩ := h
  obtain ⟨s', v', P', n', k1, k2, k3, k4, k5, k6⟩ := h'
  have eF : F = F' := funext hF
  have eG : G = G' := funext hG
  subst eF; subst eG
  obtain ⟨e, i⟩ := tks_inj n n' (h1.trans k1.symm)
  subst e
  have c : CG s s' v v' P P' n := ⟨h2, by omega, i, h4, k4⟩
  exact ⟨by rw [h5, k5, ct_R c], by rw [h6, k6, ct_C c]⟩
end RWV
/-! both sides show the same tokens -/
section RZB
variable {s s' : Nat → Int32} {v v' : Nat → Int64} {P P' : Nat → Int32} {n n' m m' k l : Nat} {F G F' G' : Int64 → Int32} {r : List Tk × Int32 × Int32} {kd kd' : Nat → Int32} {vl vl' : Nat → Int64} {Q : List Sp}
theorem zt_tks : ∀ n, zt s v n = tks s v n
  | 0 => rfl
  | n + 1 => by rw [zt, tks, zt_tks n]
theorem zt_inj (h : zt s v n = zt s' v' n') : n = n' ∧ SV s s' v v' n := tks_inj n n' (by rw [← zt_tks, ← zt_tks]; exact h)
abbrev SFx (s : Nat → Int32) (v : Nat → Int64) (P : Nat → Int32) (n : Nat) (F G : Int64 → Int32) (x : Nat) : Nat := sm (gS7 s v P n (fF s v P n F G x)) n
abbrev SBx (s : Nat → Int32) (v : Nat → Int64) (P : Nat → Int32) (n : Nat) (F G : Int64 → Int32) (x : Nat) : Nat := sm (gS7 s v P n (fB s v P n F G x)) n
def TK8 (r : List Tk × Int32 × Int32) (F G : Int64 → Int32) (kd : Nat → Int32) (vl : Nat → Int64) (m : Nat) : Prop := ∃ (s : Nat → Int32) (v : Nat → Int64) (P : Nat → Int32) (n : Nat), tks s v n = r.1 ∧ bl7 s v n ∧ n ≤ 460 ∧ PN s v P n ∧ (∀ x, SFx s v P n F G x ≤ 90 ∧ SBx s v P n F G x ≤ 90) ∧ zt kd vl m = cpG s v (fun x => SFx s v P n F G x) (fun x => SBx s v P n F G x) 5 n
def TM8 (r : List Tk × Int32 × Int32) (F G : Int64 → Int32) (kd : Nat → Int32) (vl : Nat → Int64) (m : Nat) : Prop := ∃ (s : Nat → Int32) (v : Nat → Int64) (P : Nat → Int32) (n : Nat), tks s v n = r.1 ∧ bl7 s v n ∧ n ≤ 460 ∧ PN s v P n ∧ zt kd vl m = cpG s v (fun x => (nI (SFx s v P n F G x)).toNatClampNeg) (fun x => (nI (SBx s v P n F G x)).toNatClampNeg) 5 n
theorem tk8_of (h1 : tks s v n = r.1) (h2 : bl7 s v n) (h3 : n ≤ 460) (h4 : PN s v P n) (hL : zt kd vl m = cpL s v Q 5 n) (hQ : Q.length ≤ 90) (hF : ∀ x9, cF x9 Q = SFx s v P n F G x9) (hB : ∀ x9, cB x9 Q = SBx s v P n F G x9) : TK8 r F G kd vl m := by
  refine ⟨s, v, P, n, h1, h2, h3, h4, fun x => ⟨?_, ?_⟩, ?_⟩
  · rw [← hF]; exact Nat.le_trans (cF_le Q) hQ
  · rw [← hB]; exact Nat.le_trans (cB_le Q) hQ
  · rw [hL, cp_G]
    exact cp_cg n (fun x _ => ⟨rfl, rfl, hF x, hB x⟩)
theorem tm8_of {b h : Nat → Int32} (h1 : tks s v n = r.1) (h2 : bl7 s v n) (h3 : n ≤ 460) (h4 : PN s v P n) (hL : zt kd vl m = cpG s v (fun x9 => (b x9).toNatClampNeg) (fun x9 => (h x9).toNatClampNeg) 5 n) (hF : ∀ x9, x9 < n → b x9 = nI (SFx s v P n F G x9)) (hB : ∀ x9, x9 < n → h x9 = nI (SBx s v P n F G x9)) : TM8 r F G kd vl m := by
  refine ⟨s, v, P, n, h1, h2, h3, h4, ?_⟩
  rw [hL]
  exact cp_cg n (fun x hx => ⟨rfl, rfl, congrArg Int32.toNatClampNeg (hF x hx), congrArg Int32.toNatClampNeg (hB x hx)⟩)
theorem tk8_eq (h : TK8 r F G kd vl m) (h' : TM8 r F' G' kd' vl' m') (hF : ∀ z, F z = F' z) (hG : ∀ z, G z = G' z) : m = m' ∧ SV kd kd' vl vl' m := by
  obtain ⟨s, v, P, n, h1, h2, h3, h4, h5, h6⟩ := h
  obtain ⟨s', v', P', n', k1, k2, k3, k4, k5⟩ := h'
  have eF : F = F' := funext hF
  have eG : G = G' := funext hG
  subst eF; subst eG
  obtain ⟨e, i⟩ := tks_inj n n' (h1.trans k1.symm)
  subst e
  have c : CG s s' v v' P P' n := ⟨h2, by omega, i, h4, k4⟩
  refine zt_inj (h6.trans (Eq.trans ?_ k5.symm))
  refine cp_cg n (fun x hx => ⟨(i x hx).1, (i x hx).2, ?_, ?_⟩)
  · show SFx s v P n F G x = (nI (SFx s' v' P' n F G x)).toNatClampNeg
    rw [show SFx s' v' P' n F G x = SFx s v P n F G x from (ct_F c).symm, nI_clamp (by have := (h5 x).1; omega)]
  · show SBx s v P n F G x = (nI (SBx s' v' P' n F G x)).toNatClampNeg
    rw [show SBx s' v' P' n F G x = SBx s v P n F G x from (ct_B c).symm, nI_clamp (by have := (h5 x).2; omega)]
/-! the reference's copying -/
variable {A B : Nat → Nat} {f : Int32}
theorem cg_st {k0 k1 k2 k3 : Nat → Int32} {v0 v1 v2 v3 : Nat → Int64} {n0 n1 n2 n3 : Nat} (h0 : zt k0 v0 n0 = cpG s v A B f l) (h1 : zt k1 v1 n1 = List.replicate (A l) (f, 40) ++ zt k0 v0 n0) (h2 : zt k2 v2 n2 = (s l, v l) :: zt k1 v1 n1) (h3 : zt k3 v3 n3 = List.replicate (B l) (f, 41) ++ zt k2 v2 n2) : zt k3 v3 n3 = cpG s v A B f (l + 1) := by
  rw [h3, h2, h1, h0, cpG]
theorem cl_le9 {y : Int32} {k : Nat} (hk : k ≤ 2147483647) (h : y ≤ nI k) : y.toNatClampNeg ≤ k := by
  have e : y.toNatClampNeg = y.toInt.toNat := rfl
  have h1 := Int32.le_iff_toInt_le.mp h
  rw [nI_toInt (by omega)] at h1
  omega
end RZB
/-! kind and token -/
section RZC
variable {n : Nat} {y : Int32} {f : Nat → Int32}
def kaI (f : Nat → Int32) (n : Nat) (y : Int32) : Int32 := if hsI n y = 0 then -1 else f y.toNatClampNeg
theorem ka_0 (h : hsI n y = 0) : -1 = kaI f n y := (if_pos h).symm
theorem ka_1 {x : Int32} (h : ¬ hsI n y = 0) (e : x = f y.toNatClampNeg) : x = kaI f n y := e.trans (if_neg h).symm
theorem ka_y (h : ¬ hsI n y = 0) : kaI f n y = f y.toNatClampNeg := if_neg h
theorem va_y {g : Nat → Int64} (h : ¬ hsI n y = 0) : vaI g n y = g y.toNatClampNeg := if_neg h
theorem has_any : ¬ hsI n y = 0 ∨ hsI n y = 0 := (Classical.em (hsI n y = 0)).symm
theorem wi_hs (hn : n ≤ 900) : wi y 0 (nI n - 1) = hsI n y := by
  unfold wi hsI
  by_cases h1 : y < 0
  · rw [if_pos h1, if_pos h1]
  · rw [if_neg h1, if_neg h1]
    have a := Int32.le_iff_toInt_le.mp (Int32.not_lt.mp h1)
    have g0 : (0 : Int32).toInt = 0 := by decide
    have e1 : (nI n - 1).toInt = (n : Int) - 1 := by
      rw [Int32.toInt_sub, nI_toInt (by omega), show (1 : Int32).toInt = 1 by decide]
      exact Int.bmod_eq_of_le (by omega) (by omega)
    have iff1 : (nI n - 1 < y) ↔ (nI n ≤ y) := by
      rw [Int32.lt_iff_toInt_lt, Int32.le_iff_toInt_le, e1, nI_toInt (by omega)]
      omega
    by_cases h2 : nI n ≤ y
    · rw [if_pos h2, if_pos (iff1.mpr h2)]
    · rw [if_neg h2, if_neg (fun q => h2 (iff1.mp q))]
theorem hs_lt (hn : n ≤ 900) (h : ¬ hsI n y = 0) : y.toNatClampNeg < n := by
  unfold hsI at h
  by_cases h1 : y < 0
  · rw [if_pos h1] at h; exact absurd rfl h
  · rw [if_neg h1] at h
    by_cases h2 : nI n ≤ y
    · rw [if_pos h2] at h; exact absurd rfl h
    · have a := Int32.le_iff_toInt_le.mp (Int32.not_lt.mp h1)
      have c := Int32.lt_iff_toInt_lt.mp (Int32.not_le.mp h2)
      have g0 : (0 : Int32).toInt = 0 := by decide
      rw [nI_toInt (by omega)] at c
      have e : y.toNatClampNeg = y.toInt.toNat := rfl
      omega
/-- read, on both sides -/
theorem rt_both {X X' : Lr} {kd kd' : Nat → Int32} {vl vl' : Nat → Int64} {m m' : Nat} {F G F' G' : Int64 → Int32} {Z Z' : Prop} (q1 : ∀ p9, X = .inl p9 → m = 0) (q2 : ∀ r9, X = .inr r9 → TK8 r9 F G kd vl m) (m1 : ∀ p9, X' = .inl p9 → m' = 0) (m2 : ∀ r9, X' = .inr r9 → TM8 r9 F' G' kd' vl' m') (eX : X = X') (hF : ∀ z, F z = F' z) (hG : ∀ z, G z = G' z) : m' = m ∧ ∀ j, j < m → kd j = kd' j ∧ vl j = vl' j := by
  subst eX
  cases X with
  | inl p =>
    have a := q1 p rfl
    have b := m1 p rfl
    exact ⟨by omega, fun j hj => absurd hj (by omega)⟩
  | inr r =>
    obtain ⟨e, i⟩ := tk8_eq (q2 r rfl) (m2 r rfl) hF hG
    exact ⟨e.symm, i⟩
end RZC
