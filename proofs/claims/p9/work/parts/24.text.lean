set_option maxHeartbeats 4000000 in
set_option maxRecDepth 100000 in
theorem s_Text_byteOf (l : Launch) (dC : Nat → ClassId) (dI : Nat → Nat → Nat) (sz : Nat) (y0 : Int64) (y1 : Int32) : Met l y_Text_byteOf w_Text_byteOf ({ frames := 0, cells := 0, slots := 0, locals := 0 }) (va_Pc [.long y0, .int y1] (fun U => U.heap.size = sz ∧ va_P (dC, dI) vcl [] U.heap ∧ va_K (dC, dI) vcl [] U ∧ va_D (fun _ => True) [])) (va_Qi (fun (r : Int32) (_ : Unit) => True) (fun _ t => va_P (dC, dI) vcl [] t.heap ∧ va_K (dC, dI) vcl [] t ∧ va_D (va_A [] sz) []) (va_A [] sz)) 0 0 (va_A [] sz) := by
  refine Met.ofW (cc := b_Text_byteOf) (maxL := 3) (ret := (some .int)) (by decide) rfl ?_
  intro p e s m args below meth c s₁ B hml hv
  obtain ⟨rfl, hsz, hP, hK, hD0⟩ := hv
  have hx := B.exec
  have hb := B.bytes
  have hr := B.returns
  have hts := atoms_spec (ws := w_Text_byteOf) B.pre
  have hz : ∀ w ∈ wz, w.before _ s = true := fun w h => hts w (List.mem_cons_of_mem _ h)
  have hown : s.vm.findClass R_Text = some m.cls := findClass_of_methodNamed B.named
  have hlocks := B.notSynchronized
  subst hsz
  have hD := hD0.self (sz := s.heap.size)
  generalize hAe : va_A [] s.heap.size = A at hD ⊢
  have hA : ∀ q : Nat, s.heap.size ≤ q → A q := fun q h => by rw [← hAe]; exact Or.inr h
  have hS : va_S A s.heap s.heap [] := va_S.rf
  have hP : va_P (dC, dI) vcl [] s.heap := hP
  have hl := lv_entry ([.long y0, .int y1]) (n := 3) (Nat.le_of_ble_eq_true rfl)
  rw [lg_entry_eq]
  generalize (lg_sl ([.long y0, .int y1]) ++ List.replicate (3 - (lg_sl ([.long y0, .int y1])).length) Slot.unset).toArray = ls at hl ⊢
  have hl : lv_has ls 3 [(0, .long y0), (2, .int y1)] := hl
  refine lv_lload_n hx hb d_Text_byteOf_0 rfl (lv_at hl 0 rfl) ?_
  refine lv_bipush (v := 8) hx hb d_Text_byteOf_1 (by decide) ?_
  refine lv_iload_n hx hb d_Text_byteOf_3 rfl (lv_at hl 1 rfl) ?_
  refine lv_imul hx hb d_Text_byteOf_4 ?_
  refine lv_topi (fun x1 _ => ?_)
  refine lv_lushr (v := _) hx hb d_Text_byteOf_5 rfl ?_
  refine lv_topl (fun x2 _ => ?_)
  refine lv_l2i (v := _) hx hb d_Text_byteOf_6 rfl ?_
  refine lv_topi (fun x3 _ => ?_)
  refine lv_sipush (v := 255) hx hb d_Text_byteOf_7 (by decide) ?_
  refine lv_iand hx hb d_Text_byteOf_10 ?_
  refine lv_topi (fun x4 _ => ?_)
  have hP9 := hP.sub (ws' := []) [] rfl
  have hD9 := hD.sub (ws' := []) [] (by decide) rfl
  exact W.iret (v := x4) hx hb hr (fun t ht hW => ⟨⟨x4, (), rfl, trivial, by rw [ht]; exact hP9, va_K.moved hW.alike hK, hD9⟩, hS.F ht⟩) hS.2.2 d_Text_byteOf_11
set_option maxHeartbeats 4000000 in
set_option maxRecDepth 100000 in
theorem s_Text_areCharacters (l : Launch) (dC : Nat → ClassId) (dI : Nat → Nat → Nat) (sz : Nat) (y0 : Int64) (y1 : Int32) : Met l y_Text_areCharacters w_Text_areCharacters ({ frames := 1, cells := 0, slots := 0, locals := 22 }) (va_Pc [.long y0, .int y1] (fun U => U.heap.size = sz ∧ va_P (dC, dI) vcl [] U.heap ∧ va_K (dC, dI) vcl [] U ∧ va_D (fun _ => True) [])) (va_Qi (fun (r : Int32) (_ : Unit) => r = 0 ∨ r = 1) (fun _ t => va_P (dC, dI) vcl [] t.heap ∧ va_K (dC, dI) vcl [] t ∧ va_D (va_A [] sz) []) (va_A [] sz)) 0 0 (va_A [] sz) := by
  refine Met.ofW (cc := b_Text_areCharacters) (maxL := 5) (ret := (some .boolean)) (by decide) rfl ?_
  intro p e s m args below meth c s₁ B hml hv
  obtain ⟨rfl, hsz, hP, hK, hD0⟩ := hv
  have hx := B.exec
  have hb := B.bytes
  have hr := B.returns
  have hts := atoms_spec (ws := w_Text_areCharacters) B.pre
  have hz : ∀ w ∈ wz, w.before _ s = true := fun w h => hts w (List.mem_cons_of_mem _ h)
  have hown : s.vm.findClass R_Text = some m.cls := findClass_of_methodNamed B.named
  have hlocks := B.notSynchronized
  subst hsz
  have hD := hD0.self (sz := s.heap.size)
  generalize hAe : va_A [] s.heap.size = A at hD ⊢
  have hA : ∀ q : Nat, s.heap.size ≤ q → A q := fun q h => by rw [← hAe]; exact Or.inr h
  have hS : va_S A s.heap s.heap [] := va_S.rf
  have hP : va_P (dC, dI) vcl [] s.heap := hP
  have hl := lv_entry ([.long y0, .int y1]) (n := 5) (Nat.le_of_ble_eq_true rfl)
  rw [lg_entry_eq]
  generalize (lg_sl ([.long y0, .int y1]) ++ List.replicate (5 - (lg_sl ([.long y0, .int y1])).length) Slot.unset).toArray = ls at hl ⊢
  have hl : lv_has ls 5 [(0, .long y0), (2, .int y1)] := hl
  refine lv_iconst (v := 0) hx hb d_Text_areCharacters_0 (by decide) ?_
  refine lv_istore_n hx hb d_Text_areCharacters_1 rfl hl (by decide) rfl (fun ls hl => ?_)
  have hl : lv_has ls 5 [(3, .int 0), (0, .long y0), (2, .int y1)] := hl
  refine xr_loop (α := (Nat)) (fun a => (fun (k3 : Nat) => 2147483647 - k3) a) (fun a H locs ls => (fun (k3 : Nat) => (k3 ≤ 2147483647) ∧ lv_has ls 5 [(3, .int (nI k3)), (0, .long y0), (2, .int y1)] ∧ va_P (dC, dI) vcl [] H ∧ va_D A [] ∧ va_S A s.heap H locs) a) (fun a ih2 H locs ls hI => ?_) (0) _ _ _ ⟨by show 0 ≤ 2147483647; first | omega | assumption | exact Or.inl rfl | exact Or.inr rfl, hl, hP, hD, hS⟩
  generalize a = k3 at ih2 hI
  obtain ⟨bl0, hl, hP, hD, hS⟩ := hI
  have bl0 : k3 ≤ 2147483647 := bl0
  have hl : lv_has ls 5 [(3, .int (nI k3)), (0, .long y0), (2, .int y1)] := hl
  have hP : va_P (dC, dI) vcl [] H := hP
  have hD : va_D A [] := hD
  refine lv_iload_n hx hb d_Text_areCharacters_2 rfl (lv_at hl 0 rfl) ?_
  refine lv_iload_n hx hb d_Text_areCharacters_3 rfl (lv_at hl 2 rfl) ?_
  refine lv_icmp_ge (tgt := 43) hx hb d_Text_areCharacters_4 (by decide) (fun h6 => ?_) (fun h6 => ?_)
  · refine lv_iconst (v := 1) hx hb d_Text_areCharacters_43 (by decide) ?_
    have hP9 := hP.sub (ws' := []) [] rfl
    have hD9 := hD.sub (ws' := []) [] (by decide) rfl
    exact W.zret (v := 1) hx hb hr (by decide +kernel) (fun t ht hW => ⟨⟨1, (), rfl, (by first | assumption | exact Or.inl rfl | exact Or.inr rfl), by rw [ht]; exact hP9, va_K.moved hW.alike hK, hD9⟩, hS.F ht⟩) hS.2.2 d_Text_areCharacters_44
  · have u_h6 : k3 + 1 ≤ 2147483647 := xr_up h6 (by omega)
    refine lv_lload_n hx hb d_Text_areCharacters_7 rfl (lv_at hl 1 rfl) ?_
    refine lv_iload_n hx hb d_Text_areCharacters_8 rfl (lv_at hl 0 rfl) ?_
    have hPc := hP.sub (ws' := []) [] rfl
    have hDc := hD.sub (ws' := []) [] (by decide) rfl
    have hKc := hK.sub (tys' := []) [] rfl
    have hFc := va_free (wc := []) hD hS hA [] rfl
    refine va_calli (va_runS (As := [.long y0, .int (nI k3)]) (rest := []) ⟨hx, hb, hml, hown, hz⟩ (s_Text_byteOf l dC dI H.size y0 ((nI k3))) (cwS 2 hz (zS zm_5 zm_6 zm_7 zm_8) rfl rfl rfl (by decide +kernel) ⟨Nat.le_of_ble_eq_true rfl, Nat.le_of_ble_eq_true rfl⟩) ⟨fun a U g mk q => by obtain ⟨q0, q1, qP, qK, qD⟩ := q; exact ⟨q0, q1, qP, va_K.moved (u := U) (U := U.calling g mk a) (Vm.Alike.refl U.vm) qK, qD⟩, fun U hU hW => ⟨rfl, by rw [hU], by rw [hU]; exact hPc, va_K.moved hW.alike hKc, hDc.weaken (fun _ _ _ _ => trivial)⟩⟩ rfl rfl hl.1 rfl (lv_room (Nat.le_of_ble_eq_true rfl)) d_Text_areCharacters_9 ⟨Nat.zero_le _, Nat.zero_le _⟩) hS (fun q _ h => hFc q h) hFc (fun x7 u t H1 locs ht hvm hw hB hz1 hk1 hS => ?_)
    obtain ⟨hP1, hK1, hD1⟩ := hB
    rw [ht] at hP1
    obtain ⟨hP, hD⟩ := va_join (wr := []) (w1 := []) hP hD [] [] rfl rfl (by decide) (by decide) hk1 hFc hP1 hD1
    generalize H1 = H at hP hS ⊢
    have hP : va_P (dC, dI) vcl [] H := hP
    have hD : va_D A [] := hD
    refine lv_istore hx hb d_Text_areCharacters_12 hl (by decide) rfl (fun ls hl => ?_)
    have hl : lv_has ls 5 [(4, .int x7), (3, .int (nI k3)), (0, .long y0), (2, .int y1)] := hl
    refine lv_iload hx hb d_Text_areCharacters_14 (lv_at hl 0 rfl) ?_
    refine lv_bipush (v := 10) hx hb d_Text_areCharacters_16 (by decide) ?_
    refine lv_icmp_eq (tgt := 37) hx hb d_Text_areCharacters_18 (by decide) (fun h8 => ?_) (fun h8 => ?_)
    · refine lv_iinc (k := 1) (v := (nI (k3 + 1))) hx hb d_Text_areCharacters_37 hl rfl (nI_1 k3) (by decide) rfl (fun ls hl => ?_)
      have hl : lv_has ls 5 [(3, .int (nI (k3 + 1))), (4, .int x7), (0, .long y0), (2, .int y1)] := hl
      refine lv_goto (tgt := 2) hx hb d_Text_areCharacters_40 (by decide) ?_
      have hl : lv_has ls 5 [(3, .int (nI (k3 + 1))), (0, .long y0), (2, .int y1)] := lv_sub hl [0, 2, 3] rfl
      have hP9 := hP.sub (ws' := []) [] rfl
      have hD9 := hD.sub (ws' := []) [] (by decide) rfl
      exact ih2 ((k3 + 1)) (by show 2147483647 - ((k3 + 1)) < 2147483647 - k3; omega) _ _ _ ⟨by show ((k3 + 1)) ≤ 2147483647; first | omega | assumption | exact Or.inl rfl | exact Or.inr rfl, hl, hP9, hD9, hS⟩
    · refine lv_iload hx hb d_Text_areCharacters_21 (lv_at hl 0 rfl) ?_
      refine lv_bipush (v := 32) hx hb d_Text_areCharacters_23 (by decide) ?_
      refine lv_icmp_lt (tgt := 35) hx hb d_Text_areCharacters_25 (by decide) (fun h9 => ?_) (fun h9 => ?_)
      · refine lv_iconst (v := 0) hx hb d_Text_areCharacters_35 (by decide) ?_
        have hP9 := hP.sub (ws' := []) [] rfl
        have hD9 := hD.sub (ws' := []) [] (by decide) rfl
        exact W.zret (v := 0) hx hb hr (by decide +kernel) (fun t ht hW => ⟨⟨0, (), rfl, (by first | assumption | exact Or.inl rfl | exact Or.inr rfl), by rw [ht]; exact hP9, va_K.moved hW.alike hK, hD9⟩, hS.F ht⟩) hS.2.2 d_Text_areCharacters_36
      · refine lv_iload hx hb d_Text_areCharacters_28 (lv_at hl 0 rfl) ?_
        refine lv_bipush (v := 126) hx hb d_Text_areCharacters_30 (by decide) ?_
        refine lv_icmp_le (tgt := 37) hx hb d_Text_areCharacters_32 (by decide) (fun h10 => ?_) (fun h10 => ?_)
        · refine lv_iinc (k := 1) (v := (nI (k3 + 1))) hx hb d_Text_areCharacters_37 hl rfl (nI_1 k3) (by decide) rfl (fun ls hl => ?_)
          have hl : lv_has ls 5 [(3, .int (nI (k3 + 1))), (4, .int x7), (0, .long y0), (2, .int y1)] := hl
          refine lv_goto (tgt := 2) hx hb d_Text_areCharacters_40 (by decide) ?_
          have hl : lv_has ls 5 [(3, .int (nI (k3 + 1))), (0, .long y0), (2, .int y1)] := lv_sub hl [0, 2, 3] rfl
          have hP9 := hP.sub (ws' := []) [] rfl
          have hD9 := hD.sub (ws' := []) [] (by decide) rfl
          exact ih2 ((k3 + 1)) (by show 2147483647 - ((k3 + 1)) < 2147483647 - k3; omega) _ _ _ ⟨by show ((k3 + 1)) ≤ 2147483647; first | omega | assumption | exact Or.inl rfl | exact Or.inr rfl, hl, hP9, hD9, hS⟩
        · refine lv_iconst (v := 0) hx hb d_Text_areCharacters_35 (by decide) ?_
          have hP9 := hP.sub (ws' := []) [] rfl
          have hD9 := hD.sub (ws' := []) [] (by decide) rfl
          exact W.zret (v := 0) hx hb hr (by decide +kernel) (fun t ht hW => ⟨⟨0, (), rfl, (by first | assumption | exact Or.inl rfl | exact Or.inr rfl), by rw [ht]; exact hP9, va_K.moved hW.alike hK, hD9⟩, hS.F ht⟩) hS.2.2 d_Text_areCharacters_36
set_option maxHeartbeats 4000000 in
set_option maxRecDepth 100000 in
theorem s_Text_append (l : Launch) (dC : Nat → ClassId) (dI : Nat → Nat → Nat) (sz : Nat) (a_t : Nat) (a_characters : Nat) (f_characters : Nat → Int32) (n_length : Nat) (y0 : Int64) (y1 : Int32) (ka_characters : ClassId) (c_characters : ∀ j, narrow .char (.int (f_characters j)) = .int (f_characters j)) (b_length : n_length ≤ 240) : Met l y_Text_append w_Text_append ({ frames := 1, cells := 0, slots := 0, locals := 22 }) (va_Pc [.ref a_t, .long y0, .int y1] (fun U => U.heap.size = sz ∧ va_P (dC, dI) vcl [(a_t, .inr (10, [.ref a_characters, .int (nI n_length)])), (a_characters, .inl (ka_characters, 240, .inl f_characters))] U.heap ∧ va_K (dC, dI) vcl [(ka_characters, .char)] U ∧ va_D (fun _ => True) [(a_t, .inr (10, [.ref a_characters, .int (nI n_length)])), (a_characters, .inl (ka_characters, 240, .inl f_characters))])) (va_Qv (fun (_ : Unit) => True) (fun _ t => ∃ (w_n_length : Nat) (w_f_characters : Nat → Int32), (w_n_length ≤ 240) ∧ (∀ j, narrow .char (.int (w_f_characters j)) = .int (w_f_characters j)) ∧ va_P (dC, dI) vcl [(a_t, .inr (10, [.ref a_characters, .int (nI w_n_length)])), (a_characters, .inl (ka_characters, 240, .inl w_f_characters))] t.heap ∧ va_K (dC, dI) vcl [(ka_characters, .char)] t ∧ va_D (va_A [(a_t, .inr (10, [.ref a_characters, .int (nI n_length)])), (a_characters, .inl (ka_characters, 240, .inl f_characters))] sz) [(a_t, .inr (10, [.ref a_characters, .int (nI w_n_length)])), (a_characters, .inl (ka_characters, 240, .inl w_f_characters))]) (va_A [(a_t, .inr (10, [.ref a_characters, .int (nI n_length)])), (a_characters, .inl (ka_characters, 240, .inl f_characters))] sz)) 0 0 (va_A [(a_t, .inr (10, [.ref a_characters, .int (nI n_length)])), (a_characters, .inl (ka_characters, 240, .inl f_characters))] sz) := by
  refine Met.ofW (cc := b_Text_append) (maxL := 5) (ret := none) (by decide) rfl ?_
  intro p e s m args below meth c s₁ B hml hv
  obtain ⟨rfl, hsz, hP, hK, hD0⟩ := hv
  have hx := B.exec
  have hb := B.bytes
  have hr := B.returns
  have hts := atoms_spec (ws := w_Text_append) B.pre
  have hz : ∀ w ∈ wz, w.before _ s = true := fun w h => hts w (List.mem_cons_of_mem _ h)
  have hown : s.vm.findClass R_Text = some m.cls := findClass_of_methodNamed B.named
  have hlocks := B.notSynchronized
  subst hsz
  have hD := hD0.self (sz := s.heap.size)
  generalize hAe : va_A [(a_t, .inr (10, [.ref a_characters, .int (nI n_length)])), (a_characters, .inl (ka_characters, 240, .inl f_characters))] s.heap.size = A at hD ⊢
  have hA : ∀ q : Nat, s.heap.size ≤ q → A q := fun q h => by rw [← hAe]; exact Or.inr h
  have hS : va_S A s.heap s.heap [] := va_S.rf
  have hP : va_P (dC, dI) vcl [(a_t, .inr (10, [.ref a_characters, .int (nI n_length)])), (a_characters, .inl (ka_characters, 240, .inl f_characters))] s.heap := hP
  have hl := lv_entry ([.ref a_t, .long y0, .int y1]) (n := 5) (Nat.le_of_ble_eq_true rfl)
  rw [lg_entry_eq]
  generalize (lg_sl ([.ref a_t, .long y0, .int y1]) ++ List.replicate (5 - (lg_sl ([.ref a_t, .long y0, .int y1])).length) Slot.unset).toArray = ls at hl ⊢
  have hl : lv_has ls 5 [(0, .ref a_t), (1, .long y0), (3, .int y1)] := hl
  refine lv_iconst (v := 0) hx hb d_Text_append_0 (by decide) ?_
  refine lv_istore hx hb d_Text_append_1 hl (by decide) rfl (fun ls hl => ?_)
  have hl : lv_has ls 5 [(4, .int 0), (0, .ref a_t), (1, .long y0), (3, .int y1)] := hl
  refine xr_loop (α := (Nat) × (Nat → Int32) × (Nat)) (fun a => (fun (k4 : Nat) (v_a_characters : Nat → Int32) (v_a_t_1 : Nat) => 2147483647 - k4) a.1 a.2.1 a.2.2) (fun a H locs ls => (fun (k4 : Nat) (v_a_characters : Nat → Int32) (v_a_t_1 : Nat) => (k4 ≤ 2147483647) ∧ (∀ j, narrow .char (.int (v_a_characters j)) = .int (v_a_characters j)) ∧ (v_a_t_1 ≤ 240) ∧ lv_has ls 5 [(4, .int (nI k4)), (0, .ref a_t), (1, .long y0), (3, .int y1)] ∧ va_P (dC, dI) vcl [(a_t, .inr (10, [.ref a_characters, .int (nI v_a_t_1)])), (a_characters, .inl (ka_characters, 240, .inl v_a_characters))] H ∧ va_D A [(a_t, .inr (10, [.ref a_characters, .int (nI v_a_t_1)])), (a_characters, .inl (ka_characters, 240, .inl v_a_characters))] ∧ va_S A s.heap H locs) a.1 a.2.1 a.2.2) (fun a ih3 H locs ls hI => ?_) (0, f_characters, n_length) _ _ _ ⟨by show 0 ≤ 2147483647; first | omega | assumption | exact Or.inl rfl | exact Or.inr rfl, by show ∀ j, narrow .char (.int (f_characters j)) = .int (f_characters j); first | omega | assumption | exact Or.inl rfl | exact Or.inr rfl, by show n_length ≤ 240; first | omega | assumption | exact Or.inl rfl | exact Or.inr rfl, hl, hP, hD, hS⟩
  obtain ⟨k4, v_a_characters, v_a_t_1⟩ := a
  obtain ⟨bl0, bl1, bl2, hl, hP, hD, hS⟩ := hI
  have bl0 : k4 ≤ 2147483647 := bl0
  have bl1 : ∀ j, narrow .char (.int (v_a_characters j)) = .int (v_a_characters j) := bl1
  have bl2 : v_a_t_1 ≤ 240 := bl2
  have hl : lv_has ls 5 [(4, .int (nI k4)), (0, .ref a_t), (1, .long y0), (3, .int y1)] := hl
  have hP : va_P (dC, dI) vcl [(a_t, .inr (10, [.ref a_characters, .int (nI v_a_t_1)])), (a_characters, .inl (ka_characters, 240, .inl v_a_characters))] H := hP
  have hD : va_D A [(a_t, .inr (10, [.ref a_characters, .int (nI v_a_t_1)])), (a_characters, .inl (ka_characters, 240, .inl v_a_characters))] := hD
  refine lv_iload hx hb d_Text_append_3 (lv_at hl 0 rfl) ?_
  refine lv_iload_n hx hb d_Text_append_5 rfl (lv_at hl 3 rfl) ?_
  refine lv_icmp_ge (tgt := 51) hx hb d_Text_append_6 (by decide) (fun h6 => ?_) (fun h6 => ?_)
  · have hP9 := hP.sub (ws' := [(a_t, .inr (10, [.ref a_characters, .int (nI v_a_t_1)])), (a_characters, .inl (ka_characters, 240, .inl v_a_characters))]) [0, 1] rfl
    have hD9 := hD.sub (ws' := [(a_t, .inr (10, [.ref a_characters, .int (nI v_a_t_1)])), (a_characters, .inl (ka_characters, 240, .inl v_a_characters))]) [0, 1] (by decide) rfl
    exact W.vret hx hb hr (fun t ht hW => ⟨⟨(), rfl, trivial, v_a_t_1, v_a_characters, by first | omega | assumption | exact Or.inl rfl | exact Or.inr rfl, by first | omega | assumption | exact Or.inl rfl | exact Or.inr rfl, by rw [ht]; exact hP9, va_K.moved hW.alike hK, hD9⟩, hS.F ht⟩) hS.2.2 d_Text_append_51
  · have u_h6 : k4 + 1 ≤ 2147483647 := xr_up h6 (by omega)
    refine lv_aload_n hx hb d_Text_append_9 rfl (lv_at hl 1 rfl) ?_
    refine va_get (D := (dC, dI)) (ci := 10) (v := .int (nI v_a_t_1)) (C := R_Text) (T := F_Text) (N := 2) hx hb hz zu_Text hown hK hP 0 rfl rfl 1 (by decide) (hz (.fieldLink R_Text 19 "LayoutFront$Text" "length" "I") zm_9) (fun _ h9 => h9) rfl d_Text_append_10 ?_
    refine lv_sipush (v := 240) hx hb d_Text_append_13 (by decide) ?_
    refine lv_icmp_ge (tgt := 51) hx hb d_Text_append_16 (by decide) (fun h7 => ?_) (fun h7 => ?_)
    · have h7 : 240 ≤ v_a_t_1 := (nI_leI (a := 240) (b := v_a_t_1) (by omega) (by omega)).mp h7
      have hP9 := hP.sub (ws' := [(a_t, .inr (10, [.ref a_characters, .int (nI v_a_t_1)])), (a_characters, .inl (ka_characters, 240, .inl v_a_characters))]) [0, 1] rfl
      have hD9 := hD.sub (ws' := [(a_t, .inr (10, [.ref a_characters, .int (nI v_a_t_1)])), (a_characters, .inl (ka_characters, 240, .inl v_a_characters))]) [0, 1] (by decide) rfl
      exact W.vret hx hb hr (fun t ht hW => ⟨⟨(), rfl, trivial, v_a_t_1, v_a_characters, by first | omega | assumption | exact Or.inl rfl | exact Or.inr rfl, by first | omega | assumption | exact Or.inl rfl | exact Or.inr rfl, by rw [ht]; exact hP9, va_K.moved hW.alike hK, hD9⟩, hS.F ht⟩) hS.2.2 d_Text_append_51
    · have h7 : ¬ 240 ≤ v_a_t_1 := fun q => h7 ((nI_leI (a := 240) (b := v_a_t_1) (by omega) (by omega)).mpr q)
      refine lv_aload_n hx hb d_Text_append_19 rfl (lv_at hl 1 rfl) ?_
      refine va_get (D := (dC, dI)) (ci := 10) (v := .ref a_characters) (C := R_Text) (T := F_Text) (N := 2) hx hb hz zu_Text hown hK hP 0 rfl rfl 0 (by decide) (hz (.fieldLink R_Text 9 "LayoutFront$Text" "characters" "[C") zm_3) (fun _ h9 => h9) rfl d_Text_append_20 ?_
      refine lv_aload_n hx hb d_Text_append_23 rfl (lv_at hl 1 rfl) ?_
      refine va_get (D := (dC, dI)) (ci := 10) (v := .int (nI v_a_t_1)) (C := R_Text) (T := F_Text) (N := 2) hx hb hz zu_Text hown hK hP 0 rfl rfl 1 (by decide) (hz (.fieldLink R_Text 19 "LayoutFront$Text" "length" "I") zm_9) (fun _ h9 => h9) rfl d_Text_append_24 ?_
      refine lv_lload_n hx hb d_Text_append_27 rfl (lv_at hl 2 rfl) ?_
      refine lv_iload hx hb d_Text_append_28 (lv_at hl 0 rfl) ?_
      have hPc := hP.sub (ws' := []) [] rfl
      have hDc := hD.sub (ws' := []) [] (by decide) rfl
      have hKc := hK.sub (tys' := []) [] rfl
      have hFc := va_free (wc := []) hD hS hA [] rfl
      refine va_calli (va_runS (As := [.long y0, .int (nI k4)]) (rest := [.int (nI v_a_t_1), .ref a_characters]) ⟨hx, hb, hml, hown, hz⟩ (s_Text_byteOf l dC dI H.size y0 ((nI k4))) (cwS 2 hz (zS zm_5 zm_6 zm_7 zm_8) rfl rfl rfl (by decide +kernel) ⟨Nat.le_of_ble_eq_true rfl, Nat.le_of_ble_eq_true rfl⟩) ⟨fun a U g mk q => by obtain ⟨q0, q1, qP, qK, qD⟩ := q; exact ⟨q0, q1, qP, va_K.moved (u := U) (U := U.calling g mk a) (Vm.Alike.refl U.vm) qK, qD⟩, fun U hU hW => ⟨rfl, by rw [hU], by rw [hU]; exact hPc, va_K.moved hW.alike hKc, hDc.weaken (fun _ _ _ _ => trivial)⟩⟩ rfl rfl hl.1 rfl (lv_room (Nat.le_of_ble_eq_true rfl)) d_Text_append_30 ⟨Nat.zero_le _, Nat.zero_le _⟩) hS (fun q _ h => hFc q h) hFc (fun x8 u t H1 locs ht hvm hw hB hz1 hk1 hS => ?_)
      obtain ⟨hP1, hK1, hD1⟩ := hB
      rw [ht] at hP1
      obtain ⟨hP, hD⟩ := va_join (wr := [(a_t, .inr (10, [.ref a_characters, .int (nI v_a_t_1)])), (a_characters, .inl (ka_characters, 240, .inl v_a_characters))]) (w1 := []) hP hD [] [0, 1] rfl rfl (by decide) (by decide) hk1 hFc hP1 hD1
      generalize H1 = H at hP hS ⊢
      have hP : va_P (dC, dI) vcl [(a_t, .inr (10, [.ref a_characters, .int (nI v_a_t_1)])), (a_characters, .inl (ka_characters, 240, .inl v_a_characters))] H := hP
      have hD : va_D A [(a_t, .inr (10, [.ref a_characters, .int (nI v_a_t_1)])), (a_characters, .inl (ka_characters, 240, .inl v_a_characters))] := hD
      refine lv_i2c (v := _) hx hb d_Text_append_33 rfl ?_
      refine lv_topi (fun x9 _ => ?_)
      refine va_cast hx hb hK hP hD hS 1 0 rfl rfl (vp_in_nI (by omega) (by omega)) d_Text_append_34 (fun H locs hP hD hS => ?_)
      have hc_f10 := xr_upc (i := ((nI v_a_t_1) : Int32).toNatClampNeg) (x := x9) bl1
      generalize upd v_a_characters ((nI v_a_t_1) : Int32).toNatClampNeg (vp_nar .char x9) = f10 at hP hD hc_f10
      have hP : va_P (dC, dI) vcl [(a_t, .inr (10, [.ref a_characters, .int (nI v_a_t_1)])), (a_characters, .inl (ka_characters, 240, .inl f10))] H := hP
      have hD : va_D A [(a_t, .inr (10, [.ref a_characters, .int (nI v_a_t_1)])), (a_characters, .inl (ka_characters, 240, .inl f10))] := hD
      refine lv_aload_n hx hb d_Text_append_35 rfl (lv_at hl 1 rfl) ?_
      refine lv_dup hx hb d_Text_append_36 rfl ?_
      refine va_get (D := (dC, dI)) (ci := 10) (v := .int (nI v_a_t_1)) (C := R_Text) (T := F_Text) (N := 2) hx hb hz zu_Text hown hK hP 0 rfl rfl 1 (by decide) (hz (.fieldLink R_Text 19 "LayoutFront$Text" "length" "I") zm_9) (fun _ h9 => h9) rfl d_Text_append_37 ?_
      refine lv_iconst (v := 1) hx hb d_Text_append_40 (by decide) ?_
      refine xr_iadd (v := (nI (v_a_t_1 + 1))) hx hb d_Text_append_41 (nI_add v_a_t_1 1) ?_
      refine va_put (D := (dC, dI)) (ci := 10) (v := .int (nI (v_a_t_1 + 1))) (ty := .int) (C := R_Text) (T := F_Text) (N := 2) hx hb hz zu_Text t_Text t_Text_ok n_Text hown hK hP hD hS 0 rfl rfl 1 (by decide) (hz (.fieldLink R_Text 19 "LayoutFront$Text" "length" "I") zm_9) (fun _ h9 => h9) rfl (by decide +kernel) rfl rfl (Nat.le_of_ble_eq_true rfl) d_Text_append_42 (fun H locs hP hD hS => ?_)
      have hP : va_P (dC, dI) vcl [(a_t, .inr (10, [.ref a_characters, .int (nI (v_a_t_1 + 1))])), (a_characters, .inl (ka_characters, 240, .inl f10))] H := hP
      have hD : va_D A [(a_t, .inr (10, [.ref a_characters, .int (nI (v_a_t_1 + 1))])), (a_characters, .inl (ka_characters, 240, .inl f10))] := hD
      refine lv_iinc (k := 0) (v := (nI (k4 + 1))) hx hb d_Text_append_45 hl rfl (nI_1 k4) (by decide) rfl (fun ls hl => ?_)
      have hl : lv_has ls 5 [(4, .int (nI (k4 + 1))), (0, .ref a_t), (1, .long y0), (3, .int y1)] := hl
      refine lv_goto (tgt := 3) hx hb d_Text_append_48 (by decide) ?_
      have hP9 := hP.sub (ws' := [(a_t, .inr (10, [.ref a_characters, .int (nI (v_a_t_1 + 1))])), (a_characters, .inl (ka_characters, 240, .inl f10))]) [0, 1] rfl
      have hD9 := hD.sub (ws' := [(a_t, .inr (10, [.ref a_characters, .int (nI (v_a_t_1 + 1))])), (a_characters, .inl (ka_characters, 240, .inl f10))]) [0, 1] (by decide) rfl
      exact ih3 ((k4 + 1), f10, (v_a_t_1 + 1)) (by show 2147483647 - ((k4 + 1)) < 2147483647 - k4; omega) _ _ _ ⟨by show ((k4 + 1)) ≤ 2147483647; first | omega | assumption | exact Or.inl rfl | exact Or.inr rfl, by show ∀ j, narrow .char (.int (f10 j)) = .int (f10 j); first | omega | assumption | exact Or.inl rfl | exact Or.inr rfl, by show ((v_a_t_1 + 1)) ≤ 240; first | omega | assumption | exact Or.inl rfl | exact Or.inr rfl, hl, hP9, hD9, hS⟩
set_option maxHeartbeats 4000000 in
set_option maxRecDepth 100000 in
theorem s_Resolver_tally (l : Launch) (dC : Nat → ClassId) (dI : Nat → Nat → Nat) (sz : Nat) (a_t : Nat) (a_pairFirsts : Nat) (f_pairFirsts : Nat → Int32) (a_pairLasts : Nat) (f_pairLasts : Nat → Int32) (n_pairs : Nat) (n_pairsBefore : Nat) (a_firsts : Nat) (a_lasts : Nat) (n_operands : Nat) (a_levels : Nat) (a_sides : Nat) (a_minusPlaces : Nat) (n_waiting : Nat) (a_y0 : Nat) (n_y0 : Nat) (f_y0 : Nat → Int32) (a_y1 : Nat) (n_y1 : Nat) (f_y1 : Nat → Int32) (ka_pairFirsts : ClassId) (ka_pairLasts : ClassId) (ka_y0 : ClassId) (ka_y1 : ClassId) (b_pairs : n_pairs ≤ 90) (b_pairsBefore : n_pairsBefore ≤ 90) (b_operands : n_operands ≤ 90) (b_waiting : n_waiting ≤ 90) (by0 : n_y0 ≤ 600) (by1 : n_y1 ≤ 600) : Met l y_Resolver_tally w_Resolver_tally ({ frames := 0, cells := 0, slots := 0, locals := 0 }) (va_Pc [.ref a_t, .ref a_y0, .ref a_y1] (fun U => U.heap.size = sz ∧ va_P (dC, dI) vcl [(a_t, .inr (7, [.ref a_pairFirsts, .ref a_pairLasts, .int (nI n_pairs), .int (nI n_pairsBefore), .ref a_firsts, .ref a_lasts, .int (nI n_operands), .ref a_levels, .ref a_sides, .ref a_minusPlaces, .int (nI n_waiting)])), (a_pairFirsts, .inl (ka_pairFirsts, 90, .inl f_pairFirsts)), (a_pairLasts, .inl (ka_pairLasts, 90, .inl f_pairLasts)), (a_y0, .inl (ka_y0, n_y0, .inl f_y0)), (a_y1, .inl (ka_y1, n_y1, .inl f_y1))] U.heap ∧ va_K (dC, dI) vcl [(ka_pairFirsts, .int), (ka_pairLasts, .int), (ka_y0, .int), (ka_y1, .int)] U ∧ va_D (fun _ => True) [(a_t, .inr (7, [.ref a_pairFirsts, .ref a_pairLasts, .int (nI n_pairs), .int (nI n_pairsBefore), .ref a_firsts, .ref a_lasts, .int (nI n_operands), .ref a_levels, .ref a_sides, .ref a_minusPlaces, .int (nI n_waiting)])), (a_pairFirsts, .inl (ka_pairFirsts, 90, .inl f_pairFirsts)), (a_pairLasts, .inl (ka_pairLasts, 90, .inl f_pairLasts)), (a_y0, .inl (ka_y0, n_y0, .inl f_y0)), (a_y1, .inl (ka_y1, n_y1, .inl f_y1))])) (va_Qv (fun (_ : Unit) => True) (fun _ t => ∃ (w_f_y0 : Nat → Int32) (w_f_y1 : Nat → Int32), va_P (dC, dI) vcl [(a_t, .inr (7, [.ref a_pairFirsts, .ref a_pairLasts, .int (nI n_pairs), .int (nI n_pairsBefore), .ref a_firsts, .ref a_lasts, .int (nI n_operands), .ref a_levels, .ref a_sides, .ref a_minusPlaces, .int (nI n_waiting)])), (a_pairFirsts, .inl (ka_pairFirsts, 90, .inl f_pairFirsts)), (a_pairLasts, .inl (ka_pairLasts, 90, .inl f_pairLasts)), (a_y0, .inl (ka_y0, n_y0, .inl w_f_y0)), (a_y1, .inl (ka_y1, n_y1, .inl w_f_y1))] t.heap ∧ va_K (dC, dI) vcl [(ka_pairFirsts, .int), (ka_pairLasts, .int), (ka_y0, .int), (ka_y1, .int)] t ∧ va_D (va_A [(a_t, .inr (7, [.ref a_pairFirsts, .ref a_pairLasts, .int (nI n_pairs), .int (nI n_pairsBefore), .ref a_firsts, .ref a_lasts, .int (nI n_operands), .ref a_levels, .ref a_sides, .ref a_minusPlaces, .int (nI n_waiting)])), (a_pairFirsts, .inl (ka_pairFirsts, 90, .inl f_pairFirsts)), (a_pairLasts, .inl (ka_pairLasts, 90, .inl f_pairLasts)), (a_y0, .inl (ka_y0, n_y0, .inl f_y0)), (a_y1, .inl (ka_y1, n_y1, .inl f_y1))] sz) [(a_t, .inr (7, [.ref a_pairFirsts, .ref a_pairLasts, .int (nI n_pairs), .int (nI n_pairsBefore), .ref a_firsts, .ref a_lasts, .int (nI n_operands), .ref a_levels, .ref a_sides, .ref a_minusPlaces, .int (nI n_waiting)])), (a_pairFirsts, .inl (ka_pairFirsts, 90, .inl f_pairFirsts)), (a_pairLasts, .inl (ka_pairLasts, 90, .inl f_pairLasts)), (a_y0, .inl (ka_y0, n_y0, .inl w_f_y0)), (a_y1, .inl (ka_y1, n_y1, .inl w_f_y1))]) (va_A [(a_t, .inr (7, [.ref a_pairFirsts, .ref a_pairLasts, .int (nI n_pairs), .int (nI n_pairsBefore), .ref a_firsts, .ref a_lasts, .int (nI n_operands), .ref a_levels, .ref a_sides, .ref a_minusPlaces, .int (nI n_waiting)])), (a_pairFirsts, .inl (ka_pairFirsts, 90, .inl f_pairFirsts)), (a_pairLasts, .inl (ka_pairLasts, 90, .inl f_pairLasts)), (a_y0, .inl (ka_y0, n_y0, .inl f_y0)), (a_y1, .inl (ka_y1, n_y1, .inl f_y1))] sz)) 0 0 (va_A [(a_t, .inr (7, [.ref a_pairFirsts, .ref a_pairLasts, .int (nI n_pairs), .int (nI n_pairsBefore), .ref a_firsts, .ref a_lasts, .int (nI n_operands), .ref a_levels, .ref a_sides, .ref a_minusPlaces, .int (nI n_waiting)])), (a_pairFirsts, .inl (ka_pairFirsts, 90, .inl f_pairFirsts)), (a_pairLasts, .inl (ka_pairLasts, 90, .inl f_pairLasts)), (a_y0, .inl (ka_y0, n_y0, .inl f_y0)), (a_y1, .inl (ka_y1, n_y1, .inl f_y1))] sz) := by
  refine Met.ofW (cc := b_Resolver_tally) (maxL := 6) (ret := none) (by decide) rfl ?_
  intro p e s m args below meth c s₁ B hml hv
  obtain ⟨rfl, hsz, hP, hK, hD0⟩ := hv
  have hx := B.exec
  have hb := B.bytes
  have hr := B.returns
  have hts := atoms_spec (ws := w_Resolver_tally) B.pre
  have hz : ∀ w ∈ wz, w.before _ s = true := fun w h => hts w (List.mem_cons_of_mem _ h)
  have hown : s.vm.findClass R_Resolver = some m.cls := findClass_of_methodNamed B.named
  have hlocks := B.notSynchronized
  subst hsz
  have hD := hD0.self (sz := s.heap.size)
  generalize hAe : va_A [(a_t, .inr (7, [.ref a_pairFirsts, .ref a_pairLasts, .int (nI n_pairs), .int (nI n_pairsBefore), .ref a_firsts, .ref a_lasts, .int (nI n_operands), .ref a_levels, .ref a_sides, .ref a_minusPlaces, .int (nI n_waiting)])), (a_pairFirsts, .inl (ka_pairFirsts, 90, .inl f_pairFirsts)), (a_pairLasts, .inl (ka_pairLasts, 90, .inl f_pairLasts)), (a_y0, .inl (ka_y0, n_y0, .inl f_y0)), (a_y1, .inl (ka_y1, n_y1, .inl f_y1))] s.heap.size = A at hD ⊢
  have hA : ∀ q : Nat, s.heap.size ≤ q → A q := fun q h => by rw [← hAe]; exact Or.inr h
  have hS : va_S A s.heap s.heap [] := va_S.rf
  have hP : va_P (dC, dI) vcl [(a_t, .inr (7, [.ref a_pairFirsts, .ref a_pairLasts, .int (nI n_pairs), .int (nI n_pairsBefore), .ref a_firsts, .ref a_lasts, .int (nI n_operands), .ref a_levels, .ref a_sides, .ref a_minusPlaces, .int (nI n_waiting)])), (a_pairFirsts, .inl (ka_pairFirsts, 90, .inl f_pairFirsts)), (a_pairLasts, .inl (ka_pairLasts, 90, .inl f_pairLasts)), (a_y0, .inl (ka_y0, n_y0, .inl f_y0)), (a_y1, .inl (ka_y1, n_y1, .inl f_y1))] s.heap := hP
  have hl := lv_entry ([.ref a_t, .ref a_y0, .ref a_y1]) (n := 6) (Nat.le_of_ble_eq_true rfl)
  rw [lg_entry_eq]
  generalize (lg_sl ([.ref a_t, .ref a_y0, .ref a_y1]) ++ List.replicate (6 - (lg_sl ([.ref a_t, .ref a_y0, .ref a_y1])).length) Slot.unset).toArray = ls at hl ⊢
  have hl : lv_has ls 6 [(0, .ref a_t), (1, .ref a_y0), (2, .ref a_y1)] := hl
  refine lv_iconst (v := 0) hx hb d_Resolver_tally_0 (by decide) ?_
  refine lv_istore_n hx hb d_Resolver_tally_1 rfl hl (by decide) rfl (fun ls hl => ?_)
  have hl : lv_has ls 6 [(3, .int 0), (0, .ref a_t), (1, .ref a_y0), (2, .ref a_y1)] := hl
  refine xr_loop (α := (Nat) × (Nat → Int32) × (Nat → Int32)) (fun a => (fun (k3 : Nat) (v_a_y0 : Nat → Int32) (v_a_y1 : Nat → Int32) => 90 - k3) a.1 a.2.1 a.2.2) (fun a H locs ls => (fun (k3 : Nat) (v_a_y0 : Nat → Int32) (v_a_y1 : Nat → Int32) => (k3 ≤ 90) ∧ lv_has ls 6 [(3, .int (nI k3)), (0, .ref a_t), (1, .ref a_y0), (2, .ref a_y1)] ∧ va_P (dC, dI) vcl [(a_t, .inr (7, [.ref a_pairFirsts, .ref a_pairLasts, .int (nI n_pairs), .int (nI n_pairsBefore), .ref a_firsts, .ref a_lasts, .int (nI n_operands), .ref a_levels, .ref a_sides, .ref a_minusPlaces, .int (nI n_waiting)])), (a_pairFirsts, .inl (ka_pairFirsts, 90, .inl f_pairFirsts)), (a_pairLasts, .inl (ka_pairLasts, 90, .inl f_pairLasts)), (a_y0, .inl (ka_y0, n_y0, .inl v_a_y0)), (a_y1, .inl (ka_y1, n_y1, .inl v_a_y1))] H ∧ va_D A [(a_t, .inr (7, [.ref a_pairFirsts, .ref a_pairLasts, .int (nI n_pairs), .int (nI n_pairsBefore), .ref a_firsts, .ref a_lasts, .int (nI n_operands), .ref a_levels, .ref a_sides, .ref a_minusPlaces, .int (nI n_waiting)])), (a_pairFirsts, .inl (ka_pairFirsts, 90, .inl f_pairFirsts)), (a_pairLasts, .inl (ka_pairLasts, 90, .inl f_pairLasts)), (a_y0, .inl (ka_y0, n_y0, .inl v_a_y0)), (a_y1, .inl (ka_y1, n_y1, .inl v_a_y1))] ∧ va_S A s.heap H locs) a.1 a.2.1 a.2.2) (fun a ih2 H locs ls hI => ?_) (0, f_y0, f_y1) _ _ _ ⟨by show 0 ≤ 90; first | omega | assumption | exact Or.inl rfl | exact Or.inr rfl, hl, hP, hD, hS⟩
  obtain ⟨k3, v_a_y0, v_a_y1⟩ := a
  obtain ⟨bl0, hl, hP, hD, hS⟩ := hI
  have bl0 : k3 ≤ 90 := bl0
  have hl : lv_has ls 6 [(3, .int (nI k3)), (0, .ref a_t), (1, .ref a_y0), (2, .ref a_y1)] := hl
  have hP : va_P (dC, dI) vcl [(a_t, .inr (7, [.ref a_pairFirsts, .ref a_pairLasts, .int (nI n_pairs), .int (nI n_pairsBefore), .ref a_firsts, .ref a_lasts, .int (nI n_operands), .ref a_levels, .ref a_sides, .ref a_minusPlaces, .int (nI n_waiting)])), (a_pairFirsts, .inl (ka_pairFirsts, 90, .inl f_pairFirsts)), (a_pairLasts, .inl (ka_pairLasts, 90, .inl f_pairLasts)), (a_y0, .inl (ka_y0, n_y0, .inl v_a_y0)), (a_y1, .inl (ka_y1, n_y1, .inl v_a_y1))] H := hP
  have hD : va_D A [(a_t, .inr (7, [.ref a_pairFirsts, .ref a_pairLasts, .int (nI n_pairs), .int (nI n_pairsBefore), .ref a_firsts, .ref a_lasts, .int (nI n_operands), .ref a_levels, .ref a_sides, .ref a_minusPlaces, .int (nI n_waiting)])), (a_pairFirsts, .inl (ka_pairFirsts, 90, .inl f_pairFirsts)), (a_pairLasts, .inl (ka_pairLasts, 90, .inl f_pairLasts)), (a_y0, .inl (ka_y0, n_y0, .inl v_a_y0)), (a_y1, .inl (ka_y1, n_y1, .inl v_a_y1))] := hD
  refine lv_iload_n hx hb d_Resolver_tally_2 rfl (lv_at hl 0 rfl) ?_
  refine lv_aload_n hx hb d_Resolver_tally_3 rfl (lv_at hl 1 rfl) ?_
  refine va_get (D := (dC, dI)) (ci := 7) (v := .int (nI n_pairs)) (C := R_Resolver) (T := F_Resolver) (N := 11) hx hb hz zu_Resolver hown hK hP 0 rfl rfl 2 (by decide) (hz (.fieldLink R_Resolver 33 "LayoutFront$Resolver" "pairs" "I") zm_336) (fun _ h9 => h9) rfl d_Resolver_tally_4 ?_
  refine lv_icmp_ge (tgt := 72) hx hb d_Resolver_tally_7 (by decide) (fun h12 => ?_) (fun h12 => ?_)
  · have h12 : n_pairs ≤ k3 := (nI_leI (a := n_pairs) (b := k3) (by omega) (by omega)).mp h12
    have hP9 := hP.sub (ws' := [(a_t, .inr (7, [.ref a_pairFirsts, .ref a_pairLasts, .int (nI n_pairs), .int (nI n_pairsBefore), .ref a_firsts, .ref a_lasts, .int (nI n_operands), .ref a_levels, .ref a_sides, .ref a_minusPlaces, .int (nI n_waiting)])), (a_pairFirsts, .inl (ka_pairFirsts, 90, .inl f_pairFirsts)), (a_pairLasts, .inl (ka_pairLasts, 90, .inl f_pairLasts)), (a_y0, .inl (ka_y0, n_y0, .inl v_a_y0)), (a_y1, .inl (ka_y1, n_y1, .inl v_a_y1))]) [0, 1, 2, 3, 4] rfl
    have hD9 := hD.sub (ws' := [(a_t, .inr (7, [.ref a_pairFirsts, .ref a_pairLasts, .int (nI n_pairs), .int (nI n_pairsBefore), .ref a_firsts, .ref a_lasts, .int (nI n_operands), .ref a_levels, .ref a_sides, .ref a_minusPlaces, .int (nI n_waiting)])), (a_pairFirsts, .inl (ka_pairFirsts, 90, .inl f_pairFirsts)), (a_pairLasts, .inl (ka_pairLasts, 90, .inl f_pairLasts)), (a_y0, .inl (ka_y0, n_y0, .inl v_a_y0)), (a_y1, .inl (ka_y1, n_y1, .inl v_a_y1))]) [0, 1, 2, 3, 4] (by decide) rfl
    exact W.vret hx hb hr (fun t ht hW => ⟨⟨(), rfl, trivial, v_a_y0, v_a_y1, by rw [ht]; exact hP9, va_K.moved hW.alike hK, hD9⟩, hS.F ht⟩) hS.2.2 d_Resolver_tally_72
  · have h12 : ¬ n_pairs ≤ k3 := fun q => h12 ((nI_leI (a := n_pairs) (b := k3) (by omega) (by omega)).mpr q)
    refine lv_aload_n hx hb d_Resolver_tally_10 rfl (lv_at hl 1 rfl) ?_
    refine va_get (D := (dC, dI)) (ci := 7) (v := .ref a_pairFirsts) (C := R_Resolver) (T := F_Resolver) (N := 11) hx hb hz zu_Resolver hown hK hP 0 rfl rfl 0 (by decide) (hz (.fieldLink R_Resolver 9 "LayoutFront$Resolver" "pairFirsts" "[I") zm_328) (fun _ h9 => h9) rfl d_Resolver_tally_11 ?_
    refine lv_iload_n hx hb d_Resolver_tally_14 rfl (lv_at hl 0 rfl) ?_
    refine va_iald hx hb hK hP 1 0 rfl rfl (vp_in_nI (by omega) (by omega)) d_Resolver_tally_15 ?_
    refine lv_topi (fun x13 e_x13 => ?_)
    refine lv_istore hx hb d_Resolver_tally_16 hl (by decide) rfl (fun ls hl => ?_)
    have hl : lv_has ls 6 [(4, .int x13), (3, .int (nI k3)), (0, .ref a_t), (1, .ref a_y0), (2, .ref a_y1)] := hl
    refine lv_aload_n hx hb d_Resolver_tally_18 rfl (lv_at hl 2 rfl) ?_
    refine va_get (D := (dC, dI)) (ci := 7) (v := .ref a_pairLasts) (C := R_Resolver) (T := F_Resolver) (N := 11) hx hb hz zu_Resolver hown hK hP 0 rfl rfl 1 (by decide) (hz (.fieldLink R_Resolver 15 "LayoutFront$Resolver" "pairLasts" "[I") zm_329) (fun _ h9 => h9) rfl d_Resolver_tally_19 ?_
    refine lv_iload_n hx hb d_Resolver_tally_22 rfl (lv_at hl 1 rfl) ?_
    refine va_iald hx hb hK hP 2 1 rfl rfl (vp_in_nI (by omega) (by omega)) d_Resolver_tally_23 ?_
    refine lv_topi (fun x14 e_x14 => ?_)
    refine lv_istore hx hb d_Resolver_tally_24 hl (by decide) rfl (fun ls hl => ?_)
    have hl : lv_has ls 6 [(5, .int x14), (4, .int x13), (3, .int (nI k3)), (0, .ref a_t), (1, .ref a_y0), (2, .ref a_y1)] := hl
    refine lv_iload hx hb d_Resolver_tally_26 (lv_at hl 1 rfl) ?_
    refine lv_if_lt (tgt := 66) hx hb d_Resolver_tally_28 (by decide) (fun h15 => ?_) (fun h15 => ?_)
    · refine lv_iinc (k := 2) (v := (nI (k3 + 1))) hx hb d_Resolver_tally_66 hl rfl (nI_1 k3) (by decide) rfl (fun ls hl => ?_)
      have hl : lv_has ls 6 [(3, .int (nI (k3 + 1))), (5, .int x14), (4, .int x13), (0, .ref a_t), (1, .ref a_y0), (2, .ref a_y1)] := hl
      refine lv_goto (tgt := 2) hx hb d_Resolver_tally_69 (by decide) ?_
      have hl : lv_has ls 6 [(3, .int (nI (k3 + 1))), (0, .ref a_t), (1, .ref a_y0), (2, .ref a_y1)] := lv_sub hl [0, 3, 4, 5] rfl
      have hP9 := hP.sub (ws' := [(a_t, .inr (7, [.ref a_pairFirsts, .ref a_pairLasts, .int (nI n_pairs), .int (nI n_pairsBefore), .ref a_firsts, .ref a_lasts, .int (nI n_operands), .ref a_levels, .ref a_sides, .ref a_minusPlaces, .int (nI n_waiting)])), (a_pairFirsts, .inl (ka_pairFirsts, 90, .inl f_pairFirsts)), (a_pairLasts, .inl (ka_pairLasts, 90, .inl f_pairLasts)), (a_y0, .inl (ka_y0, n_y0, .inl v_a_y0)), (a_y1, .inl (ka_y1, n_y1, .inl v_a_y1))]) [0, 1, 2, 3, 4] rfl
      have hD9 := hD.sub (ws' := [(a_t, .inr (7, [.ref a_pairFirsts, .ref a_pairLasts, .int (nI n_pairs), .int (nI n_pairsBefore), .ref a_firsts, .ref a_lasts, .int (nI n_operands), .ref a_levels, .ref a_sides, .ref a_minusPlaces, .int (nI n_waiting)])), (a_pairFirsts, .inl (ka_pairFirsts, 90, .inl f_pairFirsts)), (a_pairLasts, .inl (ka_pairLasts, 90, .inl f_pairLasts)), (a_y0, .inl (ka_y0, n_y0, .inl v_a_y0)), (a_y1, .inl (ka_y1, n_y1, .inl v_a_y1))]) [0, 1, 2, 3, 4] (by decide) rfl
      exact ih2 ((k3 + 1), v_a_y0, v_a_y1) (by show 90 - ((k3 + 1)) < 90 - k3; omega) _ _ _ ⟨by show ((k3 + 1)) ≤ 90; first | omega | assumption | exact Or.inl rfl | exact Or.inr rfl, hl, hP9, hD9, hS⟩
    · refine lv_iload hx hb d_Resolver_tally_31 (lv_at hl 1 rfl) ?_
      refine lv_aload_n hx hb d_Resolver_tally_33 rfl (lv_at hl 4 rfl) ?_
      refine va_alen (v := (nI n_y0)) hx hb hK hP 3 2 rfl rfl rfl d_Resolver_tally_34 ?_
      refine lv_icmp_ge (tgt := 66) hx hb d_Resolver_tally_35 (by decide) (fun h16 => ?_) (fun h16 => ?_)
      · refine lv_iinc (k := 2) (v := (nI (k3 + 1))) hx hb d_Resolver_tally_66 hl rfl (nI_1 k3) (by decide) rfl (fun ls hl => ?_)
        have hl : lv_has ls 6 [(3, .int (nI (k3 + 1))), (5, .int x14), (4, .int x13), (0, .ref a_t), (1, .ref a_y0), (2, .ref a_y1)] := hl
        refine lv_goto (tgt := 2) hx hb d_Resolver_tally_69 (by decide) ?_
        have hl : lv_has ls 6 [(3, .int (nI (k3 + 1))), (0, .ref a_t), (1, .ref a_y0), (2, .ref a_y1)] := lv_sub hl [0, 3, 4, 5] rfl
        have hP9 := hP.sub (ws' := [(a_t, .inr (7, [.ref a_pairFirsts, .ref a_pairLasts, .int (nI n_pairs), .int (nI n_pairsBefore), .ref a_firsts, .ref a_lasts, .int (nI n_operands), .ref a_levels, .ref a_sides, .ref a_minusPlaces, .int (nI n_waiting)])), (a_pairFirsts, .inl (ka_pairFirsts, 90, .inl f_pairFirsts)), (a_pairLasts, .inl (ka_pairLasts, 90, .inl f_pairLasts)), (a_y0, .inl (ka_y0, n_y0, .inl v_a_y0)), (a_y1, .inl (ka_y1, n_y1, .inl v_a_y1))]) [0, 1, 2, 3, 4] rfl
        have hD9 := hD.sub (ws' := [(a_t, .inr (7, [.ref a_pairFirsts, .ref a_pairLasts, .int (nI n_pairs), .int (nI n_pairsBefore), .ref a_firsts, .ref a_lasts, .int (nI n_operands), .ref a_levels, .ref a_sides, .ref a_minusPlaces, .int (nI n_waiting)])), (a_pairFirsts, .inl (ka_pairFirsts, 90, .inl f_pairFirsts)), (a_pairLasts, .inl (ka_pairLasts, 90, .inl f_pairLasts)), (a_y0, .inl (ka_y0, n_y0, .inl v_a_y0)), (a_y1, .inl (ka_y1, n_y1, .inl v_a_y1))]) [0, 1, 2, 3, 4] (by decide) rfl
        exact ih2 ((k3 + 1), v_a_y0, v_a_y1) (by show 90 - ((k3 + 1)) < 90 - k3; omega) _ _ _ ⟨by show ((k3 + 1)) ≤ 90; first | omega | assumption | exact Or.inl rfl | exact Or.inr rfl, hl, hP9, hD9, hS⟩
      · refine lv_iload hx hb d_Resolver_tally_38 (lv_at hl 0 rfl) ?_
        refine lv_if_lt (tgt := 66) hx hb d_Resolver_tally_40 (by decide) (fun h17 => ?_) (fun h17 => ?_)
        · refine lv_iinc (k := 2) (v := (nI (k3 + 1))) hx hb d_Resolver_tally_66 hl rfl (nI_1 k3) (by decide) rfl (fun ls hl => ?_)
          have hl : lv_has ls 6 [(3, .int (nI (k3 + 1))), (5, .int x14), (4, .int x13), (0, .ref a_t), (1, .ref a_y0), (2, .ref a_y1)] := hl
          refine lv_goto (tgt := 2) hx hb d_Resolver_tally_69 (by decide) ?_
          have hl : lv_has ls 6 [(3, .int (nI (k3 + 1))), (0, .ref a_t), (1, .ref a_y0), (2, .ref a_y1)] := lv_sub hl [0, 3, 4, 5] rfl
          have hP9 := hP.sub (ws' := [(a_t, .inr (7, [.ref a_pairFirsts, .ref a_pairLasts, .int (nI n_pairs), .int (nI n_pairsBefore), .ref a_firsts, .ref a_lasts, .int (nI n_operands), .ref a_levels, .ref a_sides, .ref a_minusPlaces, .int (nI n_waiting)])), (a_pairFirsts, .inl (ka_pairFirsts, 90, .inl f_pairFirsts)), (a_pairLasts, .inl (ka_pairLasts, 90, .inl f_pairLasts)), (a_y0, .inl (ka_y0, n_y0, .inl v_a_y0)), (a_y1, .inl (ka_y1, n_y1, .inl v_a_y1))]) [0, 1, 2, 3, 4] rfl
          have hD9 := hD.sub (ws' := [(a_t, .inr (7, [.ref a_pairFirsts, .ref a_pairLasts, .int (nI n_pairs), .int (nI n_pairsBefore), .ref a_firsts, .ref a_lasts, .int (nI n_operands), .ref a_levels, .ref a_sides, .ref a_minusPlaces, .int (nI n_waiting)])), (a_pairFirsts, .inl (ka_pairFirsts, 90, .inl f_pairFirsts)), (a_pairLasts, .inl (ka_pairLasts, 90, .inl f_pairLasts)), (a_y0, .inl (ka_y0, n_y0, .inl v_a_y0)), (a_y1, .inl (ka_y1, n_y1, .inl v_a_y1))]) [0, 1, 2, 3, 4] (by decide) rfl
          exact ih2 ((k3 + 1), v_a_y0, v_a_y1) (by show 90 - ((k3 + 1)) < 90 - k3; omega) _ _ _ ⟨by show ((k3 + 1)) ≤ 90; first | omega | assumption | exact Or.inl rfl | exact Or.inr rfl, hl, hP9, hD9, hS⟩
        · refine lv_iload hx hb d_Resolver_tally_43 (lv_at hl 0 rfl) ?_
          refine lv_aload_n hx hb d_Resolver_tally_45 rfl (lv_at hl 5 rfl) ?_
          refine va_alen (v := (nI n_y1)) hx hb hK hP 4 3 rfl rfl rfl d_Resolver_tally_46 ?_
          refine lv_icmp_ge (tgt := 66) hx hb d_Resolver_tally_47 (by decide) (fun h18 => ?_) (fun h18 => ?_)
          · refine lv_iinc (k := 2) (v := (nI (k3 + 1))) hx hb d_Resolver_tally_66 hl rfl (nI_1 k3) (by decide) rfl (fun ls hl => ?_)
            have hl : lv_has ls 6 [(3, .int (nI (k3 + 1))), (5, .int x14), (4, .int x13), (0, .ref a_t), (1, .ref a_y0), (2, .ref a_y1)] := hl
            refine lv_goto (tgt := 2) hx hb d_Resolver_tally_69 (by decide) ?_
            have hl : lv_has ls 6 [(3, .int (nI (k3 + 1))), (0, .ref a_t), (1, .ref a_y0), (2, .ref a_y1)] := lv_sub hl [0, 3, 4, 5] rfl
            have hP9 := hP.sub (ws' := [(a_t, .inr (7, [.ref a_pairFirsts, .ref a_pairLasts, .int (nI n_pairs), .int (nI n_pairsBefore), .ref a_firsts, .ref a_lasts, .int (nI n_operands), .ref a_levels, .ref a_sides, .ref a_minusPlaces, .int (nI n_waiting)])), (a_pairFirsts, .inl (ka_pairFirsts, 90, .inl f_pairFirsts)), (a_pairLasts, .inl (ka_pairLasts, 90, .inl f_pairLasts)), (a_y0, .inl (ka_y0, n_y0, .inl v_a_y0)), (a_y1, .inl (ka_y1, n_y1, .inl v_a_y1))]) [0, 1, 2, 3, 4] rfl
            have hD9 := hD.sub (ws' := [(a_t, .inr (7, [.ref a_pairFirsts, .ref a_pairLasts, .int (nI n_pairs), .int (nI n_pairsBefore), .ref a_firsts, .ref a_lasts, .int (nI n_operands), .ref a_levels, .ref a_sides, .ref a_minusPlaces, .int (nI n_waiting)])), (a_pairFirsts, .inl (ka_pairFirsts, 90, .inl f_pairFirsts)), (a_pairLasts, .inl (ka_pairLasts, 90, .inl f_pairLasts)), (a_y0, .inl (ka_y0, n_y0, .inl v_a_y0)), (a_y1, .inl (ka_y1, n_y1, .inl v_a_y1))]) [0, 1, 2, 3, 4] (by decide) rfl
            exact ih2 ((k3 + 1), v_a_y0, v_a_y1) (by show 90 - ((k3 + 1)) < 90 - k3; omega) _ _ _ ⟨by show ((k3 + 1)) ≤ 90; first | omega | assumption | exact Or.inl rfl | exact Or.inr rfl, hl, hP9, hD9, hS⟩
          · refine lv_aload_n hx hb d_Resolver_tally_50 rfl (lv_at hl 4 rfl) ?_
            refine lv_iload hx hb d_Resolver_tally_51 (lv_at hl 1 rfl) ?_
            refine lv_dup2_11 hx hb d_Resolver_tally_53 rfl rfl ?_
            refine va_iald hx hb hK hP 3 2 rfl rfl (xr_inr (xr_ge0 h15) (Int32.not_le.mp h16) (by omega) (by omega)) d_Resolver_tally_54 ?_
            refine lv_topi (fun x19 e_x19 => ?_)
            refine lv_iconst (v := 1) hx hb d_Resolver_tally_55 (by decide) ?_
            refine xr_iadd (v := (x19 + 1)) hx hb d_Resolver_tally_56 rfl ?_
            refine va_iast hx hb hK hP hD hS 3 2 rfl rfl (xr_inr (xr_ge0 h15) (Int32.not_le.mp h16) (by omega) (by omega)) d_Resolver_tally_57 (fun H locs hP hD hS => ?_)
            generalize upd v_a_y0 (x13 : Int32).toNatClampNeg (x19 + 1) = f20 at hP hD
            have hP : va_P (dC, dI) vcl [(a_t, .inr (7, [.ref a_pairFirsts, .ref a_pairLasts, .int (nI n_pairs), .int (nI n_pairsBefore), .ref a_firsts, .ref a_lasts, .int (nI n_operands), .ref a_levels, .ref a_sides, .ref a_minusPlaces, .int (nI n_waiting)])), (a_pairFirsts, .inl (ka_pairFirsts, 90, .inl f_pairFirsts)), (a_pairLasts, .inl (ka_pairLasts, 90, .inl f_pairLasts)), (a_y0, .inl (ka_y0, n_y0, .inl f20)), (a_y1, .inl (ka_y1, n_y1, .inl v_a_y1))] H := hP
            have hD : va_D A [(a_t, .inr (7, [.ref a_pairFirsts, .ref a_pairLasts, .int (nI n_pairs), .int (nI n_pairsBefore), .ref a_firsts, .ref a_lasts, .int (nI n_operands), .ref a_levels, .ref a_sides, .ref a_minusPlaces, .int (nI n_waiting)])), (a_pairFirsts, .inl (ka_pairFirsts, 90, .inl f_pairFirsts)), (a_pairLasts, .inl (ka_pairLasts, 90, .inl f_pairLasts)), (a_y0, .inl (ka_y0, n_y0, .inl f20)), (a_y1, .inl (ka_y1, n_y1, .inl v_a_y1))] := hD
            refine lv_aload_n hx hb d_Resolver_tally_58 rfl (lv_at hl 5 rfl) ?_
            refine lv_iload hx hb d_Resolver_tally_59 (lv_at hl 0 rfl) ?_
            refine lv_dup2_11 hx hb d_Resolver_tally_61 rfl rfl ?_
            refine va_iald hx hb hK hP 4 3 rfl rfl (xr_inr (xr_ge0 h17) (Int32.not_le.mp h18) (by omega) (by omega)) d_Resolver_tally_62 ?_
            refine lv_topi (fun x21 e_x21 => ?_)
            refine lv_iconst (v := 1) hx hb d_Resolver_tally_63 (by decide) ?_
            refine xr_iadd (v := (x21 + 1)) hx hb d_Resolver_tally_64 rfl ?_
            refine va_iast hx hb hK hP hD hS 4 3 rfl rfl (xr_inr (xr_ge0 h17) (Int32.not_le.mp h18) (by omega) (by omega)) d_Resolver_tally_65 (fun H locs hP hD hS => ?_)
            generalize upd v_a_y1 (x14 : Int32).toNatClampNeg (x21 + 1) = f22 at hP hD
            have hP : va_P (dC, dI) vcl [(a_t, .inr (7, [.ref a_pairFirsts, .ref a_pairLasts, .int (nI n_pairs), .int (nI n_pairsBefore), .ref a_firsts, .ref a_lasts, .int (nI n_operands), .ref a_levels, .ref a_sides, .ref a_minusPlaces, .int (nI n_waiting)])), (a_pairFirsts, .inl (ka_pairFirsts, 90, .inl f_pairFirsts)), (a_pairLasts, .inl (ka_pairLasts, 90, .inl f_pairLasts)), (a_y0, .inl (ka_y0, n_y0, .inl f20)), (a_y1, .inl (ka_y1, n_y1, .inl f22))] H := hP
            have hD : va_D A [(a_t, .inr (7, [.ref a_pairFirsts, .ref a_pairLasts, .int (nI n_pairs), .int (nI n_pairsBefore), .ref a_firsts, .ref a_lasts, .int (nI n_operands), .ref a_levels, .ref a_sides, .ref a_minusPlaces, .int (nI n_waiting)])), (a_pairFirsts, .inl (ka_pairFirsts, 90, .inl f_pairFirsts)), (a_pairLasts, .inl (ka_pairLasts, 90, .inl f_pairLasts)), (a_y0, .inl (ka_y0, n_y0, .inl f20)), (a_y1, .inl (ka_y1, n_y1, .inl f22))] := hD
            refine lv_iinc (k := 2) (v := (nI (k3 + 1))) hx hb d_Resolver_tally_66 hl rfl (nI_1 k3) (by decide) rfl (fun ls hl => ?_)
            have hl : lv_has ls 6 [(3, .int (nI (k3 + 1))), (5, .int x14), (4, .int x13), (0, .ref a_t), (1, .ref a_y0), (2, .ref a_y1)] := hl
            refine lv_goto (tgt := 2) hx hb d_Resolver_tally_69 (by decide) ?_
            have hl : lv_has ls 6 [(3, .int (nI (k3 + 1))), (0, .ref a_t), (1, .ref a_y0), (2, .ref a_y1)] := lv_sub hl [0, 3, 4, 5] rfl
            have hP9 := hP.sub (ws' := [(a_t, .inr (7, [.ref a_pairFirsts, .ref a_pairLasts, .int (nI n_pairs), .int (nI n_pairsBefore), .ref a_firsts, .ref a_lasts, .int (nI n_operands), .ref a_levels, .ref a_sides, .ref a_minusPlaces, .int (nI n_waiting)])), (a_pairFirsts, .inl (ka_pairFirsts, 90, .inl f_pairFirsts)), (a_pairLasts, .inl (ka_pairLasts, 90, .inl f_pairLasts)), (a_y0, .inl (ka_y0, n_y0, .inl f20)), (a_y1, .inl (ka_y1, n_y1, .inl f22))]) [0, 1, 2, 3, 4] rfl
            have hD9 := hD.sub (ws' := [(a_t, .inr (7, [.ref a_pairFirsts, .ref a_pairLasts, .int (nI n_pairs), .int (nI n_pairsBefore), .ref a_firsts, .ref a_lasts, .int (nI n_operands), .ref a_levels, .ref a_sides, .ref a_minusPlaces, .int (nI n_waiting)])), (a_pairFirsts, .inl (ka_pairFirsts, 90, .inl f_pairFirsts)), (a_pairLasts, .inl (ka_pairLasts, 90, .inl f_pairLasts)), (a_y0, .inl (ka_y0, n_y0, .inl f20)), (a_y1, .inl (ka_y1, n_y1, .inl f22))]) [0, 1, 2, 3, 4] (by decide) rfl
            exact ih2 ((k3 + 1), f20, f22) (by show 90 - ((k3 + 1)) < 90 - k3; omega) _ _ _ ⟨by show ((k3 + 1)) ≤ 90; first | omega | assumption | exact Or.inl rfl | exact Or.inr rfl, hl, hP9, hD9, hS⟩
