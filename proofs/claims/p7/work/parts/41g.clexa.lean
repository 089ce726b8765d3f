set_option maxHeartbeats 4000000 in
set_option maxRecDepth 100000 in
theorem s_Text_at6 (l : Launch) (dC : Nat → ClassId) (dI : Nat → Nat → Nat) (sz : Nat) (a_t : Nat) (a_characters : Nat) (f_characters : Nat → Int32) (n_length : Nat) (y0 : Nat) (ka_characters : ClassId) (c_characters : ∀ j, narrow .char (.int (f_characters j)) = .int (f_characters j)) (b_length : n_length ≤ 240) (by0 : y0 ≤ 242) : Met l y_Text_at w_Text_at ({ frames := 0, cells := 0, slots := 0, locals := 0 }) (va_Pc [.ref a_t, .int (nI y0)] (fun U => U.heap.size = sz ∧ va_P (dC, dI) vcl [(a_t, .inr (10, [.ref a_characters, .int (nI n_length)])), (a_characters, .inl (ka_characters, 240, .inl f_characters))] U.heap ∧ va_K (dC, dI) vcl [(ka_characters, .char)] U ∧ va_D (fun _ => True) [(a_t, .inr (10, [.ref a_characters, .int (nI n_length)])), (a_characters, .inl (ka_characters, 240, .inl f_characters))])) (va_Qi (fun (r : Int32) (_ : Unit) => r = cN f_characters n_length y0) (fun _ t => va_P (dC, dI) vcl [(a_t, .inr (10, [.ref a_characters, .int (nI n_length)])), (a_characters, .inl (ka_characters, 240, .inl f_characters))] t.heap ∧ va_K (dC, dI) vcl [(ka_characters, .char)] t ∧ va_D (va_A [(a_t, .inr (10, [.ref a_characters, .int (nI n_length)])), (a_characters, .inl (ka_characters, 240, .inl f_characters))] sz) [(a_t, .inr (10, [.ref a_characters, .int (nI n_length)])), (a_characters, .inl (ka_characters, 240, .inl f_characters))]) (va_A [(a_t, .inr (10, [.ref a_characters, .int (nI n_length)])), (a_characters, .inl (ka_characters, 240, .inl f_characters))] sz)) 0 0 (va_A [(a_t, .inr (10, [.ref a_characters, .int (nI n_length)])), (a_characters, .inl (ka_characters, 240, .inl f_characters))] sz) := by
  refine Met.ofW (cc := b_Text_at) (maxL := 2) (ret := (some .char)) (by decide) rfl ?_
  intro p e s m args below meth c s₁ B hml hv
  obtain ⟨rfl, hsz, hP, hK, hD0⟩ := hv
  have hx := B.exec
  have hb := B.bytes
  have hr := B.returns
  have hts := atoms_spec (ws := w_Text_at) B.pre
  have hz : ∀ w ∈ wz, w.before _ s = true := fun w h => hts w (List.mem_cons_of_mem _ h)
  have hown : s.vm.findClass R_Text = some m.cls := findClass_of_methodNamed B.named
  have hlocks := B.notSynchronized
  subst hsz
  have hD := hD0.self (sz := s.heap.size)
  generalize hAe : va_A [(a_t, .inr (10, [.ref a_characters, .int (nI n_length)])), (a_characters, .inl (ka_characters, 240, .inl f_characters))] s.heap.size = A at hD ⊢
  have hA : ∀ q : Nat, s.heap.size ≤ q → A q := fun q h => by rw [← hAe]; exact Or.inr h
  have hS : va_S A s.heap s.heap [] := va_S.rf
  have hP : va_P (dC, dI) vcl [(a_t, .inr (10, [.ref a_characters, .int (nI n_length)])), (a_characters, .inl (ka_characters, 240, .inl f_characters))] s.heap := hP
  have hl := lv_entry ([.ref a_t, .int (nI y0)]) (n := 2) (Nat.le_of_ble_eq_true rfl)
  rw [lg_entry_eq]
  generalize (lg_sl ([.ref a_t, .int (nI y0)]) ++ List.replicate (2 - (lg_sl ([.ref a_t, .int (nI y0)])).length) Slot.unset).toArray = ls at hl ⊢
  have hl : lv_has ls 2 [(0, .ref a_t), (1, .int (nI y0))] := hl
  refine lv_iload_n hx hb d_Text_at_0 rfl (lv_at hl 1 rfl) ?_
  refine lv_if_lt (tgt := 21) hx hb d_Text_at_1 (by decide) (fun h1 => ?_) (fun h1 => ?_)
  · have h1 : y0 < 0 := (nI_ltI (a := y0) (b := 0) (by omega) (by omega)).mp h1
    refine lv_iconst (v := 0) hx hb d_Text_at_21 (by decide) ?_
    have hP9 := hP.sub (ws' := [(a_t, .inr (10, [.ref a_characters, .int (nI n_length)])), (a_characters, .inl (ka_characters, 240, .inl f_characters))]) [0, 1] rfl
    have hD9 := hD.sub (ws' := [(a_t, .inr (10, [.ref a_characters, .int (nI n_length)])), (a_characters, .inl (ka_characters, 240, .inl f_characters))]) [0, 1] (by decide) rfl
    exact W.zret (v := 0) hx hb hr (by decide +kernel) (fun t ht hW => ⟨⟨0, (), rfl, (by first | exact (cN_lt (by omega)).symm | exact (cN_ge (by omega)).symm), by rw [ht]; exact hP9, va_K.moved hW.alike hK, hD9⟩, hS.F ht⟩) hS.2.2 d_Text_at_22
  · have h1 : ¬ y0 < 0 := fun q => h1 ((nI_ltI (a := y0) (b := 0) (by omega) (by omega)).mpr q)
    refine lv_iload_n hx hb d_Text_at_4 rfl (lv_at hl 1 rfl) ?_
    refine lv_aload_n hx hb d_Text_at_5 rfl (lv_at hl 0 rfl) ?_
    refine va_get (D := (dC, dI)) (ci := 10) (v := .int (nI n_length)) (C := R_Text) (T := F_Text) (N := 2) hx hb hz zu_Text hown hK hP 0 rfl rfl 1 (by decide) (hz (.fieldLink R_Text 19 "LayoutFront$Text" "length" "I") zm_9) (fun _ h9 => h9) rfl d_Text_at_6 ?_
    refine lv_icmp_ge (tgt := 21) hx hb d_Text_at_9 (by decide) (fun h2 => ?_) (fun h2 => ?_)
    · have h2 : n_length ≤ y0 := (nI_leI (a := n_length) (b := y0) (by omega) (by omega)).mp h2
      refine lv_iconst (v := 0) hx hb d_Text_at_21 (by decide) ?_
      have hP9 := hP.sub (ws' := [(a_t, .inr (10, [.ref a_characters, .int (nI n_length)])), (a_characters, .inl (ka_characters, 240, .inl f_characters))]) [0, 1] rfl
      have hD9 := hD.sub (ws' := [(a_t, .inr (10, [.ref a_characters, .int (nI n_length)])), (a_characters, .inl (ka_characters, 240, .inl f_characters))]) [0, 1] (by decide) rfl
      exact W.zret (v := 0) hx hb hr (by decide +kernel) (fun t ht hW => ⟨⟨0, (), rfl, (by first | exact (cN_lt (by omega)).symm | exact (cN_ge (by omega)).symm), by rw [ht]; exact hP9, va_K.moved hW.alike hK, hD9⟩, hS.F ht⟩) hS.2.2 d_Text_at_22
    · have h2 : ¬ n_length ≤ y0 := fun q => h2 ((nI_leI (a := n_length) (b := y0) (by omega) (by omega)).mpr q)
      refine lv_aload_n hx hb d_Text_at_12 rfl (lv_at hl 0 rfl) ?_
      refine va_get (D := (dC, dI)) (ci := 10) (v := .ref a_characters) (C := R_Text) (T := F_Text) (N := 2) hx hb hz zu_Text hown hK hP 0 rfl rfl 0 (by decide) (hz (.fieldLink R_Text 9 "LayoutFront$Text" "characters" "[C") zm_3) (fun _ h9 => h9) rfl d_Text_at_13 ?_
      refine lv_iload_n hx hb d_Text_at_16 rfl (lv_at hl 1 rfl) ?_
      refine xr_cald (v := (f_characters y0)) hx hb hK hP 1 0 rfl rfl (vp_in_nI (by omega) (by omega)) (congrArg f_characters (nI_clamp (by omega))) d_Text_at_17 ?_
      refine lv_goto (tgt := 22) hx hb d_Text_at_18 (by decide) ?_
      have hP9 := hP.sub (ws' := [(a_t, .inr (10, [.ref a_characters, .int (nI n_length)])), (a_characters, .inl (ka_characters, 240, .inl f_characters))]) [0, 1] rfl
      have hD9 := hD.sub (ws' := [(a_t, .inr (10, [.ref a_characters, .int (nI n_length)])), (a_characters, .inl (ka_characters, 240, .inl f_characters))]) [0, 1] (by decide) rfl
      exact W.zret (v := (f_characters y0)) hx hb hr (c_characters _) (fun t ht hW => ⟨⟨(f_characters y0), (), rfl, (by first | exact (cN_lt (by omega)).symm | exact (cN_ge (by omega)).symm), by rw [ht]; exact hP9, va_K.moved hW.alike hK, hD9⟩, hS.F ht⟩) hS.2.2 d_Text_at_22
set_option maxHeartbeats 4000000 in
set_option maxRecDepth 100000 in
theorem s_Cutter_isBlank6 (l : Launch) (dC : Nat → ClassId) (dI : Nat → Nat → Nat) (sz : Nat) (y0 : Int32) : Met l y_Cutter_isBlank w_Cutter_isBlank ({ frames := 0, cells := 0, slots := 0, locals := 0 }) (va_Pc [.int y0] (fun U => U.heap.size = sz ∧ va_P (dC, dI) vcl [] U.heap ∧ va_K (dC, dI) vcl [] U ∧ va_D (fun _ => True) [])) (va_Qi (fun (r : Int32) (_ : Unit) => (r = 0 ∨ r = 1) ∧ (r = b01 (bkB y0))) (fun _ t => va_P (dC, dI) vcl [] t.heap ∧ va_K (dC, dI) vcl [] t ∧ va_D (va_A [] sz) []) (va_A [] sz)) 0 0 (va_A [] sz) := by
  refine Met.ofW (cc := b_Cutter_isBlank) (maxL := 1) (ret := (some .boolean)) (by decide) rfl ?_
  intro p e s m args below meth c s₁ B hml hv
  obtain ⟨rfl, hsz, hP, hK, hD0⟩ := hv
  have hx := B.exec
  have hb := B.bytes
  have hr := B.returns
  have hts := atoms_spec (ws := w_Cutter_isBlank) B.pre
  have hz : ∀ w ∈ wz, w.before _ s = true := fun w h => hts w (List.mem_cons_of_mem _ h)
  have hown : s.vm.findClass R_Cutter = some m.cls := findClass_of_methodNamed B.named
  have hlocks := B.notSynchronized
  subst hsz
  have hD := hD0.self (sz := s.heap.size)
  generalize hAe : va_A [] s.heap.size = A at hD ⊢
  have hA : ∀ q : Nat, s.heap.size ≤ q → A q := fun q h => by rw [← hAe]; exact Or.inr h
  have hS : va_S A s.heap s.heap [] := va_S.rf
  have hP : va_P (dC, dI) vcl [] s.heap := hP
  have hl := lv_entry ([.int y0]) (n := 1) (Nat.le_of_ble_eq_true rfl)
  rw [lg_entry_eq]
  generalize (lg_sl ([.int y0]) ++ List.replicate (1 - (lg_sl ([.int y0])).length) Slot.unset).toArray = ls at hl ⊢
  have hl : lv_has ls 1 [(0, .int y0)] := hl
  refine lv_iload_n hx hb d_Cutter_isBlank_0 rfl (lv_at hl 0 rfl) ?_
  refine lv_bipush (v := 32) hx hb d_Cutter_isBlank_1 (by decide) ?_
  refine lv_icmp_eq (tgt := 12) hx hb d_Cutter_isBlank_3 (by decide) (fun h1 => ?_) (fun h1 => ?_)
  · refine lv_iconst (v := 1) hx hb d_Cutter_isBlank_12 (by decide) ?_
    refine lv_goto (tgt := 17) hx hb d_Cutter_isBlank_13 (by decide) ?_
    have hP9 := hP.sub (ws' := []) [] rfl
    have hD9 := hD.sub (ws' := []) [] (by decide) rfl
    exact W.zret (v := 1) hx hb hr (by decide +kernel) (fun t ht hW => ⟨⟨1, (), rfl, ⟨(by first | assumption | exact Or.inl rfl | exact Or.inr rfl), (by first | exact bk_1 (by assumption) | exact bk_2 (by assumption) | exact bk_0 (by assumption) (by assumption))⟩, by rw [ht]; exact hP9, va_K.moved hW.alike hK, hD9⟩, hS.F ht⟩) hS.2.2 d_Cutter_isBlank_17
  · refine lv_iload_n hx hb d_Cutter_isBlank_6 rfl (lv_at hl 0 rfl) ?_
    refine lv_bipush (v := 10) hx hb d_Cutter_isBlank_7 (by decide) ?_
    refine lv_icmp_ne (tgt := 16) hx hb d_Cutter_isBlank_9 (by decide) (fun h2 => ?_) (fun h2 => ?_)
    · refine lv_iconst (v := 0) hx hb d_Cutter_isBlank_16 (by decide) ?_
      have hP9 := hP.sub (ws' := []) [] rfl
      have hD9 := hD.sub (ws' := []) [] (by decide) rfl
      exact W.zret (v := 0) hx hb hr (by decide +kernel) (fun t ht hW => ⟨⟨0, (), rfl, ⟨(by first | assumption | exact Or.inl rfl | exact Or.inr rfl), (by first | exact bk_1 (by assumption) | exact bk_2 (by assumption) | exact bk_0 (by assumption) (by assumption))⟩, by rw [ht]; exact hP9, va_K.moved hW.alike hK, hD9⟩, hS.F ht⟩) hS.2.2 d_Cutter_isBlank_17
    · refine lv_iconst (v := 1) hx hb d_Cutter_isBlank_12 (by decide) ?_
      refine lv_goto (tgt := 17) hx hb d_Cutter_isBlank_13 (by decide) ?_
      have hP9 := hP.sub (ws' := []) [] rfl
      have hD9 := hD.sub (ws' := []) [] (by decide) rfl
      exact W.zret (v := 1) hx hb hr (by decide +kernel) (fun t ht hW => ⟨⟨1, (), rfl, ⟨(by first | assumption | exact Or.inl rfl | exact Or.inr rfl), (by first | exact bk_1 (by assumption) | exact bk_2 (by assumption) | exact bk_0 (by assumption) (by assumption))⟩, by rw [ht]; exact hP9, va_K.moved hW.alike hK, hD9⟩, hS.F ht⟩) hS.2.2 d_Cutter_isBlank_17
set_option maxHeartbeats 4000000 in
set_option maxRecDepth 100000 in
theorem s_Cutter_isDigit6 (l : Launch) (dC : Nat → ClassId) (dI : Nat → Nat → Nat) (sz : Nat) (y0 : Int32) : Met l y_Cutter_isDigit w_Cutter_isDigit ({ frames := 0, cells := 0, slots := 0, locals := 0 }) (va_Pc [.int y0] (fun U => U.heap.size = sz ∧ va_P (dC, dI) vcl [] U.heap ∧ va_K (dC, dI) vcl [] U ∧ va_D (fun _ => True) [])) (va_Qi (fun (r : Int32) (_ : Unit) => (r = 0 ∨ r = 1) ∧ (r = wi y0 48 57)) (fun _ t => va_P (dC, dI) vcl [] t.heap ∧ va_K (dC, dI) vcl [] t ∧ va_D (va_A [] sz) []) (va_A [] sz)) 0 0 (va_A [] sz) := by
  refine Met.ofW (cc := b_Cutter_isDigit) (maxL := 1) (ret := (some .boolean)) (by decide) rfl ?_
  intro p e s m args below meth c s₁ B hml hv
  obtain ⟨rfl, hsz, hP, hK, hD0⟩ := hv
  have hx := B.exec
  have hb := B.bytes
  have hr := B.returns
  have hts := atoms_spec (ws := w_Cutter_isDigit) B.pre
  have hz : ∀ w ∈ wz, w.before _ s = true := fun w h => hts w (List.mem_cons_of_mem _ h)
  have hown : s.vm.findClass R_Cutter = some m.cls := findClass_of_methodNamed B.named
  have hlocks := B.notSynchronized
  subst hsz
  have hD := hD0.self (sz := s.heap.size)
  generalize hAe : va_A [] s.heap.size = A at hD ⊢
  have hA : ∀ q : Nat, s.heap.size ≤ q → A q := fun q h => by rw [← hAe]; exact Or.inr h
  have hS : va_S A s.heap s.heap [] := va_S.rf
  have hP : va_P (dC, dI) vcl [] s.heap := hP
  have hl := lv_entry ([.int y0]) (n := 1) (Nat.le_of_ble_eq_true rfl)
  rw [lg_entry_eq]
  generalize (lg_sl ([.int y0]) ++ List.replicate (1 - (lg_sl ([.int y0])).length) Slot.unset).toArray = ls at hl ⊢
  have hl : lv_has ls 1 [(0, .int y0)] := hl
  refine lv_iload_n hx hb d_Cutter_isDigit_0 rfl (lv_at hl 0 rfl) ?_
  refine lv_bipush (v := 48) hx hb d_Cutter_isDigit_1 (by decide) ?_
  refine lv_icmp_lt (tgt := 16) hx hb d_Cutter_isDigit_3 (by decide) (fun h1 => ?_) (fun h1 => ?_)
  · refine lv_iconst (v := 0) hx hb d_Cutter_isDigit_16 (by decide) ?_
    have hP9 := hP.sub (ws' := []) [] rfl
    have hD9 := hD.sub (ws' := []) [] (by decide) rfl
    exact W.zret (v := 0) hx hb hr (by decide +kernel) (fun t ht hW => ⟨⟨0, (), rfl, ⟨(by first | assumption | exact Or.inl rfl | exact Or.inr rfl), (by unfold wi; simp [*])⟩, by rw [ht]; exact hP9, va_K.moved hW.alike hK, hD9⟩, hS.F ht⟩) hS.2.2 d_Cutter_isDigit_17
  · refine lv_iload_n hx hb d_Cutter_isDigit_6 rfl (lv_at hl 0 rfl) ?_
    refine lv_bipush (v := 57) hx hb d_Cutter_isDigit_7 (by decide) ?_
    refine lv_icmp_gt (tgt := 16) hx hb d_Cutter_isDigit_9 (by decide) (fun h2 => ?_) (fun h2 => ?_)
    · refine lv_iconst (v := 0) hx hb d_Cutter_isDigit_16 (by decide) ?_
      have hP9 := hP.sub (ws' := []) [] rfl
      have hD9 := hD.sub (ws' := []) [] (by decide) rfl
      exact W.zret (v := 0) hx hb hr (by decide +kernel) (fun t ht hW => ⟨⟨0, (), rfl, ⟨(by first | assumption | exact Or.inl rfl | exact Or.inr rfl), (by unfold wi; simp [*])⟩, by rw [ht]; exact hP9, va_K.moved hW.alike hK, hD9⟩, hS.F ht⟩) hS.2.2 d_Cutter_isDigit_17
    · refine lv_iconst (v := 1) hx hb d_Cutter_isDigit_12 (by decide) ?_
      refine lv_goto (tgt := 17) hx hb d_Cutter_isDigit_13 (by decide) ?_
      have hP9 := hP.sub (ws' := []) [] rfl
      have hD9 := hD.sub (ws' := []) [] (by decide) rfl
      exact W.zret (v := 1) hx hb hr (by decide +kernel) (fun t ht hW => ⟨⟨1, (), rfl, ⟨(by first | assumption | exact Or.inl rfl | exact Or.inr rfl), (by unfold wi; simp [*])⟩, by rw [ht]; exact hP9, va_K.moved hW.alike hK, hD9⟩, hS.F ht⟩) hS.2.2 d_Cutter_isDigit_17
set_option maxHeartbeats 4000000 in
set_option maxRecDepth 100000 in
theorem s_Cutter_isLetter6 (l : Launch) (dC : Nat → ClassId) (dI : Nat → Nat → Nat) (sz : Nat) (y0 : Int32) : Met l y_Cutter_isLetter w_Cutter_isLetter ({ frames := 0, cells := 0, slots := 0, locals := 0 }) (va_Pc [.int y0] (fun U => U.heap.size = sz ∧ va_P (dC, dI) vcl [] U.heap ∧ va_K (dC, dI) vcl [] U ∧ va_D (fun _ => True) [])) (va_Qi (fun (r : Int32) (_ : Unit) => (r = 0 ∨ r = 1) ∧ (r = lt_ y0)) (fun _ t => va_P (dC, dI) vcl [] t.heap ∧ va_K (dC, dI) vcl [] t ∧ va_D (va_A [] sz) []) (va_A [] sz)) 0 0 (va_A [] sz) := by
  refine Met.ofW (cc := b_Cutter_isLetter) (maxL := 1) (ret := (some .boolean)) (by decide) rfl ?_
  intro p e s m args below meth c s₁ B hml hv
  obtain ⟨rfl, hsz, hP, hK, hD0⟩ := hv
  have hx := B.exec
  have hb := B.bytes
  have hr := B.returns
  have hts := atoms_spec (ws := w_Cutter_isLetter) B.pre
  have hz : ∀ w ∈ wz, w.before _ s = true := fun w h => hts w (List.mem_cons_of_mem _ h)
  have hown : s.vm.findClass R_Cutter = some m.cls := findClass_of_methodNamed B.named
  have hlocks := B.notSynchronized
  subst hsz
  have hD := hD0.self (sz := s.heap.size)
  generalize hAe : va_A [] s.heap.size = A at hD ⊢
  have hA : ∀ q : Nat, s.heap.size ≤ q → A q := fun q h => by rw [← hAe]; exact Or.inr h
  have hS : va_S A s.heap s.heap [] := va_S.rf
  have hP : va_P (dC, dI) vcl [] s.heap := hP
  have hl := lv_entry ([.int y0]) (n := 1) (Nat.le_of_ble_eq_true rfl)
  rw [lg_entry_eq]
  generalize (lg_sl ([.int y0]) ++ List.replicate (1 - (lg_sl ([.int y0])).length) Slot.unset).toArray = ls at hl ⊢
  have hl : lv_has ls 1 [(0, .int y0)] := hl
  refine lv_iload_n hx hb d_Cutter_isLetter_0 rfl (lv_at hl 0 rfl) ?_
  refine lv_bipush (v := 97) hx hb d_Cutter_isLetter_1 (by decide) ?_
  refine lv_icmp_lt (tgt := 12) hx hb d_Cutter_isLetter_3 (by decide) (fun h1 => ?_) (fun h1 => ?_)
  · refine lv_iload_n hx hb d_Cutter_isLetter_12 rfl (lv_at hl 0 rfl) ?_
    refine lv_bipush (v := 65) hx hb d_Cutter_isLetter_13 (by decide) ?_
    refine lv_icmp_lt (tgt := 24) hx hb d_Cutter_isLetter_15 (by decide) (fun h2 => ?_) (fun h2 => ?_)
    · refine lv_iload_n hx hb d_Cutter_isLetter_24 rfl (lv_at hl 0 rfl) ?_
      refine lv_bipush (v := 95) hx hb d_Cutter_isLetter_25 (by decide) ?_
      refine lv_icmp_ne (tgt := 34) hx hb d_Cutter_isLetter_27 (by decide) (fun h3 => ?_) (fun h3 => ?_)
      · refine lv_iconst (v := 0) hx hb d_Cutter_isLetter_34 (by decide) ?_
        have hP9 := hP.sub (ws' := []) [] rfl
        have hD9 := hD.sub (ws' := []) [] (by decide) rfl
        exact W.zret (v := 0) hx hb hr (by decide +kernel) (fun t ht hW => ⟨⟨0, (), rfl, ⟨(by first | assumption | exact Or.inl rfl | exact Or.inr rfl), (by simp [lt_, wi, *])⟩, by rw [ht]; exact hP9, va_K.moved hW.alike hK, hD9⟩, hS.F ht⟩) hS.2.2 d_Cutter_isLetter_35
      · refine lv_iconst (v := 1) hx hb d_Cutter_isLetter_30 (by decide) ?_
        refine lv_goto (tgt := 35) hx hb d_Cutter_isLetter_31 (by decide) ?_
        have hP9 := hP.sub (ws' := []) [] rfl
        have hD9 := hD.sub (ws' := []) [] (by decide) rfl
        exact W.zret (v := 1) hx hb hr (by decide +kernel) (fun t ht hW => ⟨⟨1, (), rfl, ⟨(by first | assumption | exact Or.inl rfl | exact Or.inr rfl), (by simp [lt_, wi, *])⟩, by rw [ht]; exact hP9, va_K.moved hW.alike hK, hD9⟩, hS.F ht⟩) hS.2.2 d_Cutter_isLetter_35
    · refine lv_iload_n hx hb d_Cutter_isLetter_18 rfl (lv_at hl 0 rfl) ?_
      refine lv_bipush (v := 90) hx hb d_Cutter_isLetter_19 (by decide) ?_
      refine lv_icmp_le (tgt := 30) hx hb d_Cutter_isLetter_21 (by decide) (fun h4 => ?_) (fun h4 => ?_)
      · have e21 := Int32.not_lt.mpr h4
        refine lv_iconst (v := 1) hx hb d_Cutter_isLetter_30 (by decide) ?_
        refine lv_goto (tgt := 35) hx hb d_Cutter_isLetter_31 (by decide) ?_
        have hP9 := hP.sub (ws' := []) [] rfl
        have hD9 := hD.sub (ws' := []) [] (by decide) rfl
        exact W.zret (v := 1) hx hb hr (by decide +kernel) (fun t ht hW => ⟨⟨1, (), rfl, ⟨(by first | assumption | exact Or.inl rfl | exact Or.inr rfl), (by simp [lt_, wi, *])⟩, by rw [ht]; exact hP9, va_K.moved hW.alike hK, hD9⟩, hS.F ht⟩) hS.2.2 d_Cutter_isLetter_35
      · have e21 := Int32.not_le.mp h4
        refine lv_iload_n hx hb d_Cutter_isLetter_24 rfl (lv_at hl 0 rfl) ?_
        refine lv_bipush (v := 95) hx hb d_Cutter_isLetter_25 (by decide) ?_
        refine lv_icmp_ne (tgt := 34) hx hb d_Cutter_isLetter_27 (by decide) (fun h5 => ?_) (fun h5 => ?_)
        · refine lv_iconst (v := 0) hx hb d_Cutter_isLetter_34 (by decide) ?_
          have hP9 := hP.sub (ws' := []) [] rfl
          have hD9 := hD.sub (ws' := []) [] (by decide) rfl
          exact W.zret (v := 0) hx hb hr (by decide +kernel) (fun t ht hW => ⟨⟨0, (), rfl, ⟨(by first | assumption | exact Or.inl rfl | exact Or.inr rfl), (by simp [lt_, wi, *])⟩, by rw [ht]; exact hP9, va_K.moved hW.alike hK, hD9⟩, hS.F ht⟩) hS.2.2 d_Cutter_isLetter_35
        · refine lv_iconst (v := 1) hx hb d_Cutter_isLetter_30 (by decide) ?_
          refine lv_goto (tgt := 35) hx hb d_Cutter_isLetter_31 (by decide) ?_
          have hP9 := hP.sub (ws' := []) [] rfl
          have hD9 := hD.sub (ws' := []) [] (by decide) rfl
          exact W.zret (v := 1) hx hb hr (by decide +kernel) (fun t ht hW => ⟨⟨1, (), rfl, ⟨(by first | assumption | exact Or.inl rfl | exact Or.inr rfl), (by simp [lt_, wi, *])⟩, by rw [ht]; exact hP9, va_K.moved hW.alike hK, hD9⟩, hS.F ht⟩) hS.2.2 d_Cutter_isLetter_35
  · refine lv_iload_n hx hb d_Cutter_isLetter_6 rfl (lv_at hl 0 rfl) ?_
    refine lv_bipush (v := 122) hx hb d_Cutter_isLetter_7 (by decide) ?_
    refine lv_icmp_le (tgt := 30) hx hb d_Cutter_isLetter_9 (by decide) (fun h6 => ?_) (fun h6 => ?_)
    · have e9 := Int32.not_lt.mpr h6
      refine lv_iconst (v := 1) hx hb d_Cutter_isLetter_30 (by decide) ?_
      refine lv_goto (tgt := 35) hx hb d_Cutter_isLetter_31 (by decide) ?_
      have hP9 := hP.sub (ws' := []) [] rfl
      have hD9 := hD.sub (ws' := []) [] (by decide) rfl
      exact W.zret (v := 1) hx hb hr (by decide +kernel) (fun t ht hW => ⟨⟨1, (), rfl, ⟨(by first | assumption | exact Or.inl rfl | exact Or.inr rfl), (by simp [lt_, wi, *])⟩, by rw [ht]; exact hP9, va_K.moved hW.alike hK, hD9⟩, hS.F ht⟩) hS.2.2 d_Cutter_isLetter_35
    · have e9 := Int32.not_le.mp h6
      refine lv_iload_n hx hb d_Cutter_isLetter_12 rfl (lv_at hl 0 rfl) ?_
      refine lv_bipush (v := 65) hx hb d_Cutter_isLetter_13 (by decide) ?_
      refine lv_icmp_lt (tgt := 24) hx hb d_Cutter_isLetter_15 (by decide) (fun h7 => ?_) (fun h7 => ?_)
      · refine lv_iload_n hx hb d_Cutter_isLetter_24 rfl (lv_at hl 0 rfl) ?_
        refine lv_bipush (v := 95) hx hb d_Cutter_isLetter_25 (by decide) ?_
        refine lv_icmp_ne (tgt := 34) hx hb d_Cutter_isLetter_27 (by decide) (fun h8 => ?_) (fun h8 => ?_)
        · refine lv_iconst (v := 0) hx hb d_Cutter_isLetter_34 (by decide) ?_
          have hP9 := hP.sub (ws' := []) [] rfl
          have hD9 := hD.sub (ws' := []) [] (by decide) rfl
          exact W.zret (v := 0) hx hb hr (by decide +kernel) (fun t ht hW => ⟨⟨0, (), rfl, ⟨(by first | assumption | exact Or.inl rfl | exact Or.inr rfl), (by simp [lt_, wi, *])⟩, by rw [ht]; exact hP9, va_K.moved hW.alike hK, hD9⟩, hS.F ht⟩) hS.2.2 d_Cutter_isLetter_35
        · refine lv_iconst (v := 1) hx hb d_Cutter_isLetter_30 (by decide) ?_
          refine lv_goto (tgt := 35) hx hb d_Cutter_isLetter_31 (by decide) ?_
          have hP9 := hP.sub (ws' := []) [] rfl
          have hD9 := hD.sub (ws' := []) [] (by decide) rfl
          exact W.zret (v := 1) hx hb hr (by decide +kernel) (fun t ht hW => ⟨⟨1, (), rfl, ⟨(by first | assumption | exact Or.inl rfl | exact Or.inr rfl), (by simp [lt_, wi, *])⟩, by rw [ht]; exact hP9, va_K.moved hW.alike hK, hD9⟩, hS.F ht⟩) hS.2.2 d_Cutter_isLetter_35
      · refine lv_iload_n hx hb d_Cutter_isLetter_18 rfl (lv_at hl 0 rfl) ?_
        refine lv_bipush (v := 90) hx hb d_Cutter_isLetter_19 (by decide) ?_
        refine lv_icmp_le (tgt := 30) hx hb d_Cutter_isLetter_21 (by decide) (fun h9 => ?_) (fun h9 => ?_)
        · have e21 := Int32.not_lt.mpr h9
          refine lv_iconst (v := 1) hx hb d_Cutter_isLetter_30 (by decide) ?_
          refine lv_goto (tgt := 35) hx hb d_Cutter_isLetter_31 (by decide) ?_
          have hP9 := hP.sub (ws' := []) [] rfl
          have hD9 := hD.sub (ws' := []) [] (by decide) rfl
          exact W.zret (v := 1) hx hb hr (by decide +kernel) (fun t ht hW => ⟨⟨1, (), rfl, ⟨(by first | assumption | exact Or.inl rfl | exact Or.inr rfl), (by simp [lt_, wi, *])⟩, by rw [ht]; exact hP9, va_K.moved hW.alike hK, hD9⟩, hS.F ht⟩) hS.2.2 d_Cutter_isLetter_35
        · have e21 := Int32.not_le.mp h9
          refine lv_iload_n hx hb d_Cutter_isLetter_24 rfl (lv_at hl 0 rfl) ?_
          refine lv_bipush (v := 95) hx hb d_Cutter_isLetter_25 (by decide) ?_
          refine lv_icmp_ne (tgt := 34) hx hb d_Cutter_isLetter_27 (by decide) (fun h10 => ?_) (fun h10 => ?_)
          · refine lv_iconst (v := 0) hx hb d_Cutter_isLetter_34 (by decide) ?_
            have hP9 := hP.sub (ws' := []) [] rfl
            have hD9 := hD.sub (ws' := []) [] (by decide) rfl
            exact W.zret (v := 0) hx hb hr (by decide +kernel) (fun t ht hW => ⟨⟨0, (), rfl, ⟨(by first | assumption | exact Or.inl rfl | exact Or.inr rfl), (by simp [lt_, wi, *])⟩, by rw [ht]; exact hP9, va_K.moved hW.alike hK, hD9⟩, hS.F ht⟩) hS.2.2 d_Cutter_isLetter_35
          · refine lv_iconst (v := 1) hx hb d_Cutter_isLetter_30 (by decide) ?_
            refine lv_goto (tgt := 35) hx hb d_Cutter_isLetter_31 (by decide) ?_
            have hP9 := hP.sub (ws' := []) [] rfl
            have hD9 := hD.sub (ws' := []) [] (by decide) rfl
            exact W.zret (v := 1) hx hb hr (by decide +kernel) (fun t ht hW => ⟨⟨1, (), rfl, ⟨(by first | assumption | exact Or.inl rfl | exact Or.inr rfl), (by simp [lt_, wi, *])⟩, by rw [ht]; exact hP9, va_K.moved hW.alike hK, hD9⟩, hS.F ht⟩) hS.2.2 d_Cutter_isLetter_35
set_option maxHeartbeats 4000000 in
set_option maxRecDepth 100000 in
theorem s_Cutter_opensComment6 (l : Launch) (dC : Nat → ClassId) (dI : Nat → Nat → Nat) (sz : Nat) (a_y0 : Nat) (a_y0_characters : Nat) (f_y0_characters : Nat → Int32) (n_y0_length : Nat) (y1 : Nat) (ka_y0_characters : ClassId) (c_y0_characters : ∀ j, narrow .char (.int (f_y0_characters j)) = .int (f_y0_characters j)) (b_y0_length : n_y0_length ≤ 240) (by1 : y1 ≤ 241) : Met l y_Cutter_opensComment w_Cutter_opensComment ({ frames := 1, cells := 0, slots := 0, locals := 21 }) (va_Pc [.ref a_y0, .int (nI y1)] (fun U => U.heap.size = sz ∧ va_P (dC, dI) vcl [(a_y0, .inr (10, [.ref a_y0_characters, .int (nI n_y0_length)])), (a_y0_characters, .inl (ka_y0_characters, 240, .inl f_y0_characters))] U.heap ∧ va_K (dC, dI) vcl [(ka_y0_characters, .char)] U ∧ va_D (fun _ => True) [(a_y0, .inr (10, [.ref a_y0_characters, .int (nI n_y0_length)])), (a_y0_characters, .inl (ka_y0_characters, 240, .inl f_y0_characters))])) (va_Qi (fun (r : Int32) (_ : Unit) => (r = 0 ∨ r = 1) ∧ (r = b01 (opC (cN f_y0_characters n_y0_length) n_y0_length y1))) (fun _ t => va_P (dC, dI) vcl [(a_y0, .inr (10, [.ref a_y0_characters, .int (nI n_y0_length)])), (a_y0_characters, .inl (ka_y0_characters, 240, .inl f_y0_characters))] t.heap ∧ va_K (dC, dI) vcl [(ka_y0_characters, .char)] t ∧ va_D (va_A [(a_y0, .inr (10, [.ref a_y0_characters, .int (nI n_y0_length)])), (a_y0_characters, .inl (ka_y0_characters, 240, .inl f_y0_characters))] sz) [(a_y0, .inr (10, [.ref a_y0_characters, .int (nI n_y0_length)])), (a_y0_characters, .inl (ka_y0_characters, 240, .inl f_y0_characters))]) (va_A [(a_y0, .inr (10, [.ref a_y0_characters, .int (nI n_y0_length)])), (a_y0_characters, .inl (ka_y0_characters, 240, .inl f_y0_characters))] sz)) 0 0 (va_A [(a_y0, .inr (10, [.ref a_y0_characters, .int (nI n_y0_length)])), (a_y0_characters, .inl (ka_y0_characters, 240, .inl f_y0_characters))] sz) := by
  refine Met.ofW (cc := b_Cutter_opensComment) (maxL := 2) (ret := (some .boolean)) (by decide) rfl ?_
  intro p e s m args below meth c s₁ B hml hv
  obtain ⟨rfl, hsz, hP, hK, hD0⟩ := hv
  have hx := B.exec
  have hb := B.bytes
  have hr := B.returns
  have hts := atoms_spec (ws := w_Cutter_opensComment) B.pre
  have hz : ∀ w ∈ wz, w.before _ s = true := fun w h => hts w (List.mem_cons_of_mem _ h)
  have hown : s.vm.findClass R_Cutter = some m.cls := findClass_of_methodNamed B.named
  have hlocks := B.notSynchronized
  subst hsz
  have hD := hD0.self (sz := s.heap.size)
  generalize hAe : va_A [(a_y0, .inr (10, [.ref a_y0_characters, .int (nI n_y0_length)])), (a_y0_characters, .inl (ka_y0_characters, 240, .inl f_y0_characters))] s.heap.size = A at hD ⊢
  have hA : ∀ q : Nat, s.heap.size ≤ q → A q := fun q h => by rw [← hAe]; exact Or.inr h
  have hS : va_S A s.heap s.heap [] := va_S.rf
  have hP : va_P (dC, dI) vcl [(a_y0, .inr (10, [.ref a_y0_characters, .int (nI n_y0_length)])), (a_y0_characters, .inl (ka_y0_characters, 240, .inl f_y0_characters))] s.heap := hP
  have hl := lv_entry ([.ref a_y0, .int (nI y1)]) (n := 2) (Nat.le_of_ble_eq_true rfl)
  rw [lg_entry_eq]
  generalize (lg_sl ([.ref a_y0, .int (nI y1)]) ++ List.replicate (2 - (lg_sl ([.ref a_y0, .int (nI y1)])).length) Slot.unset).toArray = ls at hl ⊢
  have hl : lv_has ls 2 [(0, .ref a_y0), (1, .int (nI y1))] := hl
  refine lv_aload_n hx hb d_Cutter_opensComment_0 rfl (lv_at hl 0 rfl) ?_
  refine lv_iload_n hx hb d_Cutter_opensComment_1 rfl (lv_at hl 1 rfl) ?_
  have hPc := hP.sub (ws' := [(a_y0, .inr (10, [.ref a_y0_characters, .int (nI n_y0_length)])), (a_y0_characters, .inl (ka_y0_characters, 240, .inl f_y0_characters))]) [0, 1] rfl
  have hDc := hD.sub (ws' := [(a_y0, .inr (10, [.ref a_y0_characters, .int (nI n_y0_length)])), (a_y0_characters, .inl (ka_y0_characters, 240, .inl f_y0_characters))]) [0, 1] (by decide) rfl
  have hKc := hK.sub (tys' := [(ka_y0_characters, .char)]) [0] rfl
  have hFc := va_free (wc := [(a_y0, .inr (10, [.ref a_y0_characters, .int (nI n_y0_length)])), (a_y0_characters, .inl (ka_y0_characters, 240, .inl f_y0_characters))]) hD hS hA [0, 1] rfl
  refine va_calli (va_runV (As := [.int (nI y1)]) (rest := []) ⟨hx, hb, hml, hown, hz⟩ (s_Text_at6 l dC dI s.heap.size a_y0 a_y0_characters f_y0_characters n_y0_length y1 ka_y0_characters (by first | omega | assumption | exact Or.inl rfl | exact Or.inr rfl) (by first | omega | assumption | exact Or.inl rfl | exact Or.inr rfl) (by first | omega | assumption | exact Or.inl rfl | exact Or.inr rfl)) (cwV 1 hz (zV zm_89 zm_11 zm_12 zm_7 zm_13) rfl rfl rfl (by decide +kernel) ⟨Nat.le_of_ble_eq_true rfl, Nat.le_of_ble_eq_true rfl⟩) ⟨fun a U g mk q => by obtain ⟨q0, q1, qP, qK, qD⟩ := q; exact ⟨q0, q1, qP, va_K.moved (u := U) (U := U.calling g mk a) (Vm.Alike.refl U.vm) qK, qD⟩, va_recv (q := (R_Text, F_Text, 2)) (q0 := 0) (ci := 10) hK hP rfl rfl, fun U hU hW => ⟨rfl, by rw [hU], by rw [hU]; exact hPc, va_K.moved hW.alike hKc, hDc.weaken (fun _ _ _ _ => trivial)⟩⟩ rfl rfl hl.1 rfl (lv_room (Nat.le_of_ble_eq_true rfl)) d_Cutter_opensComment_2 ⟨Nat.zero_le _, Nat.zero_le _⟩) hS (fun q _ h => hFc q h) hFc (fun r u t H1 locs ht hvm hw hB hz1 hk1 hS => ?_)
  obtain ⟨hP1, hK1, hD1⟩ := hB
  subst r
  rw [ht] at hP1
  obtain ⟨hP, hD⟩ := va_join (wr := []) (w1 := [(a_y0, .inr (10, [.ref a_y0_characters, .int (nI n_y0_length)])), (a_y0_characters, .inl (ka_y0_characters, 240, .inl f_y0_characters))]) hP hD [0, 1] [] rfl rfl (by decide) (by decide) hk1 hFc hP1 hD1
  generalize H1 = H at hP hS ⊢
  have hP : va_P (dC, dI) vcl [(a_y0, .inr (10, [.ref a_y0_characters, .int (nI n_y0_length)])), (a_y0_characters, .inl (ka_y0_characters, 240, .inl f_y0_characters))] H := hP
  have hD : va_D A [(a_y0, .inr (10, [.ref a_y0_characters, .int (nI n_y0_length)])), (a_y0_characters, .inl (ka_y0_characters, 240, .inl f_y0_characters))] := hD
  refine lv_bipush (v := 123) hx hb d_Cutter_opensComment_5 (by decide) ?_
  refine lv_icmp_ne (tgt := 26) hx hb d_Cutter_opensComment_7 (by decide) (fun h1 => ?_) (fun h1 => ?_)
  · refine lv_iconst (v := 0) hx hb d_Cutter_opensComment_26 (by decide) ?_
    have hP9 := hP.sub (ws' := [(a_y0, .inr (10, [.ref a_y0_characters, .int (nI n_y0_length)])), (a_y0_characters, .inl (ka_y0_characters, 240, .inl f_y0_characters))]) [0, 1] rfl
    have hD9 := hD.sub (ws' := [(a_y0, .inr (10, [.ref a_y0_characters, .int (nI n_y0_length)])), (a_y0_characters, .inl (ka_y0_characters, 240, .inl f_y0_characters))]) [0, 1] (by decide) rfl
    exact W.zret (v := 0) hx hb hr (by decide +kernel) (fun t ht hW => ⟨⟨0, (), rfl, ⟨(by first | assumption | exact Or.inl rfl | exact Or.inr rfl), (by first | exact b1_t (oK_t (by assumption) (by assumption)) | exact b1_f (oK_1 (by assumption)) | exact b1_f (oK_2 (by assumption)))⟩, by rw [ht]; exact hP9, va_K.moved hW.alike hK, hD9⟩, hS.F ht⟩) hS.2.2 d_Cutter_opensComment_27
  · refine lv_aload_n hx hb d_Cutter_opensComment_10 rfl (lv_at hl 0 rfl) ?_
    refine lv_iload_n hx hb d_Cutter_opensComment_11 rfl (lv_at hl 1 rfl) ?_
    refine lv_iconst (v := 1) hx hb d_Cutter_opensComment_12 (by decide) ?_
    refine xr_iadd (v := (nI (y1 + 1))) hx hb d_Cutter_opensComment_13 (nI_add y1 1) ?_
    have hPc := hP.sub (ws' := [(a_y0, .inr (10, [.ref a_y0_characters, .int (nI n_y0_length)])), (a_y0_characters, .inl (ka_y0_characters, 240, .inl f_y0_characters))]) [0, 1] rfl
    have hDc := hD.sub (ws' := [(a_y0, .inr (10, [.ref a_y0_characters, .int (nI n_y0_length)])), (a_y0_characters, .inl (ka_y0_characters, 240, .inl f_y0_characters))]) [0, 1] (by decide) rfl
    have hKc := hK.sub (tys' := [(ka_y0_characters, .char)]) [0] rfl
    have hFc := va_free (wc := [(a_y0, .inr (10, [.ref a_y0_characters, .int (nI n_y0_length)])), (a_y0_characters, .inl (ka_y0_characters, 240, .inl f_y0_characters))]) hD hS hA [0, 1] rfl
    refine va_calli (va_runV (As := [.int (nI (y1 + 1))]) (rest := []) ⟨hx, hb, hml, hown, hz⟩ (s_Text_at6 l dC dI H.size a_y0 a_y0_characters f_y0_characters n_y0_length ((y1 + 1)) ka_y0_characters (by first | omega | assumption | exact Or.inl rfl | exact Or.inr rfl) (by first | omega | assumption | exact Or.inl rfl | exact Or.inr rfl) (by first | omega | assumption | exact Or.inl rfl | exact Or.inr rfl)) (cwV 1 hz (zV zm_89 zm_11 zm_12 zm_7 zm_13) rfl rfl rfl (by decide +kernel) ⟨Nat.le_of_ble_eq_true rfl, Nat.le_of_ble_eq_true rfl⟩) ⟨fun a U g mk q => by obtain ⟨q0, q1, qP, qK, qD⟩ := q; exact ⟨q0, q1, qP, va_K.moved (u := U) (U := U.calling g mk a) (Vm.Alike.refl U.vm) qK, qD⟩, va_recv (q := (R_Text, F_Text, 2)) (q0 := 0) (ci := 10) hK hP rfl rfl, fun U hU hW => ⟨rfl, by rw [hU], by rw [hU]; exact hPc, va_K.moved hW.alike hKc, hDc.weaken (fun _ _ _ _ => trivial)⟩⟩ rfl rfl hl.1 rfl (lv_room (Nat.le_of_ble_eq_true rfl)) d_Cutter_opensComment_14 ⟨Nat.zero_le _, Nat.zero_le _⟩) hS (fun q _ h => hFc q h) hFc (fun r u t H1 locs ht hvm hw hB hz1 hk1 hS => ?_)
    obtain ⟨hP1, hK1, hD1⟩ := hB
    subst r
    rw [ht] at hP1
    obtain ⟨hP, hD⟩ := va_join (wr := []) (w1 := [(a_y0, .inr (10, [.ref a_y0_characters, .int (nI n_y0_length)])), (a_y0_characters, .inl (ka_y0_characters, 240, .inl f_y0_characters))]) hP hD [0, 1] [] rfl rfl (by decide) (by decide) hk1 hFc hP1 hD1
    generalize H1 = H at hP hS ⊢
    have hP : va_P (dC, dI) vcl [(a_y0, .inr (10, [.ref a_y0_characters, .int (nI n_y0_length)])), (a_y0_characters, .inl (ka_y0_characters, 240, .inl f_y0_characters))] H := hP
    have hD : va_D A [(a_y0, .inr (10, [.ref a_y0_characters, .int (nI n_y0_length)])), (a_y0_characters, .inl (ka_y0_characters, 240, .inl f_y0_characters))] := hD
    refine lv_bipush (v := 45) hx hb d_Cutter_opensComment_17 (by decide) ?_
    refine lv_icmp_ne (tgt := 26) hx hb d_Cutter_opensComment_19 (by decide) (fun h2 => ?_) (fun h2 => ?_)
    · refine lv_iconst (v := 0) hx hb d_Cutter_opensComment_26 (by decide) ?_
      have hP9 := hP.sub (ws' := [(a_y0, .inr (10, [.ref a_y0_characters, .int (nI n_y0_length)])), (a_y0_characters, .inl (ka_y0_characters, 240, .inl f_y0_characters))]) [0, 1] rfl
      have hD9 := hD.sub (ws' := [(a_y0, .inr (10, [.ref a_y0_characters, .int (nI n_y0_length)])), (a_y0_characters, .inl (ka_y0_characters, 240, .inl f_y0_characters))]) [0, 1] (by decide) rfl
      exact W.zret (v := 0) hx hb hr (by decide +kernel) (fun t ht hW => ⟨⟨0, (), rfl, ⟨(by first | assumption | exact Or.inl rfl | exact Or.inr rfl), (by first | exact b1_t (oK_t (by assumption) (by assumption)) | exact b1_f (oK_1 (by assumption)) | exact b1_f (oK_2 (by assumption)))⟩, by rw [ht]; exact hP9, va_K.moved hW.alike hK, hD9⟩, hS.F ht⟩) hS.2.2 d_Cutter_opensComment_27
    · refine lv_iconst (v := 1) hx hb d_Cutter_opensComment_22 (by decide) ?_
      refine lv_goto (tgt := 27) hx hb d_Cutter_opensComment_23 (by decide) ?_
      have hP9 := hP.sub (ws' := [(a_y0, .inr (10, [.ref a_y0_characters, .int (nI n_y0_length)])), (a_y0_characters, .inl (ka_y0_characters, 240, .inl f_y0_characters))]) [0, 1] rfl
      have hD9 := hD.sub (ws' := [(a_y0, .inr (10, [.ref a_y0_characters, .int (nI n_y0_length)])), (a_y0_characters, .inl (ka_y0_characters, 240, .inl f_y0_characters))]) [0, 1] (by decide) rfl
      exact W.zret (v := 1) hx hb hr (by decide +kernel) (fun t ht hW => ⟨⟨1, (), rfl, ⟨(by first | assumption | exact Or.inl rfl | exact Or.inr rfl), (by first | exact b1_t (oK_t (by assumption) (by assumption)) | exact b1_f (oK_1 (by assumption)) | exact b1_f (oK_2 (by assumption)))⟩, by rw [ht]; exact hP9, va_K.moved hW.alike hK, hD9⟩, hS.F ht⟩) hS.2.2 d_Cutter_opensComment_27
set_option maxHeartbeats 4000000 in
set_option maxRecDepth 100000 in
theorem s_Cutter_closesComment6 (l : Launch) (dC : Nat → ClassId) (dI : Nat → Nat → Nat) (sz : Nat) (a_y0 : Nat) (a_y0_characters : Nat) (f_y0_characters : Nat → Int32) (n_y0_length : Nat) (y1 : Nat) (ka_y0_characters : ClassId) (c_y0_characters : ∀ j, narrow .char (.int (f_y0_characters j)) = .int (f_y0_characters j)) (b_y0_length : n_y0_length ≤ 240) (by1 : y1 ≤ 241) : Met l y_Cutter_closesComment w_Cutter_closesComment ({ frames := 1, cells := 0, slots := 0, locals := 21 }) (va_Pc [.ref a_y0, .int (nI y1)] (fun U => U.heap.size = sz ∧ va_P (dC, dI) vcl [(a_y0, .inr (10, [.ref a_y0_characters, .int (nI n_y0_length)])), (a_y0_characters, .inl (ka_y0_characters, 240, .inl f_y0_characters))] U.heap ∧ va_K (dC, dI) vcl [(ka_y0_characters, .char)] U ∧ va_D (fun _ => True) [(a_y0, .inr (10, [.ref a_y0_characters, .int (nI n_y0_length)])), (a_y0_characters, .inl (ka_y0_characters, 240, .inl f_y0_characters))])) (va_Qi (fun (r : Int32) (_ : Unit) => (r = 0 ∨ r = 1) ∧ (r = b01 (clC (cN f_y0_characters n_y0_length) n_y0_length y1))) (fun _ t => va_P (dC, dI) vcl [(a_y0, .inr (10, [.ref a_y0_characters, .int (nI n_y0_length)])), (a_y0_characters, .inl (ka_y0_characters, 240, .inl f_y0_characters))] t.heap ∧ va_K (dC, dI) vcl [(ka_y0_characters, .char)] t ∧ va_D (va_A [(a_y0, .inr (10, [.ref a_y0_characters, .int (nI n_y0_length)])), (a_y0_characters, .inl (ka_y0_characters, 240, .inl f_y0_characters))] sz) [(a_y0, .inr (10, [.ref a_y0_characters, .int (nI n_y0_length)])), (a_y0_characters, .inl (ka_y0_characters, 240, .inl f_y0_characters))]) (va_A [(a_y0, .inr (10, [.ref a_y0_characters, .int (nI n_y0_length)])), (a_y0_characters, .inl (ka_y0_characters, 240, .inl f_y0_characters))] sz)) 0 0 (va_A [(a_y0, .inr (10, [.ref a_y0_characters, .int (nI n_y0_length)])), (a_y0_characters, .inl (ka_y0_characters, 240, .inl f_y0_characters))] sz) := by
  refine Met.ofW (cc := b_Cutter_closesComment) (maxL := 2) (ret := (some .boolean)) (by decide) rfl ?_
  intro p e s m args below meth c s₁ B hml hv
  obtain ⟨rfl, hsz, hP, hK, hD0⟩ := hv
  have hx := B.exec
  have hb := B.bytes
  have hr := B.returns
  have hts := atoms_spec (ws := w_Cutter_closesComment) B.pre
  have hz : ∀ w ∈ wz, w.before _ s = true := fun w h => hts w (List.mem_cons_of_mem _ h)
  have hown : s.vm.findClass R_Cutter = some m.cls := findClass_of_methodNamed B.named
  have hlocks := B.notSynchronized
  subst hsz
  have hD := hD0.self (sz := s.heap.size)
  generalize hAe : va_A [(a_y0, .inr (10, [.ref a_y0_characters, .int (nI n_y0_length)])), (a_y0_characters, .inl (ka_y0_characters, 240, .inl f_y0_characters))] s.heap.size = A at hD ⊢
  have hA : ∀ q : Nat, s.heap.size ≤ q → A q := fun q h => by rw [← hAe]; exact Or.inr h
  have hS : va_S A s.heap s.heap [] := va_S.rf
  have hP : va_P (dC, dI) vcl [(a_y0, .inr (10, [.ref a_y0_characters, .int (nI n_y0_length)])), (a_y0_characters, .inl (ka_y0_characters, 240, .inl f_y0_characters))] s.heap := hP
  have hl := lv_entry ([.ref a_y0, .int (nI y1)]) (n := 2) (Nat.le_of_ble_eq_true rfl)
  rw [lg_entry_eq]
  generalize (lg_sl ([.ref a_y0, .int (nI y1)]) ++ List.replicate (2 - (lg_sl ([.ref a_y0, .int (nI y1)])).length) Slot.unset).toArray = ls at hl ⊢
  have hl : lv_has ls 2 [(0, .ref a_y0), (1, .int (nI y1))] := hl
  refine lv_aload_n hx hb d_Cutter_closesComment_0 rfl (lv_at hl 0 rfl) ?_
  refine lv_iload_n hx hb d_Cutter_closesComment_1 rfl (lv_at hl 1 rfl) ?_
  have hPc := hP.sub (ws' := [(a_y0, .inr (10, [.ref a_y0_characters, .int (nI n_y0_length)])), (a_y0_characters, .inl (ka_y0_characters, 240, .inl f_y0_characters))]) [0, 1] rfl
  have hDc := hD.sub (ws' := [(a_y0, .inr (10, [.ref a_y0_characters, .int (nI n_y0_length)])), (a_y0_characters, .inl (ka_y0_characters, 240, .inl f_y0_characters))]) [0, 1] (by decide) rfl
  have hKc := hK.sub (tys' := [(ka_y0_characters, .char)]) [0] rfl
  have hFc := va_free (wc := [(a_y0, .inr (10, [.ref a_y0_characters, .int (nI n_y0_length)])), (a_y0_characters, .inl (ka_y0_characters, 240, .inl f_y0_characters))]) hD hS hA [0, 1] rfl
  refine va_calli (va_runV (As := [.int (nI y1)]) (rest := []) ⟨hx, hb, hml, hown, hz⟩ (s_Text_at6 l dC dI s.heap.size a_y0 a_y0_characters f_y0_characters n_y0_length y1 ka_y0_characters (by first | omega | assumption | exact Or.inl rfl | exact Or.inr rfl) (by first | omega | assumption | exact Or.inl rfl | exact Or.inr rfl) (by first | omega | assumption | exact Or.inl rfl | exact Or.inr rfl)) (cwV 1 hz (zV zm_89 zm_11 zm_12 zm_7 zm_13) rfl rfl rfl (by decide +kernel) ⟨Nat.le_of_ble_eq_true rfl, Nat.le_of_ble_eq_true rfl⟩) ⟨fun a U g mk q => by obtain ⟨q0, q1, qP, qK, qD⟩ := q; exact ⟨q0, q1, qP, va_K.moved (u := U) (U := U.calling g mk a) (Vm.Alike.refl U.vm) qK, qD⟩, va_recv (q := (R_Text, F_Text, 2)) (q0 := 0) (ci := 10) hK hP rfl rfl, fun U hU hW => ⟨rfl, by rw [hU], by rw [hU]; exact hPc, va_K.moved hW.alike hKc, hDc.weaken (fun _ _ _ _ => trivial)⟩⟩ rfl rfl hl.1 rfl (lv_room (Nat.le_of_ble_eq_true rfl)) d_Cutter_closesComment_2 ⟨Nat.zero_le _, Nat.zero_le _⟩) hS (fun q _ h => hFc q h) hFc (fun r u t H1 locs ht hvm hw hB hz1 hk1 hS => ?_)
  obtain ⟨hP1, hK1, hD1⟩ := hB
  subst r
  rw [ht] at hP1
  obtain ⟨hP, hD⟩ := va_join (wr := []) (w1 := [(a_y0, .inr (10, [.ref a_y0_characters, .int (nI n_y0_length)])), (a_y0_characters, .inl (ka_y0_characters, 240, .inl f_y0_characters))]) hP hD [0, 1] [] rfl rfl (by decide) (by decide) hk1 hFc hP1 hD1
  generalize H1 = H at hP hS ⊢
  have hP : va_P (dC, dI) vcl [(a_y0, .inr (10, [.ref a_y0_characters, .int (nI n_y0_length)])), (a_y0_characters, .inl (ka_y0_characters, 240, .inl f_y0_characters))] H := hP
  have hD : va_D A [(a_y0, .inr (10, [.ref a_y0_characters, .int (nI n_y0_length)])), (a_y0_characters, .inl (ka_y0_characters, 240, .inl f_y0_characters))] := hD
  refine lv_bipush (v := 45) hx hb d_Cutter_closesComment_5 (by decide) ?_
  refine lv_icmp_ne (tgt := 26) hx hb d_Cutter_closesComment_7 (by decide) (fun h1 => ?_) (fun h1 => ?_)
  · refine lv_iconst (v := 0) hx hb d_Cutter_closesComment_26 (by decide) ?_
    have hP9 := hP.sub (ws' := [(a_y0, .inr (10, [.ref a_y0_characters, .int (nI n_y0_length)])), (a_y0_characters, .inl (ka_y0_characters, 240, .inl f_y0_characters))]) [0, 1] rfl
    have hD9 := hD.sub (ws' := [(a_y0, .inr (10, [.ref a_y0_characters, .int (nI n_y0_length)])), (a_y0_characters, .inl (ka_y0_characters, 240, .inl f_y0_characters))]) [0, 1] (by decide) rfl
    exact W.zret (v := 0) hx hb hr (by decide +kernel) (fun t ht hW => ⟨⟨0, (), rfl, ⟨(by first | assumption | exact Or.inl rfl | exact Or.inr rfl), (by first | exact b1_t (kK_t (by assumption) (by assumption)) | exact b1_f (kK_1 (by assumption)) | exact b1_f (kK_2 (by assumption)))⟩, by rw [ht]; exact hP9, va_K.moved hW.alike hK, hD9⟩, hS.F ht⟩) hS.2.2 d_Cutter_closesComment_27
  · refine lv_aload_n hx hb d_Cutter_closesComment_10 rfl (lv_at hl 0 rfl) ?_
    refine lv_iload_n hx hb d_Cutter_closesComment_11 rfl (lv_at hl 1 rfl) ?_
    refine lv_iconst (v := 1) hx hb d_Cutter_closesComment_12 (by decide) ?_
    refine xr_iadd (v := (nI (y1 + 1))) hx hb d_Cutter_closesComment_13 (nI_add y1 1) ?_
    have hPc := hP.sub (ws' := [(a_y0, .inr (10, [.ref a_y0_characters, .int (nI n_y0_length)])), (a_y0_characters, .inl (ka_y0_characters, 240, .inl f_y0_characters))]) [0, 1] rfl
    have hDc := hD.sub (ws' := [(a_y0, .inr (10, [.ref a_y0_characters, .int (nI n_y0_length)])), (a_y0_characters, .inl (ka_y0_characters, 240, .inl f_y0_characters))]) [0, 1] (by decide) rfl
    have hKc := hK.sub (tys' := [(ka_y0_characters, .char)]) [0] rfl
    have hFc := va_free (wc := [(a_y0, .inr (10, [.ref a_y0_characters, .int (nI n_y0_length)])), (a_y0_characters, .inl (ka_y0_characters, 240, .inl f_y0_characters))]) hD hS hA [0, 1] rfl
    refine va_calli (va_runV (As := [.int (nI (y1 + 1))]) (rest := []) ⟨hx, hb, hml, hown, hz⟩ (s_Text_at6 l dC dI H.size a_y0 a_y0_characters f_y0_characters n_y0_length ((y1 + 1)) ka_y0_characters (by first | omega | assumption | exact Or.inl rfl | exact Or.inr rfl) (by first | omega | assumption | exact Or.inl rfl | exact Or.inr rfl) (by first | omega | assumption | exact Or.inl rfl | exact Or.inr rfl)) (cwV 1 hz (zV zm_89 zm_11 zm_12 zm_7 zm_13) rfl rfl rfl (by decide +kernel) ⟨Nat.le_of_ble_eq_true rfl, Nat.le_of_ble_eq_true rfl⟩) ⟨fun a U g mk q => by obtain ⟨q0, q1, qP, qK, qD⟩ := q; exact ⟨q0, q1, qP, va_K.moved (u := U) (U := U.calling g mk a) (Vm.Alike.refl U.vm) qK, qD⟩, va_recv (q := (R_Text, F_Text, 2)) (q0 := 0) (ci := 10) hK hP rfl rfl, fun U hU hW => ⟨rfl, by rw [hU], by rw [hU]; exact hPc, va_K.moved hW.alike hKc, hDc.weaken (fun _ _ _ _ => trivial)⟩⟩ rfl rfl hl.1 rfl (lv_room (Nat.le_of_ble_eq_true rfl)) d_Cutter_closesComment_14 ⟨Nat.zero_le _, Nat.zero_le _⟩) hS (fun q _ h => hFc q h) hFc (fun r u t H1 locs ht hvm hw hB hz1 hk1 hS => ?_)
    obtain ⟨hP1, hK1, hD1⟩ := hB
    subst r
    rw [ht] at hP1
    obtain ⟨hP, hD⟩ := va_join (wr := []) (w1 := [(a_y0, .inr (10, [.ref a_y0_characters, .int (nI n_y0_length)])), (a_y0_characters, .inl (ka_y0_characters, 240, .inl f_y0_characters))]) hP hD [0, 1] [] rfl rfl (by decide) (by decide) hk1 hFc hP1 hD1
    generalize H1 = H at hP hS ⊢
    have hP : va_P (dC, dI) vcl [(a_y0, .inr (10, [.ref a_y0_characters, .int (nI n_y0_length)])), (a_y0_characters, .inl (ka_y0_characters, 240, .inl f_y0_characters))] H := hP
    have hD : va_D A [(a_y0, .inr (10, [.ref a_y0_characters, .int (nI n_y0_length)])), (a_y0_characters, .inl (ka_y0_characters, 240, .inl f_y0_characters))] := hD
    refine lv_bipush (v := 125) hx hb d_Cutter_closesComment_17 (by decide) ?_
    refine lv_icmp_ne (tgt := 26) hx hb d_Cutter_closesComment_19 (by decide) (fun h2 => ?_) (fun h2 => ?_)
    · refine lv_iconst (v := 0) hx hb d_Cutter_closesComment_26 (by decide) ?_
      have hP9 := hP.sub (ws' := [(a_y0, .inr (10, [.ref a_y0_characters, .int (nI n_y0_length)])), (a_y0_characters, .inl (ka_y0_characters, 240, .inl f_y0_characters))]) [0, 1] rfl
      have hD9 := hD.sub (ws' := [(a_y0, .inr (10, [.ref a_y0_characters, .int (nI n_y0_length)])), (a_y0_characters, .inl (ka_y0_characters, 240, .inl f_y0_characters))]) [0, 1] (by decide) rfl
      exact W.zret (v := 0) hx hb hr (by decide +kernel) (fun t ht hW => ⟨⟨0, (), rfl, ⟨(by first | assumption | exact Or.inl rfl | exact Or.inr rfl), (by first | exact b1_t (kK_t (by assumption) (by assumption)) | exact b1_f (kK_1 (by assumption)) | exact b1_f (kK_2 (by assumption)))⟩, by rw [ht]; exact hP9, va_K.moved hW.alike hK, hD9⟩, hS.F ht⟩) hS.2.2 d_Cutter_closesComment_27
    · refine lv_iconst (v := 1) hx hb d_Cutter_closesComment_22 (by decide) ?_
      refine lv_goto (tgt := 27) hx hb d_Cutter_closesComment_23 (by decide) ?_
      have hP9 := hP.sub (ws' := [(a_y0, .inr (10, [.ref a_y0_characters, .int (nI n_y0_length)])), (a_y0_characters, .inl (ka_y0_characters, 240, .inl f_y0_characters))]) [0, 1] rfl
      have hD9 := hD.sub (ws' := [(a_y0, .inr (10, [.ref a_y0_characters, .int (nI n_y0_length)])), (a_y0_characters, .inl (ka_y0_characters, 240, .inl f_y0_characters))]) [0, 1] (by decide) rfl
      exact W.zret (v := 1) hx hb hr (by decide +kernel) (fun t ht hW => ⟨⟨1, (), rfl, ⟨(by first | assumption | exact Or.inl rfl | exact Or.inr rfl), (by first | exact b1_t (kK_t (by assumption) (by assumption)) | exact b1_f (kK_1 (by assumption)) | exact b1_f (kK_2 (by assumption)))⟩, by rw [ht]; exact hP9, va_K.moved hW.alike hK, hD9⟩, hS.F ht⟩) hS.2.2 d_Cutter_closesComment_27
set_option maxHeartbeats 4000000 in
set_option maxRecDepth 100000 in
theorem s_Cutter_passCharacter6 (l : Launch) (dC : Nat → ClassId) (dI : Nat → Nat → Nat) (sz : Nat) (a_t : Nat) (a_lexemes : Nat) (n_at : Nat) (z_lineStart : Int32) (z_lineIsFresh : Int32) (z_wrongPlace : Int32) (z_tooMany : Int32) (y0 : Int32) (b_at : n_at ≤ 240) (b_tooMany : z_tooMany = 0 ∨ z_tooMany = 1) : Met l y_Cutter_passCharacter w_Cutter_passCharacter ({ frames := 0, cells := 0, slots := 0, locals := 0 }) (va_Pc [.ref a_t, .int y0] (fun U => U.heap.size = sz ∧ va_P (dC, dI) vcl [(a_t, .inr (3, [.ref a_lexemes, .int (nI n_at), .int z_lineStart, .int z_lineIsFresh, .int z_wrongPlace, .int z_tooMany]))] U.heap ∧ va_K (dC, dI) vcl [] U ∧ va_D (fun _ => True) [(a_t, .inr (3, [.ref a_lexemes, .int (nI n_at), .int z_lineStart, .int z_lineIsFresh, .int z_wrongPlace, .int z_tooMany]))])) (va_Qv (fun (_ : Unit) => True) (fun _ t => ∃ (w_n_at : Nat) (w_z_lineStart : Int32) (w_z_lineIsFresh : Int32), (w_n_at ≤ 241) ∧ (w_n_at = n_at + 1) ∧ (w_z_lineStart = if y0 = 10 then nI (n_at + 1) else z_lineStart) ∧ (w_z_lineIsFresh = if y0 = 10 then 1 else z_lineIsFresh) ∧ va_P (dC, dI) vcl [(a_t, .inr (3, [.ref a_lexemes, .int (nI w_n_at), .int w_z_lineStart, .int w_z_lineIsFresh, .int z_wrongPlace, .int z_tooMany]))] t.heap ∧ va_K (dC, dI) vcl [] t ∧ va_D (va_A [(a_t, .inr (3, [.ref a_lexemes, .int (nI n_at), .int z_lineStart, .int z_lineIsFresh, .int z_wrongPlace, .int z_tooMany]))] sz) [(a_t, .inr (3, [.ref a_lexemes, .int (nI w_n_at), .int w_z_lineStart, .int w_z_lineIsFresh, .int z_wrongPlace, .int z_tooMany]))]) (va_A [(a_t, .inr (3, [.ref a_lexemes, .int (nI n_at), .int z_lineStart, .int z_lineIsFresh, .int z_wrongPlace, .int z_tooMany]))] sz)) 0 0 (va_A [(a_t, .inr (3, [.ref a_lexemes, .int (nI n_at), .int z_lineStart, .int z_lineIsFresh, .int z_wrongPlace, .int z_tooMany]))] sz) := by
  refine Met.ofW (cc := b_Cutter_passCharacter) (maxL := 2) (ret := none) (by decide) rfl ?_
  intro p e s m args below meth c s₁ B hml hv
  obtain ⟨rfl, hsz, hP, hK, hD0⟩ := hv
  have hx := B.exec
  have hb := B.bytes
  have hr := B.returns
  have hts := atoms_spec (ws := w_Cutter_passCharacter) B.pre
  have hz : ∀ w ∈ wz, w.before _ s = true := fun w h => hts w (List.mem_cons_of_mem _ h)
  have hown : s.vm.findClass R_Cutter = some m.cls := findClass_of_methodNamed B.named
  have hlocks := B.notSynchronized
  subst hsz
  have hD := hD0.self (sz := s.heap.size)
  generalize hAe : va_A [(a_t, .inr (3, [.ref a_lexemes, .int (nI n_at), .int z_lineStart, .int z_lineIsFresh, .int z_wrongPlace, .int z_tooMany]))] s.heap.size = A at hD ⊢
  have hA : ∀ q : Nat, s.heap.size ≤ q → A q := fun q h => by rw [← hAe]; exact Or.inr h
  have hS : va_S A s.heap s.heap [] := va_S.rf
  have hP : va_P (dC, dI) vcl [(a_t, .inr (3, [.ref a_lexemes, .int (nI n_at), .int z_lineStart, .int z_lineIsFresh, .int z_wrongPlace, .int z_tooMany]))] s.heap := hP
  have hl := lv_entry ([.ref a_t, .int y0]) (n := 2) (Nat.le_of_ble_eq_true rfl)
  rw [lg_entry_eq]
  generalize (lg_sl ([.ref a_t, .int y0]) ++ List.replicate (2 - (lg_sl ([.ref a_t, .int y0])).length) Slot.unset).toArray = ls at hl ⊢
  have hl : lv_has ls 2 [(0, .ref a_t), (1, .int y0)] := hl
  refine lv_aload_n hx hb d_Cutter_passCharacter_0 rfl (lv_at hl 0 rfl) ?_
  refine lv_dup hx hb d_Cutter_passCharacter_1 rfl ?_
  refine va_get (D := (dC, dI)) (ci := 3) (v := .int (nI n_at)) (C := R_Cutter) (T := F_Cutter) (N := 6) hx hb hz zu_Cutter hown hK hP 0 rfl rfl 1 (by decide) (hz (.fieldLink R_Cutter 29 "LayoutFront$Cutter" "at" "I") zm_82) (fun _ h9 => h9) rfl d_Cutter_passCharacter_2 ?_
  refine lv_iconst (v := 1) hx hb d_Cutter_passCharacter_5 (by decide) ?_
  refine xr_iadd (v := (nI (n_at + 1))) hx hb d_Cutter_passCharacter_6 (nI_add n_at 1) ?_
  refine va_put (D := (dC, dI)) (ci := 3) (v := .int (nI (n_at + 1))) (ty := .int) (C := R_Cutter) (T := F_Cutter) (N := 6) hx hb hz zu_Cutter t_Cutter t_Cutter_ok n_Cutter hown hK hP hD hS 0 rfl rfl 1 (by decide) (hz (.fieldLink R_Cutter 29 "LayoutFront$Cutter" "at" "I") zm_82) (fun _ h9 => h9) rfl (by decide +kernel) rfl rfl (Nat.le_of_ble_eq_true rfl) d_Cutter_passCharacter_7 (fun H locs hP hD hS => ?_)
  have hP : va_P (dC, dI) vcl [(a_t, .inr (3, [.ref a_lexemes, .int (nI (n_at + 1)), .int z_lineStart, .int z_lineIsFresh, .int z_wrongPlace, .int z_tooMany]))] H := hP
  have hD : va_D A [(a_t, .inr (3, [.ref a_lexemes, .int (nI (n_at + 1)), .int z_lineStart, .int z_lineIsFresh, .int z_wrongPlace, .int z_tooMany]))] := hD
  refine lv_iload_n hx hb d_Cutter_passCharacter_10 rfl (lv_at hl 1 rfl) ?_
  refine lv_bipush (v := 10) hx hb d_Cutter_passCharacter_11 (by decide) ?_
  refine lv_icmp_ne (tgt := 29) hx hb d_Cutter_passCharacter_13 (by decide) (fun h1 => ?_) (fun h1 => ?_)
  · have hP9 := hP.sub (ws' := [(a_t, .inr (3, [.ref a_lexemes, .int (nI (n_at + 1)), .int z_lineStart, .int z_lineIsFresh, .int z_wrongPlace, .int z_tooMany]))]) [0] rfl
    have hD9 := hD.sub (ws' := [(a_t, .inr (3, [.ref a_lexemes, .int (nI (n_at + 1)), .int z_lineStart, .int z_lineIsFresh, .int z_wrongPlace, .int z_tooMany]))]) [0] (by decide) rfl
    exact W.vret hx hb hr (fun t ht hW => ⟨⟨(), rfl, trivial, ((n_at + 1)), z_lineStart, z_lineIsFresh, by first | rfl | exact (if_pos (by assumption)).symm | exact (if_neg (by assumption)).symm | omega, by first | rfl | exact (if_pos (by assumption)).symm | exact (if_neg (by assumption)).symm | omega, by first | rfl | exact (if_pos (by assumption)).symm | exact (if_neg (by assumption)).symm | omega, by first | rfl | exact (if_pos (by assumption)).symm | exact (if_neg (by assumption)).symm | omega, by rw [ht]; exact hP9, va_K.moved hW.alike hK, hD9⟩, hS.F ht⟩) hS.2.2 d_Cutter_passCharacter_29
  · refine lv_aload_n hx hb d_Cutter_passCharacter_16 rfl (lv_at hl 0 rfl) ?_
    refine lv_aload_n hx hb d_Cutter_passCharacter_17 rfl (lv_at hl 0 rfl) ?_
    refine va_get (D := (dC, dI)) (ci := 3) (v := .int (nI (n_at + 1))) (C := R_Cutter) (T := F_Cutter) (N := 6) hx hb hz zu_Cutter hown hK hP 0 rfl rfl 1 (by decide) (hz (.fieldLink R_Cutter 29 "LayoutFront$Cutter" "at" "I") zm_82) (fun _ h9 => h9) rfl d_Cutter_passCharacter_18 ?_
    refine va_put (D := (dC, dI)) (ci := 3) (v := .int (nI (n_at + 1))) (ty := .int) (C := R_Cutter) (T := F_Cutter) (N := 6) hx hb hz zu_Cutter t_Cutter t_Cutter_ok n_Cutter hown hK hP hD hS 0 rfl rfl 2 (by decide) (hz (.fieldLink R_Cutter 32 "LayoutFront$Cutter" "lineStart" "I") zm_83) (fun _ h9 => h9) rfl (by decide +kernel) rfl rfl (Nat.le_of_ble_eq_true rfl) d_Cutter_passCharacter_21 (fun H locs hP hD hS => ?_)
    have hP : va_P (dC, dI) vcl [(a_t, .inr (3, [.ref a_lexemes, .int (nI (n_at + 1)), .int (nI (n_at + 1)), .int z_lineIsFresh, .int z_wrongPlace, .int z_tooMany]))] H := hP
    have hD : va_D A [(a_t, .inr (3, [.ref a_lexemes, .int (nI (n_at + 1)), .int (nI (n_at + 1)), .int z_lineIsFresh, .int z_wrongPlace, .int z_tooMany]))] := hD
    refine lv_aload_n hx hb d_Cutter_passCharacter_24 rfl (lv_at hl 0 rfl) ?_
    refine lv_iconst (v := 1) hx hb d_Cutter_passCharacter_25 (by decide) ?_
    refine va_put (D := (dC, dI)) (ci := 3) (v := .int 1) (ty := .boolean) (C := R_Cutter) (T := F_Cutter) (N := 6) hx hb hz zu_Cutter t_Cutter t_Cutter_ok n_Cutter hown hK hP hD hS 0 rfl rfl 3 (by decide) (hz (.fieldLink R_Cutter 35 "LayoutFront$Cutter" "lineIsFresh" "Z") zm_84) (fun _ h9 => h9) rfl (by decide +kernel) (by decide +kernel) rfl (Nat.le_of_ble_eq_true rfl) d_Cutter_passCharacter_26 (fun H locs hP hD hS => ?_)
    have hP : va_P (dC, dI) vcl [(a_t, .inr (3, [.ref a_lexemes, .int (nI (n_at + 1)), .int (nI (n_at + 1)), .int 1, .int z_wrongPlace, .int z_tooMany]))] H := hP
    have hD : va_D A [(a_t, .inr (3, [.ref a_lexemes, .int (nI (n_at + 1)), .int (nI (n_at + 1)), .int 1, .int z_wrongPlace, .int z_tooMany]))] := hD
    have hP9 := hP.sub (ws' := [(a_t, .inr (3, [.ref a_lexemes, .int (nI (n_at + 1)), .int (nI (n_at + 1)), .int 1, .int z_wrongPlace, .int z_tooMany]))]) [0] rfl
    have hD9 := hD.sub (ws' := [(a_t, .inr (3, [.ref a_lexemes, .int (nI (n_at + 1)), .int (nI (n_at + 1)), .int 1, .int z_wrongPlace, .int z_tooMany]))]) [0] (by decide) rfl
    exact W.vret hx hb hr (fun t ht hW => ⟨⟨(), rfl, trivial, ((n_at + 1)), ((nI (n_at + 1))), 1, by first | rfl | exact (if_pos (by assumption)).symm | exact (if_neg (by assumption)).symm | omega, by first | rfl | exact (if_pos (by assumption)).symm | exact (if_neg (by assumption)).symm | omega, by first | rfl | exact (if_pos (by assumption)).symm | exact (if_neg (by assumption)).symm | omega, by first | rfl | exact (if_pos (by assumption)).symm | exact (if_neg (by assumption)).symm | omega, by rw [ht]; exact hP9, va_K.moved hW.alike hK, hD9⟩, hS.F ht⟩) hS.2.2 d_Cutter_passCharacter_29
