set_option maxHeartbeats 4000000 in
set_option maxRecDepth 100000 in
theorem s_JS_coder6 (l : Launch) (dC : Nat → ClassId) (dI : Nat → Nat → Nat) (sz : Nat) (a_t : Nat) (v_t : Nat) (n_t : Nat) (f_t : Nat → Int32) (bn_t : n_t ≤ 600) : Met l y_JS_coder w_JS_coder ({ frames := 0, cells := 0, slots := 0, locals := 0 }) (va_Pc [.ref a_t] (fun U => U.heap.size = sz ∧ va_P (dC, dI) vcl [] U.heap ∧ va_K (dC, dI) vcl [] U ∧ va_D (fun _ => True) [] ∧ cx_O a_t v_t n_t f_t (va_A [] sz) U U.heap)) (va_Qi (fun (r : Int32) (_ : Unit) => r = 0) (fun _ t => va_P (dC, dI) vcl [] t.heap ∧ va_K (dC, dI) vcl [] t ∧ va_D (va_A [] sz) []) (va_A [] sz)) 0 0 (va_A [] sz) := by
  refine Met.ofW (cc := b_JS_coder) (maxL := 1) (ret := (some (.byte))) (by decide) rfl ?_
  intro p e s m args below meth c s₁ B hml hv
  obtain ⟨rfl, hsz, hP, hK, hD0, hO_a_t⟩ := hv
  have hx := B.exec
  have hb := B.bytes
  have hr := B.returns
  have hts := atoms_spec (ws := w_JS_coder) B.pre
  have hz : ∀ w ∈ wz, w.before _ s = true := fun w h => hts w (List.mem_cons_of_mem _ h)
  have hown : s.vm.findClass R_JS = some m.cls := findClass_of_methodNamed B.named
  have hlocks := B.notSynchronized
  subst hsz
  have hD := hD0.self (sz := s.heap.size)
  generalize hAe : va_A [] s.heap.size = A at hD hO_a_t ⊢
  have hA : ∀ q : Nat, s.heap.size ≤ q → A q := fun q h => by rw [← hAe]; exact Or.inr h
  have hS : va_S A s.heap s.heap [] := va_S.rf
  have hP : va_P (dC, dI) vcl [] s.heap := hP
  have hl := lv_entry ([.ref a_t]) (n := 1) (Nat.le_of_ble_eq_true rfl)
  rw [lg_entry_eq]
  generalize (lg_sl ([.ref a_t]) ++ List.replicate (1 - (lg_sl ([.ref a_t])).length) Slot.unset).toArray = ls at hl ⊢
  have hl : lv_has ls 1 [(0, .ref a_t)] := hl
  refine va_gets hx hb hO_a_t.2.2.2.2 hS hown (hz (.fieldLink R_JS 38 "java/lang/String" "COMPACT_STRINGS" "Z") zm_1008) (fun _ h9 => h9) d_JS_coder_0 ?_
  refine lv_if_eq (tgt := 13) hx hb d_JS_coder_3 (by decide) (fun h => absurd h (by decide +kernel)) (fun _ => ?_)
  refine lv_aload_n hx hb d_JS_coder_6 rfl (lv_at hl 0 rfl) ?_
  refine vk_getf hx hb hO_a_t.2.1 hS hown (hz (.fieldLink R_JS 15 "java/lang/String" "coder" "B") zm_1007) (fun _ h9 => h9) d_JS_coder_7 ?_
  refine lv_goto (tgt := 14) hx hb d_JS_coder_10 (by decide) ?_
  have hP9 := hP.sub (ws' := []) [] rfl
  have hD9 := hD.sub (ws' := []) [] (by decide) rfl
  exact W.zret (v := 0) hx hb hr (by decide +kernel) (fun t ht hW => ⟨⟨0, (), rfl, rfl, by rw [ht]; exact hP9, va_K.moved hW.alike hK, hD9⟩, hS.F ht⟩) hS.2.2 d_JS_coder_14
set_option maxHeartbeats 4000000 in
set_option maxRecDepth 100000 in
theorem s_JS_isLatin16 (l : Launch) (dC : Nat → ClassId) (dI : Nat → Nat → Nat) (sz : Nat) (a_t : Nat) (v_t : Nat) (n_t : Nat) (f_t : Nat → Int32) (bn_t : n_t ≤ 600) : Met l y_JS_isLatin1 w_JS_isLatin1 ({ frames := 0, cells := 0, slots := 0, locals := 0 }) (va_Pc [.ref a_t] (fun U => U.heap.size = sz ∧ va_P (dC, dI) vcl [] U.heap ∧ va_K (dC, dI) vcl [] U ∧ va_D (fun _ => True) [] ∧ cx_O a_t v_t n_t f_t (va_A [] sz) U U.heap)) (va_Qi (fun (r : Int32) (_ : Unit) => (r = 0 ∨ r = 1) ∧ (r = 1)) (fun _ t => va_P (dC, dI) vcl [] t.heap ∧ va_K (dC, dI) vcl [] t ∧ va_D (va_A [] sz) []) (va_A [] sz)) 0 0 (va_A [] sz) := by
  refine Met.ofW (cc := b_JS_isLatin1) (maxL := 1) (ret := (some .boolean)) (by decide) rfl ?_
  intro p e s m args below meth c s₁ B hml hv
  obtain ⟨rfl, hsz, hP, hK, hD0, hO_a_t⟩ := hv
  have hx := B.exec
  have hb := B.bytes
  have hr := B.returns
  have hts := atoms_spec (ws := w_JS_isLatin1) B.pre
  have hz : ∀ w ∈ wz, w.before _ s = true := fun w h => hts w (List.mem_cons_of_mem _ h)
  have hown : s.vm.findClass R_JS = some m.cls := findClass_of_methodNamed B.named
  have hlocks := B.notSynchronized
  subst hsz
  have hD := hD0.self (sz := s.heap.size)
  generalize hAe : va_A [] s.heap.size = A at hD hO_a_t ⊢
  have hA : ∀ q : Nat, s.heap.size ≤ q → A q := fun q h => by rw [← hAe]; exact Or.inr h
  have hS : va_S A s.heap s.heap [] := va_S.rf
  have hP : va_P (dC, dI) vcl [] s.heap := hP
  have hl := lv_entry ([.ref a_t]) (n := 1) (Nat.le_of_ble_eq_true rfl)
  rw [lg_entry_eq]
  generalize (lg_sl ([.ref a_t]) ++ List.replicate (1 - (lg_sl ([.ref a_t])).length) Slot.unset).toArray = ls at hl ⊢
  have hl : lv_has ls 1 [(0, .ref a_t)] := hl
  refine va_gets hx hb hO_a_t.2.2.2.2 hS hown (hz (.fieldLink R_JS 38 "java/lang/String" "COMPACT_STRINGS" "Z") zm_1008) (fun _ h9 => h9) d_JS_isLatin1_0 ?_
  refine lv_if_eq (tgt := 17) hx hb d_JS_isLatin1_3 (by decide) (fun h => absurd h (by decide +kernel)) (fun _ => ?_)
  refine lv_aload_n hx hb d_JS_isLatin1_6 rfl (lv_at hl 0 rfl) ?_
  refine vk_getf hx hb hO_a_t.2.1 hS hown (hz (.fieldLink R_JS 15 "java/lang/String" "coder" "B") zm_1007) (fun _ h9 => h9) d_JS_isLatin1_7 ?_
  refine lv_if_ne (tgt := 17) hx hb d_JS_isLatin1_10 (by decide) (fun h => (h (by decide +kernel)).elim) (fun _ => ?_)
  refine lv_iconst (v := 1) hx hb d_JS_isLatin1_13 (by decide) ?_
  refine lv_goto (tgt := 18) hx hb d_JS_isLatin1_14 (by decide) ?_
  have hP9 := hP.sub (ws' := []) [] rfl
  have hD9 := hD.sub (ws' := []) [] (by decide) rfl
  exact W.zret (v := 1) hx hb hr (by decide +kernel) (fun t ht hW => ⟨⟨1, (), rfl, ⟨(by first | assumption | exact Or.inl rfl | exact Or.inr rfl), rfl⟩, by rw [ht]; exact hP9, va_K.moved hW.alike hK, hD9⟩, hS.F ht⟩) hS.2.2 d_JS_isLatin1_18
set_option maxHeartbeats 4000000 in
set_option maxRecDepth 100000 in
theorem s_JS_length6 (l : Launch) (dC : Nat → ClassId) (dI : Nat → Nat → Nat) (sz : Nat) (a_t : Nat) (v_t : Nat) (n_t : Nat) (f_t : Nat → Int32) (bn_t : n_t ≤ 600) : Met l y_JS_length w_JS_length ({ frames := 1, cells := 0, slots := 0, locals := 20 }) (va_Pc [.ref a_t] (fun U => U.heap.size = sz ∧ va_P (dC, dI) vcl [] U.heap ∧ va_K (dC, dI) vcl [] U ∧ va_D (fun _ => True) [] ∧ cx_O a_t v_t n_t f_t (va_A [] sz) U U.heap)) (va_Qi (fun (r : Int32) (_ : Unit) => r = (nI n_t)) (fun _ t => va_P (dC, dI) vcl [] t.heap ∧ va_K (dC, dI) vcl [] t ∧ va_D (va_A [] sz) []) (va_A [] sz)) 0 0 (va_A [] sz) := by
  refine Met.ofW (cc := b_JS_length) (maxL := 1) (ret := (some .int)) (by decide) rfl ?_
  intro p e s m args below meth c s₁ B hml hv
  obtain ⟨rfl, hsz, hP, hK, hD0, hO_a_t⟩ := hv
  have hx := B.exec
  have hb := B.bytes
  have hr := B.returns
  have hts := atoms_spec (ws := w_JS_length) B.pre
  have hz : ∀ w ∈ wz, w.before _ s = true := fun w h => hts w (List.mem_cons_of_mem _ h)
  have hown : s.vm.findClass R_JS = some m.cls := findClass_of_methodNamed B.named
  have hlocks := B.notSynchronized
  subst hsz
  have hD := hD0.self (sz := s.heap.size)
  generalize hAe : va_A [] s.heap.size = A at hD hO_a_t ⊢
  have hA : ∀ q : Nat, s.heap.size ≤ q → A q := fun q h => by rw [← hAe]; exact Or.inr h
  have hS : va_S A s.heap s.heap [] := va_S.rf
  have hP : va_P (dC, dI) vcl [] s.heap := hP
  have hl := lv_entry ([.ref a_t]) (n := 1) (Nat.le_of_ble_eq_true rfl)
  rw [lg_entry_eq]
  generalize (lg_sl ([.ref a_t]) ++ List.replicate (1 - (lg_sl ([.ref a_t])).length) Slot.unset).toArray = ls at hl ⊢
  have hl : lv_has ls 1 [(0, .ref a_t)] := hl
  refine lv_aload_n hx hb d_JS_length_0 rfl (lv_at hl 0 rfl) ?_
  refine vk_getf hx hb hO_a_t.2.2.1 hS hown (hz (.fieldLink R_JS 9 "java/lang/String" "value" "[B") zm_998) (fun _ h9 => h9) d_JS_length_1 ?_
  have hT_v_t : cx_B v_t n_t f_t A s s.heap := hO_a_t.2.2.2.1
  refine va_tlen (v := (nI n_t)) hx hb hT_v_t hS rfl d_JS_length_4 ?_
  refine lv_aload_n hx hb d_JS_length_5 rfl (lv_at hl 0 rfl) ?_
  have hPc := hP.sub (ws' := []) [] rfl
  have hDc := hD.sub (ws' := []) [] (by decide) rfl
  have hKc := hK.sub (tys' := []) [] rfl
  have hFc := va_free (wc := []) hD hS hA [] rfl
  refine va_calli (va_runV (As := []) (rest := [.int (nI n_t)]) ⟨hx, hb, hml, hown, hz⟩ (s_JS_coder6 l dC dI s.heap.size a_t v_t n_t f_t (by first | omega | assumption | exact Or.inl rfl | exact Or.inr rfl)) (cwV 0 hz (zV zm_1009 zm_1010 zm_1011 zm_167 zm_1012) rfl rfl rfl (by decide +kernel) ⟨Nat.le_of_ble_eq_true rfl, Nat.le_of_ble_eq_true rfl⟩) ⟨fun a U g mk q => by obtain ⟨q0, q1, qP, qK, qD, qx0⟩ := q; exact ⟨q0, q1, qP, va_K.moved (u := U) (U := U.calling g mk a) (Vm.Alike.refl U.vm) qK, qD, cx_O.same (u := U) (U := U.calling g mk a) rfl qx0⟩, cx_recv hO_a_t hS, fun U hU hW => ⟨rfl, by rw [hU], by rw [hU]; exact hPc, va_K.moved hW.alike hKc, hDc.weaken (fun _ _ _ _ => trivial), by rw [hU]; exact cx_O.to hW hS hFc hO_a_t⟩⟩ rfl rfl hl.1 rfl (lv_room (Nat.le_of_ble_eq_true rfl)) d_JS_length_6 ⟨Nat.zero_le _, Nat.zero_le _⟩) hS (fun q _ h => hFc q h) hFc (fun r u t H1 locs ht hvm hw hB hz1 hk1 hS => ?_)
  obtain ⟨hP1, hK1, hD1⟩ := hB
  subst r
  rw [ht] at hP1
  obtain ⟨hP, hD⟩ := va_join (wr := []) (w1 := []) hP hD [] [] rfl rfl (by decide) (by decide) hk1 hFc hP1 hD1
  generalize H1 = H at hP hS ⊢
  have hP : va_P (dC, dI) vcl [] H := hP
  have hD : va_D A [] := hD
  refine lv_ishr hx hb d_JS_length_9 ?_
  rw [sc_shr0 (by omega)]
  have hP9 := hP.sub (ws' := []) [] rfl
  have hD9 := hD.sub (ws' := []) [] (by decide) rfl
  exact W.iret (v := (nI n_t)) hx hb hr (fun t ht hW => ⟨⟨(nI n_t), (), rfl, rfl, by rw [ht]; exact hP9, va_K.moved hW.alike hK, hD9⟩, hS.F ht⟩) hS.2.2 d_JS_length_10
set_option maxHeartbeats 4000000 in
set_option maxRecDepth 100000 in
theorem s_JL_canEncode6 (l : Launch) (dC : Nat → ClassId) (dI : Nat → Nat → Nat) (sz : Nat) (y0 : Int32) : Met l y_JL_canEncode w_JL_canEncode ({ frames := 0, cells := 0, slots := 0, locals := 0 }) (va_Pc [.int y0] (fun U => U.heap.size = sz ∧ va_P (dC, dI) vcl [] U.heap ∧ va_K (dC, dI) vcl [] U ∧ va_D (fun _ => True) [])) (va_Qi (fun (r : Int32) (_ : Unit) => (r = 0 ∨ r = 1) ∧ (r = ceB y0)) (fun _ t => va_P (dC, dI) vcl [] t.heap ∧ va_K (dC, dI) vcl [] t ∧ va_D (va_A [] sz) []) (va_A [] sz)) 0 0 (va_A [] sz) := by
  refine Met.ofW (cc := b_JL_canEncode) (maxL := 1) (ret := (some .boolean)) (by decide) rfl ?_
  intro p e s m args below meth c s₁ B hml hv
  obtain ⟨rfl, hsz, hP, hK, hD0⟩ := hv
  have hx := B.exec
  have hb := B.bytes
  have hr := B.returns
  have hts := atoms_spec (ws := w_JL_canEncode) B.pre
  have hz : ∀ w ∈ wz, w.before _ s = true := fun w h => hts w (List.mem_cons_of_mem _ h)
  have hown : s.vm.findClass R_JL = some m.cls := findClass_of_methodNamed B.named
  have hlocks := B.notSynchronized
  subst hsz
  have hD := hD0.self (sz := s.heap.size)
  generalize hAe : va_A [] s.heap.size = A at hD ⊢
  have hA : ∀ q : Nat, s.heap.size ≤ q → A q := fun q h => by rw [← hAe]; exact Or.inr h
  have hS : va_S A s.heap s.heap [] := va_S.rf
  have hP : va_P (dC, dI) vcl [] s.heap := hP
  have hl := lv_entry ([.int y0]) (n := 1) (Nat.le_of_ble_eq_true rfl)
  rw [lg_entry_eq]
  generalize (lg_sl ([.int y0]) ++ List.replicate (1 - (lg_sl ([.int y0])).length) Slot.unset).toArray = ls at hl ⊢
  have hl : lv_has ls 1 [(0, .int y0)] := hl
  refine lv_iload_n hx hb d_JL_canEncode_0 rfl (lv_at hl 0 rfl) ?_
  refine lv_if_lt (tgt := 15) hx hb d_JL_canEncode_1 (by decide) (fun h1 => ?_) (fun h1 => ?_)
  · refine lv_iconst (v := 0) hx hb d_JL_canEncode_15 (by decide) ?_
    have hP9 := hP.sub (ws' := []) [] rfl
    have hD9 := hD.sub (ws' := []) [] (by decide) rfl
    exact W.zret (v := 0) hx hb hr (by decide +kernel) (fun t ht hW => ⟨⟨0, (), rfl, ⟨(by first | assumption | exact Or.inl rfl | exact Or.inr rfl), (by unfold ceB; simp [*])⟩, by rw [ht]; exact hP9, va_K.moved hW.alike hK, hD9⟩, hS.F ht⟩) hS.2.2 d_JL_canEncode_16
  · refine lv_iload_n hx hb d_JL_canEncode_4 rfl (lv_at hl 0 rfl) ?_
    refine lv_sipush (v := 255) hx hb d_JL_canEncode_5 (by decide) ?_
    refine lv_icmp_gt (tgt := 15) hx hb d_JL_canEncode_8 (by decide) (fun h2 => ?_) (fun h2 => ?_)
    · refine lv_iconst (v := 0) hx hb d_JL_canEncode_15 (by decide) ?_
      have hP9 := hP.sub (ws' := []) [] rfl
      have hD9 := hD.sub (ws' := []) [] (by decide) rfl
      exact W.zret (v := 0) hx hb hr (by decide +kernel) (fun t ht hW => ⟨⟨0, (), rfl, ⟨(by first | assumption | exact Or.inl rfl | exact Or.inr rfl), (by unfold ceB; simp [*])⟩, by rw [ht]; exact hP9, va_K.moved hW.alike hK, hD9⟩, hS.F ht⟩) hS.2.2 d_JL_canEncode_16
    · refine lv_iconst (v := 1) hx hb d_JL_canEncode_11 (by decide) ?_
      refine lv_goto (tgt := 16) hx hb d_JL_canEncode_12 (by decide) ?_
      have hP9 := hP.sub (ws' := []) [] rfl
      have hD9 := hD.sub (ws' := []) [] (by decide) rfl
      exact W.zret (v := 1) hx hb hr (by decide +kernel) (fun t ht hW => ⟨⟨1, (), rfl, ⟨(by first | assumption | exact Or.inl rfl | exact Or.inr rfl), (by unfold ceB; simp [*])⟩, by rw [ht]; exact hP9, va_K.moved hW.alike hK, hD9⟩, hS.F ht⟩) hS.2.2 d_JL_canEncode_16
set_option maxHeartbeats 4000000 in
set_option maxRecDepth 100000 in
theorem s_JL_indexOfChar6 (l : Launch) (dC : Nat → ClassId) (dI : Nat → Nat → Nat) (sz : Nat) (a_y0 : Nat) (n_y0 : Nat) (f_y0 : Nat → Int32) (y1 : Int32) (y2 : Nat) (y3 : Nat) (by0 : n_y0 ≤ 600) (by2 : y2 ≤ 600) (by3 : y3 ≤ 600) (hp0 : y3 ≤ n_y0) (hp1 : y2 ≤ y3) : Met l y_JL_indexOfChar w_JL_indexOfChar ({ frames := 0, cells := 0, slots := 0, locals := 0 }) (va_Pc [.ref a_y0, .int y1, .int (nI y2), .int (nI y3)] (fun U => U.heap.size = sz ∧ va_P (dC, dI) vcl [] U.heap ∧ va_K (dC, dI) vcl [] U ∧ va_D (fun _ => True) [] ∧ cx_B a_y0 n_y0 f_y0 (va_A [] sz) U U.heap)) (va_Qi (fun (r : Int32) (_ : Unit) => r = ixE f_y0 (b8 y1) y3 y2) (fun _ t => va_P (dC, dI) vcl [] t.heap ∧ va_K (dC, dI) vcl [] t ∧ va_D (va_A [] sz) []) (va_A [] sz)) 0 0 (va_A [] sz) := by
  refine Met.ofW (cc := b_JL_indexOfChar) (maxL := 6) (ret := (some .int)) (by decide) rfl ?_
  intro p e s m args below meth c s₁ B hml hv
  obtain ⟨rfl, hsz, hP, hK, hD0, hT_a_y0⟩ := hv
  have hx := B.exec
  have hb := B.bytes
  have hr := B.returns
  have hts := atoms_spec (ws := w_JL_indexOfChar) B.pre
  have hz : ∀ w ∈ wz, w.before _ s = true := fun w h => hts w (List.mem_cons_of_mem _ h)
  have hown : s.vm.findClass R_JL = some m.cls := findClass_of_methodNamed B.named
  have hlocks := B.notSynchronized
  subst hsz
  have hD := hD0.self (sz := s.heap.size)
  generalize hAe : va_A [] s.heap.size = A at hD hT_a_y0 ⊢
  have hA : ∀ q : Nat, s.heap.size ≤ q → A q := fun q h => by rw [← hAe]; exact Or.inr h
  have hS : va_S A s.heap s.heap [] := va_S.rf
  have hP : va_P (dC, dI) vcl [] s.heap := hP
  have hl := lv_entry ([.ref a_y0, .int y1, .int (nI y2), .int (nI y3)]) (n := 6) (Nat.le_of_ble_eq_true rfl)
  rw [lg_entry_eq]
  generalize (lg_sl ([.ref a_y0, .int y1, .int (nI y2), .int (nI y3)]) ++ List.replicate (6 - (lg_sl ([.ref a_y0, .int y1, .int (nI y2), .int (nI y3)])).length) Slot.unset).toArray = ls at hl ⊢
  have hl : lv_has ls 6 [(0, .ref a_y0), (1, .int y1), (2, .int (nI y2)), (3, .int (nI y3))] := hl
  refine lv_iload_n hx hb d_JL_indexOfChar_0 rfl (lv_at hl 1 rfl) ?_
  refine lv_i2b (v := b8 y1) hx hb d_JL_indexOfChar_1 rfl ?_
  refine lv_istore hx hb d_JL_indexOfChar_2 hl (by decide) rfl (fun ls hl => ?_)
  have hl : lv_has ls 6 [(4, .int (b8 y1)), (0, .ref a_y0), (1, .int y1), (2, .int (nI y2)), (3, .int (nI y3))] := hl
  refine lv_iload_n hx hb d_JL_indexOfChar_4 rfl (lv_at hl 3 rfl) ?_
  refine lv_istore hx hb d_JL_indexOfChar_5 hl (by decide) rfl (fun ls hl => ?_)
  have hl : lv_has ls 6 [(5, .int (nI y2)), (4, .int (b8 y1)), (0, .ref a_y0), (1, .int y1), (2, .int (nI y2)), (3, .int (nI y3))] := hl
  refine xr_loop (α := (Nat)) (fun a => (fun (k5 : Nat) => 600 - k5) a) (fun a H locs ls => (fun (k5 : Nat) => (k5 ≤ 600) ∧ (k5 ≤ y3) ∧ (y2 ≤ k5) ∧ (ixE f_y0 (b8 y1) y3 k5 = ixE f_y0 (b8 y1) y3 y2) ∧ lv_has ls 6 [(5, .int (nI k5)), (4, .int (b8 y1)), (0, .ref a_y0), (1, .int y1), (2, .int (nI y2)), (3, .int (nI y3))] ∧ va_P (dC, dI) vcl [] H ∧ va_D A [] ∧ va_S A s.heap H locs) a) (fun a ih7 H locs ls hI => ?_) (y2) _ _ _ ⟨by show y2 ≤ 600; first | omega | assumption | exact Or.inl rfl | exact Or.inr rfl | decide, by show y2 ≤ y3; first | omega | assumption | exact Or.inl rfl | exact Or.inr rfl | decide, by show y2 ≤ y2; first | omega | assumption | exact Or.inl rfl | exact Or.inr rfl | decide, by show ixE f_y0 (b8 y1) y3 y2 = ixE f_y0 (b8 y1) y3 y2; first | rfl | (rw [Nat.sub_self]; rfl), hl, hP, hD, hS⟩
  generalize a = k5 at ih7 hI
  obtain ⟨bl0, bl1, bl2, bl3, hl, hP, hD, hS⟩ := hI
  have bl0 : k5 ≤ 600 := bl0
  have bl1 : k5 ≤ y3 := bl1
  have bl2 : y2 ≤ k5 := bl2
  have bl3 : ixE f_y0 (b8 y1) y3 k5 = ixE f_y0 (b8 y1) y3 y2 := bl3
  have iE := bl3
  have hl : lv_has ls 6 [(5, .int (nI k5)), (4, .int (b8 y1)), (0, .ref a_y0), (1, .int y1), (2, .int (nI y2)), (3, .int (nI y3))] := hl
  have hP : va_P (dC, dI) vcl [] H := hP
  have hD : va_D A [] := hD
  refine lv_iload hx hb d_JL_indexOfChar_7 (lv_at hl 0 rfl) ?_
  refine lv_iload_n hx hb d_JL_indexOfChar_9 rfl (lv_at hl 5 rfl) ?_
  refine lv_icmp_ge (tgt := 31) hx hb d_JL_indexOfChar_10 (by decide) (fun h1 => ?_) (fun h1 => ?_)
  · have h1 : y3 ≤ k5 := (nI_leI (a := y3) (b := k5) (by omega) (by omega)).mp h1
    refine lv_iconst (v := (-1)) hx hb d_JL_indexOfChar_31 (by decide) ?_
    have hP9 := hP.sub (ws' := []) [] rfl
    have hD9 := hD.sub (ws' := []) [] (by decide) rfl
    exact W.iret (v := (-1)) hx hb hr (fun t ht hW => ⟨⟨(-1), (), rfl, (by exact (ix_end (by omega)).symm.trans iE), by rw [ht]; exact hP9, va_K.moved hW.alike hK, hD9⟩, hS.F ht⟩) hS.2.2 d_JL_indexOfChar_32
  · have h1 : ¬ y3 ≤ k5 := fun q => h1 ((nI_leI (a := y3) (b := k5) (by omega) (by omega)).mpr q)
    refine lv_aload_n hx hb d_JL_indexOfChar_13 rfl (lv_at hl 2 rfl) ?_
    refine lv_iload hx hb d_JL_indexOfChar_14 (lv_at hl 0 rfl) ?_
    refine va_tb (v := .int (f_y0 k5)) hx hb hT_a_y0 hS (vp_in_nI (by omega) (by omega)) (congrArg (fun z => Value.int (f_y0 z)) (nI_clamp (by omega))) d_JL_indexOfChar_16 ?_
    refine lv_iload hx hb d_JL_indexOfChar_17 (lv_at hl 1 rfl) ?_
    refine lv_icmp_ne (tgt := 25) hx hb d_JL_indexOfChar_19 (by decide) (fun h3 => ?_) (fun h3 => ?_)
    · have e19 := h3
      refine lv_iinc (k := 0) (v := (nI (k5 + 1))) hx hb d_JL_indexOfChar_25 hl rfl (nI_1 k5) (by decide) rfl (fun ls hl => ?_)
      have hl : lv_has ls 6 [(5, .int (nI (k5 + 1))), (4, .int (b8 y1)), (0, .ref a_y0), (1, .int y1), (2, .int (nI y2)), (3, .int (nI y3))] := hl
      refine lv_goto (tgt := 7) hx hb d_JL_indexOfChar_28 (by decide) ?_
      have hP9 := hP.sub (ws' := []) [] rfl
      have hD9 := hD.sub (ws' := []) [] (by decide) rfl
      exact ih7 ((k5 + 1)) (by show 600 - ((k5 + 1)) < 600 - k5; omega) _ _ _ ⟨by show ((k5 + 1)) ≤ 600; first | omega | assumption | exact Or.inl rfl | exact Or.inr rfl | decide, by show ((k5 + 1)) ≤ y3; first | omega | assumption | exact Or.inl rfl | exact Or.inr rfl | decide, by show y2 ≤ ((k5 + 1)); first | omega | assumption | exact Or.inl rfl | exact Or.inr rfl | decide, by show ixE f_y0 (b8 y1) y3 ((k5 + 1)) = ixE f_y0 (b8 y1) y3 y2; exact (ix_go (by omega) e19).symm.trans iE, hl, hP9, hD9, hS⟩
    · have e19 := h3
      refine lv_iload hx hb d_JL_indexOfChar_22 (lv_at hl 0 rfl) ?_
      have hP9 := hP.sub (ws' := []) [] rfl
      have hD9 := hD.sub (ws' := []) [] (by decide) rfl
      exact W.iret (v := (nI k5)) hx hb hr (fun t ht hW => ⟨⟨(nI k5), (), rfl, (by exact (ix_at (by omega) e19).symm.trans iE), by rw [ht]; exact hP9, va_K.moved hW.alike hK, hD9⟩, hS.F ht⟩) hS.2.2 d_JL_indexOfChar_24
set_option maxHeartbeats 4000000 in
set_option maxRecDepth 100000 in
theorem s_JL_indexOf6 (l : Launch) (dC : Nat → ClassId) (dI : Nat → Nat → Nat) (sz : Nat) (a_y0 : Nat) (n_y0 : Nat) (f_y0 : Nat → Int32) (y1 : Int32) (y2 : Nat) (y3 : Nat) (by0 : n_y0 ≤ 600) (by2 : y2 ≤ 600) (by3 : y3 ≤ 600) : Met l y_JL_indexOf w_JL_indexOf ({ frames := 1, cells := 0, slots := 0, locals := 40 }) (va_Pc [.ref a_y0, .int y1, .int (nI y2), .int (nI y3)] (fun U => U.heap.size = sz ∧ va_P (dC, dI) vcl [] U.heap ∧ va_K (dC, dI) vcl [] U ∧ va_D (fun _ => True) [] ∧ cx_B a_y0 n_y0 f_y0 (va_A [] sz) U U.heap)) (va_Qi (fun (r : Int32) (_ : Unit) => r = ixO f_y0 n_y0 y1 y2 y3) (fun _ t => va_P (dC, dI) vcl [] t.heap ∧ va_K (dC, dI) vcl [] t ∧ va_D (va_A [] sz) []) (va_A [] sz)) 0 0 (va_A [] sz) := by
  refine Met.ofW (cc := b_JL_indexOf) (maxL := 4) (ret := (some .int)) (by decide) rfl ?_
  intro p e s m args below meth c s₁ B hml hv
  obtain ⟨rfl, hsz, hP, hK, hD0, hT_a_y0⟩ := hv
  have hx := B.exec
  have hb := B.bytes
  have hr := B.returns
  have hts := atoms_spec (ws := w_JL_indexOf) B.pre
  have hz : ∀ w ∈ wz, w.before _ s = true := fun w h => hts w (List.mem_cons_of_mem _ h)
  have hown : s.vm.findClass R_JL = some m.cls := findClass_of_methodNamed B.named
  have hlocks := B.notSynchronized
  subst hsz
  have hD := hD0.self (sz := s.heap.size)
  generalize hAe : va_A [] s.heap.size = A at hD hT_a_y0 ⊢
  have hA : ∀ q : Nat, s.heap.size ≤ q → A q := fun q h => by rw [← hAe]; exact Or.inr h
  have hS : va_S A s.heap s.heap [] := va_S.rf
  have hP : va_P (dC, dI) vcl [] s.heap := hP
  have hl := lv_entry ([.ref a_y0, .int y1, .int (nI y2), .int (nI y3)]) (n := 4) (Nat.le_of_ble_eq_true rfl)
  rw [lg_entry_eq]
  generalize (lg_sl ([.ref a_y0, .int y1, .int (nI y2), .int (nI y3)]) ++ List.replicate (4 - (lg_sl ([.ref a_y0, .int y1, .int (nI y2), .int (nI y3)])).length) Slot.unset).toArray = ls at hl ⊢
  have hl : lv_has ls 4 [(0, .ref a_y0), (1, .int y1), (2, .int (nI y2)), (3, .int (nI y3))] := hl
  refine lv_iload_n hx hb d_JL_indexOf_0 rfl (lv_at hl 1 rfl) ?_
  have hPc := hP.sub (ws' := []) [] rfl
  have hDc := hD.sub (ws' := []) [] (by decide) rfl
  have hKc := hK.sub (tys' := []) [] rfl
  have hFc := va_free (wc := []) hD hS hA [] rfl
  refine va_calli (va_runS (As := [.int y1]) (rest := []) ⟨hx, hb, hml, hown, hz⟩ (s_JL_canEncode6 l dC dI s.heap.size y1) (cwS 1 hz (zS zm_1013 zm_1014 zm_1005 zm_1015) rfl rfl rfl (by decide +kernel) ⟨Nat.le_of_ble_eq_true rfl, Nat.le_of_ble_eq_true rfl⟩) ⟨fun a U g mk q => by obtain ⟨q0, q1, qP, qK, qD⟩ := q; exact ⟨q0, q1, qP, va_K.moved (u := U) (U := U.calling g mk a) (Vm.Alike.refl U.vm) qK, qD⟩, fun U hU hW => ⟨rfl, by rw [hU], by rw [hU]; exact hPc, va_K.moved hW.alike hKc, hDc.weaken (fun _ _ _ _ => trivial)⟩⟩ rfl rfl hl.1 rfl (lv_room (Nat.le_of_ble_eq_true rfl)) d_JL_indexOf_1 ⟨Nat.zero_le _, Nat.zero_le _⟩) hS (fun q _ h => hFc q h) hFc (fun r u t H1 locs ht hvm hw_r hB hz1 hk1 hS => ?_)
  obtain ⟨hP1, hK1, hD1⟩ := hB
  obtain ⟨hb_r, he_r⟩ := hw_r
  subst r
  rw [ht] at hP1
  obtain ⟨hP, hD⟩ := va_join (wr := []) (w1 := []) hP hD [] [] rfl rfl (by decide) (by decide) hk1 hFc hP1 hD1
  generalize H1 = H at hP hS ⊢
  have hP : va_P (dC, dI) vcl [] H := hP
  have hD : va_D A [] := hD
  refine lv_if_ne (tgt := 9) hx hb d_JL_indexOf_4 (by decide) (fun h1 => ?_) (fun h1 => ?_)
  · have e4 := h1
    refine lv_iload_n hx hb d_JL_indexOf_9 rfl (lv_at hl 2 rfl) ?_
    refine lv_iconst (v := 0) hx hb d_JL_indexOf_10 (by decide) ?_
    refine xr_max (v := (nI (max y2 0))) hx hb (hml.trans hl.1.symm) hown (hz (.methodLink R_JL 92 Lib.Math.max.name) zm_1020) (hz (.static Lib.Math.max.name) zm_1023) (hz (.initialized "java/lang/Math") zm_1024) (hz (.code Lib.Math.max.name Lib.Math.max.code 2 (some .int)) zm_1025) (Nat.le_of_ble_eq_true rfl) (Nat.le_of_ble_eq_true rfl) (Nat.le_of_ble_eq_true rfl) (Nat.le_of_ble_eq_true rfl) d_JL_indexOf_11 (xr_max0 (by omega)) ?_
    refine lv_istore_n hx hb d_JL_indexOf_14 rfl hl (by decide) rfl (fun ls hl => ?_)
    have hl : lv_has ls 4 [(2, .int (nI (max y2 0))), (0, .ref a_y0), (1, .int y1), (3, .int (nI y3))] := hl
    refine lv_iload_n hx hb d_JL_indexOf_15 rfl (lv_at hl 3 rfl) ?_
    refine lv_aload_n hx hb d_JL_indexOf_16 rfl (lv_at hl 1 rfl) ?_
    refine va_tlen (v := (nI n_y0)) hx hb hT_a_y0 hS rfl d_JL_indexOf_17 ?_
    refine xr_min (v := (nI (min y3 n_y0))) hx hb (hml.trans hl.1.symm) hown (hz (.methodLink R_JL 38 Lib.Math.min.name) zm_1019) (hz (.static Lib.Math.min.name) zm_1021) (hz (.initialized "java/lang/Math") zm_1024) (hz (.code Lib.Math.min.name Lib.Math.min.code 2 (some .int)) zm_1022) (Nat.le_of_ble_eq_true rfl) (Nat.le_of_ble_eq_true rfl) (Nat.le_of_ble_eq_true rfl) (Nat.le_of_ble_eq_true rfl) d_JL_indexOf_18 (xr_minn (by omega) (by omega)) ?_
    refine lv_istore_n hx hb d_JL_indexOf_21 rfl hl (by decide) rfl (fun ls hl => ?_)
    have hl : lv_has ls 4 [(3, .int (nI (min y3 n_y0))), (2, .int (nI (max y2 0))), (0, .ref a_y0), (1, .int y1)] := hl
    refine lv_iload_n hx hb d_JL_indexOf_22 rfl (lv_at hl 1 rfl) ?_
    refine lv_iload_n hx hb d_JL_indexOf_23 rfl (lv_at hl 0 rfl) ?_
    refine lv_icmp_lt (tgt := 29) hx hb d_JL_indexOf_24 (by decide) (fun h3 => ?_) (fun h3 => ?_)
    · have h3 : (max y2 0) < (min y3 n_y0) := (nI_ltI (a := (max y2 0)) (b := (min y3 n_y0)) (by omega) (by omega)).mp h3
      have e24 := h3
      refine lv_aload_n hx hb d_JL_indexOf_29 rfl (lv_at hl 2 rfl) ?_
      refine lv_iload_n hx hb d_JL_indexOf_30 rfl (lv_at hl 3 rfl) ?_
      refine lv_iload_n hx hb d_JL_indexOf_31 rfl (lv_at hl 1 rfl) ?_
      refine lv_iload_n hx hb d_JL_indexOf_32 rfl (lv_at hl 0 rfl) ?_
      have hPc := hP.sub (ws' := []) [] rfl
      have hDc := hD.sub (ws' := []) [] (by decide) rfl
      have hKc := hK.sub (tys' := []) [] rfl
      have hFc := va_free (wc := []) hD hS hA [] rfl
      refine va_calli (va_runS (As := [.ref a_y0, .int y1, .int (nI (max y2 0)), .int (nI (min y3 n_y0))]) (rest := []) ⟨hx, hb, hml, hown, hz⟩ (s_JL_indexOfChar6 l dC dI H.size a_y0 n_y0 f_y0 y1 ((max y2 0)) ((min y3 n_y0)) (by first | omega | assumption | exact Or.inl rfl | exact Or.inr rfl | decide) (by first | omega | assumption | exact Or.inl rfl | exact Or.inr rfl | decide) (by first | omega | assumption | exact Or.inl rfl | exact Or.inr rfl | decide) (by first | omega | assumption | exact Or.inl rfl | exact Or.inr rfl | decide) (by first | omega | assumption | exact Or.inl rfl | exact Or.inr rfl | decide)) (cwS 4 hz (zS zm_1016 zm_1017 zm_1005 zm_1018) rfl rfl rfl (by decide +kernel) ⟨Nat.le_of_ble_eq_true rfl, Nat.le_of_ble_eq_true rfl⟩) ⟨fun a U g mk q => by obtain ⟨q0, q1, qP, qK, qD, qx0⟩ := q; exact ⟨q0, q1, qP, va_K.moved (u := U) (U := U.calling g mk a) (Vm.Alike.refl U.vm) qK, qD, cx_B.same (u := U) (U := U.calling g mk a) rfl qx0⟩, fun U hU hW => ⟨rfl, by rw [hU], by rw [hU]; exact hPc, va_K.moved hW.alike hKc, hDc.weaken (fun _ _ _ _ => trivial), by rw [hU]; exact cx_B.to hW hS hFc hT_a_y0⟩⟩ rfl rfl hl.1 rfl (lv_room (Nat.le_of_ble_eq_true rfl)) d_JL_indexOf_33 ⟨Nat.zero_le _, Nat.zero_le _⟩) hS (fun q _ h => hFc q h) hFc (fun r u t H1 locs ht hvm hw hB hz1 hk1 hS => ?_)
      obtain ⟨hP1, hK1, hD1⟩ := hB
      subst r
      rw [ht] at hP1
      obtain ⟨hP, hD⟩ := va_join (wr := []) (w1 := []) hP hD [] [] rfl rfl (by decide) (by decide) hk1 hFc hP1 hD1
      generalize H1 = H at hP hS ⊢
      have hP : va_P (dC, dI) vcl [] H := hP
      have hD : va_D A [] := hD
      have hP9 := hP.sub (ws' := []) [] rfl
      have hD9 := hD.sub (ws' := []) [] (by decide) rfl
      exact W.iret (v := (ixE f_y0 (b8 y1) ((min y3 n_y0)) ((max y2 0)))) hx hb hr (fun t ht hW => ⟨⟨(ixE f_y0 (b8 y1) ((min y3 n_y0)) ((max y2 0))), (), rfl, (by exact io_1 e4 (by omega)), by rw [ht]; exact hP9, va_K.moved hW.alike hK, hD9⟩, hS.F ht⟩) hS.2.2 d_JL_indexOf_36
    · have h3 : ¬ (max y2 0) < (min y3 n_y0) := fun q => h3 ((nI_ltI (a := (max y2 0)) (b := (min y3 n_y0)) (by omega) (by omega)).mpr q)
      have e24 := h3
      refine lv_iconst (v := (-1)) hx hb d_JL_indexOf_27 (by decide) ?_
      have hP9 := hP.sub (ws' := []) [] rfl
      have hD9 := hD.sub (ws' := []) [] (by decide) rfl
      exact W.iret (v := (-1)) hx hb hr (fun t ht hW => ⟨⟨(-1), (), rfl, (by exact io_2 e4 (by omega)), by rw [ht]; exact hP9, va_K.moved hW.alike hK, hD9⟩, hS.F ht⟩) hS.2.2 d_JL_indexOf_28
  · have e4 := h1
    refine lv_iconst (v := (-1)) hx hb d_JL_indexOf_7 (by decide) ?_
    have hP9 := hP.sub (ws' := []) [] rfl
    have hD9 := hD.sub (ws' := []) [] (by decide) rfl
    exact W.iret (v := (-1)) hx hb hr (fun t ht hW => ⟨⟨(-1), (), rfl, (by exact io_0 e4), by rw [ht]; exact hP9, va_K.moved hW.alike hK, hD9⟩, hS.F ht⟩) hS.2.2 d_JL_indexOf_8
set_option maxHeartbeats 4000000 in
set_option maxRecDepth 100000 in
theorem s_JS_indexOf16 (l : Launch) (dC : Nat → ClassId) (dI : Nat → Nat → Nat) (sz : Nat) (a_t : Nat) (v_t : Nat) (n_t : Nat) (f_t : Nat → Int32) (y0 : Int32) (bn_t : n_t ≤ 600) : Met l y_JS_indexOf1 w_JS_indexOf1 ({ frames := 2, cells := 0, slots := 0, locals := 63 }) (va_Pc [.ref a_t, .int y0, .int 0] (fun U => U.heap.size = sz ∧ va_P (dC, dI) vcl [] U.heap ∧ va_K (dC, dI) vcl [] U ∧ va_D (fun _ => True) [] ∧ cx_O a_t v_t n_t f_t (va_A [] sz) U U.heap)) (va_Qi (fun (r : Int32) (_ : Unit) => r = ixO f_t n_t y0 0 n_t) (fun _ t => va_P (dC, dI) vcl [] t.heap ∧ va_K (dC, dI) vcl [] t ∧ va_D (va_A [] sz) []) (va_A [] sz)) 0 0 (va_A [] sz) := by
  refine Met.ofW (cc := b_JS_indexOf1) (maxL := 3) (ret := (some .int)) (by decide) rfl ?_
  intro p e s m args below meth c s₁ B hml hv
  obtain ⟨rfl, hsz, hP, hK, hD0, hO_a_t⟩ := hv
  have hx := B.exec
  have hb := B.bytes
  have hr := B.returns
  have hts := atoms_spec (ws := w_JS_indexOf1) B.pre
  have hz : ∀ w ∈ wz, w.before _ s = true := fun w h => hts w (List.mem_cons_of_mem _ h)
  have hown : s.vm.findClass R_JS = some m.cls := findClass_of_methodNamed B.named
  have hlocks := B.notSynchronized
  subst hsz
  have hD := hD0.self (sz := s.heap.size)
  generalize hAe : va_A [] s.heap.size = A at hD hO_a_t ⊢
  have hA : ∀ q : Nat, s.heap.size ≤ q → A q := fun q h => by rw [← hAe]; exact Or.inr h
  have hS : va_S A s.heap s.heap [] := va_S.rf
  have hP : va_P (dC, dI) vcl [] s.heap := hP
  have hl := lv_entry ([.ref a_t, .int y0, .int 0]) (n := 3) (Nat.le_of_ble_eq_true rfl)
  rw [lg_entry_eq]
  generalize (lg_sl ([.ref a_t, .int y0, .int 0]) ++ List.replicate (3 - (lg_sl ([.ref a_t, .int y0, .int 0])).length) Slot.unset).toArray = ls at hl ⊢
  have hl : lv_has ls 3 [(0, .ref a_t), (1, .int y0), (2, .int 0)] := hl
  refine lv_aload_n hx hb d_JS_indexOf1_0 rfl (lv_at hl 0 rfl) ?_
  have hPc := hP.sub (ws' := []) [] rfl
  have hDc := hD.sub (ws' := []) [] (by decide) rfl
  have hKc := hK.sub (tys' := []) [] rfl
  have hFc := va_free (wc := []) hD hS hA [] rfl
  refine va_calli (va_runV (As := []) (rest := []) ⟨hx, hb, hml, hown, hz⟩ (s_JS_isLatin16 l dC dI s.heap.size a_t v_t n_t f_t (by first | omega | assumption | exact Or.inl rfl | exact Or.inr rfl)) (cwV 0 hz (zV zm_994 zm_995 zm_996 zm_167 zm_997) rfl rfl rfl (by decide +kernel) ⟨Nat.le_of_ble_eq_true rfl, Nat.le_of_ble_eq_true rfl⟩) ⟨fun a U g mk q => by obtain ⟨q0, q1, qP, qK, qD, qx0⟩ := q; exact ⟨q0, q1, qP, va_K.moved (u := U) (U := U.calling g mk a) (Vm.Alike.refl U.vm) qK, qD, cx_O.same (u := U) (U := U.calling g mk a) rfl qx0⟩, cx_recv hO_a_t hS, fun U hU hW => ⟨rfl, by rw [hU], by rw [hU]; exact hPc, va_K.moved hW.alike hKc, hDc.weaken (fun _ _ _ _ => trivial), by rw [hU]; exact cx_O.to hW hS hFc hO_a_t⟩⟩ rfl rfl hl.1 rfl (lv_room (Nat.le_of_ble_eq_true rfl)) d_JS_indexOf1_1 ⟨Nat.zero_le _, Nat.zero_le _⟩) hS (fun q _ h => hFc q h) hFc (fun r u t H1 locs ht hvm hw_r hB hz1 hk1 hS => ?_)
  obtain ⟨hP1, hK1, hD1⟩ := hB
  obtain ⟨hb_r, he_r⟩ := hw_r
  subst r
  rw [ht] at hP1
  obtain ⟨hP, hD⟩ := va_join (wr := []) (w1 := []) hP hD [] [] rfl rfl (by decide) (by decide) hk1 hFc hP1 hD1
  generalize H1 = H at hP hS ⊢
  have hP : va_P (dC, dI) vcl [] H := hP
  have hD : va_D A [] := hD
  refine lv_if_eq (tgt := 23) hx hb d_JS_indexOf1_4 (by decide) (fun h => absurd h (by decide +kernel)) (fun _ => ?_)
  refine lv_aload_n hx hb d_JS_indexOf1_7 rfl (lv_at hl 0 rfl) ?_
  refine vk_getf hx hb hO_a_t.2.2.1 hS hown (hz (.fieldLink R_JS 9 "java/lang/String" "value" "[B") zm_998) (fun _ h9 => h9) d_JS_indexOf1_8 ?_
  have hT_v_t : cx_B v_t n_t f_t A s s.heap := hO_a_t.2.2.2.1
  refine lv_iload_n hx hb d_JS_indexOf1_11 rfl (lv_at hl 1 rfl) ?_
  refine lv_iload_n hx hb d_JS_indexOf1_12 rfl (lv_at hl 2 rfl) ?_
  refine lv_aload_n hx hb d_JS_indexOf1_13 rfl (lv_at hl 0 rfl) ?_
  have hPc := hP.sub (ws' := []) [] rfl
  have hDc := hD.sub (ws' := []) [] (by decide) rfl
  have hKc := hK.sub (tys' := []) [] rfl
  have hFc := va_free (wc := []) hD hS hA [] rfl
  refine va_calli (va_runV (As := []) (rest := [.int 0, .int y0, .ref v_t]) ⟨hx, hb, hml, hown, hz⟩ (s_JS_length6 l dC dI H.size a_t v_t n_t f_t (by first | omega | assumption | exact Or.inl rfl | exact Or.inr rfl)) (cwV 0 hz (zV zm_999 zm_1000 zm_1001 zm_167 zm_1002) rfl rfl rfl (by decide +kernel) ⟨Nat.le_of_ble_eq_true rfl, Nat.le_of_ble_eq_true rfl⟩) ⟨fun a U g mk q => by obtain ⟨q0, q1, qP, qK, qD, qx0⟩ := q; exact ⟨q0, q1, qP, va_K.moved (u := U) (U := U.calling g mk a) (Vm.Alike.refl U.vm) qK, qD, cx_O.same (u := U) (U := U.calling g mk a) rfl qx0⟩, cx_recv hO_a_t hS, fun U hU hW => ⟨rfl, by rw [hU], by rw [hU]; exact hPc, va_K.moved hW.alike hKc, hDc.weaken (fun _ _ _ _ => trivial), by rw [hU]; exact cx_O.to hW hS hFc hO_a_t⟩⟩ rfl rfl hl.1 rfl (lv_room (Nat.le_of_ble_eq_true rfl)) d_JS_indexOf1_14 ⟨Nat.zero_le _, Nat.zero_le _⟩) hS (fun q _ h => hFc q h) hFc (fun r u t H1 locs ht hvm hw hB hz1 hk1 hS => ?_)
  obtain ⟨hP1, hK1, hD1⟩ := hB
  subst r
  rw [ht] at hP1
  obtain ⟨hP, hD⟩ := va_join (wr := []) (w1 := []) hP hD [] [] rfl rfl (by decide) (by decide) hk1 hFc hP1 hD1
  generalize H1 = H at hP hS ⊢
  have hP : va_P (dC, dI) vcl [] H := hP
  have hD : va_D A [] := hD
  have hPc := hP.sub (ws' := []) [] rfl
  have hDc := hD.sub (ws' := []) [] (by decide) rfl
  have hKc := hK.sub (tys' := []) [] rfl
  have hFc := va_free (wc := []) hD hS hA [] rfl
  refine va_calli (va_runS (As := [.ref v_t, .int y0, .int 0, .int (nI n_t)]) (rest := []) ⟨hx, hb, hml, hown, hz⟩ (s_JL_indexOf6 l dC dI H.size v_t n_t f_t y0 0 n_t (by first | omega | assumption | exact Or.inl rfl | exact Or.inr rfl) (by first | omega | assumption | exact Or.inl rfl | exact Or.inr rfl) (by first | omega | assumption | exact Or.inl rfl | exact Or.inr rfl)) (va_cwS 4 hz (zT zm_1003 zm_1004 zm_1005 zm_1006) rfl rfl rfl (by decide +kernel) ⟨Nat.le_of_ble_eq_true rfl, Nat.le_of_ble_eq_true rfl⟩) ⟨fun a U g mk q => by obtain ⟨q0, q1, qP, qK, qD, qx0⟩ := q; exact ⟨q0, q1, qP, va_K.moved (u := U) (U := U.calling g mk a) (Vm.Alike.refl U.vm) qK, qD, cx_B.same (u := U) (U := U.calling g mk a) rfl qx0⟩, fun U hU hW => ⟨rfl, by rw [hU], by rw [hU]; exact hPc, va_K.moved hW.alike hKc, hDc.weaken (fun _ _ _ _ => trivial), by rw [hU]; exact cx_B.to hW hS hFc hT_v_t⟩⟩ rfl rfl hl.1 rfl (lv_room (Nat.le_of_ble_eq_true rfl)) d_JS_indexOf1_17 ⟨Nat.zero_le _, Nat.zero_le _⟩) hS (fun q _ h => hFc q h) hFc (fun r u t H1 locs ht hvm hw hB hz1 hk1 hS => ?_)
  obtain ⟨hP1, hK1, hD1⟩ := hB
  subst r
  rw [ht] at hP1
  obtain ⟨hP, hD⟩ := va_join (wr := []) (w1 := []) hP hD [] [] rfl rfl (by decide) (by decide) hk1 hFc hP1 hD1
  generalize H1 = H at hP hS ⊢
  have hP : va_P (dC, dI) vcl [] H := hP
  have hD : va_D A [] := hD
  refine lv_goto (tgt := 36) hx hb d_JS_indexOf1_20 (by decide) ?_
  have hP9 := hP.sub (ws' := []) [] rfl
  have hD9 := hD.sub (ws' := []) [] (by decide) rfl
  exact W.iret (v := (ixO f_t n_t y0 0 n_t)) hx hb hr (fun t ht hW => ⟨⟨(ixO f_t n_t y0 0 n_t), (), rfl, (by rfl), by rw [ht]; exact hP9, va_K.moved hW.alike hK, hD9⟩, hS.F ht⟩) hS.2.2 d_JS_indexOf1_36
set_option maxHeartbeats 4000000 in
set_option maxRecDepth 100000 in
theorem s_JS_indexOf06 (l : Launch) (dC : Nat → ClassId) (dI : Nat → Nat → Nat) (sz : Nat) (a_t : Nat) (v_t : Nat) (n_t : Nat) (f_t : Nat → Int32) (y0 : Int32) (bn_t : n_t ≤ 600) : Met l y_JS_indexOf0 w_JS_indexOf0 ({ frames := 3, cells := 0, slots := 0, locals := 85 }) (va_Pc [.ref a_t, .int y0] (fun U => U.heap.size = sz ∧ va_P (dC, dI) vcl [] U.heap ∧ va_K (dC, dI) vcl [] U ∧ va_D (fun _ => True) [] ∧ cx_O a_t v_t n_t f_t (va_A [] sz) U U.heap)) (va_Qi (fun (r : Int32) (_ : Unit) => r = ixO f_t n_t y0 0 n_t) (fun _ t => va_P (dC, dI) vcl [] t.heap ∧ va_K (dC, dI) vcl [] t ∧ va_D (va_A [] sz) []) (va_A [] sz)) 0 0 (va_A [] sz) := by
  refine Met.ofW (cc := b_JS_indexOf0) (maxL := 2) (ret := (some .int)) (by decide) rfl ?_
  intro p e s m args below meth c s₁ B hml hv
  obtain ⟨rfl, hsz, hP, hK, hD0, hO_a_t⟩ := hv
  have hx := B.exec
  have hb := B.bytes
  have hr := B.returns
  have hts := atoms_spec (ws := w_JS_indexOf0) B.pre
  have hz : ∀ w ∈ wz, w.before _ s = true := fun w h => hts w (List.mem_cons_of_mem _ h)
  have hown : s.vm.findClass R_JS = some m.cls := findClass_of_methodNamed B.named
  have hlocks := B.notSynchronized
  subst hsz
  have hD := hD0.self (sz := s.heap.size)
  generalize hAe : va_A [] s.heap.size = A at hD hO_a_t ⊢
  have hA : ∀ q : Nat, s.heap.size ≤ q → A q := fun q h => by rw [← hAe]; exact Or.inr h
  have hS : va_S A s.heap s.heap [] := va_S.rf
  have hP : va_P (dC, dI) vcl [] s.heap := hP
  have hl := lv_entry ([.ref a_t, .int y0]) (n := 2) (Nat.le_of_ble_eq_true rfl)
  rw [lg_entry_eq]
  generalize (lg_sl ([.ref a_t, .int y0]) ++ List.replicate (2 - (lg_sl ([.ref a_t, .int y0])).length) Slot.unset).toArray = ls at hl ⊢
  have hl : lv_has ls 2 [(0, .ref a_t), (1, .int y0)] := hl
  refine lv_aload_n hx hb d_JS_indexOf0_0 rfl (lv_at hl 0 rfl) ?_
  refine lv_iload_n hx hb d_JS_indexOf0_1 rfl (lv_at hl 1 rfl) ?_
  refine lv_iconst (v := 0) hx hb d_JS_indexOf0_2 (by decide) ?_
  have hPc := hP.sub (ws' := []) [] rfl
  have hDc := hD.sub (ws' := []) [] (by decide) rfl
  have hKc := hK.sub (tys' := []) [] rfl
  have hFc := va_free (wc := []) hD hS hA [] rfl
  refine va_calli (va_runV (As := [.int y0, .int 0]) (rest := []) ⟨hx, hb, hml, hown, hz⟩ (s_JS_indexOf16 l dC dI s.heap.size a_t v_t n_t f_t y0 (by first | omega | assumption | exact Or.inl rfl | exact Or.inr rfl)) (cwV 2 hz (zV zm_990 zm_991 zm_992 zm_167 zm_993) rfl rfl rfl (by decide +kernel) ⟨Nat.le_of_ble_eq_true rfl, Nat.le_of_ble_eq_true rfl⟩) ⟨fun a U g mk q => by obtain ⟨q0, q1, qP, qK, qD, qx0⟩ := q; exact ⟨q0, q1, qP, va_K.moved (u := U) (U := U.calling g mk a) (Vm.Alike.refl U.vm) qK, qD, cx_O.same (u := U) (U := U.calling g mk a) rfl qx0⟩, cx_recv hO_a_t hS, fun U hU hW => ⟨rfl, by rw [hU], by rw [hU]; exact hPc, va_K.moved hW.alike hKc, hDc.weaken (fun _ _ _ _ => trivial), by rw [hU]; exact cx_O.to hW hS hFc hO_a_t⟩⟩ rfl rfl hl.1 rfl (lv_room (Nat.le_of_ble_eq_true rfl)) d_JS_indexOf0_3 ⟨Nat.zero_le _, Nat.zero_le _⟩) hS (fun q _ h => hFc q h) hFc (fun r u t H1 locs ht hvm hw hB hz1 hk1 hS => ?_)
  obtain ⟨hP1, hK1, hD1⟩ := hB
  subst r
  rw [ht] at hP1
  obtain ⟨hP, hD⟩ := va_join (wr := []) (w1 := []) hP hD [] [] rfl rfl (by decide) (by decide) hk1 hFc hP1 hD1
  generalize H1 = H at hP hS ⊢
  have hP : va_P (dC, dI) vcl [] H := hP
  have hD : va_D A [] := hD
  have hP9 := hP.sub (ws' := []) [] rfl
  have hD9 := hD.sub (ws' := []) [] (by decide) rfl
  exact W.iret (v := (ixO f_t n_t y0 0 n_t)) hx hb hr (fun t ht hW => ⟨⟨(ixO f_t n_t y0 0 n_t), (), rfl, (by rfl), by rw [ht]; exact hP9, va_K.moved hW.alike hK, hD9⟩, hS.F ht⟩) hS.2.2 d_JS_indexOf0_6
set_option maxHeartbeats 4000000 in
set_option maxRecDepth 100000 in
theorem s_Cutter_isOperatorPart6 (l : Launch) (dC : Nat → ClassId) (dI : Nat → Nat → Nat) (sz : Nat) (y0 : Int32) : Met l y_Cutter_isOperatorPart w_Cutter_isOperatorPart ({ frames := 4, cells := 0, slots := 0, locals := 106 }) (va_Pc [.int y0] (fun U => U.heap.size = sz ∧ va_P (dC, dI) vcl [] U.heap ∧ va_K (dC, dI) vcl [] U ∧ va_D (fun _ => True) [] ∧ cx_E (va_A [] sz) U U.heap)) (va_Qi (fun (r : Int32) (_ : Unit) => (r = 0 ∨ r = 1) ∧ (r = op_ y0)) (fun _ t => va_P (dC, dI) vcl [] t.heap ∧ va_K (dC, dI) vcl [] t ∧ va_D (va_A [] sz) []) (va_A [] sz)) 0 0 (va_A [] sz) := by
  refine Met.ofW (cc := b_Cutter_isOperatorPart) (maxL := 1) (ret := (some .boolean)) (by decide) rfl ?_
  intro p e s m args below meth c s₁ B hml hv
  obtain ⟨rfl, hsz, hP, hK, hD0, hE⟩ := hv
  have hx := B.exec
  have hb := B.bytes
  have hr := B.returns
  have hts := atoms_spec (ws := w_Cutter_isOperatorPart) B.pre
  have hz : ∀ w ∈ wz, w.before _ s = true := fun w h => hts w (List.mem_cons_of_mem _ h)
  have hown : s.vm.findClass R_Cutter = some m.cls := findClass_of_methodNamed B.named
  have hlocks := B.notSynchronized
  subst hsz
  have hD := hD0.self (sz := s.heap.size)
  generalize hAe : va_A [] s.heap.size = A at hD hE ⊢
  have hA : ∀ q : Nat, s.heap.size ≤ q → A q := fun q h => by rw [← hAe]; exact Or.inr h
  have hS : va_S A s.heap s.heap [] := va_S.rf
  have hP : va_P (dC, dI) vcl [] s.heap := hP
  have hl := lv_entry ([.int y0]) (n := 1) (Nat.le_of_ble_eq_true rfl)
  rw [lg_entry_eq]
  generalize (lg_sl ([.int y0]) ++ List.replicate (1 - (lg_sl ([.int y0])).length) Slot.unset).toArray = ls at hl ⊢
  have hl : lv_has ls 1 [(0, .int y0)] := hl
  obtain ⟨q122, v_q122, hR_q122, hO_q122⟩ := hE.str122
  refine va_ldcS hx hb hown hR_q122 d_Cutter_isOperatorPart_0 ?_
  refine lv_iload_n hx hb d_Cutter_isOperatorPart_2 rfl (lv_at hl 0 rfl) ?_
  have hPc := hP.sub (ws' := []) [] rfl
  have hDc := hD.sub (ws' := []) [] (by decide) rfl
  have hKc := hK.sub (tys' := []) [] rfl
  have hFc := va_free (wc := []) hD hS hA [] rfl
  refine va_calli (va_runV (As := [.int y0]) (rest := []) ⟨hx, hb, hml, hown, hz⟩ (s_JS_indexOf06 l dC dI s.heap.size q122 v_q122 20 bt1 y0 (by first | omega | assumption | exact Or.inl rfl | exact Or.inr rfl | decide)) (cwV 1 hz (zV zm_164 zm_165 zm_166 zm_167 zm_168) rfl rfl rfl (by decide +kernel) ⟨Nat.le_of_ble_eq_true rfl, Nat.le_of_ble_eq_true rfl⟩) ⟨fun a U g mk q => by obtain ⟨q0, q1, qP, qK, qD, qx0⟩ := q; exact ⟨q0, q1, qP, va_K.moved (u := U) (U := U.calling g mk a) (Vm.Alike.refl U.vm) qK, qD, cx_O.same (u := U) (U := U.calling g mk a) rfl qx0⟩, cx_recv hO_q122 hS, fun U hU hW => ⟨rfl, by rw [hU], by rw [hU]; exact hPc, va_K.moved hW.alike hKc, hDc.weaken (fun _ _ _ _ => trivial), by rw [hU]; exact cx_O.to hW hS hFc hO_q122⟩⟩ rfl rfl hl.1 rfl (lv_room (Nat.le_of_ble_eq_true rfl)) d_Cutter_isOperatorPart_3 ⟨Nat.zero_le _, Nat.zero_le _⟩) hS (fun q _ h => hFc q h) hFc (fun r u t H1 locs ht hvm hw hB hz1 hk1 hS => ?_)
  obtain ⟨hP1, hK1, hD1⟩ := hB
  subst r
  rw [ht] at hP1
  obtain ⟨hP, hD⟩ := va_join (wr := []) (w1 := []) hP hD [] [] rfl rfl (by decide) (by decide) hk1 hFc hP1 hD1
  generalize H1 = H at hP hS ⊢
  have hP : va_P (dC, dI) vcl [] H := hP
  have hD : va_D A [] := hD
  refine lv_if_lt (tgt := 13) hx hb d_Cutter_isOperatorPart_6 (by decide) (fun h1 => ?_) (fun h1 => ?_)
  · have e6 := h1
    refine lv_iconst (v := 0) hx hb d_Cutter_isOperatorPart_13 (by decide) ?_
    have hP9 := hP.sub (ws' := []) [] rfl
    have hD9 := hD.sub (ws' := []) [] (by decide) rfl
    exact W.zret (v := 0) hx hb hr (by decide +kernel) (fun t ht hW => ⟨⟨0, (), rfl, ⟨(by first | assumption | exact Or.inl rfl | exact Or.inr rfl), (by exact op_n0 e6)⟩, by rw [ht]; exact hP9, va_K.moved hW.alike hK, hD9⟩, hS.F ht⟩) hS.2.2 d_Cutter_isOperatorPart_14
  · have e6 := h1
    refine lv_iconst (v := 1) hx hb d_Cutter_isOperatorPart_9 (by decide) ?_
    refine lv_goto (tgt := 14) hx hb d_Cutter_isOperatorPart_10 (by decide) ?_
    have hP9 := hP.sub (ws' := []) [] rfl
    have hD9 := hD.sub (ws' := []) [] (by decide) rfl
    exact W.zret (v := 1) hx hb hr (by decide +kernel) (fun t ht hW => ⟨⟨1, (), rfl, ⟨(by first | assumption | exact Or.inl rfl | exact Or.inr rfl), (by exact op_n1 e6)⟩, by rw [ht]; exact hP9, va_K.moved hW.alike hK, hD9⟩, hS.F ht⟩) hS.2.2 d_Cutter_isOperatorPart_14
set_option maxHeartbeats 4000000 in
set_option maxRecDepth 100000 in
theorem s_Cutter_isSign6 (l : Launch) (dC : Nat → ClassId) (dI : Nat → Nat → Nat) (sz : Nat) (y0 : Int32) : Met l y_Cutter_isSign w_Cutter_isSign ({ frames := 4, cells := 0, slots := 0, locals := 106 }) (va_Pc [.int y0] (fun U => U.heap.size = sz ∧ va_P (dC, dI) vcl [] U.heap ∧ va_K (dC, dI) vcl [] U ∧ va_D (fun _ => True) [] ∧ cx_E (va_A [] sz) U U.heap)) (va_Qi (fun (r : Int32) (_ : Unit) => (r = 0 ∨ r = 1) ∧ (r = sg_ y0)) (fun _ t => va_P (dC, dI) vcl [] t.heap ∧ va_K (dC, dI) vcl [] t ∧ va_D (va_A [] sz) []) (va_A [] sz)) 0 0 (va_A [] sz) := by
  refine Met.ofW (cc := b_Cutter_isSign) (maxL := 1) (ret := (some .boolean)) (by decide) rfl ?_
  intro p e s m args below meth c s₁ B hml hv
  obtain ⟨rfl, hsz, hP, hK, hD0, hE⟩ := hv
  have hx := B.exec
  have hb := B.bytes
  have hr := B.returns
  have hts := atoms_spec (ws := w_Cutter_isSign) B.pre
  have hz : ∀ w ∈ wz, w.before _ s = true := fun w h => hts w (List.mem_cons_of_mem _ h)
  have hown : s.vm.findClass R_Cutter = some m.cls := findClass_of_methodNamed B.named
  have hlocks := B.notSynchronized
  subst hsz
  have hD := hD0.self (sz := s.heap.size)
  generalize hAe : va_A [] s.heap.size = A at hD hE ⊢
  have hA : ∀ q : Nat, s.heap.size ≤ q → A q := fun q h => by rw [← hAe]; exact Or.inr h
  have hS : va_S A s.heap s.heap [] := va_S.rf
  have hP : va_P (dC, dI) vcl [] s.heap := hP
  have hl := lv_entry ([.int y0]) (n := 1) (Nat.le_of_ble_eq_true rfl)
  rw [lg_entry_eq]
  generalize (lg_sl ([.int y0]) ++ List.replicate (1 - (lg_sl ([.int y0])).length) Slot.unset).toArray = ls at hl ⊢
  have hl : lv_has ls 1 [(0, .int y0)] := hl
  obtain ⟨q129, v_q129, hR_q129, hO_q129⟩ := hE.str129
  refine va_ldcS hx hb hown hR_q129 d_Cutter_isSign_0 ?_
  refine lv_iload_n hx hb d_Cutter_isSign_2 rfl (lv_at hl 0 rfl) ?_
  have hPc := hP.sub (ws' := []) [] rfl
  have hDc := hD.sub (ws' := []) [] (by decide) rfl
  have hKc := hK.sub (tys' := []) [] rfl
  have hFc := va_free (wc := []) hD hS hA [] rfl
  refine va_calli (va_runV (As := [.int y0]) (rest := []) ⟨hx, hb, hml, hown, hz⟩ (s_JS_indexOf06 l dC dI s.heap.size q129 v_q129 9 bt2 y0 (by first | omega | assumption | exact Or.inl rfl | exact Or.inr rfl | decide)) (cwV 1 hz (zV zm_164 zm_165 zm_166 zm_167 zm_168) rfl rfl rfl (by decide +kernel) ⟨Nat.le_of_ble_eq_true rfl, Nat.le_of_ble_eq_true rfl⟩) ⟨fun a U g mk q => by obtain ⟨q0, q1, qP, qK, qD, qx0⟩ := q; exact ⟨q0, q1, qP, va_K.moved (u := U) (U := U.calling g mk a) (Vm.Alike.refl U.vm) qK, qD, cx_O.same (u := U) (U := U.calling g mk a) rfl qx0⟩, cx_recv hO_q129 hS, fun U hU hW => ⟨rfl, by rw [hU], by rw [hU]; exact hPc, va_K.moved hW.alike hKc, hDc.weaken (fun _ _ _ _ => trivial), by rw [hU]; exact cx_O.to hW hS hFc hO_q129⟩⟩ rfl rfl hl.1 rfl (lv_room (Nat.le_of_ble_eq_true rfl)) d_Cutter_isSign_3 ⟨Nat.zero_le _, Nat.zero_le _⟩) hS (fun q _ h => hFc q h) hFc (fun r u t H1 locs ht hvm hw hB hz1 hk1 hS => ?_)
  obtain ⟨hP1, hK1, hD1⟩ := hB
  subst r
  rw [ht] at hP1
  obtain ⟨hP, hD⟩ := va_join (wr := []) (w1 := []) hP hD [] [] rfl rfl (by decide) (by decide) hk1 hFc hP1 hD1
  generalize H1 = H at hP hS ⊢
  have hP : va_P (dC, dI) vcl [] H := hP
  have hD : va_D A [] := hD
  refine lv_if_lt (tgt := 13) hx hb d_Cutter_isSign_6 (by decide) (fun h1 => ?_) (fun h1 => ?_)
  · have e6 := h1
    refine lv_iconst (v := 0) hx hb d_Cutter_isSign_13 (by decide) ?_
    have hP9 := hP.sub (ws' := []) [] rfl
    have hD9 := hD.sub (ws' := []) [] (by decide) rfl
    exact W.zret (v := 0) hx hb hr (by decide +kernel) (fun t ht hW => ⟨⟨0, (), rfl, ⟨(by first | assumption | exact Or.inl rfl | exact Or.inr rfl), (by exact sg_n0 e6)⟩, by rw [ht]; exact hP9, va_K.moved hW.alike hK, hD9⟩, hS.F ht⟩) hS.2.2 d_Cutter_isSign_14
  · have e6 := h1
    refine lv_iconst (v := 1) hx hb d_Cutter_isSign_9 (by decide) ?_
    refine lv_goto (tgt := 14) hx hb d_Cutter_isSign_10 (by decide) ?_
    have hP9 := hP.sub (ws' := []) [] rfl
    have hD9 := hD.sub (ws' := []) [] (by decide) rfl
    exact W.zret (v := 1) hx hb hr (by decide +kernel) (fun t ht hW => ⟨⟨1, (), rfl, ⟨(by first | assumption | exact Or.inl rfl | exact Or.inr rfl), (by exact sg_n1 e6)⟩, by rw [ht]; exact hP9, va_K.moved hW.alike hK, hD9⟩, hS.F ht⟩) hS.2.2 d_Cutter_isSign_14
set_option maxHeartbeats 4000000 in
set_option maxRecDepth 100000 in
theorem s_Cutter_kindBegunBy6 (l : Launch) (dC : Nat → ClassId) (dI : Nat → Nat → Nat) (sz : Nat) (y0 : Int32) : Met l y_Cutter_kindBegunBy w_Cutter_kindBegunBy ({ frames := 5, cells := 0, slots := 0, locals := 126 }) (va_Pc [.int y0] (fun U => U.heap.size = sz ∧ va_P (dC, dI) vcl [] U.heap ∧ va_K (dC, dI) vcl [] U ∧ va_D (fun _ => True) [] ∧ cx_E (va_A [] sz) U U.heap)) (va_Qi (fun (r : Int32) (_ : Unit) => r = kdO y0) (fun _ t => va_P (dC, dI) vcl [] t.heap ∧ va_K (dC, dI) vcl [] t ∧ va_D (va_A [] sz) []) (va_A [] sz)) 0 0 (va_A [] sz) := by
  refine Met.ofW (cc := b_Cutter_kindBegunBy) (maxL := 1) (ret := (some .int)) (by decide) rfl ?_
  intro p e s m args below meth c s₁ B hml hv
  obtain ⟨rfl, hsz, hP, hK, hD0, hE⟩ := hv
  have hx := B.exec
  have hb := B.bytes
  have hr := B.returns
  have hts := atoms_spec (ws := w_Cutter_kindBegunBy) B.pre
  have hz : ∀ w ∈ wz, w.before _ s = true := fun w h => hts w (List.mem_cons_of_mem _ h)
  have hown : s.vm.findClass R_Cutter = some m.cls := findClass_of_methodNamed B.named
  have hlocks := B.notSynchronized
  subst hsz
  have hD := hD0.self (sz := s.heap.size)
  generalize hAe : va_A [] s.heap.size = A at hD hE ⊢
  have hA : ∀ q : Nat, s.heap.size ≤ q → A q := fun q h => by rw [← hAe]; exact Or.inr h
  have hS : va_S A s.heap s.heap [] := va_S.rf
  have hP : va_P (dC, dI) vcl [] s.heap := hP
  have hl := lv_entry ([.int y0]) (n := 1) (Nat.le_of_ble_eq_true rfl)
  rw [lg_entry_eq]
  generalize (lg_sl ([.int y0]) ++ List.replicate (1 - (lg_sl ([.int y0])).length) Slot.unset).toArray = ls at hl ⊢
  have hl : lv_has ls 1 [(0, .int y0)] := hl
  refine lv_iload_n hx hb d_Cutter_kindBegunBy_0 rfl (lv_at hl 0 rfl) ?_
  have hPc := hP.sub (ws' := []) [] rfl
  have hDc := hD.sub (ws' := []) [] (by decide) rfl
  have hKc := hK.sub (tys' := []) [] rfl
  have hFc := va_free (wc := []) hD hS hA [] rfl
  refine va_calli (va_runS (As := [.int y0]) (rest := []) ⟨hx, hb, hml, hown, hz⟩ (s_Cutter_isLetter6 l dC dI s.heap.size y0) (cwS 1 hz (zS zm_149 zm_150 zm_92 zm_151) rfl rfl rfl (by decide +kernel) ⟨Nat.le_of_ble_eq_true rfl, Nat.le_of_ble_eq_true rfl⟩) ⟨fun a U g mk q => by obtain ⟨q0, q1, qP, qK, qD⟩ := q; exact ⟨q0, q1, qP, va_K.moved (u := U) (U := U.calling g mk a) (Vm.Alike.refl U.vm) qK, qD⟩, fun U hU hW => ⟨rfl, by rw [hU], by rw [hU]; exact hPc, va_K.moved hW.alike hKc, hDc.weaken (fun _ _ _ _ => trivial)⟩⟩ rfl rfl hl.1 rfl (lv_room (Nat.le_of_ble_eq_true rfl)) d_Cutter_kindBegunBy_1 ⟨Nat.zero_le _, Nat.zero_le _⟩) hS (fun q _ h => hFc q h) hFc (fun r u t H1 locs ht hvm hw_r hB hz1 hk1 hS => ?_)
  obtain ⟨hP1, hK1, hD1⟩ := hB
  obtain ⟨hb_r, he_r⟩ := hw_r
  subst r
  rw [ht] at hP1
  obtain ⟨hP, hD⟩ := va_join (wr := []) (w1 := []) hP hD [] [] rfl rfl (by decide) (by decide) hk1 hFc hP1 hD1
  generalize H1 = H at hP hS ⊢
  have hP : va_P (dC, dI) vcl [] H := hP
  have hD : va_D A [] := hD
  refine lv_if_eq (tgt := 9) hx hb d_Cutter_kindBegunBy_4 (by decide) (fun h1 => ?_) (fun h1 => ?_)
  · have e4 := h1
    refine lv_iload_n hx hb d_Cutter_kindBegunBy_9 rfl (lv_at hl 0 rfl) ?_
    have hPc := hP.sub (ws' := []) [] rfl
    have hDc := hD.sub (ws' := []) [] (by decide) rfl
    have hKc := hK.sub (tys' := []) [] rfl
    have hFc := va_free (wc := []) hD hS hA [] rfl
    refine va_calli (va_runS (As := [.int y0]) (rest := []) ⟨hx, hb, hml, hown, hz⟩ (s_Cutter_isDigit6 l dC dI H.size y0) (cwS 1 hz (zS zm_152 zm_153 zm_92 zm_154) rfl rfl rfl (by decide +kernel) ⟨Nat.le_of_ble_eq_true rfl, Nat.le_of_ble_eq_true rfl⟩) ⟨fun a U g mk q => by obtain ⟨q0, q1, qP, qK, qD⟩ := q; exact ⟨q0, q1, qP, va_K.moved (u := U) (U := U.calling g mk a) (Vm.Alike.refl U.vm) qK, qD⟩, fun U hU hW => ⟨rfl, by rw [hU], by rw [hU]; exact hPc, va_K.moved hW.alike hKc, hDc.weaken (fun _ _ _ _ => trivial)⟩⟩ rfl rfl hl.1 rfl (lv_room (Nat.le_of_ble_eq_true rfl)) d_Cutter_kindBegunBy_10 ⟨Nat.zero_le _, Nat.zero_le _⟩) hS (fun q _ h => hFc q h) hFc (fun r u t H1 locs ht hvm hw_r hB hz1 hk1 hS => ?_)
    obtain ⟨hP1, hK1, hD1⟩ := hB
    obtain ⟨hb_r, he_r⟩ := hw_r
    subst r
    rw [ht] at hP1
    obtain ⟨hP, hD⟩ := va_join (wr := []) (w1 := []) hP hD [] [] rfl rfl (by decide) (by decide) hk1 hFc hP1 hD1
    generalize H1 = H at hP hS ⊢
    have hP : va_P (dC, dI) vcl [] H := hP
    have hD : va_D A [] := hD
    refine lv_if_eq (tgt := 18) hx hb d_Cutter_kindBegunBy_13 (by decide) (fun h2 => ?_) (fun h2 => ?_)
    · have e13 := h2
      refine lv_iload_n hx hb d_Cutter_kindBegunBy_18 rfl (lv_at hl 0 rfl) ?_
      have hPc := hP.sub (ws' := []) [] rfl
      have hDc := hD.sub (ws' := []) [] (by decide) rfl
      have hKc := hK.sub (tys' := []) [] rfl
      have hFc := va_free (wc := []) hD hS hA [] rfl
      refine va_calli (va_runS (As := [.int y0]) (rest := []) ⟨hx, hb, hml, hown, hz⟩ (s_Cutter_isOperatorPart6 l dC dI H.size y0) (cwS 1 hz (zS zm_155 zm_156 zm_92 zm_157) rfl rfl rfl (by decide +kernel) ⟨Nat.le_of_ble_eq_true rfl, Nat.le_of_ble_eq_true rfl⟩) ⟨fun a U g mk q => by obtain ⟨q0, q1, qP, qK, qD, qx0⟩ := q; exact ⟨q0, q1, qP, va_K.moved (u := U) (U := U.calling g mk a) (Vm.Alike.refl U.vm) qK, qD, cx_E.same (u := U) (U := U.calling g mk a) rfl qx0⟩, fun U hU hW => ⟨rfl, by rw [hU], by rw [hU]; exact hPc, va_K.moved hW.alike hKc, hDc.weaken (fun _ _ _ _ => trivial), by rw [hU]; exact cx_E.to hW hS hFc hE⟩⟩ rfl rfl hl.1 rfl (lv_room (Nat.le_of_ble_eq_true rfl)) d_Cutter_kindBegunBy_19 ⟨Nat.zero_le _, Nat.zero_le _⟩) hS (fun q _ h => hFc q h) hFc (fun r u t H1 locs ht hvm hw_r hB hz1 hk1 hS => ?_)
      obtain ⟨hP1, hK1, hD1⟩ := hB
      obtain ⟨hb_r, he_r⟩ := hw_r
      subst r
      rw [ht] at hP1
      obtain ⟨hP, hD⟩ := va_join (wr := []) (w1 := []) hP hD [] [] rfl rfl (by decide) (by decide) hk1 hFc hP1 hD1
      generalize H1 = H at hP hS ⊢
      have hP : va_P (dC, dI) vcl [] H := hP
      have hD : va_D A [] := hD
      refine lv_if_eq (tgt := 27) hx hb d_Cutter_kindBegunBy_22 (by decide) (fun h3 => ?_) (fun h3 => ?_)
      · have e22 := h3
        refine lv_iload_n hx hb d_Cutter_kindBegunBy_27 rfl (lv_at hl 0 rfl) ?_
        have hPc := hP.sub (ws' := []) [] rfl
        have hDc := hD.sub (ws' := []) [] (by decide) rfl
        have hKc := hK.sub (tys' := []) [] rfl
        have hFc := va_free (wc := []) hD hS hA [] rfl
        refine va_calli (va_runS (As := [.int y0]) (rest := []) ⟨hx, hb, hml, hown, hz⟩ (s_Cutter_isSign6 l dC dI H.size y0) (cwS 1 hz (zS zm_158 zm_159 zm_92 zm_160) rfl rfl rfl (by decide +kernel) ⟨Nat.le_of_ble_eq_true rfl, Nat.le_of_ble_eq_true rfl⟩) ⟨fun a U g mk q => by obtain ⟨q0, q1, qP, qK, qD, qx0⟩ := q; exact ⟨q0, q1, qP, va_K.moved (u := U) (U := U.calling g mk a) (Vm.Alike.refl U.vm) qK, qD, cx_E.same (u := U) (U := U.calling g mk a) rfl qx0⟩, fun U hU hW => ⟨rfl, by rw [hU], by rw [hU]; exact hPc, va_K.moved hW.alike hKc, hDc.weaken (fun _ _ _ _ => trivial), by rw [hU]; exact cx_E.to hW hS hFc hE⟩⟩ rfl rfl hl.1 rfl (lv_room (Nat.le_of_ble_eq_true rfl)) d_Cutter_kindBegunBy_28 ⟨Nat.zero_le _, Nat.zero_le _⟩) hS (fun q _ h => hFc q h) hFc (fun r u t H1 locs ht hvm hw_r hB hz1 hk1 hS => ?_)
        obtain ⟨hP1, hK1, hD1⟩ := hB
        obtain ⟨hb_r, he_r⟩ := hw_r
        subst r
        rw [ht] at hP1
        obtain ⟨hP, hD⟩ := va_join (wr := []) (w1 := []) hP hD [] [] rfl rfl (by decide) (by decide) hk1 hFc hP1 hD1
        generalize H1 = H at hP hS ⊢
        have hP : va_P (dC, dI) vcl [] H := hP
        have hD : va_D A [] := hD
        refine lv_if_eq (tgt := 38) hx hb d_Cutter_kindBegunBy_31 (by decide) (fun h4 => ?_) (fun h4 => ?_)
        · have e31 := h4
          refine lv_iconst (v := (-1)) hx hb d_Cutter_kindBegunBy_38 (by decide) ?_
          have hP9 := hP.sub (ws' := []) [] rfl
          have hD9 := hD.sub (ws' := []) [] (by decide) rfl
          exact W.iret (v := (-1)) hx hb hr (fun t ht hW => ⟨⟨(-1), (), rfl, (by exact (kd_n e4 e13 e22 e31).symm), by rw [ht]; exact hP9, va_K.moved hW.alike hK, hD9⟩, hS.F ht⟩) hS.2.2 d_Cutter_kindBegunBy_39
        · have e31 := h4
          refine lv_iconst (v := 3) hx hb d_Cutter_kindBegunBy_34 (by decide) ?_
          refine lv_goto (tgt := 39) hx hb d_Cutter_kindBegunBy_35 (by decide) ?_
          have hP9 := hP.sub (ws' := []) [] rfl
          have hD9 := hD.sub (ws' := []) [] (by decide) rfl
          exact W.iret (v := 3) hx hb hr (fun t ht hW => ⟨⟨3, (), rfl, (by exact (kd_3 e4 e13 e22 e31).symm), by rw [ht]; exact hP9, va_K.moved hW.alike hK, hD9⟩, hS.F ht⟩) hS.2.2 d_Cutter_kindBegunBy_39
      · have e22 := h3
        refine lv_iconst (v := 2) hx hb d_Cutter_kindBegunBy_25 (by decide) ?_
        have hP9 := hP.sub (ws' := []) [] rfl
        have hD9 := hD.sub (ws' := []) [] (by decide) rfl
        exact W.iret (v := 2) hx hb hr (fun t ht hW => ⟨⟨2, (), rfl, (by exact (kd_2 e4 e13 e22).symm), by rw [ht]; exact hP9, va_K.moved hW.alike hK, hD9⟩, hS.F ht⟩) hS.2.2 d_Cutter_kindBegunBy_26
    · have e13 := h2
      refine lv_iconst (v := 1) hx hb d_Cutter_kindBegunBy_16 (by decide) ?_
      have hP9 := hP.sub (ws' := []) [] rfl
      have hD9 := hD.sub (ws' := []) [] (by decide) rfl
      exact W.iret (v := 1) hx hb hr (fun t ht hW => ⟨⟨1, (), rfl, (by exact (kd_1 e4 e13).symm), by rw [ht]; exact hP9, va_K.moved hW.alike hK, hD9⟩, hS.F ht⟩) hS.2.2 d_Cutter_kindBegunBy_17
  · have e4 := h1
    refine lv_iconst (v := 0) hx hb d_Cutter_kindBegunBy_7 (by decide) ?_
    have hP9 := hP.sub (ws' := []) [] rfl
    have hD9 := hD.sub (ws' := []) [] (by decide) rfl
    exact W.iret (v := 0) hx hb hr (fun t ht hW => ⟨⟨0, (), rfl, (by exact (kd_0 e4).symm), by rw [ht]; exact hP9, va_K.moved hW.alike hK, hD9⟩, hS.F ht⟩) hS.2.2 d_Cutter_kindBegunBy_8
set_option maxHeartbeats 4000000 in
set_option maxRecDepth 100000 in
theorem s_Cutter_longest6 (l : Launch) (dC : Nat → ClassId) (dI : Nat → Nat → Nat) (sz : Nat) (y0 : Int32) : Met l y_Cutter_longest w_Cutter_longest ({ frames := 0, cells := 0, slots := 0, locals := 0 }) (va_Pc [.int y0] (fun U => U.heap.size = sz ∧ va_P (dC, dI) vcl [] U.heap ∧ va_K (dC, dI) vcl [] U ∧ va_D (fun _ => True) [])) (va_Qi (fun (r : Int32) (_ : Unit) => ∃ j, (j = lngO y0) ∧ r = nI j) (fun _ t => va_P (dC, dI) vcl [] t.heap ∧ va_K (dC, dI) vcl [] t ∧ va_D (va_A [] sz) []) (va_A [] sz)) 0 0 (va_A [] sz) := by
  refine Met.ofW (cc := b_Cutter_longest) (maxL := 1) (ret := (some .int)) (by decide) rfl ?_
  intro p e s m args below meth c s₁ B hml hv
  obtain ⟨rfl, hsz, hP, hK, hD0⟩ := hv
  have hx := B.exec
  have hb := B.bytes
  have hr := B.returns
  have hts := atoms_spec (ws := w_Cutter_longest) B.pre
  have hz : ∀ w ∈ wz, w.before _ s = true := fun w h => hts w (List.mem_cons_of_mem _ h)
  have hown : s.vm.findClass R_Cutter = some m.cls := findClass_of_methodNamed B.named
  have hlocks := B.notSynchronized
  subst hsz
  have hD := hD0.self (sz := s.heap.size)
  generalize hAe : va_A [] s.heap.size = A at hD ⊢
  have hA : ∀ q : Nat, s.heap.size ≤ q → A q := fun q h => by rw [← hAe]; exact Or.inr h
  have hS : va_S A s.heap s.heap [] := va_S.rf
  have hP : va_P (dC, dI) vcl [] s.heap := hP
  have hl := lv_entry ([.int y0]) (n := 1) (Nat.le_of_ble_eq_true rfl)
  rw [lg_entry_eq]
  generalize (lg_sl ([.int y0]) ++ List.replicate (1 - (lg_sl ([.int y0])).length) Slot.unset).toArray = ls at hl ⊢
  have hl : lv_has ls 1 [(0, .int y0)] := hl
  refine lv_iload_n hx hb d_Cutter_longest_0 rfl (lv_at hl 0 rfl) ?_
  refine lv_iconst (v := 1) hx hb d_Cutter_longest_1 (by decide) ?_
  refine lv_icmp_ne (tgt := 10) hx hb d_Cutter_longest_2 (by decide) (fun h1 => ?_) (fun h1 => ?_)
  · refine lv_bipush (v := 7) hx hb d_Cutter_longest_10 (by decide) ?_
    have hP9 := hP.sub (ws' := []) [] rfl
    have hD9 := hD.sub (ws' := []) [] (by decide) rfl
    exact W.iret (v := 7) hx hb hr (fun t ht hW => ⟨⟨7, (), rfl, ⟨7, by first | exact (lg_1 (by assumption)).symm | exact (lg_7 (by assumption)).symm, rfl⟩, by rw [ht]; exact hP9, va_K.moved hW.alike hK, hD9⟩, hS.F ht⟩) hS.2.2 d_Cutter_longest_12
  · refine lv_bipush (v := 9) hx hb d_Cutter_longest_5 (by decide) ?_
    refine lv_goto (tgt := 12) hx hb d_Cutter_longest_7 (by decide) ?_
    have hP9 := hP.sub (ws' := []) [] rfl
    have hD9 := hD.sub (ws' := []) [] (by decide) rfl
    exact W.iret (v := 9) hx hb hr (fun t ht hW => ⟨⟨9, (), rfl, ⟨9, by first | exact (lg_1 (by assumption)).symm | exact (lg_7 (by assumption)).symm, rfl⟩, by rw [ht]; exact hP9, va_K.moved hW.alike hK, hD9⟩, hS.F ht⟩) hS.2.2 d_Cutter_longest_12
set_option maxHeartbeats 4000000 in
set_option maxRecDepth 100000 in
theorem s_Cutter_goesOn6 (l : Launch) (dC : Nat → ClassId) (dI : Nat → Nat → Nat) (sz : Nat) (y0 : Int32) (y1 : Int32) : Met l y_Cutter_goesOn w_Cutter_goesOn ({ frames := 5, cells := 0, slots := 0, locals := 126 }) (va_Pc [.int y0, .int y1] (fun U => U.heap.size = sz ∧ va_P (dC, dI) vcl [] U.heap ∧ va_K (dC, dI) vcl [] U ∧ va_D (fun _ => True) [] ∧ cx_E (va_A [] sz) U U.heap)) (va_Qi (fun (r : Int32) (_ : Unit) => (r = 0 ∨ r = 1) ∧ (r = gnO y0 y1)) (fun _ t => va_P (dC, dI) vcl [] t.heap ∧ va_K (dC, dI) vcl [] t ∧ va_D (va_A [] sz) []) (va_A [] sz)) 0 0 (va_A [] sz) := by
  refine Met.ofW (cc := b_Cutter_goesOn) (maxL := 2) (ret := (some .boolean)) (by decide) rfl ?_
  intro p e s m args below meth c s₁ B hml hv
  obtain ⟨rfl, hsz, hP, hK, hD0, hE⟩ := hv
  have hx := B.exec
  have hb := B.bytes
  have hr := B.returns
  have hts := atoms_spec (ws := w_Cutter_goesOn) B.pre
  have hz : ∀ w ∈ wz, w.before _ s = true := fun w h => hts w (List.mem_cons_of_mem _ h)
  have hown : s.vm.findClass R_Cutter = some m.cls := findClass_of_methodNamed B.named
  have hlocks := B.notSynchronized
  subst hsz
  have hD := hD0.self (sz := s.heap.size)
  generalize hAe : va_A [] s.heap.size = A at hD hE ⊢
  have hA : ∀ q : Nat, s.heap.size ≤ q → A q := fun q h => by rw [← hAe]; exact Or.inr h
  have hS : va_S A s.heap s.heap [] := va_S.rf
  have hP : va_P (dC, dI) vcl [] s.heap := hP
  have hl := lv_entry ([.int y0, .int y1]) (n := 2) (Nat.le_of_ble_eq_true rfl)
  rw [lg_entry_eq]
  generalize (lg_sl ([.int y0, .int y1]) ++ List.replicate (2 - (lg_sl ([.int y0, .int y1])).length) Slot.unset).toArray = ls at hl ⊢
  have hl : lv_has ls 2 [(0, .int y0), (1, .int y1)] := hl
  refine lv_iload_n hx hb d_Cutter_goesOn_0 rfl (lv_at hl 0 rfl) ?_
  rcases Classical.em (y0 = (0 : Int32)) with h1 | h1_0
  · refine lv_tableIn (tgt := 28) (off := 27) hx hb d_Cutter_goesOn_1 (by rw [h1]; decide +kernel) (by rw [h1]; decide +kernel) (by rw [h1]; decide +kernel) (by decide) ?_
    refine lv_iload_n hx hb d_Cutter_goesOn_28 rfl (lv_at hl 1 rfl) ?_
    have hPc := hP.sub (ws' := []) [] rfl
    have hDc := hD.sub (ws' := []) [] (by decide) rfl
    have hKc := hK.sub (tys' := []) [] rfl
    have hFc := va_free (wc := []) hD hS hA [] rfl
    refine va_calli (va_runS (As := [.int y1]) (rest := []) ⟨hx, hb, hml, hown, hz⟩ (s_Cutter_isLetter6 l dC dI s.heap.size y1) (cwS 1 hz (zS zm_149 zm_150 zm_92 zm_151) rfl rfl rfl (by decide +kernel) ⟨Nat.le_of_ble_eq_true rfl, Nat.le_of_ble_eq_true rfl⟩) ⟨fun a U g mk q => by obtain ⟨q0, q1, qP, qK, qD⟩ := q; exact ⟨q0, q1, qP, va_K.moved (u := U) (U := U.calling g mk a) (Vm.Alike.refl U.vm) qK, qD⟩, fun U hU hW => ⟨rfl, by rw [hU], by rw [hU]; exact hPc, va_K.moved hW.alike hKc, hDc.weaken (fun _ _ _ _ => trivial)⟩⟩ rfl rfl hl.1 rfl (lv_room (Nat.le_of_ble_eq_true rfl)) d_Cutter_goesOn_29 ⟨Nat.zero_le _, Nat.zero_le _⟩) hS (fun q _ h => hFc q h) hFc (fun r u t H1 locs ht hvm hw_r hB hz1 hk1 hS => ?_)
    obtain ⟨hP1, hK1, hD1⟩ := hB
    obtain ⟨hb_r, he_r⟩ := hw_r
    subst r
    rw [ht] at hP1
    obtain ⟨hP, hD⟩ := va_join (wr := []) (w1 := []) hP hD [] [] rfl rfl (by decide) (by decide) hk1 hFc hP1 hD1
    generalize H1 = H at hP hS ⊢
    have hP : va_P (dC, dI) vcl [] H := hP
    have hD : va_D A [] := hD
    refine lv_if_ne (tgt := 48) hx hb d_Cutter_goesOn_32 (by decide) (fun h2 => ?_) (fun h2 => ?_)
    · refine lv_iconst (v := 1) hx hb d_Cutter_goesOn_48 (by decide) ?_
      refine lv_goto (tgt := 53) hx hb d_Cutter_goesOn_49 (by decide) ?_
      have hP9 := hP.sub (ws' := []) [] rfl
      have hD9 := hD.sub (ws' := []) [] (by decide) rfl
      exact W.zret (v := 1) hx hb hr (by decide +kernel) (fun t ht hW => ⟨⟨1, (), rfl, ⟨(by first | assumption | exact Or.inl rfl | exact Or.inr rfl), (by first | exact gn_d (by assumption) (by assumption) (by assumption) | exact gn_0a (by assumption) (by assumption) | exact gn_0b (by assumption) (by assumption) | exact gn_0c (by assumption) (by assumption) | exact gn_0n (by assumption) (by assumption) (by assumption) (by assumption) | exact gn_1 (by assumption) (by assumption) | exact gn_2 (by assumption) (by assumption))⟩, by rw [ht]; exact hP9, va_K.moved hW.alike hK, hD9⟩, hS.F ht⟩) hS.2.2 d_Cutter_goesOn_53
    · refine lv_iload_n hx hb d_Cutter_goesOn_35 rfl (lv_at hl 1 rfl) ?_
      have hPc := hP.sub (ws' := []) [] rfl
      have hDc := hD.sub (ws' := []) [] (by decide) rfl
      have hKc := hK.sub (tys' := []) [] rfl
      have hFc := va_free (wc := []) hD hS hA [] rfl
      refine va_calli (va_runS (As := [.int y1]) (rest := []) ⟨hx, hb, hml, hown, hz⟩ (s_Cutter_isDigit6 l dC dI H.size y1) (cwS 1 hz (zS zm_152 zm_153 zm_92 zm_154) rfl rfl rfl (by decide +kernel) ⟨Nat.le_of_ble_eq_true rfl, Nat.le_of_ble_eq_true rfl⟩) ⟨fun a U g mk q => by obtain ⟨q0, q1, qP, qK, qD⟩ := q; exact ⟨q0, q1, qP, va_K.moved (u := U) (U := U.calling g mk a) (Vm.Alike.refl U.vm) qK, qD⟩, fun U hU hW => ⟨rfl, by rw [hU], by rw [hU]; exact hPc, va_K.moved hW.alike hKc, hDc.weaken (fun _ _ _ _ => trivial)⟩⟩ rfl rfl hl.1 rfl (lv_room (Nat.le_of_ble_eq_true rfl)) d_Cutter_goesOn_36 ⟨Nat.zero_le _, Nat.zero_le _⟩) hS (fun q _ h => hFc q h) hFc (fun r u t H1 locs ht hvm hw_r hB hz1 hk1 hS => ?_)
      obtain ⟨hP1, hK1, hD1⟩ := hB
      obtain ⟨hb_r, he_r⟩ := hw_r
      subst r
      rw [ht] at hP1
      obtain ⟨hP, hD⟩ := va_join (wr := []) (w1 := []) hP hD [] [] rfl rfl (by decide) (by decide) hk1 hFc hP1 hD1
      generalize H1 = H at hP hS ⊢
      have hP : va_P (dC, dI) vcl [] H := hP
      have hD : va_D A [] := hD
      refine lv_if_ne (tgt := 48) hx hb d_Cutter_goesOn_39 (by decide) (fun h3 => ?_) (fun h3 => ?_)
      · refine lv_iconst (v := 1) hx hb d_Cutter_goesOn_48 (by decide) ?_
        refine lv_goto (tgt := 53) hx hb d_Cutter_goesOn_49 (by decide) ?_
        have hP9 := hP.sub (ws' := []) [] rfl
        have hD9 := hD.sub (ws' := []) [] (by decide) rfl
        exact W.zret (v := 1) hx hb hr (by decide +kernel) (fun t ht hW => ⟨⟨1, (), rfl, ⟨(by first | assumption | exact Or.inl rfl | exact Or.inr rfl), (by first | exact gn_d (by assumption) (by assumption) (by assumption) | exact gn_0a (by assumption) (by assumption) | exact gn_0b (by assumption) (by assumption) | exact gn_0c (by assumption) (by assumption) | exact gn_0n (by assumption) (by assumption) (by assumption) (by assumption) | exact gn_1 (by assumption) (by assumption) | exact gn_2 (by assumption) (by assumption))⟩, by rw [ht]; exact hP9, va_K.moved hW.alike hK, hD9⟩, hS.F ht⟩) hS.2.2 d_Cutter_goesOn_53
      · refine lv_iload_n hx hb d_Cutter_goesOn_42 rfl (lv_at hl 1 rfl) ?_
        refine lv_bipush (v := 39) hx hb d_Cutter_goesOn_43 (by decide) ?_
        refine lv_icmp_ne (tgt := 52) hx hb d_Cutter_goesOn_45 (by decide) (fun h4 => ?_) (fun h4 => ?_)
        · refine lv_iconst (v := 0) hx hb d_Cutter_goesOn_52 (by decide) ?_
          have hP9 := hP.sub (ws' := []) [] rfl
          have hD9 := hD.sub (ws' := []) [] (by decide) rfl
          exact W.zret (v := 0) hx hb hr (by decide +kernel) (fun t ht hW => ⟨⟨0, (), rfl, ⟨(by first | assumption | exact Or.inl rfl | exact Or.inr rfl), (by first | exact gn_d (by assumption) (by assumption) (by assumption) | exact gn_0a (by assumption) (by assumption) | exact gn_0b (by assumption) (by assumption) | exact gn_0c (by assumption) (by assumption) | exact gn_0n (by assumption) (by assumption) (by assumption) (by assumption) | exact gn_1 (by assumption) (by assumption) | exact gn_2 (by assumption) (by assumption))⟩, by rw [ht]; exact hP9, va_K.moved hW.alike hK, hD9⟩, hS.F ht⟩) hS.2.2 d_Cutter_goesOn_53
        · refine lv_iconst (v := 1) hx hb d_Cutter_goesOn_48 (by decide) ?_
          refine lv_goto (tgt := 53) hx hb d_Cutter_goesOn_49 (by decide) ?_
          have hP9 := hP.sub (ws' := []) [] rfl
          have hD9 := hD.sub (ws' := []) [] (by decide) rfl
          exact W.zret (v := 1) hx hb hr (by decide +kernel) (fun t ht hW => ⟨⟨1, (), rfl, ⟨(by first | assumption | exact Or.inl rfl | exact Or.inr rfl), (by first | exact gn_d (by assumption) (by assumption) (by assumption) | exact gn_0a (by assumption) (by assumption) | exact gn_0b (by assumption) (by assumption) | exact gn_0c (by assumption) (by assumption) | exact gn_0n (by assumption) (by assumption) (by assumption) (by assumption) | exact gn_1 (by assumption) (by assumption) | exact gn_2 (by assumption) (by assumption))⟩, by rw [ht]; exact hP9, va_K.moved hW.alike hK, hD9⟩, hS.F ht⟩) hS.2.2 d_Cutter_goesOn_53
  rcases Classical.em (y0 = (1 : Int32)) with h1 | h1_1
  · refine lv_tableIn (tgt := 54) (off := 53) hx hb d_Cutter_goesOn_1 (by rw [h1]; decide +kernel) (by rw [h1]; decide +kernel) (by rw [h1]; decide +kernel) (by decide) ?_
    refine lv_iload_n hx hb d_Cutter_goesOn_54 rfl (lv_at hl 1 rfl) ?_
    have hPc := hP.sub (ws' := []) [] rfl
    have hDc := hD.sub (ws' := []) [] (by decide) rfl
    have hKc := hK.sub (tys' := []) [] rfl
    have hFc := va_free (wc := []) hD hS hA [] rfl
    refine va_calli (va_runS (As := [.int y1]) (rest := []) ⟨hx, hb, hml, hown, hz⟩ (s_Cutter_isDigit6 l dC dI s.heap.size y1) (cwS 1 hz (zS zm_152 zm_153 zm_92 zm_154) rfl rfl rfl (by decide +kernel) ⟨Nat.le_of_ble_eq_true rfl, Nat.le_of_ble_eq_true rfl⟩) ⟨fun a U g mk q => by obtain ⟨q0, q1, qP, qK, qD⟩ := q; exact ⟨q0, q1, qP, va_K.moved (u := U) (U := U.calling g mk a) (Vm.Alike.refl U.vm) qK, qD⟩, fun U hU hW => ⟨rfl, by rw [hU], by rw [hU]; exact hPc, va_K.moved hW.alike hKc, hDc.weaken (fun _ _ _ _ => trivial)⟩⟩ rfl rfl hl.1 rfl (lv_room (Nat.le_of_ble_eq_true rfl)) d_Cutter_goesOn_55 ⟨Nat.zero_le _, Nat.zero_le _⟩) hS (fun q _ h => hFc q h) hFc (fun r u t H1 locs ht hvm hw_r hB hz1 hk1 hS => ?_)
    obtain ⟨hP1, hK1, hD1⟩ := hB
    obtain ⟨hb_r, he_r⟩ := hw_r
    subst r
    rw [ht] at hP1
    obtain ⟨hP, hD⟩ := va_join (wr := []) (w1 := []) hP hD [] [] rfl rfl (by decide) (by decide) hk1 hFc hP1 hD1
    generalize H1 = H at hP hS ⊢
    have hP : va_P (dC, dI) vcl [] H := hP
    have hD : va_D A [] := hD
    have hP9 := hP.sub (ws' := []) [] rfl
    have hD9 := hD.sub (ws' := []) [] (by decide) rfl
    exact W.zret (v := (wi y1 48 57)) hx hb hr (xr_nb (by first | assumption | exact Or.inl rfl | exact Or.inr rfl)) (fun t ht hW => ⟨⟨(wi y1 48 57), (), rfl, ⟨(by first | assumption | exact Or.inl rfl | exact Or.inr rfl), (by first | exact gn_d (by assumption) (by assumption) (by assumption) | exact gn_0a (by assumption) (by assumption) | exact gn_0b (by assumption) (by assumption) | exact gn_0c (by assumption) (by assumption) | exact gn_0n (by assumption) (by assumption) (by assumption) (by assumption) | exact gn_1 (by assumption) (by assumption) | exact gn_2 (by assumption) (by assumption))⟩, by rw [ht]; exact hP9, va_K.moved hW.alike hK, hD9⟩, hS.F ht⟩) hS.2.2 d_Cutter_goesOn_58
  rcases Classical.em (y0 = (2 : Int32)) with h1 | h1_2
  · refine lv_tableIn (tgt := 59) (off := 58) hx hb d_Cutter_goesOn_1 (by rw [h1]; decide +kernel) (by rw [h1]; decide +kernel) (by rw [h1]; decide +kernel) (by decide) ?_
    refine lv_iload_n hx hb d_Cutter_goesOn_59 rfl (lv_at hl 1 rfl) ?_
    have hPc := hP.sub (ws' := []) [] rfl
    have hDc := hD.sub (ws' := []) [] (by decide) rfl
    have hKc := hK.sub (tys' := []) [] rfl
    have hFc := va_free (wc := []) hD hS hA [] rfl
    refine va_calli (va_runS (As := [.int y1]) (rest := []) ⟨hx, hb, hml, hown, hz⟩ (s_Cutter_isOperatorPart6 l dC dI s.heap.size y1) (cwS 1 hz (zS zm_155 zm_156 zm_92 zm_157) rfl rfl rfl (by decide +kernel) ⟨Nat.le_of_ble_eq_true rfl, Nat.le_of_ble_eq_true rfl⟩) ⟨fun a U g mk q => by obtain ⟨q0, q1, qP, qK, qD, qx0⟩ := q; exact ⟨q0, q1, qP, va_K.moved (u := U) (U := U.calling g mk a) (Vm.Alike.refl U.vm) qK, qD, cx_E.same (u := U) (U := U.calling g mk a) rfl qx0⟩, fun U hU hW => ⟨rfl, by rw [hU], by rw [hU]; exact hPc, va_K.moved hW.alike hKc, hDc.weaken (fun _ _ _ _ => trivial), by rw [hU]; exact cx_E.to hW hS hFc hE⟩⟩ rfl rfl hl.1 rfl (lv_room (Nat.le_of_ble_eq_true rfl)) d_Cutter_goesOn_60 ⟨Nat.zero_le _, Nat.zero_le _⟩) hS (fun q _ h => hFc q h) hFc (fun r u t H1 locs ht hvm hw_r hB hz1 hk1 hS => ?_)
    obtain ⟨hP1, hK1, hD1⟩ := hB
    obtain ⟨hb_r, he_r⟩ := hw_r
    subst r
    rw [ht] at hP1
    obtain ⟨hP, hD⟩ := va_join (wr := []) (w1 := []) hP hD [] [] rfl rfl (by decide) (by decide) hk1 hFc hP1 hD1
    generalize H1 = H at hP hS ⊢
    have hP : va_P (dC, dI) vcl [] H := hP
    have hD : va_D A [] := hD
    have hP9 := hP.sub (ws' := []) [] rfl
    have hD9 := hD.sub (ws' := []) [] (by decide) rfl
    exact W.zret (v := (op_ y1)) hx hb hr (xr_nb (by first | assumption | exact Or.inl rfl | exact Or.inr rfl)) (fun t ht hW => ⟨⟨(op_ y1), (), rfl, ⟨(by first | assumption | exact Or.inl rfl | exact Or.inr rfl), (by first | exact gn_d (by assumption) (by assumption) (by assumption) | exact gn_0a (by assumption) (by assumption) | exact gn_0b (by assumption) (by assumption) | exact gn_0c (by assumption) (by assumption) | exact gn_0n (by assumption) (by assumption) (by assumption) (by assumption) | exact gn_1 (by assumption) (by assumption) | exact gn_2 (by assumption) (by assumption))⟩, by rw [ht]; exact hP9, va_K.moved hW.alike hK, hD9⟩, hS.F ht⟩) hS.2.2 d_Cutter_goesOn_63
  have h1_0 := lv_neT (a := 0) h1_0 (by decide)
  have h1_1 := lv_neT (a := 1) h1_1 (by decide)
  have h1_2 := lv_neT (a := 2) h1_2 (by decide)
  refine lv_tableOut (tgt := 64) hx hb d_Cutter_goesOn_1 (by omega) (by decide) ?_
  refine lv_iconst (v := 0) hx hb d_Cutter_goesOn_64 (by decide) ?_
  have hP9 := hP.sub (ws' := []) [] rfl
  have hD9 := hD.sub (ws' := []) [] (by decide) rfl
  exact W.zret (v := 0) hx hb hr (by decide +kernel) (fun t ht hW => ⟨⟨0, (), rfl, ⟨(by first | assumption | exact Or.inl rfl | exact Or.inr rfl), (by first | exact gn_d (by assumption) (by assumption) (by assumption) | exact gn_0a (by assumption) (by assumption) | exact gn_0b (by assumption) (by assumption) | exact gn_0c (by assumption) (by assumption) | exact gn_0n (by assumption) (by assumption) (by assumption) (by assumption) | exact gn_1 (by assumption) (by assumption) | exact gn_2 (by assumption) (by assumption))⟩, by rw [ht]; exact hP9, va_K.moved hW.alike hK, hD9⟩, hS.F ht⟩) hS.2.2 d_Cutter_goesOn_65
