set_option maxHeartbeats 4000000 in
set_option maxRecDepth 100000 in
theorem s_Tokens_has6 (l : Launch) (dC : Nat → ClassId) (dI : Nat → Nat → Nat) (sz : Nat) (a_t : Nat) (a_kinds : Nat) (a_values : Nat) (n_size : Nat) (y0 : Int32) : Met l y_Tokens_has w_Tokens_has ({ frames := 0, cells := 0, slots := 0, locals := 0 }) (va_Pc [.ref a_t, .int y0] (fun U => U.heap.size = sz ∧ va_P (dC, dI) vcl [(a_t, .inr (11, [.ref a_kinds, .ref a_values, .int (nI n_size)]))] U.heap ∧ va_K (dC, dI) vcl [] U ∧ va_D (fun _ => True) [(a_t, .inr (11, [.ref a_kinds, .ref a_values, .int (nI n_size)]))])) (va_Qi (fun (r : Int32) (_ : Unit) => (r = 0 ∨ r = 1) ∧ (r = hsI n_size y0)) (fun _ t => va_P (dC, dI) vcl [(a_t, .inr (11, [.ref a_kinds, .ref a_values, .int (nI n_size)]))] t.heap ∧ va_K (dC, dI) vcl [] t ∧ va_D (va_A [(a_t, .inr (11, [.ref a_kinds, .ref a_values, .int (nI n_size)]))] sz) [(a_t, .inr (11, [.ref a_kinds, .ref a_values, .int (nI n_size)]))]) (va_A [(a_t, .inr (11, [.ref a_kinds, .ref a_values, .int (nI n_size)]))] sz)) 0 0 (va_A [(a_t, .inr (11, [.ref a_kinds, .ref a_values, .int (nI n_size)]))] sz) := by
  refine Met.ofW (cc := b_Tokens_has) (maxL := 2) (ret := (some .boolean)) (by decide) rfl ?_
  intro p e s m args below meth c s₁ B hml hv
  obtain ⟨rfl, hsz, hP, hK, hD0⟩ := hv
  have hx := B.exec
  have hb := B.bytes
  have hr := B.returns
  have hts := atoms_spec (ws := w_Tokens_has) B.pre
  have hz : ∀ w ∈ wz, w.before _ s = true := fun w h => hts w (List.mem_cons_of_mem _ h)
  have hown : s.vm.findClass R_Tokens = some m.cls := findClass_of_methodNamed B.named
  have hlocks := B.notSynchronized
  subst hsz
  have hD := hD0.self (sz := s.heap.size)
  generalize hAe : va_A [(a_t, .inr (11, [.ref a_kinds, .ref a_values, .int (nI n_size)]))] s.heap.size = A at hD ⊢
  have hA : ∀ q : Nat, s.heap.size ≤ q → A q := fun q h => by rw [← hAe]; exact Or.inr h
  have hS : va_S A s.heap s.heap [] := va_S.rf
  have hP : va_P (dC, dI) vcl [(a_t, .inr (11, [.ref a_kinds, .ref a_values, .int (nI n_size)]))] s.heap := hP
  have hl := lv_entry ([.ref a_t, .int y0]) (n := 2) (Nat.le_of_ble_eq_true rfl)
  rw [lg_entry_eq]
  generalize (lg_sl ([.ref a_t, .int y0]) ++ List.replicate (2 - (lg_sl ([.ref a_t, .int y0])).length) Slot.unset).toArray = ls at hl ⊢
  have hl : lv_has ls 2 [(0, .ref a_t), (1, .int y0)] := hl
  refine lv_iload_n hx hb d_Tokens_has_0 rfl (lv_at hl 1 rfl) ?_
  refine lv_if_lt (tgt := 16) hx hb d_Tokens_has_1 (by decide) (fun h1 => ?_) (fun h1 => ?_)
  · refine lv_iconst (v := 0) hx hb d_Tokens_has_16 (by decide) ?_
    have hP9 := hP.sub (ws' := [(a_t, .inr (11, [.ref a_kinds, .ref a_values, .int (nI n_size)]))]) [0] rfl
    have hD9 := hD.sub (ws' := [(a_t, .inr (11, [.ref a_kinds, .ref a_values, .int (nI n_size)]))]) [0] (by decide) rfl
    exact W.zret (v := 0) hx hb hr (by decide +kernel) (fun t ht hW => ⟨⟨0, (), rfl, ⟨(by first | assumption | exact Or.inl rfl | exact Or.inr rfl), (by unfold hsI; simp [*])⟩, by rw [ht]; exact hP9, va_K.moved hW.alike hK, hD9⟩, hS.F ht⟩) hS.2.2 d_Tokens_has_17
  · refine lv_iload_n hx hb d_Tokens_has_4 rfl (lv_at hl 1 rfl) ?_
    refine lv_aload_n hx hb d_Tokens_has_5 rfl (lv_at hl 0 rfl) ?_
    refine va_get (D := (dC, dI)) (ci := 11) (v := .int (nI n_size)) (C := R_Tokens) (T := F_Tokens) (N := 3) hx hb hz zu_Tokens hown hK hP 0 rfl rfl 2 (by decide) (hz (.fieldLink R_Tokens 19 "LayoutFront$Tokens" "size" "I") zm_31) (fun _ h9 => h9) rfl d_Tokens_has_6 ?_
    refine lv_icmp_ge (tgt := 16) hx hb d_Tokens_has_9 (by decide) (fun h2 => ?_) (fun h2 => ?_)
    · refine lv_iconst (v := 0) hx hb d_Tokens_has_16 (by decide) ?_
      have hP9 := hP.sub (ws' := [(a_t, .inr (11, [.ref a_kinds, .ref a_values, .int (nI n_size)]))]) [0] rfl
      have hD9 := hD.sub (ws' := [(a_t, .inr (11, [.ref a_kinds, .ref a_values, .int (nI n_size)]))]) [0] (by decide) rfl
      exact W.zret (v := 0) hx hb hr (by decide +kernel) (fun t ht hW => ⟨⟨0, (), rfl, ⟨(by first | assumption | exact Or.inl rfl | exact Or.inr rfl), (by unfold hsI; simp [*])⟩, by rw [ht]; exact hP9, va_K.moved hW.alike hK, hD9⟩, hS.F ht⟩) hS.2.2 d_Tokens_has_17
    · refine lv_iconst (v := 1) hx hb d_Tokens_has_12 (by decide) ?_
      refine lv_goto (tgt := 17) hx hb d_Tokens_has_13 (by decide) ?_
      have hP9 := hP.sub (ws' := [(a_t, .inr (11, [.ref a_kinds, .ref a_values, .int (nI n_size)]))]) [0] rfl
      have hD9 := hD.sub (ws' := [(a_t, .inr (11, [.ref a_kinds, .ref a_values, .int (nI n_size)]))]) [0] (by decide) rfl
      exact W.zret (v := 1) hx hb hr (by decide +kernel) (fun t ht hW => ⟨⟨1, (), rfl, ⟨(by first | assumption | exact Or.inl rfl | exact Or.inr rfl), (by unfold hsI; simp [*])⟩, by rw [ht]; exact hP9, va_K.moved hW.alike hK, hD9⟩, hS.F ht⟩) hS.2.2 d_Tokens_has_17
set_option maxHeartbeats 4000000 in
set_option maxRecDepth 100000 in
theorem s_Tokens_kindAt6 (l : Launch) (dC : Nat → ClassId) (dI : Nat → Nat → Nat) (sz : Nat) (cap : Nat) (a_t : Nat) (a_kinds : Nat) (f_kinds : Nat → Int32) (a_values : Nat) (n_size : Nat) (y0 : Nat) (ka_kinds : ClassId) (bcap : cap ≤ 600) (b_size : n_size ≤ cap) (by0 : y0 ≤ 600) : Met l y_Tokens_kindAt w_Tokens_kindAt ({ frames := 1, cells := 0, slots := 0, locals := 21 }) (va_Pc [.ref a_t, .int (nI y0)] (fun U => U.heap.size = sz ∧ va_P (dC, dI) vcl [(a_t, .inr (11, [.ref a_kinds, .ref a_values, .int (nI n_size)])), (a_kinds, .inl (ka_kinds, cap, .inl f_kinds))] U.heap ∧ va_K (dC, dI) vcl [(ka_kinds, .int)] U ∧ va_D (fun _ => True) [(a_t, .inr (11, [.ref a_kinds, .ref a_values, .int (nI n_size)])), (a_kinds, .inl (ka_kinds, cap, .inl f_kinds))])) (va_Qi (fun (r : Int32) (_ : Unit) => r = if y0 < n_size then f_kinds y0 else (-1)) (fun _ t => va_P (dC, dI) vcl [(a_t, .inr (11, [.ref a_kinds, .ref a_values, .int (nI n_size)])), (a_kinds, .inl (ka_kinds, cap, .inl f_kinds))] t.heap ∧ va_K (dC, dI) vcl [(ka_kinds, .int)] t ∧ va_D (va_A [(a_t, .inr (11, [.ref a_kinds, .ref a_values, .int (nI n_size)])), (a_kinds, .inl (ka_kinds, cap, .inl f_kinds))] sz) [(a_t, .inr (11, [.ref a_kinds, .ref a_values, .int (nI n_size)])), (a_kinds, .inl (ka_kinds, cap, .inl f_kinds))]) (va_A [(a_t, .inr (11, [.ref a_kinds, .ref a_values, .int (nI n_size)])), (a_kinds, .inl (ka_kinds, cap, .inl f_kinds))] sz)) 0 0 (va_A [(a_t, .inr (11, [.ref a_kinds, .ref a_values, .int (nI n_size)])), (a_kinds, .inl (ka_kinds, cap, .inl f_kinds))] sz) := by
  refine Met.ofW (cc := b_Tokens_kindAt) (maxL := 2) (ret := (some .int)) (by decide) rfl ?_
  intro p e s m args below meth c s₁ B hml hv
  obtain ⟨rfl, hsz, hP, hK, hD0⟩ := hv
  have hx := B.exec
  have hb := B.bytes
  have hr := B.returns
  have hts := atoms_spec (ws := w_Tokens_kindAt) B.pre
  have hz : ∀ w ∈ wz, w.before _ s = true := fun w h => hts w (List.mem_cons_of_mem _ h)
  have hown : s.vm.findClass R_Tokens = some m.cls := findClass_of_methodNamed B.named
  have hlocks := B.notSynchronized
  subst hsz
  have hD := hD0.self (sz := s.heap.size)
  generalize hAe : va_A [(a_t, .inr (11, [.ref a_kinds, .ref a_values, .int (nI n_size)])), (a_kinds, .inl (ka_kinds, cap, .inl f_kinds))] s.heap.size = A at hD ⊢
  have hA : ∀ q : Nat, s.heap.size ≤ q → A q := fun q h => by rw [← hAe]; exact Or.inr h
  have hS : va_S A s.heap s.heap [] := va_S.rf
  have hP : va_P (dC, dI) vcl [(a_t, .inr (11, [.ref a_kinds, .ref a_values, .int (nI n_size)])), (a_kinds, .inl (ka_kinds, cap, .inl f_kinds))] s.heap := hP
  have hl := lv_entry ([.ref a_t, .int (nI y0)]) (n := 2) (Nat.le_of_ble_eq_true rfl)
  rw [lg_entry_eq]
  generalize (lg_sl ([.ref a_t, .int (nI y0)]) ++ List.replicate (2 - (lg_sl ([.ref a_t, .int (nI y0)])).length) Slot.unset).toArray = ls at hl ⊢
  have hl : lv_has ls 2 [(0, .ref a_t), (1, .int (nI y0))] := hl
  refine lv_aload_n hx hb d_Tokens_kindAt_0 rfl (lv_at hl 0 rfl) ?_
  refine lv_iload_n hx hb d_Tokens_kindAt_1 rfl (lv_at hl 1 rfl) ?_
  have hPc := hP.sub (ws' := [(a_t, .inr (11, [.ref a_kinds, .ref a_values, .int (nI n_size)]))]) [0] rfl
  have hDc := hD.sub (ws' := [(a_t, .inr (11, [.ref a_kinds, .ref a_values, .int (nI n_size)]))]) [0] (by decide) rfl
  have hKc := hK.sub (tys' := []) [] rfl
  have hFc := va_free (wc := [(a_t, .inr (11, [.ref a_kinds, .ref a_values, .int (nI n_size)]))]) hD hS hA [0] rfl
  refine va_calli (va_runV (As := [.int (nI y0)]) (rest := []) ⟨hx, hb, hml, hown, hz⟩ (s_Tokens_has6 l dC dI s.heap.size a_t a_kinds a_values n_size ((nI y0))) (cwV 1 hz (zV zm_37 zm_38 zm_39 zm_35 zm_40) rfl rfl rfl (by decide +kernel) ⟨Nat.le_of_ble_eq_true rfl, Nat.le_of_ble_eq_true rfl⟩) ⟨fun a U g mk q => by obtain ⟨q0, q1, qP, qK, qD⟩ := q; exact ⟨q0, q1, qP, va_K.moved (u := U) (U := U.calling g mk a) (Vm.Alike.refl U.vm) qK, qD⟩, va_recv (q := (R_Tokens, F_Tokens, 3)) (q0 := 0) (ci := 11) hK hP rfl rfl, fun U hU hW => ⟨rfl, by rw [hU], by rw [hU]; exact hPc, va_K.moved hW.alike hKc, hDc.weaken (fun _ _ _ _ => trivial)⟩⟩ rfl rfl hl.1 rfl (lv_room (Nat.le_of_ble_eq_true rfl)) d_Tokens_kindAt_2 ⟨Nat.zero_le _, Nat.zero_le _⟩) hS (fun q _ h => hFc q h) hFc (fun r u t H1 locs ht hvm hw_r hB hz1 hk1 hS => ?_)
  obtain ⟨hP1, hK1, hD1⟩ := hB
  obtain ⟨hb_r, he_r⟩ := hw_r
  subst r
  rw [ht] at hP1
  obtain ⟨hP, hD⟩ := va_join (wr := [(a_kinds, .inl (ka_kinds, cap, .inl f_kinds))]) (w1 := [(a_t, .inr (11, [.ref a_kinds, .ref a_values, .int (nI n_size)]))]) hP hD [0] [1] rfl rfl (by decide) (by decide) hk1 hFc hP1 hD1
  generalize H1 = H at hP hS ⊢
  have hP : va_P (dC, dI) vcl [(a_kinds, .inl (ka_kinds, cap, .inl f_kinds)), (a_t, .inr (11, [.ref a_kinds, .ref a_values, .int (nI n_size)]))] H := hP
  have hD : va_D A [(a_kinds, .inl (ka_kinds, cap, .inl f_kinds)), (a_t, .inr (11, [.ref a_kinds, .ref a_values, .int (nI n_size)]))] := hD
  refine lv_if_eq (tgt := 17) hx hb d_Tokens_kindAt_5 (by decide) (fun h1 => ?_) (fun h1 => ?_)
  · have e5 := hs_no h1 (by omega) (by omega)
    refine lv_iconst (v := (-1)) hx hb d_Tokens_kindAt_17 (by decide) ?_
    have hP9 := hP.sub (ws' := [(a_t, .inr (11, [.ref a_kinds, .ref a_values, .int (nI n_size)])), (a_kinds, .inl (ka_kinds, cap, .inl f_kinds))]) [1, 0] rfl
    have hD9 := hD.sub (ws' := [(a_t, .inr (11, [.ref a_kinds, .ref a_values, .int (nI n_size)])), (a_kinds, .inl (ka_kinds, cap, .inl f_kinds))]) [1, 0] (by decide) rfl
    exact W.iret (v := (-1)) hx hb hr (fun t ht hW => ⟨⟨(-1), (), rfl, (by first | exact (if_neg e5).symm | exact (if_pos e5).symm), by rw [ht]; exact hP9, va_K.moved hW.alike hK, hD9⟩, hS.F ht⟩) hS.2.2 d_Tokens_kindAt_18
  · have e5 := hs_yes h1 (by omega) (by omega)
    refine lv_aload_n hx hb d_Tokens_kindAt_8 rfl (lv_at hl 0 rfl) ?_
    refine va_get (D := (dC, dI)) (ci := 11) (v := .ref a_kinds) (C := R_Tokens) (T := F_Tokens) (N := 3) hx hb hz zu_Tokens hown hK hP 1 rfl rfl 0 (by decide) (hz (.fieldLink R_Tokens 9 "LayoutFront$Tokens" "kinds" "[I") zm_28) (fun _ h9 => h9) rfl d_Tokens_kindAt_9 ?_
    refine lv_iload_n hx hb d_Tokens_kindAt_12 rfl (lv_at hl 1 rfl) ?_
    refine xr_iald (v := (f_kinds y0)) hx hb hK hP 0 0 rfl rfl (vp_in_nI (by omega) (by omega)) (congrArg f_kinds (nI_clamp (by omega))) d_Tokens_kindAt_13 ?_
    refine lv_goto (tgt := 18) hx hb d_Tokens_kindAt_14 (by decide) ?_
    have hP9 := hP.sub (ws' := [(a_t, .inr (11, [.ref a_kinds, .ref a_values, .int (nI n_size)])), (a_kinds, .inl (ka_kinds, cap, .inl f_kinds))]) [1, 0] rfl
    have hD9 := hD.sub (ws' := [(a_t, .inr (11, [.ref a_kinds, .ref a_values, .int (nI n_size)])), (a_kinds, .inl (ka_kinds, cap, .inl f_kinds))]) [1, 0] (by decide) rfl
    exact W.iret (v := (f_kinds y0)) hx hb hr (fun t ht hW => ⟨⟨(f_kinds y0), (), rfl, (by first | exact (if_neg e5).symm | exact (if_pos e5).symm), by rw [ht]; exact hP9, va_K.moved hW.alike hK, hD9⟩, hS.F ht⟩) hS.2.2 d_Tokens_kindAt_18
set_option maxHeartbeats 4000000 in
set_option maxRecDepth 100000 in
theorem s_Tokens_valueAt6 (l : Launch) (dC : Nat → ClassId) (dI : Nat → Nat → Nat) (sz : Nat) (cap : Nat) (a_t : Nat) (a_kinds : Nat) (a_values : Nat) (f_values : Nat → Int64) (n_size : Nat) (y0 : Nat) (ka_values : ClassId) (bcap : cap ≤ 600) (b_size : n_size ≤ cap) (by0 : y0 ≤ 600) : Met l y_Tokens_valueAt w_Tokens_valueAt ({ frames := 1, cells := 0, slots := 0, locals := 21 }) (va_Pc [.ref a_t, .int (nI y0)] (fun U => U.heap.size = sz ∧ va_P (dC, dI) vcl [(a_t, .inr (11, [.ref a_kinds, .ref a_values, .int (nI n_size)])), (a_values, .inl (ka_values, cap, .inr (.inl f_values)))] U.heap ∧ va_K (dC, dI) vcl [(ka_values, .long)] U ∧ va_D (fun _ => True) [(a_t, .inr (11, [.ref a_kinds, .ref a_values, .int (nI n_size)])), (a_values, .inl (ka_values, cap, .inr (.inl f_values)))])) (va_Ql (fun (r : Int64) (_ : Unit) => r = if y0 < n_size then f_values y0 else 0) (fun _ t => va_P (dC, dI) vcl [(a_t, .inr (11, [.ref a_kinds, .ref a_values, .int (nI n_size)])), (a_values, .inl (ka_values, cap, .inr (.inl f_values)))] t.heap ∧ va_K (dC, dI) vcl [(ka_values, .long)] t ∧ va_D (va_A [(a_t, .inr (11, [.ref a_kinds, .ref a_values, .int (nI n_size)])), (a_values, .inl (ka_values, cap, .inr (.inl f_values)))] sz) [(a_t, .inr (11, [.ref a_kinds, .ref a_values, .int (nI n_size)])), (a_values, .inl (ka_values, cap, .inr (.inl f_values)))]) (va_A [(a_t, .inr (11, [.ref a_kinds, .ref a_values, .int (nI n_size)])), (a_values, .inl (ka_values, cap, .inr (.inl f_values)))] sz)) 0 0 (va_A [(a_t, .inr (11, [.ref a_kinds, .ref a_values, .int (nI n_size)])), (a_values, .inl (ka_values, cap, .inr (.inl f_values)))] sz) := by
  refine Met.ofW (cc := b_Tokens_valueAt) (maxL := 2) (ret := (some .long)) (by decide) rfl ?_
  intro p e s m args below meth c s₁ B hml hv
  obtain ⟨rfl, hsz, hP, hK, hD0⟩ := hv
  have hx := B.exec
  have hb := B.bytes
  have hr := B.returns
  have hts := atoms_spec (ws := w_Tokens_valueAt) B.pre
  have hz : ∀ w ∈ wz, w.before _ s = true := fun w h => hts w (List.mem_cons_of_mem _ h)
  have hown : s.vm.findClass R_Tokens = some m.cls := findClass_of_methodNamed B.named
  have hlocks := B.notSynchronized
  subst hsz
  have hD := hD0.self (sz := s.heap.size)
  generalize hAe : va_A [(a_t, .inr (11, [.ref a_kinds, .ref a_values, .int (nI n_size)])), (a_values, .inl (ka_values, cap, .inr (.inl f_values)))] s.heap.size = A at hD ⊢
  have hA : ∀ q : Nat, s.heap.size ≤ q → A q := fun q h => by rw [← hAe]; exact Or.inr h
  have hS : va_S A s.heap s.heap [] := va_S.rf
  have hP : va_P (dC, dI) vcl [(a_t, .inr (11, [.ref a_kinds, .ref a_values, .int (nI n_size)])), (a_values, .inl (ka_values, cap, .inr (.inl f_values)))] s.heap := hP
  have hl := lv_entry ([.ref a_t, .int (nI y0)]) (n := 2) (Nat.le_of_ble_eq_true rfl)
  rw [lg_entry_eq]
  generalize (lg_sl ([.ref a_t, .int (nI y0)]) ++ List.replicate (2 - (lg_sl ([.ref a_t, .int (nI y0)])).length) Slot.unset).toArray = ls at hl ⊢
  have hl : lv_has ls 2 [(0, .ref a_t), (1, .int (nI y0))] := hl
  refine lv_aload_n hx hb d_Tokens_valueAt_0 rfl (lv_at hl 0 rfl) ?_
  refine lv_iload_n hx hb d_Tokens_valueAt_1 rfl (lv_at hl 1 rfl) ?_
  have hPc := hP.sub (ws' := [(a_t, .inr (11, [.ref a_kinds, .ref a_values, .int (nI n_size)]))]) [0] rfl
  have hDc := hD.sub (ws' := [(a_t, .inr (11, [.ref a_kinds, .ref a_values, .int (nI n_size)]))]) [0] (by decide) rfl
  have hKc := hK.sub (tys' := []) [] rfl
  have hFc := va_free (wc := [(a_t, .inr (11, [.ref a_kinds, .ref a_values, .int (nI n_size)]))]) hD hS hA [0] rfl
  refine va_calli (va_runV (As := [.int (nI y0)]) (rest := []) ⟨hx, hb, hml, hown, hz⟩ (s_Tokens_has6 l dC dI s.heap.size a_t a_kinds a_values n_size ((nI y0))) (cwV 1 hz (zV zm_37 zm_38 zm_39 zm_35 zm_40) rfl rfl rfl (by decide +kernel) ⟨Nat.le_of_ble_eq_true rfl, Nat.le_of_ble_eq_true rfl⟩) ⟨fun a U g mk q => by obtain ⟨q0, q1, qP, qK, qD⟩ := q; exact ⟨q0, q1, qP, va_K.moved (u := U) (U := U.calling g mk a) (Vm.Alike.refl U.vm) qK, qD⟩, va_recv (q := (R_Tokens, F_Tokens, 3)) (q0 := 0) (ci := 11) hK hP rfl rfl, fun U hU hW => ⟨rfl, by rw [hU], by rw [hU]; exact hPc, va_K.moved hW.alike hKc, hDc.weaken (fun _ _ _ _ => trivial)⟩⟩ rfl rfl hl.1 rfl (lv_room (Nat.le_of_ble_eq_true rfl)) d_Tokens_valueAt_2 ⟨Nat.zero_le _, Nat.zero_le _⟩) hS (fun q _ h => hFc q h) hFc (fun r u t H1 locs ht hvm hw_r hB hz1 hk1 hS => ?_)
  obtain ⟨hP1, hK1, hD1⟩ := hB
  obtain ⟨hb_r, he_r⟩ := hw_r
  subst r
  rw [ht] at hP1
  obtain ⟨hP, hD⟩ := va_join (wr := [(a_values, .inl (ka_values, cap, .inr (.inl f_values)))]) (w1 := [(a_t, .inr (11, [.ref a_kinds, .ref a_values, .int (nI n_size)]))]) hP hD [0] [1] rfl rfl (by decide) (by decide) hk1 hFc hP1 hD1
  generalize H1 = H at hP hS ⊢
  have hP : va_P (dC, dI) vcl [(a_values, .inl (ka_values, cap, .inr (.inl f_values))), (a_t, .inr (11, [.ref a_kinds, .ref a_values, .int (nI n_size)]))] H := hP
  have hD : va_D A [(a_values, .inl (ka_values, cap, .inr (.inl f_values))), (a_t, .inr (11, [.ref a_kinds, .ref a_values, .int (nI n_size)]))] := hD
  refine lv_if_eq (tgt := 17) hx hb d_Tokens_valueAt_5 (by decide) (fun h1 => ?_) (fun h1 => ?_)
  · have e5 := hs_no h1 (by omega) (by omega)
    refine lv_lconst (v := 0) hx hb d_Tokens_valueAt_17 (by decide) ?_
    have hP9 := hP.sub (ws' := [(a_t, .inr (11, [.ref a_kinds, .ref a_values, .int (nI n_size)])), (a_values, .inl (ka_values, cap, .inr (.inl f_values)))]) [1, 0] rfl
    have hD9 := hD.sub (ws' := [(a_t, .inr (11, [.ref a_kinds, .ref a_values, .int (nI n_size)])), (a_values, .inl (ka_values, cap, .inr (.inl f_values)))]) [1, 0] (by decide) rfl
    exact W.lret (v := 0) hx hb hr (fun t ht hW => ⟨⟨0, (), rfl, (by first | exact (if_neg e5).symm | exact (if_pos e5).symm), by rw [ht]; exact hP9, va_K.moved hW.alike hK, hD9⟩, hS.F ht⟩) hS.2.2 d_Tokens_valueAt_18
  · have e5 := hs_yes h1 (by omega) (by omega)
    refine lv_aload_n hx hb d_Tokens_valueAt_8 rfl (lv_at hl 0 rfl) ?_
    refine va_get (D := (dC, dI)) (ci := 11) (v := .ref a_values) (C := R_Tokens) (T := F_Tokens) (N := 3) hx hb hz zu_Tokens hown hK hP 1 rfl rfl 1 (by decide) (hz (.fieldLink R_Tokens 15 "LayoutFront$Tokens" "values" "[J") zm_29) (fun _ h9 => h9) rfl d_Tokens_valueAt_9 ?_
    refine lv_iload_n hx hb d_Tokens_valueAt_12 rfl (lv_at hl 1 rfl) ?_
    refine xr_lald (v := (f_values y0)) hx hb hK hP 0 0 rfl rfl (vp_in_nI (by omega) (by omega)) (congrArg f_values (nI_clamp (by omega))) d_Tokens_valueAt_13 ?_
    refine lv_goto (tgt := 18) hx hb d_Tokens_valueAt_14 (by decide) ?_
    have hP9 := hP.sub (ws' := [(a_t, .inr (11, [.ref a_kinds, .ref a_values, .int (nI n_size)])), (a_values, .inl (ka_values, cap, .inr (.inl f_values)))]) [1, 0] rfl
    have hD9 := hD.sub (ws' := [(a_t, .inr (11, [.ref a_kinds, .ref a_values, .int (nI n_size)])), (a_values, .inl (ka_values, cap, .inr (.inl f_values)))]) [1, 0] (by decide) rfl
    exact W.lret (v := (f_values y0)) hx hb hr (fun t ht hW => ⟨⟨(f_values y0), (), rfl, (by first | exact (if_neg e5).symm | exact (if_pos e5).symm), by rw [ht]; exact hP9, va_K.moved hW.alike hK, hD9⟩, hS.F ht⟩) hS.2.2 d_Tokens_valueAt_18
set_option maxHeartbeats 4000000 in
set_option maxRecDepth 100000 in
theorem s_Lexemes_placeAt6 (l : Launch) (dC : Nat → ClassId) (dI : Nat → Nat → Nat) (sz : Nat) (a_t : Nat) (a_tokens : Nat) (a_tokens_kinds : Nat) (a_tokens_values : Nat) (n_tokens_size : Nat) (a_places : Nat) (f_places : Nat → Int32) (a_columns : Nat) (a_lineFirsts : Nat) (y0 : Nat) (ka_places : ClassId) (b_tokens_size : n_tokens_size ≤ 90) (by0 : y0 ≤ 90) : Met l y_Lexemes_placeAt w_Lexemes_placeAt ({ frames := 1, cells := 0, slots := 0, locals := 21 }) (va_Pc [.ref a_t, .int (nI y0)] (fun U => U.heap.size = sz ∧ va_P (dC, dI) vcl [(a_t, .inr (5, [.ref a_tokens, .ref a_places, .ref a_columns, .ref a_lineFirsts])), (a_tokens, .inr (11, [.ref a_tokens_kinds, .ref a_tokens_values, .int (nI n_tokens_size)])), (a_places, .inl (ka_places, 90, .inl f_places))] U.heap ∧ va_K (dC, dI) vcl [(ka_places, .int)] U ∧ va_D (fun _ => True) [(a_t, .inr (5, [.ref a_tokens, .ref a_places, .ref a_columns, .ref a_lineFirsts])), (a_tokens, .inr (11, [.ref a_tokens_kinds, .ref a_tokens_values, .int (nI n_tokens_size)])), (a_places, .inl (ka_places, 90, .inl f_places))])) (va_Qi (fun (r : Int32) (_ : Unit) => r = if y0 < n_tokens_size then f_places y0 else (-1)) (fun _ t => va_P (dC, dI) vcl [(a_t, .inr (5, [.ref a_tokens, .ref a_places, .ref a_columns, .ref a_lineFirsts])), (a_tokens, .inr (11, [.ref a_tokens_kinds, .ref a_tokens_values, .int (nI n_tokens_size)])), (a_places, .inl (ka_places, 90, .inl f_places))] t.heap ∧ va_K (dC, dI) vcl [(ka_places, .int)] t ∧ va_D (va_A [(a_t, .inr (5, [.ref a_tokens, .ref a_places, .ref a_columns, .ref a_lineFirsts])), (a_tokens, .inr (11, [.ref a_tokens_kinds, .ref a_tokens_values, .int (nI n_tokens_size)])), (a_places, .inl (ka_places, 90, .inl f_places))] sz) [(a_t, .inr (5, [.ref a_tokens, .ref a_places, .ref a_columns, .ref a_lineFirsts])), (a_tokens, .inr (11, [.ref a_tokens_kinds, .ref a_tokens_values, .int (nI n_tokens_size)])), (a_places, .inl (ka_places, 90, .inl f_places))]) (va_A [(a_t, .inr (5, [.ref a_tokens, .ref a_places, .ref a_columns, .ref a_lineFirsts])), (a_tokens, .inr (11, [.ref a_tokens_kinds, .ref a_tokens_values, .int (nI n_tokens_size)])), (a_places, .inl (ka_places, 90, .inl f_places))] sz)) 0 0 (va_A [(a_t, .inr (5, [.ref a_tokens, .ref a_places, .ref a_columns, .ref a_lineFirsts])), (a_tokens, .inr (11, [.ref a_tokens_kinds, .ref a_tokens_values, .int (nI n_tokens_size)])), (a_places, .inl (ka_places, 90, .inl f_places))] sz) := by
  refine Met.ofW (cc := b_Lexemes_placeAt) (maxL := 2) (ret := (some .int)) (by decide) rfl ?_
  intro p e s m args below meth c s₁ B hml hv
  obtain ⟨rfl, hsz, hP, hK, hD0⟩ := hv
  have hx := B.exec
  have hb := B.bytes
  have hr := B.returns
  have hts := atoms_spec (ws := w_Lexemes_placeAt) B.pre
  have hz : ∀ w ∈ wz, w.before _ s = true := fun w h => hts w (List.mem_cons_of_mem _ h)
  have hown : s.vm.findClass R_Lexemes = some m.cls := findClass_of_methodNamed B.named
  have hlocks := B.notSynchronized
  subst hsz
  have hD := hD0.self (sz := s.heap.size)
  generalize hAe : va_A [(a_t, .inr (5, [.ref a_tokens, .ref a_places, .ref a_columns, .ref a_lineFirsts])), (a_tokens, .inr (11, [.ref a_tokens_kinds, .ref a_tokens_values, .int (nI n_tokens_size)])), (a_places, .inl (ka_places, 90, .inl f_places))] s.heap.size = A at hD ⊢
  have hA : ∀ q : Nat, s.heap.size ≤ q → A q := fun q h => by rw [← hAe]; exact Or.inr h
  have hS : va_S A s.heap s.heap [] := va_S.rf
  have hP : va_P (dC, dI) vcl [(a_t, .inr (5, [.ref a_tokens, .ref a_places, .ref a_columns, .ref a_lineFirsts])), (a_tokens, .inr (11, [.ref a_tokens_kinds, .ref a_tokens_values, .int (nI n_tokens_size)])), (a_places, .inl (ka_places, 90, .inl f_places))] s.heap := hP
  have hl := lv_entry ([.ref a_t, .int (nI y0)]) (n := 2) (Nat.le_of_ble_eq_true rfl)
  rw [lg_entry_eq]
  generalize (lg_sl ([.ref a_t, .int (nI y0)]) ++ List.replicate (2 - (lg_sl ([.ref a_t, .int (nI y0)])).length) Slot.unset).toArray = ls at hl ⊢
  have hl : lv_has ls 2 [(0, .ref a_t), (1, .int (nI y0))] := hl
  refine lv_aload_n hx hb d_Lexemes_placeAt_0 rfl (lv_at hl 0 rfl) ?_
  refine va_get (D := (dC, dI)) (ci := 5) (v := .ref a_tokens) (C := R_Lexemes) (T := F_Lexemes) (N := 4) hx hb hz zu_Lexemes hown hK hP 0 rfl rfl 0 (by decide) (hz (.fieldLink R_Lexemes 14 "LayoutFront$Lexemes" "tokens" "LLayoutFront$Tokens;") zm_53) (fun _ h9 => h9) rfl d_Lexemes_placeAt_1 ?_
  refine lv_iload_n hx hb d_Lexemes_placeAt_4 rfl (lv_at hl 1 rfl) ?_
  have hPc := hP.sub (ws' := [(a_tokens, .inr (11, [.ref a_tokens_kinds, .ref a_tokens_values, .int (nI n_tokens_size)]))]) [1] rfl
  have hDc := hD.sub (ws' := [(a_tokens, .inr (11, [.ref a_tokens_kinds, .ref a_tokens_values, .int (nI n_tokens_size)]))]) [1] (by decide) rfl
  have hKc := hK.sub (tys' := []) [] rfl
  have hFc := va_free (wc := [(a_tokens, .inr (11, [.ref a_tokens_kinds, .ref a_tokens_values, .int (nI n_tokens_size)]))]) hD hS hA [1] rfl
  refine va_calli (va_runV (As := [.int (nI y0)]) (rest := []) ⟨hx, hb, hml, hown, hz⟩ (s_Tokens_has6 l dC dI s.heap.size a_tokens a_tokens_kinds a_tokens_values n_tokens_size ((nI y0))) (cwV 1 hz (zV zm_68 zm_38 zm_39 zm_35 zm_40) rfl rfl rfl (by decide +kernel) ⟨Nat.le_of_ble_eq_true rfl, Nat.le_of_ble_eq_true rfl⟩) ⟨fun a U g mk q => by obtain ⟨q0, q1, qP, qK, qD⟩ := q; exact ⟨q0, q1, qP, va_K.moved (u := U) (U := U.calling g mk a) (Vm.Alike.refl U.vm) qK, qD⟩, va_recv (q := (R_Tokens, F_Tokens, 3)) (q0 := 1) (ci := 11) hK hP rfl rfl, fun U hU hW => ⟨rfl, by rw [hU], by rw [hU]; exact hPc, va_K.moved hW.alike hKc, hDc.weaken (fun _ _ _ _ => trivial)⟩⟩ rfl rfl hl.1 rfl (lv_room (Nat.le_of_ble_eq_true rfl)) d_Lexemes_placeAt_5 ⟨Nat.zero_le _, Nat.zero_le _⟩) hS (fun q _ h => hFc q h) hFc (fun r u t H1 locs ht hvm hw_r hB hz1 hk1 hS => ?_)
  obtain ⟨hP1, hK1, hD1⟩ := hB
  obtain ⟨hb_r, he_r⟩ := hw_r
  subst r
  rw [ht] at hP1
  obtain ⟨hP, hD⟩ := va_join (wr := [(a_t, .inr (5, [.ref a_tokens, .ref a_places, .ref a_columns, .ref a_lineFirsts])), (a_places, .inl (ka_places, 90, .inl f_places))]) (w1 := [(a_tokens, .inr (11, [.ref a_tokens_kinds, .ref a_tokens_values, .int (nI n_tokens_size)]))]) hP hD [1] [0, 2] rfl rfl (by decide) (by decide) hk1 hFc hP1 hD1
  generalize H1 = H at hP hS ⊢
  have hP : va_P (dC, dI) vcl [(a_t, .inr (5, [.ref a_tokens, .ref a_places, .ref a_columns, .ref a_lineFirsts])), (a_places, .inl (ka_places, 90, .inl f_places)), (a_tokens, .inr (11, [.ref a_tokens_kinds, .ref a_tokens_values, .int (nI n_tokens_size)]))] H := hP
  have hD : va_D A [(a_t, .inr (5, [.ref a_tokens, .ref a_places, .ref a_columns, .ref a_lineFirsts])), (a_places, .inl (ka_places, 90, .inl f_places)), (a_tokens, .inr (11, [.ref a_tokens_kinds, .ref a_tokens_values, .int (nI n_tokens_size)]))] := hD
  refine lv_if_eq (tgt := 20) hx hb d_Lexemes_placeAt_8 (by decide) (fun h1 => ?_) (fun h1 => ?_)
  · have e8 := hs_no h1 (by omega) (by omega)
    refine lv_iconst (v := (-1)) hx hb d_Lexemes_placeAt_20 (by decide) ?_
    have hP9 := hP.sub (ws' := [(a_t, .inr (5, [.ref a_tokens, .ref a_places, .ref a_columns, .ref a_lineFirsts])), (a_tokens, .inr (11, [.ref a_tokens_kinds, .ref a_tokens_values, .int (nI n_tokens_size)])), (a_places, .inl (ka_places, 90, .inl f_places))]) [0, 2, 1] rfl
    have hD9 := hD.sub (ws' := [(a_t, .inr (5, [.ref a_tokens, .ref a_places, .ref a_columns, .ref a_lineFirsts])), (a_tokens, .inr (11, [.ref a_tokens_kinds, .ref a_tokens_values, .int (nI n_tokens_size)])), (a_places, .inl (ka_places, 90, .inl f_places))]) [0, 2, 1] (by decide) rfl
    exact W.iret (v := (-1)) hx hb hr (fun t ht hW => ⟨⟨(-1), (), rfl, (by first | exact (if_neg e8).symm | exact (if_pos e8).symm), by rw [ht]; exact hP9, va_K.moved hW.alike hK, hD9⟩, hS.F ht⟩) hS.2.2 d_Lexemes_placeAt_21
  · have e8 := hs_yes h1 (by omega) (by omega)
    refine lv_aload_n hx hb d_Lexemes_placeAt_11 rfl (lv_at hl 0 rfl) ?_
    refine va_get (D := (dC, dI)) (ci := 5) (v := .ref a_places) (C := R_Lexemes) (T := F_Lexemes) (N := 4) hx hb hz zu_Lexemes hown hK hP 0 rfl rfl 1 (by decide) (hz (.fieldLink R_Lexemes 20 "LayoutFront$Lexemes" "places" "[I") zm_54) (fun _ h9 => h9) rfl d_Lexemes_placeAt_12 ?_
    refine lv_iload_n hx hb d_Lexemes_placeAt_15 rfl (lv_at hl 1 rfl) ?_
    refine xr_iald (v := (f_places y0)) hx hb hK hP 1 0 rfl rfl (vp_in_nI (by omega) (by omega)) (congrArg f_places (nI_clamp (by omega))) d_Lexemes_placeAt_16 ?_
    refine lv_goto (tgt := 21) hx hb d_Lexemes_placeAt_17 (by decide) ?_
    have hP9 := hP.sub (ws' := [(a_t, .inr (5, [.ref a_tokens, .ref a_places, .ref a_columns, .ref a_lineFirsts])), (a_tokens, .inr (11, [.ref a_tokens_kinds, .ref a_tokens_values, .int (nI n_tokens_size)])), (a_places, .inl (ka_places, 90, .inl f_places))]) [0, 2, 1] rfl
    have hD9 := hD.sub (ws' := [(a_t, .inr (5, [.ref a_tokens, .ref a_places, .ref a_columns, .ref a_lineFirsts])), (a_tokens, .inr (11, [.ref a_tokens_kinds, .ref a_tokens_values, .int (nI n_tokens_size)])), (a_places, .inl (ka_places, 90, .inl f_places))]) [0, 2, 1] (by decide) rfl
    exact W.iret (v := (f_places y0)) hx hb hr (fun t ht hW => ⟨⟨(f_places y0), (), rfl, (by first | exact (if_neg e8).symm | exact (if_pos e8).symm), by rw [ht]; exact hP9, va_K.moved hW.alike hK, hD9⟩, hS.F ht⟩) hS.2.2 d_Lexemes_placeAt_21
set_option maxHeartbeats 4000000 in
set_option maxRecDepth 100000 in
theorem s_Lexemes_columnAt6 (l : Launch) (dC : Nat → ClassId) (dI : Nat → Nat → Nat) (sz : Nat) (a_t : Nat) (a_tokens : Nat) (a_tokens_kinds : Nat) (a_tokens_values : Nat) (n_tokens_size : Nat) (a_places : Nat) (a_columns : Nat) (f_columns : Nat → Int32) (a_lineFirsts : Nat) (y0 : Nat) (ka_columns : ClassId) (b_tokens_size : n_tokens_size ≤ 90) (by0 : y0 ≤ 90) : Met l y_Lexemes_columnAt w_Lexemes_columnAt ({ frames := 1, cells := 0, slots := 0, locals := 21 }) (va_Pc [.ref a_t, .int (nI y0)] (fun U => U.heap.size = sz ∧ va_P (dC, dI) vcl [(a_t, .inr (5, [.ref a_tokens, .ref a_places, .ref a_columns, .ref a_lineFirsts])), (a_tokens, .inr (11, [.ref a_tokens_kinds, .ref a_tokens_values, .int (nI n_tokens_size)])), (a_columns, .inl (ka_columns, 90, .inl f_columns))] U.heap ∧ va_K (dC, dI) vcl [(ka_columns, .int)] U ∧ va_D (fun _ => True) [(a_t, .inr (5, [.ref a_tokens, .ref a_places, .ref a_columns, .ref a_lineFirsts])), (a_tokens, .inr (11, [.ref a_tokens_kinds, .ref a_tokens_values, .int (nI n_tokens_size)])), (a_columns, .inl (ka_columns, 90, .inl f_columns))])) (va_Qi (fun (r : Int32) (_ : Unit) => r = if y0 < n_tokens_size then f_columns y0 else 0) (fun _ t => va_P (dC, dI) vcl [(a_t, .inr (5, [.ref a_tokens, .ref a_places, .ref a_columns, .ref a_lineFirsts])), (a_tokens, .inr (11, [.ref a_tokens_kinds, .ref a_tokens_values, .int (nI n_tokens_size)])), (a_columns, .inl (ka_columns, 90, .inl f_columns))] t.heap ∧ va_K (dC, dI) vcl [(ka_columns, .int)] t ∧ va_D (va_A [(a_t, .inr (5, [.ref a_tokens, .ref a_places, .ref a_columns, .ref a_lineFirsts])), (a_tokens, .inr (11, [.ref a_tokens_kinds, .ref a_tokens_values, .int (nI n_tokens_size)])), (a_columns, .inl (ka_columns, 90, .inl f_columns))] sz) [(a_t, .inr (5, [.ref a_tokens, .ref a_places, .ref a_columns, .ref a_lineFirsts])), (a_tokens, .inr (11, [.ref a_tokens_kinds, .ref a_tokens_values, .int (nI n_tokens_size)])), (a_columns, .inl (ka_columns, 90, .inl f_columns))]) (va_A [(a_t, .inr (5, [.ref a_tokens, .ref a_places, .ref a_columns, .ref a_lineFirsts])), (a_tokens, .inr (11, [.ref a_tokens_kinds, .ref a_tokens_values, .int (nI n_tokens_size)])), (a_columns, .inl (ka_columns, 90, .inl f_columns))] sz)) 0 0 (va_A [(a_t, .inr (5, [.ref a_tokens, .ref a_places, .ref a_columns, .ref a_lineFirsts])), (a_tokens, .inr (11, [.ref a_tokens_kinds, .ref a_tokens_values, .int (nI n_tokens_size)])), (a_columns, .inl (ka_columns, 90, .inl f_columns))] sz) := by
  refine Met.ofW (cc := b_Lexemes_columnAt) (maxL := 2) (ret := (some .int)) (by decide) rfl ?_
  intro p e s m args below meth c s₁ B hml hv
  obtain ⟨rfl, hsz, hP, hK, hD0⟩ := hv
  have hx := B.exec
  have hb := B.bytes
  have hr := B.returns
  have hts := atoms_spec (ws := w_Lexemes_columnAt) B.pre
  have hz : ∀ w ∈ wz, w.before _ s = true := fun w h => hts w (List.mem_cons_of_mem _ h)
  have hown : s.vm.findClass R_Lexemes = some m.cls := findClass_of_methodNamed B.named
  have hlocks := B.notSynchronized
  subst hsz
  have hD := hD0.self (sz := s.heap.size)
  generalize hAe : va_A [(a_t, .inr (5, [.ref a_tokens, .ref a_places, .ref a_columns, .ref a_lineFirsts])), (a_tokens, .inr (11, [.ref a_tokens_kinds, .ref a_tokens_values, .int (nI n_tokens_size)])), (a_columns, .inl (ka_columns, 90, .inl f_columns))] s.heap.size = A at hD ⊢
  have hA : ∀ q : Nat, s.heap.size ≤ q → A q := fun q h => by rw [← hAe]; exact Or.inr h
  have hS : va_S A s.heap s.heap [] := va_S.rf
  have hP : va_P (dC, dI) vcl [(a_t, .inr (5, [.ref a_tokens, .ref a_places, .ref a_columns, .ref a_lineFirsts])), (a_tokens, .inr (11, [.ref a_tokens_kinds, .ref a_tokens_values, .int (nI n_tokens_size)])), (a_columns, .inl (ka_columns, 90, .inl f_columns))] s.heap := hP
  have hl := lv_entry ([.ref a_t, .int (nI y0)]) (n := 2) (Nat.le_of_ble_eq_true rfl)
  rw [lg_entry_eq]
  generalize (lg_sl ([.ref a_t, .int (nI y0)]) ++ List.replicate (2 - (lg_sl ([.ref a_t, .int (nI y0)])).length) Slot.unset).toArray = ls at hl ⊢
  have hl : lv_has ls 2 [(0, .ref a_t), (1, .int (nI y0))] := hl
  refine lv_aload_n hx hb d_Lexemes_columnAt_0 rfl (lv_at hl 0 rfl) ?_
  refine va_get (D := (dC, dI)) (ci := 5) (v := .ref a_tokens) (C := R_Lexemes) (T := F_Lexemes) (N := 4) hx hb hz zu_Lexemes hown hK hP 0 rfl rfl 0 (by decide) (hz (.fieldLink R_Lexemes 14 "LayoutFront$Lexemes" "tokens" "LLayoutFront$Tokens;") zm_53) (fun _ h9 => h9) rfl d_Lexemes_columnAt_1 ?_
  refine lv_iload_n hx hb d_Lexemes_columnAt_4 rfl (lv_at hl 1 rfl) ?_
  have hPc := hP.sub (ws' := [(a_tokens, .inr (11, [.ref a_tokens_kinds, .ref a_tokens_values, .int (nI n_tokens_size)]))]) [1] rfl
  have hDc := hD.sub (ws' := [(a_tokens, .inr (11, [.ref a_tokens_kinds, .ref a_tokens_values, .int (nI n_tokens_size)]))]) [1] (by decide) rfl
  have hKc := hK.sub (tys' := []) [] rfl
  have hFc := va_free (wc := [(a_tokens, .inr (11, [.ref a_tokens_kinds, .ref a_tokens_values, .int (nI n_tokens_size)]))]) hD hS hA [1] rfl
  refine va_calli (va_runV (As := [.int (nI y0)]) (rest := []) ⟨hx, hb, hml, hown, hz⟩ (s_Tokens_has6 l dC dI s.heap.size a_tokens a_tokens_kinds a_tokens_values n_tokens_size ((nI y0))) (cwV 1 hz (zV zm_68 zm_38 zm_39 zm_35 zm_40) rfl rfl rfl (by decide +kernel) ⟨Nat.le_of_ble_eq_true rfl, Nat.le_of_ble_eq_true rfl⟩) ⟨fun a U g mk q => by obtain ⟨q0, q1, qP, qK, qD⟩ := q; exact ⟨q0, q1, qP, va_K.moved (u := U) (U := U.calling g mk a) (Vm.Alike.refl U.vm) qK, qD⟩, va_recv (q := (R_Tokens, F_Tokens, 3)) (q0 := 1) (ci := 11) hK hP rfl rfl, fun U hU hW => ⟨rfl, by rw [hU], by rw [hU]; exact hPc, va_K.moved hW.alike hKc, hDc.weaken (fun _ _ _ _ => trivial)⟩⟩ rfl rfl hl.1 rfl (lv_room (Nat.le_of_ble_eq_true rfl)) d_Lexemes_columnAt_5 ⟨Nat.zero_le _, Nat.zero_le _⟩) hS (fun q _ h => hFc q h) hFc (fun r u t H1 locs ht hvm hw_r hB hz1 hk1 hS => ?_)
  obtain ⟨hP1, hK1, hD1⟩ := hB
  obtain ⟨hb_r, he_r⟩ := hw_r
  subst r
  rw [ht] at hP1
  obtain ⟨hP, hD⟩ := va_join (wr := [(a_t, .inr (5, [.ref a_tokens, .ref a_places, .ref a_columns, .ref a_lineFirsts])), (a_columns, .inl (ka_columns, 90, .inl f_columns))]) (w1 := [(a_tokens, .inr (11, [.ref a_tokens_kinds, .ref a_tokens_values, .int (nI n_tokens_size)]))]) hP hD [1] [0, 2] rfl rfl (by decide) (by decide) hk1 hFc hP1 hD1
  generalize H1 = H at hP hS ⊢
  have hP : va_P (dC, dI) vcl [(a_t, .inr (5, [.ref a_tokens, .ref a_places, .ref a_columns, .ref a_lineFirsts])), (a_columns, .inl (ka_columns, 90, .inl f_columns)), (a_tokens, .inr (11, [.ref a_tokens_kinds, .ref a_tokens_values, .int (nI n_tokens_size)]))] H := hP
  have hD : va_D A [(a_t, .inr (5, [.ref a_tokens, .ref a_places, .ref a_columns, .ref a_lineFirsts])), (a_columns, .inl (ka_columns, 90, .inl f_columns)), (a_tokens, .inr (11, [.ref a_tokens_kinds, .ref a_tokens_values, .int (nI n_tokens_size)]))] := hD
  refine lv_if_eq (tgt := 20) hx hb d_Lexemes_columnAt_8 (by decide) (fun h1 => ?_) (fun h1 => ?_)
  · have e8 := hs_no h1 (by omega) (by omega)
    refine lv_iconst (v := 0) hx hb d_Lexemes_columnAt_20 (by decide) ?_
    have hP9 := hP.sub (ws' := [(a_t, .inr (5, [.ref a_tokens, .ref a_places, .ref a_columns, .ref a_lineFirsts])), (a_tokens, .inr (11, [.ref a_tokens_kinds, .ref a_tokens_values, .int (nI n_tokens_size)])), (a_columns, .inl (ka_columns, 90, .inl f_columns))]) [0, 2, 1] rfl
    have hD9 := hD.sub (ws' := [(a_t, .inr (5, [.ref a_tokens, .ref a_places, .ref a_columns, .ref a_lineFirsts])), (a_tokens, .inr (11, [.ref a_tokens_kinds, .ref a_tokens_values, .int (nI n_tokens_size)])), (a_columns, .inl (ka_columns, 90, .inl f_columns))]) [0, 2, 1] (by decide) rfl
    exact W.iret (v := 0) hx hb hr (fun t ht hW => ⟨⟨0, (), rfl, (by first | exact (if_neg e8).symm | exact (if_pos e8).symm), by rw [ht]; exact hP9, va_K.moved hW.alike hK, hD9⟩, hS.F ht⟩) hS.2.2 d_Lexemes_columnAt_21
  · have e8 := hs_yes h1 (by omega) (by omega)
    refine lv_aload_n hx hb d_Lexemes_columnAt_11 rfl (lv_at hl 0 rfl) ?_
    refine va_get (D := (dC, dI)) (ci := 5) (v := .ref a_columns) (C := R_Lexemes) (T := F_Lexemes) (N := 4) hx hb hz zu_Lexemes hown hK hP 0 rfl rfl 2 (by decide) (hz (.fieldLink R_Lexemes 24 "LayoutFront$Lexemes" "columns" "[I") zm_55) (fun _ h9 => h9) rfl d_Lexemes_columnAt_12 ?_
    refine lv_iload_n hx hb d_Lexemes_columnAt_15 rfl (lv_at hl 1 rfl) ?_
    refine xr_iald (v := (f_columns y0)) hx hb hK hP 1 0 rfl rfl (vp_in_nI (by omega) (by omega)) (congrArg f_columns (nI_clamp (by omega))) d_Lexemes_columnAt_16 ?_
    refine lv_goto (tgt := 21) hx hb d_Lexemes_columnAt_17 (by decide) ?_
    have hP9 := hP.sub (ws' := [(a_t, .inr (5, [.ref a_tokens, .ref a_places, .ref a_columns, .ref a_lineFirsts])), (a_tokens, .inr (11, [.ref a_tokens_kinds, .ref a_tokens_values, .int (nI n_tokens_size)])), (a_columns, .inl (ka_columns, 90, .inl f_columns))]) [0, 2, 1] rfl
    have hD9 := hD.sub (ws' := [(a_t, .inr (5, [.ref a_tokens, .ref a_places, .ref a_columns, .ref a_lineFirsts])), (a_tokens, .inr (11, [.ref a_tokens_kinds, .ref a_tokens_values, .int (nI n_tokens_size)])), (a_columns, .inl (ka_columns, 90, .inl f_columns))]) [0, 2, 1] (by decide) rfl
    exact W.iret (v := (f_columns y0)) hx hb hr (fun t ht hW => ⟨⟨(f_columns y0), (), rfl, (by first | exact (if_neg e8).symm | exact (if_pos e8).symm), by rw [ht]; exact hP9, va_K.moved hW.alike hK, hD9⟩, hS.F ht⟩) hS.2.2 d_Lexemes_columnAt_21
set_option maxHeartbeats 4000000 in
set_option maxRecDepth 100000 in
theorem s_Lexemes_isLineFirst6 (l : Launch) (dC : Nat → ClassId) (dI : Nat → Nat → Nat) (sz : Nat) (a_t : Nat) (a_tokens : Nat) (a_tokens_kinds : Nat) (a_tokens_values : Nat) (n_tokens_size : Nat) (a_places : Nat) (a_columns : Nat) (a_lineFirsts : Nat) (f_lineFirsts : Nat → Int32) (y0 : Nat) (ka_lineFirsts : ClassId) (b_tokens_size : n_tokens_size ≤ 90) (by0 : y0 ≤ 90) : Met l y_Lexemes_isLineFirst w_Lexemes_isLineFirst ({ frames := 1, cells := 0, slots := 0, locals := 21 }) (va_Pc [.ref a_t, .int (nI y0)] (fun U => U.heap.size = sz ∧ va_P (dC, dI) vcl [(a_t, .inr (5, [.ref a_tokens, .ref a_places, .ref a_columns, .ref a_lineFirsts])), (a_tokens, .inr (11, [.ref a_tokens_kinds, .ref a_tokens_values, .int (nI n_tokens_size)])), (a_lineFirsts, .inl (ka_lineFirsts, 90, .inl f_lineFirsts))] U.heap ∧ va_K (dC, dI) vcl [(ka_lineFirsts, .boolean)] U ∧ va_D (fun _ => True) [(a_t, .inr (5, [.ref a_tokens, .ref a_places, .ref a_columns, .ref a_lineFirsts])), (a_tokens, .inr (11, [.ref a_tokens_kinds, .ref a_tokens_values, .int (nI n_tokens_size)])), (a_lineFirsts, .inl (ka_lineFirsts, 90, .inl f_lineFirsts))])) (va_Qi (fun (r : Int32) (_ : Unit) => (r = 0 ∨ r = 1) ∧ (r = lfI f_lineFirsts n_tokens_size y0)) (fun _ t => va_P (dC, dI) vcl [(a_t, .inr (5, [.ref a_tokens, .ref a_places, .ref a_columns, .ref a_lineFirsts])), (a_tokens, .inr (11, [.ref a_tokens_kinds, .ref a_tokens_values, .int (nI n_tokens_size)])), (a_lineFirsts, .inl (ka_lineFirsts, 90, .inl f_lineFirsts))] t.heap ∧ va_K (dC, dI) vcl [(ka_lineFirsts, .boolean)] t ∧ va_D (va_A [(a_t, .inr (5, [.ref a_tokens, .ref a_places, .ref a_columns, .ref a_lineFirsts])), (a_tokens, .inr (11, [.ref a_tokens_kinds, .ref a_tokens_values, .int (nI n_tokens_size)])), (a_lineFirsts, .inl (ka_lineFirsts, 90, .inl f_lineFirsts))] sz) [(a_t, .inr (5, [.ref a_tokens, .ref a_places, .ref a_columns, .ref a_lineFirsts])), (a_tokens, .inr (11, [.ref a_tokens_kinds, .ref a_tokens_values, .int (nI n_tokens_size)])), (a_lineFirsts, .inl (ka_lineFirsts, 90, .inl f_lineFirsts))]) (va_A [(a_t, .inr (5, [.ref a_tokens, .ref a_places, .ref a_columns, .ref a_lineFirsts])), (a_tokens, .inr (11, [.ref a_tokens_kinds, .ref a_tokens_values, .int (nI n_tokens_size)])), (a_lineFirsts, .inl (ka_lineFirsts, 90, .inl f_lineFirsts))] sz)) 0 0 (va_A [(a_t, .inr (5, [.ref a_tokens, .ref a_places, .ref a_columns, .ref a_lineFirsts])), (a_tokens, .inr (11, [.ref a_tokens_kinds, .ref a_tokens_values, .int (nI n_tokens_size)])), (a_lineFirsts, .inl (ka_lineFirsts, 90, .inl f_lineFirsts))] sz) := by
  refine Met.ofW (cc := b_Lexemes_isLineFirst) (maxL := 2) (ret := (some .boolean)) (by decide) rfl ?_
  intro p e s m args below meth c s₁ B hml hv
  obtain ⟨rfl, hsz, hP, hK, hD0⟩ := hv
  have hx := B.exec
  have hb := B.bytes
  have hr := B.returns
  have hts := atoms_spec (ws := w_Lexemes_isLineFirst) B.pre
  have hz : ∀ w ∈ wz, w.before _ s = true := fun w h => hts w (List.mem_cons_of_mem _ h)
  have hown : s.vm.findClass R_Lexemes = some m.cls := findClass_of_methodNamed B.named
  have hlocks := B.notSynchronized
  subst hsz
  have hD := hD0.self (sz := s.heap.size)
  generalize hAe : va_A [(a_t, .inr (5, [.ref a_tokens, .ref a_places, .ref a_columns, .ref a_lineFirsts])), (a_tokens, .inr (11, [.ref a_tokens_kinds, .ref a_tokens_values, .int (nI n_tokens_size)])), (a_lineFirsts, .inl (ka_lineFirsts, 90, .inl f_lineFirsts))] s.heap.size = A at hD ⊢
  have hA : ∀ q : Nat, s.heap.size ≤ q → A q := fun q h => by rw [← hAe]; exact Or.inr h
  have hS : va_S A s.heap s.heap [] := va_S.rf
  have hP : va_P (dC, dI) vcl [(a_t, .inr (5, [.ref a_tokens, .ref a_places, .ref a_columns, .ref a_lineFirsts])), (a_tokens, .inr (11, [.ref a_tokens_kinds, .ref a_tokens_values, .int (nI n_tokens_size)])), (a_lineFirsts, .inl (ka_lineFirsts, 90, .inl f_lineFirsts))] s.heap := hP
  have hl := lv_entry ([.ref a_t, .int (nI y0)]) (n := 2) (Nat.le_of_ble_eq_true rfl)
  rw [lg_entry_eq]
  generalize (lg_sl ([.ref a_t, .int (nI y0)]) ++ List.replicate (2 - (lg_sl ([.ref a_t, .int (nI y0)])).length) Slot.unset).toArray = ls at hl ⊢
  have hl : lv_has ls 2 [(0, .ref a_t), (1, .int (nI y0))] := hl
  refine lv_aload_n hx hb d_Lexemes_isLineFirst_0 rfl (lv_at hl 0 rfl) ?_
  refine va_get (D := (dC, dI)) (ci := 5) (v := .ref a_tokens) (C := R_Lexemes) (T := F_Lexemes) (N := 4) hx hb hz zu_Lexemes hown hK hP 0 rfl rfl 0 (by decide) (hz (.fieldLink R_Lexemes 14 "LayoutFront$Lexemes" "tokens" "LLayoutFront$Tokens;") zm_53) (fun _ h9 => h9) rfl d_Lexemes_isLineFirst_1 ?_
  refine lv_iload_n hx hb d_Lexemes_isLineFirst_4 rfl (lv_at hl 1 rfl) ?_
  have hPc := hP.sub (ws' := [(a_tokens, .inr (11, [.ref a_tokens_kinds, .ref a_tokens_values, .int (nI n_tokens_size)]))]) [1] rfl
  have hDc := hD.sub (ws' := [(a_tokens, .inr (11, [.ref a_tokens_kinds, .ref a_tokens_values, .int (nI n_tokens_size)]))]) [1] (by decide) rfl
  have hKc := hK.sub (tys' := []) [] rfl
  have hFc := va_free (wc := [(a_tokens, .inr (11, [.ref a_tokens_kinds, .ref a_tokens_values, .int (nI n_tokens_size)]))]) hD hS hA [1] rfl
  refine va_calli (va_runV (As := [.int (nI y0)]) (rest := []) ⟨hx, hb, hml, hown, hz⟩ (s_Tokens_has6 l dC dI s.heap.size a_tokens a_tokens_kinds a_tokens_values n_tokens_size ((nI y0))) (cwV 1 hz (zV zm_68 zm_38 zm_39 zm_35 zm_40) rfl rfl rfl (by decide +kernel) ⟨Nat.le_of_ble_eq_true rfl, Nat.le_of_ble_eq_true rfl⟩) ⟨fun a U g mk q => by obtain ⟨q0, q1, qP, qK, qD⟩ := q; exact ⟨q0, q1, qP, va_K.moved (u := U) (U := U.calling g mk a) (Vm.Alike.refl U.vm) qK, qD⟩, va_recv (q := (R_Tokens, F_Tokens, 3)) (q0 := 1) (ci := 11) hK hP rfl rfl, fun U hU hW => ⟨rfl, by rw [hU], by rw [hU]; exact hPc, va_K.moved hW.alike hKc, hDc.weaken (fun _ _ _ _ => trivial)⟩⟩ rfl rfl hl.1 rfl (lv_room (Nat.le_of_ble_eq_true rfl)) d_Lexemes_isLineFirst_5 ⟨Nat.zero_le _, Nat.zero_le _⟩) hS (fun q _ h => hFc q h) hFc (fun r u t H1 locs ht hvm hw_r hB hz1 hk1 hS => ?_)
  obtain ⟨hP1, hK1, hD1⟩ := hB
  obtain ⟨hb_r, he_r⟩ := hw_r
  subst r
  rw [ht] at hP1
  obtain ⟨hP, hD⟩ := va_join (wr := [(a_t, .inr (5, [.ref a_tokens, .ref a_places, .ref a_columns, .ref a_lineFirsts])), (a_lineFirsts, .inl (ka_lineFirsts, 90, .inl f_lineFirsts))]) (w1 := [(a_tokens, .inr (11, [.ref a_tokens_kinds, .ref a_tokens_values, .int (nI n_tokens_size)]))]) hP hD [1] [0, 2] rfl rfl (by decide) (by decide) hk1 hFc hP1 hD1
  generalize H1 = H at hP hS ⊢
  have hP : va_P (dC, dI) vcl [(a_t, .inr (5, [.ref a_tokens, .ref a_places, .ref a_columns, .ref a_lineFirsts])), (a_lineFirsts, .inl (ka_lineFirsts, 90, .inl f_lineFirsts)), (a_tokens, .inr (11, [.ref a_tokens_kinds, .ref a_tokens_values, .int (nI n_tokens_size)]))] H := hP
  have hD : va_D A [(a_t, .inr (5, [.ref a_tokens, .ref a_places, .ref a_columns, .ref a_lineFirsts])), (a_lineFirsts, .inl (ka_lineFirsts, 90, .inl f_lineFirsts)), (a_tokens, .inr (11, [.ref a_tokens_kinds, .ref a_tokens_values, .int (nI n_tokens_size)]))] := hD
  refine lv_if_eq (tgt := 24) hx hb d_Lexemes_isLineFirst_8 (by decide) (fun h1 => ?_) (fun h1 => ?_)
  · have e8 := hs_no h1 (by omega) (by omega)
    refine lv_iconst (v := 0) hx hb d_Lexemes_isLineFirst_24 (by decide) ?_
    have hP9 := hP.sub (ws' := [(a_t, .inr (5, [.ref a_tokens, .ref a_places, .ref a_columns, .ref a_lineFirsts])), (a_tokens, .inr (11, [.ref a_tokens_kinds, .ref a_tokens_values, .int (nI n_tokens_size)])), (a_lineFirsts, .inl (ka_lineFirsts, 90, .inl f_lineFirsts))]) [0, 2, 1] rfl
    have hD9 := hD.sub (ws' := [(a_t, .inr (5, [.ref a_tokens, .ref a_places, .ref a_columns, .ref a_lineFirsts])), (a_tokens, .inr (11, [.ref a_tokens_kinds, .ref a_tokens_values, .int (nI n_tokens_size)])), (a_lineFirsts, .inl (ka_lineFirsts, 90, .inl f_lineFirsts))]) [0, 2, 1] (by decide) rfl
    exact W.zret (v := 0) hx hb hr (by decide +kernel) (fun t ht hW => ⟨⟨0, (), rfl, ⟨(by first | assumption | exact Or.inl rfl | exact Or.inr rfl), (by exact lf_1 e8)⟩, by rw [ht]; exact hP9, va_K.moved hW.alike hK, hD9⟩, hS.F ht⟩) hS.2.2 d_Lexemes_isLineFirst_25
  · have e8 := hs_yes h1 (by omega) (by omega)
    refine lv_aload_n hx hb d_Lexemes_isLineFirst_11 rfl (lv_at hl 0 rfl) ?_
    refine va_get (D := (dC, dI)) (ci := 5) (v := .ref a_lineFirsts) (C := R_Lexemes) (T := F_Lexemes) (N := 4) hx hb hz zu_Lexemes hown hK hP 0 rfl rfl 3 (by decide) (hz (.fieldLink R_Lexemes 27 "LayoutFront$Lexemes" "lineFirsts" "[Z") zm_57) (fun _ h9 => h9) rfl d_Lexemes_isLineFirst_12 ?_
    refine lv_iload_n hx hb d_Lexemes_isLineFirst_15 rfl (lv_at hl 1 rfl) ?_
    refine xr_zald (v := (f_lineFirsts y0)) hx hb hK hP 1 0 rfl rfl (vp_in_nI (by omega) (by omega)) (congrArg f_lineFirsts (nI_clamp (by omega))) d_Lexemes_isLineFirst_16 ?_
    refine lv_if_eq (tgt := 24) hx hb d_Lexemes_isLineFirst_17 (by decide) (fun h3 => ?_) (fun h3 => ?_)
    · have e17 := h3
      refine lv_iconst (v := 0) hx hb d_Lexemes_isLineFirst_24 (by decide) ?_
      have hP9 := hP.sub (ws' := [(a_t, .inr (5, [.ref a_tokens, .ref a_places, .ref a_columns, .ref a_lineFirsts])), (a_tokens, .inr (11, [.ref a_tokens_kinds, .ref a_tokens_values, .int (nI n_tokens_size)])), (a_lineFirsts, .inl (ka_lineFirsts, 90, .inl f_lineFirsts))]) [0, 2, 1] rfl
      have hD9 := hD.sub (ws' := [(a_t, .inr (5, [.ref a_tokens, .ref a_places, .ref a_columns, .ref a_lineFirsts])), (a_tokens, .inr (11, [.ref a_tokens_kinds, .ref a_tokens_values, .int (nI n_tokens_size)])), (a_lineFirsts, .inl (ka_lineFirsts, 90, .inl f_lineFirsts))]) [0, 2, 1] (by decide) rfl
      exact W.zret (v := 0) hx hb hr (by decide +kernel) (fun t ht hW => ⟨⟨0, (), rfl, ⟨(by first | assumption | exact Or.inl rfl | exact Or.inr rfl), (by exact lf_2 e8 e17)⟩, by rw [ht]; exact hP9, va_K.moved hW.alike hK, hD9⟩, hS.F ht⟩) hS.2.2 d_Lexemes_isLineFirst_25
    · have e17 := h3
      refine lv_iconst (v := 1) hx hb d_Lexemes_isLineFirst_20 (by decide) ?_
      refine lv_goto (tgt := 25) hx hb d_Lexemes_isLineFirst_21 (by decide) ?_
      have hP9 := hP.sub (ws' := [(a_t, .inr (5, [.ref a_tokens, .ref a_places, .ref a_columns, .ref a_lineFirsts])), (a_tokens, .inr (11, [.ref a_tokens_kinds, .ref a_tokens_values, .int (nI n_tokens_size)])), (a_lineFirsts, .inl (ka_lineFirsts, 90, .inl f_lineFirsts))]) [0, 2, 1] rfl
      have hD9 := hD.sub (ws' := [(a_t, .inr (5, [.ref a_tokens, .ref a_places, .ref a_columns, .ref a_lineFirsts])), (a_tokens, .inr (11, [.ref a_tokens_kinds, .ref a_tokens_values, .int (nI n_tokens_size)])), (a_lineFirsts, .inl (ka_lineFirsts, 90, .inl f_lineFirsts))]) [0, 2, 1] (by decide) rfl
      exact W.zret (v := 1) hx hb hr (by decide +kernel) (fun t ht hW => ⟨⟨1, (), rfl, ⟨(by first | assumption | exact Or.inl rfl | exact Or.inr rfl), (by exact lf_3 e8 e17)⟩, by rw [ht]; exact hP9, va_K.moved hW.alike hK, hD9⟩, hS.F ht⟩) hS.2.2 d_Lexemes_isLineFirst_25
set_option maxHeartbeats 4000000 in
set_option maxRecDepth 100000 in
theorem s_Tokens_isSign6 (l : Launch) (dC : Nat → ClassId) (dI : Nat → Nat → Nat) (sz : Nat) (cap : Nat) (a_t : Nat) (a_kinds : Nat) (f_kinds : Nat → Int32) (a_values : Nat) (f_values : Nat → Int64) (n_size : Nat) (y0 : Nat) (y1 : Int32) (ka_kinds : ClassId) (ka_values : ClassId) (bcap : cap ≤ 600) (b_size : n_size ≤ cap) (by0 : y0 ≤ 600) : Met l y_Tokens_isSign w_Tokens_isSign ({ frames := 0, cells := 0, slots := 0, locals := 0 }) (va_Pc [.ref a_t, .int (nI y0), .int y1] (fun U => U.heap.size = sz ∧ va_P (dC, dI) vcl [(a_t, .inr (11, [.ref a_kinds, .ref a_values, .int (nI n_size)])), (a_kinds, .inl (ka_kinds, cap, .inl f_kinds)), (a_values, .inl (ka_values, cap, .inr (.inl f_values)))] U.heap ∧ va_K (dC, dI) vcl [(ka_kinds, .int), (ka_values, .long)] U ∧ va_D (fun _ => True) [(a_t, .inr (11, [.ref a_kinds, .ref a_values, .int (nI n_size)])), (a_kinds, .inl (ka_kinds, cap, .inl f_kinds)), (a_values, .inl (ka_values, cap, .inr (.inl f_values)))])) (va_Qi (fun (r : Int32) (_ : Unit) => (r = 0 ∨ r = 1) ∧ (r = b01 (sgB f_kinds f_values n_size y0 y1))) (fun _ t => va_P (dC, dI) vcl [(a_t, .inr (11, [.ref a_kinds, .ref a_values, .int (nI n_size)])), (a_kinds, .inl (ka_kinds, cap, .inl f_kinds)), (a_values, .inl (ka_values, cap, .inr (.inl f_values)))] t.heap ∧ va_K (dC, dI) vcl [(ka_kinds, .int), (ka_values, .long)] t ∧ va_D (va_A [(a_t, .inr (11, [.ref a_kinds, .ref a_values, .int (nI n_size)])), (a_kinds, .inl (ka_kinds, cap, .inl f_kinds)), (a_values, .inl (ka_values, cap, .inr (.inl f_values)))] sz) [(a_t, .inr (11, [.ref a_kinds, .ref a_values, .int (nI n_size)])), (a_kinds, .inl (ka_kinds, cap, .inl f_kinds)), (a_values, .inl (ka_values, cap, .inr (.inl f_values)))]) (va_A [(a_t, .inr (11, [.ref a_kinds, .ref a_values, .int (nI n_size)])), (a_kinds, .inl (ka_kinds, cap, .inl f_kinds)), (a_values, .inl (ka_values, cap, .inr (.inl f_values)))] sz)) 0 0 (va_A [(a_t, .inr (11, [.ref a_kinds, .ref a_values, .int (nI n_size)])), (a_kinds, .inl (ka_kinds, cap, .inl f_kinds)), (a_values, .inl (ka_values, cap, .inr (.inl f_values)))] sz) := by
  refine Met.ofW (cc := b_Tokens_isSign) (maxL := 3) (ret := (some .boolean)) (by decide) rfl ?_
  intro p e s m args below meth c s₁ B hml hv
  obtain ⟨rfl, hsz, hP, hK, hD0⟩ := hv
  have hx := B.exec
  have hb := B.bytes
  have hr := B.returns
  have hts := atoms_spec (ws := w_Tokens_isSign) B.pre
  have hz : ∀ w ∈ wz, w.before _ s = true := fun w h => hts w (List.mem_cons_of_mem _ h)
  have hown : s.vm.findClass R_Tokens = some m.cls := findClass_of_methodNamed B.named
  have hlocks := B.notSynchronized
  subst hsz
  have hD := hD0.self (sz := s.heap.size)
  generalize hAe : va_A [(a_t, .inr (11, [.ref a_kinds, .ref a_values, .int (nI n_size)])), (a_kinds, .inl (ka_kinds, cap, .inl f_kinds)), (a_values, .inl (ka_values, cap, .inr (.inl f_values)))] s.heap.size = A at hD ⊢
  have hA : ∀ q : Nat, s.heap.size ≤ q → A q := fun q h => by rw [← hAe]; exact Or.inr h
  have hS : va_S A s.heap s.heap [] := va_S.rf
  have hP : va_P (dC, dI) vcl [(a_t, .inr (11, [.ref a_kinds, .ref a_values, .int (nI n_size)])), (a_kinds, .inl (ka_kinds, cap, .inl f_kinds)), (a_values, .inl (ka_values, cap, .inr (.inl f_values)))] s.heap := hP
  have hl := lv_entry ([.ref a_t, .int (nI y0), .int y1]) (n := 3) (Nat.le_of_ble_eq_true rfl)
  rw [lg_entry_eq]
  generalize (lg_sl ([.ref a_t, .int (nI y0), .int y1]) ++ List.replicate (3 - (lg_sl ([.ref a_t, .int (nI y0), .int y1])).length) Slot.unset).toArray = ls at hl ⊢
  have hl : lv_has ls 3 [(0, .ref a_t), (1, .int (nI y0)), (2, .int y1)] := hl
  refine lv_iload_n hx hb d_Tokens_isSign_0 rfl (lv_at hl 1 rfl) ?_
  refine lv_if_lt (tgt := 38) hx hb d_Tokens_isSign_1 (by decide) (fun h1 => ?_) (fun h1 => ?_)
  · have h1 : y0 < 0 := (nI_ltI (a := y0) (b := 0) (by omega) (by omega)).mp h1
    refine lv_iconst (v := 0) hx hb d_Tokens_isSign_38 (by decide) ?_
    have hP9 := hP.sub (ws' := [(a_t, .inr (11, [.ref a_kinds, .ref a_values, .int (nI n_size)])), (a_kinds, .inl (ka_kinds, cap, .inl f_kinds)), (a_values, .inl (ka_values, cap, .inr (.inl f_values)))]) [0, 1, 2] rfl
    have hD9 := hD.sub (ws' := [(a_t, .inr (11, [.ref a_kinds, .ref a_values, .int (nI n_size)])), (a_kinds, .inl (ka_kinds, cap, .inl f_kinds)), (a_values, .inl (ka_values, cap, .inr (.inl f_values)))]) [0, 1, 2] (by decide) rfl
    exact W.zret (v := 0) hx hb hr (by decide +kernel) (fun t ht hW => ⟨⟨0, (), rfl, ⟨(by first | assumption | exact Or.inl rfl | exact Or.inr rfl), (by exfalso; omega)⟩, by rw [ht]; exact hP9, va_K.moved hW.alike hK, hD9⟩, hS.F ht⟩) hS.2.2 d_Tokens_isSign_39
  · have h1 : ¬ y0 < 0 := fun q => h1 ((nI_ltI (a := y0) (b := 0) (by omega) (by omega)).mpr q)
    refine lv_iload_n hx hb d_Tokens_isSign_4 rfl (lv_at hl 1 rfl) ?_
    refine lv_aload_n hx hb d_Tokens_isSign_5 rfl (lv_at hl 0 rfl) ?_
    refine va_get (D := (dC, dI)) (ci := 11) (v := .int (nI n_size)) (C := R_Tokens) (T := F_Tokens) (N := 3) hx hb hz zu_Tokens hown hK hP 0 rfl rfl 2 (by decide) (hz (.fieldLink R_Tokens 19 "LayoutFront$Tokens" "size" "I") zm_31) (fun _ h9 => h9) rfl d_Tokens_isSign_6 ?_
    refine lv_icmp_ge (tgt := 38) hx hb d_Tokens_isSign_9 (by decide) (fun h2 => ?_) (fun h2 => ?_)
    · have h2 : n_size ≤ y0 := (nI_leI (a := n_size) (b := y0) (by omega) (by omega)).mp h2
      have e9 := h2
      refine lv_iconst (v := 0) hx hb d_Tokens_isSign_38 (by decide) ?_
      have hP9 := hP.sub (ws' := [(a_t, .inr (11, [.ref a_kinds, .ref a_values, .int (nI n_size)])), (a_kinds, .inl (ka_kinds, cap, .inl f_kinds)), (a_values, .inl (ka_values, cap, .inr (.inl f_values)))]) [0, 1, 2] rfl
      have hD9 := hD.sub (ws' := [(a_t, .inr (11, [.ref a_kinds, .ref a_values, .int (nI n_size)])), (a_kinds, .inl (ka_kinds, cap, .inl f_kinds)), (a_values, .inl (ka_values, cap, .inr (.inl f_values)))]) [0, 1, 2] (by decide) rfl
      exact W.zret (v := 0) hx hb hr (by decide +kernel) (fun t ht hW => ⟨⟨0, (), rfl, ⟨(by first | assumption | exact Or.inl rfl | exact Or.inr rfl), (by exact sB_1 (by omega))⟩, by rw [ht]; exact hP9, va_K.moved hW.alike hK, hD9⟩, hS.F ht⟩) hS.2.2 d_Tokens_isSign_39
    · have h2 : ¬ n_size ≤ y0 := fun q => h2 ((nI_leI (a := n_size) (b := y0) (by omega) (by omega)).mpr q)
      have e9 := h2
      refine lv_aload_n hx hb d_Tokens_isSign_12 rfl (lv_at hl 0 rfl) ?_
      refine va_get (D := (dC, dI)) (ci := 11) (v := .ref a_kinds) (C := R_Tokens) (T := F_Tokens) (N := 3) hx hb hz zu_Tokens hown hK hP 0 rfl rfl 0 (by decide) (hz (.fieldLink R_Tokens 9 "LayoutFront$Tokens" "kinds" "[I") zm_28) (fun _ h9 => h9) rfl d_Tokens_isSign_13 ?_
      refine lv_iload_n hx hb d_Tokens_isSign_16 rfl (lv_at hl 1 rfl) ?_
      refine xr_iald (v := (f_kinds y0)) hx hb hK hP 1 0 rfl rfl (vp_in_nI (by omega) (by omega)) (congrArg f_kinds (nI_clamp (by omega))) d_Tokens_isSign_17 ?_
      refine lv_iconst (v := 3) hx hb d_Tokens_isSign_18 (by decide) ?_
      refine lv_icmp_ne (tgt := 38) hx hb d_Tokens_isSign_19 (by decide) (fun h4 => ?_) (fun h4 => ?_)
      · have e19 := h4
        refine lv_iconst (v := 0) hx hb d_Tokens_isSign_38 (by decide) ?_
        have hP9 := hP.sub (ws' := [(a_t, .inr (11, [.ref a_kinds, .ref a_values, .int (nI n_size)])), (a_kinds, .inl (ka_kinds, cap, .inl f_kinds)), (a_values, .inl (ka_values, cap, .inr (.inl f_values)))]) [0, 1, 2] rfl
        have hD9 := hD.sub (ws' := [(a_t, .inr (11, [.ref a_kinds, .ref a_values, .int (nI n_size)])), (a_kinds, .inl (ka_kinds, cap, .inl f_kinds)), (a_values, .inl (ka_values, cap, .inr (.inl f_values)))]) [0, 1, 2] (by decide) rfl
        exact W.zret (v := 0) hx hb hr (by decide +kernel) (fun t ht hW => ⟨⟨0, (), rfl, ⟨(by first | assumption | exact Or.inl rfl | exact Or.inr rfl), (by exact sB_2 e19)⟩, by rw [ht]; exact hP9, va_K.moved hW.alike hK, hD9⟩, hS.F ht⟩) hS.2.2 d_Tokens_isSign_39
      · have e19 := h4
        refine lv_aload_n hx hb d_Tokens_isSign_22 rfl (lv_at hl 0 rfl) ?_
        refine va_get (D := (dC, dI)) (ci := 11) (v := .ref a_values) (C := R_Tokens) (T := F_Tokens) (N := 3) hx hb hz zu_Tokens hown hK hP 0 rfl rfl 1 (by decide) (hz (.fieldLink R_Tokens 15 "LayoutFront$Tokens" "values" "[J") zm_29) (fun _ h9 => h9) rfl d_Tokens_isSign_23 ?_
        refine lv_iload_n hx hb d_Tokens_isSign_26 rfl (lv_at hl 1 rfl) ?_
        refine xr_lald (v := (f_values y0)) hx hb hK hP 2 1 rfl rfl (vp_in_nI (by omega) (by omega)) (congrArg f_values (nI_clamp (by omega))) d_Tokens_isSign_27 ?_
        refine lv_iload_n hx hb d_Tokens_isSign_28 rfl (lv_at hl 2 rfl) ?_
        refine lv_i2l (v := y1.toInt64) hx hb d_Tokens_isSign_29 rfl ?_
        refine W.lcmp hx hb d_Tokens_isSign_30 ?_
        refine lv_if_ne (tgt := 38) hx hb d_Tokens_isSign_31 (by decide) (fun h6 => ?_) (fun h6 => ?_)
        · have e31 := h6
          refine lv_iconst (v := 0) hx hb d_Tokens_isSign_38 (by decide) ?_
          have hP9 := hP.sub (ws' := [(a_t, .inr (11, [.ref a_kinds, .ref a_values, .int (nI n_size)])), (a_kinds, .inl (ka_kinds, cap, .inl f_kinds)), (a_values, .inl (ka_values, cap, .inr (.inl f_values)))]) [0, 1, 2] rfl
          have hD9 := hD.sub (ws' := [(a_t, .inr (11, [.ref a_kinds, .ref a_values, .int (nI n_size)])), (a_kinds, .inl (ka_kinds, cap, .inl f_kinds)), (a_values, .inl (ka_values, cap, .inr (.inl f_values)))]) [0, 1, 2] (by decide) rfl
          exact W.zret (v := 0) hx hb hr (by decide +kernel) (fun t ht hW => ⟨⟨0, (), rfl, ⟨(by first | assumption | exact Or.inl rfl | exact Or.inr rfl), (by exact sB_3 e31)⟩, by rw [ht]; exact hP9, va_K.moved hW.alike hK, hD9⟩, hS.F ht⟩) hS.2.2 d_Tokens_isSign_39
        · have e31 := h6
          refine lv_iconst (v := 1) hx hb d_Tokens_isSign_34 (by decide) ?_
          refine lv_goto (tgt := 39) hx hb d_Tokens_isSign_35 (by decide) ?_
          have hP9 := hP.sub (ws' := [(a_t, .inr (11, [.ref a_kinds, .ref a_values, .int (nI n_size)])), (a_kinds, .inl (ka_kinds, cap, .inl f_kinds)), (a_values, .inl (ka_values, cap, .inr (.inl f_values)))]) [0, 1, 2] rfl
          have hD9 := hD.sub (ws' := [(a_t, .inr (11, [.ref a_kinds, .ref a_values, .int (nI n_size)])), (a_kinds, .inl (ka_kinds, cap, .inl f_kinds)), (a_values, .inl (ka_values, cap, .inr (.inl f_values)))]) [0, 1, 2] (by decide) rfl
          exact W.zret (v := 1) hx hb hr (by decide +kernel) (fun t ht hW => ⟨⟨1, (), rfl, ⟨(by first | assumption | exact Or.inl rfl | exact Or.inr rfl), (by exact sB_4 (by omega) e19 e31)⟩, by rw [ht]; exact hP9, va_K.moved hW.alike hK, hD9⟩, hS.F ht⟩) hS.2.2 d_Tokens_isSign_39
set_option maxHeartbeats 4000000 in
set_option maxRecDepth 100000 in
theorem s_Tokens_findC6 (l : Launch) (dC : Nat → ClassId) (dI : Nat → Nat → Nat) (sz : Nat) (a_y0 : Nat) (n_y0 : Nat) (f_y0 : Nat → Int64) (y1 : Int64) (by0 : n_y0 ≤ 600) : Met l y_Tokens_find w_Tokens_find ({ frames := 0, cells := 0, slots := 0, locals := 0 }) (va_Pc [.ref a_y0, .long y1] (fun U => U.heap.size = sz ∧ va_P (dC, dI) vcl [] U.heap ∧ va_K (dC, dI) vcl [] U ∧ va_D (fun _ => True) [] ∧ cx_T a_y0 n_y0 f_y0 (va_A [] sz) U U.heap)) (va_Qi (fun (r : Int32) (_ : Unit) => r = ixE f_y0 y1 n_y0 0) (fun _ t => va_P (dC, dI) vcl [] t.heap ∧ va_K (dC, dI) vcl [] t ∧ va_D (va_A [] sz) []) (va_A [] sz)) 0 0 (va_A [] sz) := by
  refine Met.ofW (cc := b_Tokens_find) (maxL := 4) (ret := (some .int)) (by decide) rfl ?_
  intro p e s m args below meth c s₁ B hml hv
  obtain ⟨rfl, hsz, hP, hK, hD0, hT_a_y0⟩ := hv
  have hx := B.exec
  have hb := B.bytes
  have hr := B.returns
  have hts := atoms_spec (ws := w_Tokens_find) B.pre
  have hz : ∀ w ∈ wz, w.before _ s = true := fun w h => hts w (List.mem_cons_of_mem _ h)
  have hown : s.vm.findClass R_Tokens = some m.cls := findClass_of_methodNamed B.named
  have hlocks := B.notSynchronized
  subst hsz
  have hD := hD0.self (sz := s.heap.size)
  generalize hAe : va_A [] s.heap.size = A at hD hT_a_y0 ⊢
  have hA : ∀ q : Nat, s.heap.size ≤ q → A q := fun q h => by rw [← hAe]; exact Or.inr h
  have hS : va_S A s.heap s.heap [] := va_S.rf
  have hP : va_P (dC, dI) vcl [] s.heap := hP
  have hl := lv_entry ([.ref a_y0, .long y1]) (n := 4) (Nat.le_of_ble_eq_true rfl)
  rw [lg_entry_eq]
  generalize (lg_sl ([.ref a_y0, .long y1]) ++ List.replicate (4 - (lg_sl ([.ref a_y0, .long y1])).length) Slot.unset).toArray = ls at hl ⊢
  have hl : lv_has ls 4 [(0, .ref a_y0), (1, .long y1)] := hl
  refine lv_iconst (v := 0) hx hb d_Tokens_find_0 (by decide) ?_
  refine lv_istore_n hx hb d_Tokens_find_1 rfl hl (by decide) rfl (fun ls hl => ?_)
  have hl : lv_has ls 4 [(3, .int 0), (0, .ref a_y0), (1, .long y1)] := hl
  refine xr_loop (α := (Nat)) (fun a => (fun (k3 : Nat) => 600 - k3) a) (fun a H locs ls => (fun (k3 : Nat) => (k3 ≤ 600) ∧ (k3 ≤ n_y0) ∧ (ixE f_y0 y1 n_y0 k3 = ixE f_y0 y1 n_y0 0) ∧ lv_has ls 4 [(3, .int (nI k3)), (0, .ref a_y0), (1, .long y1)] ∧ va_P (dC, dI) vcl [] H ∧ va_D A [] ∧ va_S A s.heap H locs) a) (fun a ih2 H locs ls hI => ?_) (0) _ _ _ ⟨by show 0 ≤ 600; first | omega | assumption | exact Or.inl rfl | exact Or.inr rfl | decide, by show 0 ≤ n_y0; first | omega | assumption | exact Or.inl rfl | exact Or.inr rfl | decide, by show ixE f_y0 y1 n_y0 0 = ixE f_y0 y1 n_y0 0; first | rfl | (rw [Nat.sub_self]; rfl), hl, hP, hD, hS⟩
  generalize a = k3 at ih2 hI
  obtain ⟨bl0, bl1, bl2, hl, hP, hD, hS⟩ := hI
  have bl0 : k3 ≤ 600 := bl0
  have bl1 : k3 ≤ n_y0 := bl1
  have bl2 : ixE f_y0 y1 n_y0 k3 = ixE f_y0 y1 n_y0 0 := bl2
  have iE := bl2
  have hl : lv_has ls 4 [(3, .int (nI k3)), (0, .ref a_y0), (1, .long y1)] := hl
  have hP : va_P (dC, dI) vcl [] H := hP
  have hD : va_D A [] := hD
  refine lv_iload_n hx hb d_Tokens_find_2 rfl (lv_at hl 0 rfl) ?_
  refine lv_aload_n hx hb d_Tokens_find_3 rfl (lv_at hl 1 rfl) ?_
  refine va_tlen (v := (nI n_y0)) hx hb hT_a_y0 hS rfl d_Tokens_find_4 ?_
  refine lv_icmp_ge (tgt := 24) hx hb d_Tokens_find_5 (by decide) (fun h1 => ?_) (fun h1 => ?_)
  · have h1 : n_y0 ≤ k3 := (nI_leI (a := n_y0) (b := k3) (by omega) (by omega)).mp h1
    refine lv_iconst (v := (-1)) hx hb d_Tokens_find_24 (by decide) ?_
    have hP9 := hP.sub (ws' := []) [] rfl
    have hD9 := hD.sub (ws' := []) [] (by decide) rfl
    exact W.iret (v := (-1)) hx hb hr (fun t ht hW => ⟨⟨(-1), (), rfl, (by exact (ix_end (by omega)).symm.trans iE), by rw [ht]; exact hP9, va_K.moved hW.alike hK, hD9⟩, hS.F ht⟩) hS.2.2 d_Tokens_find_25
  · have h1 : ¬ n_y0 ≤ k3 := fun q => h1 ((nI_leI (a := n_y0) (b := k3) (by omega) (by omega)).mpr q)
    refine lv_aload_n hx hb d_Tokens_find_8 rfl (lv_at hl 1 rfl) ?_
    refine lv_iload_n hx hb d_Tokens_find_9 rfl (lv_at hl 0 rfl) ?_
    refine va_tl (v := .long (f_y0 k3)) hx hb hT_a_y0 hS (vp_in_nI (by omega) (by omega)) (congrArg (fun z => Value.long (f_y0 z)) (nI_clamp (by omega))) d_Tokens_find_10 ?_
    refine lv_lload_n hx hb d_Tokens_find_11 rfl (lv_at hl 2 rfl) ?_
    refine W.lcmp hx hb d_Tokens_find_12 ?_
    refine lv_if_ne (tgt := 18) hx hb d_Tokens_find_13 (by decide) (fun h3 => ?_) (fun h3 => ?_)
    · have e13 := h3
      refine lv_iinc (k := 0) (v := (nI (k3 + 1))) hx hb d_Tokens_find_18 hl rfl (nI_1 k3) (by decide) rfl (fun ls hl => ?_)
      have hl : lv_has ls 4 [(3, .int (nI (k3 + 1))), (0, .ref a_y0), (1, .long y1)] := hl
      refine lv_goto (tgt := 2) hx hb d_Tokens_find_21 (by decide) ?_
      have hP9 := hP.sub (ws' := []) [] rfl
      have hD9 := hD.sub (ws' := []) [] (by decide) rfl
      exact ih2 ((k3 + 1)) (by show 600 - ((k3 + 1)) < 600 - k3; omega) _ _ _ ⟨by show ((k3 + 1)) ≤ 600; first | omega | assumption | exact Or.inl rfl | exact Or.inr rfl | decide, by show ((k3 + 1)) ≤ n_y0; first | omega | assumption | exact Or.inl rfl | exact Or.inr rfl | decide, by show ixE f_y0 y1 n_y0 ((k3 + 1)) = ixE f_y0 y1 n_y0 0; exact (ix_go (by omega) (fun q9 => e13 ((lg_cmp_eq _ _).mpr q9))).symm.trans iE, hl, hP9, hD9, hS⟩
    · have e13 := h3
      refine lv_iload_n hx hb d_Tokens_find_16 rfl (lv_at hl 0 rfl) ?_
      have hP9 := hP.sub (ws' := []) [] rfl
      have hD9 := hD.sub (ws' := []) [] (by decide) rfl
      exact W.iret (v := (nI k3)) hx hb hr (fun t ht hW => ⟨⟨(nI k3), (), rfl, (by exact (ix_at (by omega) ((lg_cmp_eq _ _).mp e13)).symm.trans iE), by rw [ht]; exact hP9, va_K.moved hW.alike hK, hD9⟩, hS.F ht⟩) hS.2.2 d_Tokens_find_17
set_option maxHeartbeats 4000000 in
set_option maxRecDepth 100000 in
theorem s_Tokens_wordAt6 (l : Launch) (dC : Nat → ClassId) (dI : Nat → Nat → Nat) (sz : Nat) (cap : Nat) (a_t : Nat) (a_kinds : Nat) (f_kinds : Nat → Int32) (a_values : Nat) (f_values : Nat → Int64) (n_size : Nat) (y0 : Int32) (ka_kinds : ClassId) (ka_values : ClassId) (bcap : cap ≤ 600) (b_size : n_size ≤ cap) : Met l y_Tokens_wordAt w_Tokens_wordAt ({ frames := 1, cells := 0, slots := 0, locals := 23 }) (va_Pc [.ref a_t, .int y0] (fun U => U.heap.size = sz ∧ va_P (dC, dI) vcl [(a_t, .inr (11, [.ref a_kinds, .ref a_values, .int (nI n_size)])), (a_kinds, .inl (ka_kinds, cap, .inl f_kinds)), (a_values, .inl (ka_values, cap, .inr (.inl f_values)))] U.heap ∧ va_K (dC, dI) vcl [(ka_kinds, .int), (ka_values, .long)] U ∧ va_D (fun _ => True) [(a_t, .inr (11, [.ref a_kinds, .ref a_values, .int (nI n_size)])), (a_kinds, .inl (ka_kinds, cap, .inl f_kinds)), (a_values, .inl (ka_values, cap, .inr (.inl f_values)))] ∧ cx_E (va_A [(a_t, .inr (11, [.ref a_kinds, .ref a_values, .int (nI n_size)])), (a_kinds, .inl (ka_kinds, cap, .inl f_kinds)), (a_values, .inl (ka_values, cap, .inr (.inl f_values)))] sz) U U.heap)) (va_Qi (fun (r : Int32) (_ : Unit) => r = wdI f_kinds f_values n_size y0) (fun _ t => va_P (dC, dI) vcl [(a_t, .inr (11, [.ref a_kinds, .ref a_values, .int (nI n_size)])), (a_kinds, .inl (ka_kinds, cap, .inl f_kinds)), (a_values, .inl (ka_values, cap, .inr (.inl f_values)))] t.heap ∧ va_K (dC, dI) vcl [(ka_kinds, .int), (ka_values, .long)] t ∧ va_D (va_A [(a_t, .inr (11, [.ref a_kinds, .ref a_values, .int (nI n_size)])), (a_kinds, .inl (ka_kinds, cap, .inl f_kinds)), (a_values, .inl (ka_values, cap, .inr (.inl f_values)))] sz) [(a_t, .inr (11, [.ref a_kinds, .ref a_values, .int (nI n_size)])), (a_kinds, .inl (ka_kinds, cap, .inl f_kinds)), (a_values, .inl (ka_values, cap, .inr (.inl f_values)))]) (va_A [(a_t, .inr (11, [.ref a_kinds, .ref a_values, .int (nI n_size)])), (a_kinds, .inl (ka_kinds, cap, .inl f_kinds)), (a_values, .inl (ka_values, cap, .inr (.inl f_values)))] sz)) 0 0 (va_A [(a_t, .inr (11, [.ref a_kinds, .ref a_values, .int (nI n_size)])), (a_kinds, .inl (ka_kinds, cap, .inl f_kinds)), (a_values, .inl (ka_values, cap, .inr (.inl f_values)))] sz) := by
  refine Met.ofW (cc := b_Tokens_wordAt) (maxL := 2) (ret := (some .int)) (by decide) rfl ?_
  intro p e s m args below meth c s₁ B hml hv
  obtain ⟨rfl, hsz, hP, hK, hD0, hE⟩ := hv
  have hx := B.exec
  have hb := B.bytes
  have hr := B.returns
  have hts := atoms_spec (ws := w_Tokens_wordAt) B.pre
  have hz : ∀ w ∈ wz, w.before _ s = true := fun w h => hts w (List.mem_cons_of_mem _ h)
  have hown : s.vm.findClass R_Tokens = some m.cls := findClass_of_methodNamed B.named
  have hlocks := B.notSynchronized
  subst hsz
  have hD := hD0.self (sz := s.heap.size)
  generalize hAe : va_A [(a_t, .inr (11, [.ref a_kinds, .ref a_values, .int (nI n_size)])), (a_kinds, .inl (ka_kinds, cap, .inl f_kinds)), (a_values, .inl (ka_values, cap, .inr (.inl f_values)))] s.heap.size = A at hD hE ⊢
  have hA : ∀ q : Nat, s.heap.size ≤ q → A q := fun q h => by rw [← hAe]; exact Or.inr h
  have hS : va_S A s.heap s.heap [] := va_S.rf
  have hP : va_P (dC, dI) vcl [(a_t, .inr (11, [.ref a_kinds, .ref a_values, .int (nI n_size)])), (a_kinds, .inl (ka_kinds, cap, .inl f_kinds)), (a_values, .inl (ka_values, cap, .inr (.inl f_values)))] s.heap := hP
  have hl := lv_entry ([.ref a_t, .int y0]) (n := 2) (Nat.le_of_ble_eq_true rfl)
  rw [lg_entry_eq]
  generalize (lg_sl ([.ref a_t, .int y0]) ++ List.replicate (2 - (lg_sl ([.ref a_t, .int y0])).length) Slot.unset).toArray = ls at hl ⊢
  have hl : lv_has ls 2 [(0, .ref a_t), (1, .int y0)] := hl
  refine lv_aload_n hx hb d_Tokens_wordAt_0 rfl (lv_at hl 0 rfl) ?_
  refine lv_iload_n hx hb d_Tokens_wordAt_1 rfl (lv_at hl 1 rfl) ?_
  have hPc := hP.sub (ws' := [(a_t, .inr (11, [.ref a_kinds, .ref a_values, .int (nI n_size)]))]) [0] rfl
  have hDc := hD.sub (ws' := [(a_t, .inr (11, [.ref a_kinds, .ref a_values, .int (nI n_size)]))]) [0] (by decide) rfl
  have hKc := hK.sub (tys' := []) [] rfl
  have hFc := va_free (wc := [(a_t, .inr (11, [.ref a_kinds, .ref a_values, .int (nI n_size)]))]) hD hS hA [0] rfl
  refine va_calli (va_runV (As := [.int y0]) (rest := []) ⟨hx, hb, hml, hown, hz⟩ (s_Tokens_has6 l dC dI s.heap.size a_t a_kinds a_values n_size y0) (cwV 1 hz (zV zm_37 zm_38 zm_39 zm_35 zm_40) rfl rfl rfl (by decide +kernel) ⟨Nat.le_of_ble_eq_true rfl, Nat.le_of_ble_eq_true rfl⟩) ⟨fun a U g mk q => by obtain ⟨q0, q1, qP, qK, qD⟩ := q; exact ⟨q0, q1, qP, va_K.moved (u := U) (U := U.calling g mk a) (Vm.Alike.refl U.vm) qK, qD⟩, va_recv (q := (R_Tokens, F_Tokens, 3)) (q0 := 0) (ci := 11) hK hP rfl rfl, fun U hU hW => ⟨rfl, by rw [hU], by rw [hU]; exact hPc, va_K.moved hW.alike hKc, hDc.weaken (fun _ _ _ _ => trivial)⟩⟩ rfl rfl hl.1 rfl (lv_room (Nat.le_of_ble_eq_true rfl)) d_Tokens_wordAt_2 ⟨Nat.zero_le _, Nat.zero_le _⟩) hS (fun q _ h => hFc q h) hFc (fun r u t H1 locs ht hvm hw_r hB hz1 hk1 hS => ?_)
  obtain ⟨hP1, hK1, hD1⟩ := hB
  obtain ⟨hb_r, he_r⟩ := hw_r
  subst r
  rw [ht] at hP1
  obtain ⟨hP, hD⟩ := va_join (wr := [(a_kinds, .inl (ka_kinds, cap, .inl f_kinds)), (a_values, .inl (ka_values, cap, .inr (.inl f_values)))]) (w1 := [(a_t, .inr (11, [.ref a_kinds, .ref a_values, .int (nI n_size)]))]) hP hD [0] [1, 2] rfl rfl (by decide) (by decide) hk1 hFc hP1 hD1
  generalize H1 = H at hP hS ⊢
  have hP : va_P (dC, dI) vcl [(a_kinds, .inl (ka_kinds, cap, .inl f_kinds)), (a_values, .inl (ka_values, cap, .inr (.inl f_values))), (a_t, .inr (11, [.ref a_kinds, .ref a_values, .int (nI n_size)]))] H := hP
  have hD : va_D A [(a_kinds, .inl (ka_kinds, cap, .inl f_kinds)), (a_values, .inl (ka_values, cap, .inr (.inl f_values))), (a_t, .inr (11, [.ref a_kinds, .ref a_values, .int (nI n_size)]))] := hD
  refine lv_if_eq (tgt := 32) hx hb d_Tokens_wordAt_5 (by decide) (fun h1 => ?_) (fun h1 => ?_)
  · have e5 := h1
    refine lv_iconst (v := (-1)) hx hb d_Tokens_wordAt_32 (by decide) ?_
    have hP9 := hP.sub (ws' := [(a_t, .inr (11, [.ref a_kinds, .ref a_values, .int (nI n_size)])), (a_kinds, .inl (ka_kinds, cap, .inl f_kinds)), (a_values, .inl (ka_values, cap, .inr (.inl f_values)))]) [2, 0, 1] rfl
    have hD9 := hD.sub (ws' := [(a_t, .inr (11, [.ref a_kinds, .ref a_values, .int (nI n_size)])), (a_kinds, .inl (ka_kinds, cap, .inl f_kinds)), (a_values, .inl (ka_values, cap, .inr (.inl f_values)))]) [2, 0, 1] (by decide) rfl
    exact W.iret (v := (-1)) hx hb hr (fun t ht hW => ⟨⟨(-1), (), rfl, (by exact wI_0 e5), by rw [ht]; exact hP9, va_K.moved hW.alike hK, hD9⟩, hS.F ht⟩) hS.2.2 d_Tokens_wordAt_33
  · have e5 := h1
    refine lv_aload_n hx hb d_Tokens_wordAt_8 rfl (lv_at hl 0 rfl) ?_
    refine va_get (D := (dC, dI)) (ci := 11) (v := .ref a_kinds) (C := R_Tokens) (T := F_Tokens) (N := 3) hx hb hz zu_Tokens hown hK hP 2 rfl rfl 0 (by decide) (hz (.fieldLink R_Tokens 9 "LayoutFront$Tokens" "kinds" "[I") zm_28) (fun _ h9 => h9) rfl d_Tokens_wordAt_9 ?_
    refine lv_iload_n hx hb d_Tokens_wordAt_12 rfl (lv_at hl 1 rfl) ?_
    refine va_iald hx hb hK hP 0 0 rfl rfl (hs_in e5 (by omega) (by omega)) d_Tokens_wordAt_13 ?_
    refine lv_topi (fun x2 e_x2 => ?_)
    refine lv_if_ne (tgt := 32) hx hb d_Tokens_wordAt_14 (by decide) (fun h3 => ?_) (fun h3 => ?_)
    · have e14 := h3
      refine lv_iconst (v := (-1)) hx hb d_Tokens_wordAt_32 (by decide) ?_
      have hP9 := hP.sub (ws' := [(a_t, .inr (11, [.ref a_kinds, .ref a_values, .int (nI n_size)])), (a_kinds, .inl (ka_kinds, cap, .inl f_kinds)), (a_values, .inl (ka_values, cap, .inr (.inl f_values)))]) [2, 0, 1] rfl
      have hD9 := hD.sub (ws' := [(a_t, .inr (11, [.ref a_kinds, .ref a_values, .int (nI n_size)])), (a_kinds, .inl (ka_kinds, cap, .inl f_kinds)), (a_values, .inl (ka_values, cap, .inr (.inl f_values)))]) [2, 0, 1] (by decide) rfl
      exact W.iret (v := (-1)) hx hb hr (fun t ht hW => ⟨⟨(-1), (), rfl, (by exact wI_1 e5 e14 (by assumption)), by rw [ht]; exact hP9, va_K.moved hW.alike hK, hD9⟩, hS.F ht⟩) hS.2.2 d_Tokens_wordAt_33
    · have e14 := h3
      obtain ⟨aW, hN_aW, hZ_aW, hT_aW⟩ := hE.words
      refine va_getsN hx hb hZ_aW hS hown (va_Nw.use rfl hN_aW) (fun _ h9 => h9) d_Tokens_wordAt_17 ?_
      refine lv_aload_n hx hb d_Tokens_wordAt_20 rfl (lv_at hl 0 rfl) ?_
      refine va_get (D := (dC, dI)) (ci := 11) (v := .ref a_values) (C := R_Tokens) (T := F_Tokens) (N := 3) hx hb hz zu_Tokens hown hK hP 2 rfl rfl 1 (by decide) (hz (.fieldLink R_Tokens 15 "LayoutFront$Tokens" "values" "[J") zm_29) (fun _ h9 => h9) rfl d_Tokens_wordAt_21 ?_
      refine lv_iload_n hx hb d_Tokens_wordAt_24 rfl (lv_at hl 1 rfl) ?_
      refine va_lald hx hb hK hP 1 1 rfl rfl (hs_in e5 (by omega) (by omega)) d_Tokens_wordAt_25 ?_
      refine lv_topl (fun x4 e_x4 => ?_)
      have hPc := hP.sub (ws' := []) [] rfl
      have hDc := hD.sub (ws' := []) [] (by decide) rfl
      have hKc := hK.sub (tys' := []) [] rfl
      have hFc := va_free (wc := []) hD hS hA [] rfl
      refine va_calli (va_runS (As := [.ref aW, .long x4]) (rest := []) ⟨hx, hb, hml, hown, hz⟩ (s_Tokens_findC6 l dC dI H.size aW 9 wWd x4 (by first | omega | assumption | exact Or.inl rfl | exact Or.inr rfl | decide)) (cwS 2 hz (zS zm_45 zm_46 zm_35 zm_47) rfl rfl rfl (by decide +kernel) ⟨Nat.le_of_ble_eq_true rfl, Nat.le_of_ble_eq_true rfl⟩) ⟨fun a U g mk q => by obtain ⟨q0, q1, qP, qK, qD, qx0⟩ := q; exact ⟨q0, q1, qP, va_K.moved (u := U) (U := U.calling g mk a) (Vm.Alike.refl U.vm) qK, qD, cx_T.same (u := U) (U := U.calling g mk a) rfl qx0⟩, fun U hU hW => ⟨rfl, by rw [hU], by rw [hU]; exact hPc, va_K.moved hW.alike hKc, hDc.weaken (fun _ _ _ _ => trivial), by rw [hU]; exact cx_T.to hW hS hFc hT_aW⟩⟩ rfl rfl hl.1 rfl (lv_room (Nat.le_of_ble_eq_true rfl)) d_Tokens_wordAt_26 ⟨Nat.zero_le _, Nat.zero_le _⟩) hS (fun q _ h => hFc q h) hFc (fun r u t H1 locs ht hvm hw hB hz1 hk1 hS => ?_)
      obtain ⟨hP1, hK1, hD1⟩ := hB
      subst r
      rw [ht] at hP1
      obtain ⟨hP, hD⟩ := va_join (wr := [(a_kinds, .inl (ka_kinds, cap, .inl f_kinds)), (a_values, .inl (ka_values, cap, .inr (.inl f_values))), (a_t, .inr (11, [.ref a_kinds, .ref a_values, .int (nI n_size)]))]) (w1 := []) hP hD [] [0, 1, 2] rfl rfl (by decide) (by decide) hk1 hFc hP1 hD1
      generalize H1 = H at hP hS ⊢
      have hP : va_P (dC, dI) vcl [(a_kinds, .inl (ka_kinds, cap, .inl f_kinds)), (a_values, .inl (ka_values, cap, .inr (.inl f_values))), (a_t, .inr (11, [.ref a_kinds, .ref a_values, .int (nI n_size)]))] H := hP
      have hD : va_D A [(a_kinds, .inl (ka_kinds, cap, .inl f_kinds)), (a_values, .inl (ka_values, cap, .inr (.inl f_values))), (a_t, .inr (11, [.ref a_kinds, .ref a_values, .int (nI n_size)]))] := hD
      refine lv_goto (tgt := 33) hx hb d_Tokens_wordAt_29 (by decide) ?_
      have hP9 := hP.sub (ws' := [(a_t, .inr (11, [.ref a_kinds, .ref a_values, .int (nI n_size)])), (a_kinds, .inl (ka_kinds, cap, .inl f_kinds)), (a_values, .inl (ka_values, cap, .inr (.inl f_values)))]) [2, 0, 1] rfl
      have hD9 := hD.sub (ws' := [(a_t, .inr (11, [.ref a_kinds, .ref a_values, .int (nI n_size)])), (a_kinds, .inl (ka_kinds, cap, .inl f_kinds)), (a_values, .inl (ka_values, cap, .inr (.inl f_values)))]) [2, 0, 1] (by decide) rfl
      exact W.iret (v := (ixE wWd x4 9 0)) hx hb hr (fun t ht hW => ⟨⟨(ixE wWd x4 9 0), (), rfl, (by exact wI_2 e5 e14 (by assumption) (by assumption)), by rw [ht]; exact hP9, va_K.moved hW.alike hK, hD9⟩, hS.F ht⟩) hS.2.2 d_Tokens_wordAt_33
set_option maxHeartbeats 4000000 in
set_option maxRecDepth 100000 in
theorem s_Blocks_beginsBlock6 (l : Launch) (dC : Nat → ClassId) (dI : Nat → Nat → Nat) (sz : Nat) (a_y0 : Nat) (a_y0_kinds : Nat) (f_y0_kinds : Nat → Int32) (a_y0_values : Nat) (f_y0_values : Nat → Int64) (n_y0_size : Nat) (y1 : Nat) (ka_y0_kinds : ClassId) (ka_y0_values : ClassId) (b_y0_size : n_y0_size ≤ 90) (by1 : y1 ≤ 90) (hp0 : y1 ≤ n_y0_size) : Met l y_Blocks_beginsBlock w_Blocks_beginsBlock ({ frames := 2, cells := 0, slots := 0, locals := 44 }) (va_Pc [.ref a_y0, .int (nI y1)] (fun U => U.heap.size = sz ∧ va_P (dC, dI) vcl [(a_y0, .inr (11, [.ref a_y0_kinds, .ref a_y0_values, .int (nI n_y0_size)])), (a_y0_kinds, .inl (ka_y0_kinds, 90, .inl f_y0_kinds)), (a_y0_values, .inl (ka_y0_values, 90, .inr (.inl f_y0_values)))] U.heap ∧ va_K (dC, dI) vcl [(ka_y0_kinds, .int), (ka_y0_values, .long)] U ∧ va_D (fun _ => True) [(a_y0, .inr (11, [.ref a_y0_kinds, .ref a_y0_values, .int (nI n_y0_size)])), (a_y0_kinds, .inl (ka_y0_kinds, 90, .inl f_y0_kinds)), (a_y0_values, .inl (ka_y0_values, 90, .inr (.inl f_y0_values)))] ∧ cx_E (va_A [(a_y0, .inr (11, [.ref a_y0_kinds, .ref a_y0_values, .int (nI n_y0_size)])), (a_y0_kinds, .inl (ka_y0_kinds, 90, .inl f_y0_kinds)), (a_y0_values, .inl (ka_y0_values, 90, .inr (.inl f_y0_values)))] sz) U U.heap)) (va_Qi (fun (r : Int32) (_ : Unit) => (r = 0 ∨ r = 1) ∧ (r = b01 (bgB f_y0_kinds f_y0_values n_y0_size y1))) (fun _ t => va_P (dC, dI) vcl [(a_y0, .inr (11, [.ref a_y0_kinds, .ref a_y0_values, .int (nI n_y0_size)])), (a_y0_kinds, .inl (ka_y0_kinds, 90, .inl f_y0_kinds)), (a_y0_values, .inl (ka_y0_values, 90, .inr (.inl f_y0_values)))] t.heap ∧ va_K (dC, dI) vcl [(ka_y0_kinds, .int), (ka_y0_values, .long)] t ∧ va_D (va_A [(a_y0, .inr (11, [.ref a_y0_kinds, .ref a_y0_values, .int (nI n_y0_size)])), (a_y0_kinds, .inl (ka_y0_kinds, 90, .inl f_y0_kinds)), (a_y0_values, .inl (ka_y0_values, 90, .inr (.inl f_y0_values)))] sz) [(a_y0, .inr (11, [.ref a_y0_kinds, .ref a_y0_values, .int (nI n_y0_size)])), (a_y0_kinds, .inl (ka_y0_kinds, 90, .inl f_y0_kinds)), (a_y0_values, .inl (ka_y0_values, 90, .inr (.inl f_y0_values)))]) (va_A [(a_y0, .inr (11, [.ref a_y0_kinds, .ref a_y0_values, .int (nI n_y0_size)])), (a_y0_kinds, .inl (ka_y0_kinds, 90, .inl f_y0_kinds)), (a_y0_values, .inl (ka_y0_values, 90, .inr (.inl f_y0_values)))] sz)) 0 0 (va_A [(a_y0, .inr (11, [.ref a_y0_kinds, .ref a_y0_values, .int (nI n_y0_size)])), (a_y0_kinds, .inl (ka_y0_kinds, 90, .inl f_y0_kinds)), (a_y0_values, .inl (ka_y0_values, 90, .inr (.inl f_y0_values)))] sz) := by
  refine Met.ofW (cc := b_Blocks_beginsBlock) (maxL := 2) (ret := (some .boolean)) (by decide) rfl ?_
  intro p e s m args below meth c s₁ B hml hv
  obtain ⟨rfl, hsz, hP, hK, hD0, hE⟩ := hv
  have hx := B.exec
  have hb := B.bytes
  have hr := B.returns
  have hts := atoms_spec (ws := w_Blocks_beginsBlock) B.pre
  have hz : ∀ w ∈ wz, w.before _ s = true := fun w h => hts w (List.mem_cons_of_mem _ h)
  have hown : s.vm.findClass R_Blocks = some m.cls := findClass_of_methodNamed B.named
  have hlocks := B.notSynchronized
  subst hsz
  have hD := hD0.self (sz := s.heap.size)
  generalize hAe : va_A [(a_y0, .inr (11, [.ref a_y0_kinds, .ref a_y0_values, .int (nI n_y0_size)])), (a_y0_kinds, .inl (ka_y0_kinds, 90, .inl f_y0_kinds)), (a_y0_values, .inl (ka_y0_values, 90, .inr (.inl f_y0_values)))] s.heap.size = A at hD hE ⊢
  have hA : ∀ q : Nat, s.heap.size ≤ q → A q := fun q h => by rw [← hAe]; exact Or.inr h
  have hS : va_S A s.heap s.heap [] := va_S.rf
  have hP : va_P (dC, dI) vcl [(a_y0, .inr (11, [.ref a_y0_kinds, .ref a_y0_values, .int (nI n_y0_size)])), (a_y0_kinds, .inl (ka_y0_kinds, 90, .inl f_y0_kinds)), (a_y0_values, .inl (ka_y0_values, 90, .inr (.inl f_y0_values)))] s.heap := hP
  have hl := lv_entry ([.ref a_y0, .int (nI y1)]) (n := 2) (Nat.le_of_ble_eq_true rfl)
  rw [lg_entry_eq]
  generalize (lg_sl ([.ref a_y0, .int (nI y1)]) ++ List.replicate (2 - (lg_sl ([.ref a_y0, .int (nI y1)])).length) Slot.unset).toArray = ls at hl ⊢
  have hl : lv_has ls 2 [(0, .ref a_y0), (1, .int (nI y1))] := hl
  refine lv_aload_n hx hb d_Blocks_beginsBlock_0 rfl (lv_at hl 0 rfl) ?_
  refine lv_iload_n hx hb d_Blocks_beginsBlock_1 rfl (lv_at hl 1 rfl) ?_
  refine lv_bipush (v := 123) hx hb d_Blocks_beginsBlock_2 (by decide) ?_
  have hPc := hP.sub (ws' := [(a_y0, .inr (11, [.ref a_y0_kinds, .ref a_y0_values, .int (nI n_y0_size)])), (a_y0_kinds, .inl (ka_y0_kinds, 90, .inl f_y0_kinds)), (a_y0_values, .inl (ka_y0_values, 90, .inr (.inl f_y0_values)))]) [0, 1, 2] rfl
  have hDc := hD.sub (ws' := [(a_y0, .inr (11, [.ref a_y0_kinds, .ref a_y0_values, .int (nI n_y0_size)])), (a_y0_kinds, .inl (ka_y0_kinds, 90, .inl f_y0_kinds)), (a_y0_values, .inl (ka_y0_values, 90, .inr (.inl f_y0_values)))]) [0, 1, 2] (by decide) rfl
  have hKc := hK.sub (tys' := [(ka_y0_kinds, .int), (ka_y0_values, .long)]) [0, 1] rfl
  have hFc := va_free (wc := [(a_y0, .inr (11, [.ref a_y0_kinds, .ref a_y0_values, .int (nI n_y0_size)])), (a_y0_kinds, .inl (ka_y0_kinds, 90, .inl f_y0_kinds)), (a_y0_values, .inl (ka_y0_values, 90, .inr (.inl f_y0_values)))]) hD hS hA [0, 1, 2] rfl
  refine va_calli (va_runV (As := [.int (nI y1), .int 123]) (rest := []) ⟨hx, hb, hml, hown, hz⟩ (s_Tokens_isSign6 l dC dI s.heap.size 90 a_y0 a_y0_kinds f_y0_kinds a_y0_values f_y0_values n_y0_size y1 123 ka_y0_kinds ka_y0_values (by first | omega | assumption | exact Or.inl rfl | exact Or.inr rfl | decide) (by first | omega | assumption | exact Or.inl rfl | exact Or.inr rfl | decide) (by first | omega | assumption | exact Or.inl rfl | exact Or.inr rfl | decide)) (cwV 2 hz (zV zm_263 zm_42 zm_43 zm_35 zm_44) rfl rfl rfl (by decide +kernel) ⟨Nat.le_of_ble_eq_true rfl, Nat.le_of_ble_eq_true rfl⟩) ⟨fun a U g mk q => by obtain ⟨q0, q1, qP, qK, qD⟩ := q; exact ⟨q0, q1, qP, va_K.moved (u := U) (U := U.calling g mk a) (Vm.Alike.refl U.vm) qK, qD⟩, va_recv (q := (R_Tokens, F_Tokens, 3)) (q0 := 0) (ci := 11) hK hP rfl rfl, fun U hU hW => ⟨rfl, by rw [hU], by rw [hU]; exact hPc, va_K.moved hW.alike hKc, hDc.weaken (fun _ _ _ _ => trivial)⟩⟩ rfl rfl hl.1 rfl (lv_room (Nat.le_of_ble_eq_true rfl)) d_Blocks_beginsBlock_4 ⟨Nat.zero_le _, Nat.zero_le _⟩) hS (fun q _ h => hFc q h) hFc (fun r u t H1 locs ht hvm hw_r hB hz1 hk1 hS => ?_)
  obtain ⟨hP1, hK1, hD1⟩ := hB
  obtain ⟨hb_r, he_r⟩ := hw_r
  subst r
  rw [ht] at hP1
  obtain ⟨hP, hD⟩ := va_join (wr := []) (w1 := [(a_y0, .inr (11, [.ref a_y0_kinds, .ref a_y0_values, .int (nI n_y0_size)])), (a_y0_kinds, .inl (ka_y0_kinds, 90, .inl f_y0_kinds)), (a_y0_values, .inl (ka_y0_values, 90, .inr (.inl f_y0_values)))]) hP hD [0, 1, 2] [] rfl rfl (by decide) (by decide) hk1 hFc hP1 hD1
  generalize H1 = H at hP hS ⊢
  have hP : va_P (dC, dI) vcl [(a_y0, .inr (11, [.ref a_y0_kinds, .ref a_y0_values, .int (nI n_y0_size)])), (a_y0_kinds, .inl (ka_y0_kinds, 90, .inl f_y0_kinds)), (a_y0_values, .inl (ka_y0_values, 90, .inr (.inl f_y0_values)))] H := hP
  have hD : va_D A [(a_y0, .inr (11, [.ref a_y0_kinds, .ref a_y0_values, .int (nI n_y0_size)])), (a_y0_kinds, .inl (ka_y0_kinds, 90, .inl f_y0_kinds)), (a_y0_values, .inl (ka_y0_values, 90, .inr (.inl f_y0_values)))] := hD
  refine lv_if_eq (tgt := 12) hx hb d_Blocks_beginsBlock_7 (by decide) (fun h1 => ?_) (fun h1 => ?_)
  · have e7 := h1
    refine lv_aload_n hx hb d_Blocks_beginsBlock_12 rfl (lv_at hl 0 rfl) ?_
    refine lv_iload_n hx hb d_Blocks_beginsBlock_13 rfl (lv_at hl 1 rfl) ?_
    refine lv_iconst (v := 1) hx hb d_Blocks_beginsBlock_14 (by decide) ?_
    refine xr_isub (v := (nI y1 - 1)) hx hb d_Blocks_beginsBlock_15 rfl ?_
    have hPc := hP.sub (ws' := [(a_y0, .inr (11, [.ref a_y0_kinds, .ref a_y0_values, .int (nI n_y0_size)])), (a_y0_kinds, .inl (ka_y0_kinds, 90, .inl f_y0_kinds)), (a_y0_values, .inl (ka_y0_values, 90, .inr (.inl f_y0_values)))]) [0, 1, 2] rfl
    have hDc := hD.sub (ws' := [(a_y0, .inr (11, [.ref a_y0_kinds, .ref a_y0_values, .int (nI n_y0_size)])), (a_y0_kinds, .inl (ka_y0_kinds, 90, .inl f_y0_kinds)), (a_y0_values, .inl (ka_y0_values, 90, .inr (.inl f_y0_values)))]) [0, 1, 2] (by decide) rfl
    have hKc := hK.sub (tys' := [(ka_y0_kinds, .int), (ka_y0_values, .long)]) [0, 1] rfl
    have hFc := va_free (wc := [(a_y0, .inr (11, [.ref a_y0_kinds, .ref a_y0_values, .int (nI n_y0_size)])), (a_y0_kinds, .inl (ka_y0_kinds, 90, .inl f_y0_kinds)), (a_y0_values, .inl (ka_y0_values, 90, .inr (.inl f_y0_values)))]) hD hS hA [0, 1, 2] rfl
    refine va_calli (va_runV (As := [.int (nI y1 - 1)]) (rest := []) ⟨hx, hb, hml, hown, hz⟩ (s_Tokens_wordAt6 l dC dI H.size 90 a_y0 a_y0_kinds f_y0_kinds a_y0_values f_y0_values n_y0_size ((nI y1 - 1)) ka_y0_kinds ka_y0_values (by first | omega | assumption | exact Or.inl rfl | exact Or.inr rfl | decide) (by first | omega | assumption | exact Or.inl rfl | exact Or.inr rfl | decide)) (cwV 1 hz (zV zm_223 zm_224 zm_225 zm_35 zm_226) rfl rfl rfl (by decide +kernel) ⟨Nat.le_of_ble_eq_true rfl, Nat.le_of_ble_eq_true rfl⟩) ⟨fun a U g mk q => by obtain ⟨q0, q1, qP, qK, qD, qx0⟩ := q; exact ⟨q0, q1, qP, va_K.moved (u := U) (U := U.calling g mk a) (Vm.Alike.refl U.vm) qK, qD, cx_E.same (u := U) (U := U.calling g mk a) rfl qx0⟩, va_recv (q := (R_Tokens, F_Tokens, 3)) (q0 := 0) (ci := 11) hK hP rfl rfl, fun U hU hW => ⟨rfl, by rw [hU], by rw [hU]; exact hPc, va_K.moved hW.alike hKc, hDc.weaken (fun _ _ _ _ => trivial), by rw [hU]; exact cx_E.to hW hS hFc hE⟩⟩ rfl rfl hl.1 rfl (lv_room (Nat.le_of_ble_eq_true rfl)) d_Blocks_beginsBlock_16 ⟨Nat.zero_le _, Nat.zero_le _⟩) hS (fun q _ h => hFc q h) hFc (fun r u t H1 locs ht hvm hw hB hz1 hk1 hS => ?_)
    obtain ⟨hP1, hK1, hD1⟩ := hB
    subst r
    rw [ht] at hP1
    obtain ⟨hP, hD⟩ := va_join (wr := []) (w1 := [(a_y0, .inr (11, [.ref a_y0_kinds, .ref a_y0_values, .int (nI n_y0_size)])), (a_y0_kinds, .inl (ka_y0_kinds, 90, .inl f_y0_kinds)), (a_y0_values, .inl (ka_y0_values, 90, .inr (.inl f_y0_values)))]) hP hD [0, 1, 2] [] rfl rfl (by decide) (by decide) hk1 hFc hP1 hD1
    generalize H1 = H at hP hS ⊢
    have hP : va_P (dC, dI) vcl [(a_y0, .inr (11, [.ref a_y0_kinds, .ref a_y0_values, .int (nI n_y0_size)])), (a_y0_kinds, .inl (ka_y0_kinds, 90, .inl f_y0_kinds)), (a_y0_values, .inl (ka_y0_values, 90, .inr (.inl f_y0_values)))] H := hP
    have hD : va_D A [(a_y0, .inr (11, [.ref a_y0_kinds, .ref a_y0_values, .int (nI n_y0_size)])), (a_y0_kinds, .inl (ka_y0_kinds, 90, .inl f_y0_kinds)), (a_y0_values, .inl (ka_y0_values, 90, .inr (.inl f_y0_values)))] := hD
    rcases Classical.em ((wdI f_y0_kinds f_y0_values n_y0_size ((nI y1 - 1))) = (0 : Int32)) with h2 | h2_0
    · refine lv_tableIn (tgt := 48) (off := 29) hx hb d_Blocks_beginsBlock_19 (by rw [h2]; decide +kernel) (by rw [h2]; decide +kernel) (by rw [h2]; decide +kernel) (by decide) ?_
      refine lv_iconst (v := 1) hx hb d_Blocks_beginsBlock_48 (by decide) ?_
      have hP9 := hP.sub (ws' := [(a_y0, .inr (11, [.ref a_y0_kinds, .ref a_y0_values, .int (nI n_y0_size)])), (a_y0_kinds, .inl (ka_y0_kinds, 90, .inl f_y0_kinds)), (a_y0_values, .inl (ka_y0_values, 90, .inr (.inl f_y0_values)))]) [0, 1, 2] rfl
      have hD9 := hD.sub (ws' := [(a_y0, .inr (11, [.ref a_y0_kinds, .ref a_y0_values, .int (nI n_y0_size)])), (a_y0_kinds, .inl (ka_y0_kinds, 90, .inl f_y0_kinds)), (a_y0_values, .inl (ka_y0_values, 90, .inr (.inl f_y0_values)))]) [0, 1, 2] (by decide) rfl
      exact W.zret (v := 1) hx hb hr (by decide +kernel) (fun t ht hW => ⟨⟨1, (), rfl, ⟨(by first | assumption | exact Or.inl rfl | exact Or.inr rfl), (by first | exact bs_1 hp0 (b01_no e7) (ba_y hp0 (by omega) (Or.inl (by assumption))) | exact bs_1 hp0 (b01_no e7) (ba_y hp0 (by omega) (Or.inr (Or.inl (by assumption)))) | exact bs_1 hp0 (b01_no e7) (ba_y hp0 (by omega) (Or.inr (Or.inr (Or.inl (by assumption))))) | exact bs_1 hp0 (b01_no e7) (ba_y hp0 (by omega) (Or.inr (Or.inr (Or.inr (by assumption))))))⟩, by rw [ht]; exact hP9, va_K.moved hW.alike hK, hD9⟩, hS.F ht⟩) hS.2.2 d_Blocks_beginsBlock_49
    rcases Classical.em ((wdI f_y0_kinds f_y0_values n_y0_size ((nI y1 - 1))) = (1 : Int32)) with h2 | h2_1
    · refine lv_tableIn (tgt := 48) (off := 29) hx hb d_Blocks_beginsBlock_19 (by rw [h2]; decide +kernel) (by rw [h2]; decide +kernel) (by rw [h2]; decide +kernel) (by decide) ?_
      refine lv_iconst (v := 1) hx hb d_Blocks_beginsBlock_48 (by decide) ?_
      have hP9 := hP.sub (ws' := [(a_y0, .inr (11, [.ref a_y0_kinds, .ref a_y0_values, .int (nI n_y0_size)])), (a_y0_kinds, .inl (ka_y0_kinds, 90, .inl f_y0_kinds)), (a_y0_values, .inl (ka_y0_values, 90, .inr (.inl f_y0_values)))]) [0, 1, 2] rfl
      have hD9 := hD.sub (ws' := [(a_y0, .inr (11, [.ref a_y0_kinds, .ref a_y0_values, .int (nI n_y0_size)])), (a_y0_kinds, .inl (ka_y0_kinds, 90, .inl f_y0_kinds)), (a_y0_values, .inl (ka_y0_values, 90, .inr (.inl f_y0_values)))]) [0, 1, 2] (by decide) rfl
      exact W.zret (v := 1) hx hb hr (by decide +kernel) (fun t ht hW => ⟨⟨1, (), rfl, ⟨(by first | assumption | exact Or.inl rfl | exact Or.inr rfl), (by first | exact bs_1 hp0 (b01_no e7) (ba_y hp0 (by omega) (Or.inl (by assumption))) | exact bs_1 hp0 (b01_no e7) (ba_y hp0 (by omega) (Or.inr (Or.inl (by assumption)))) | exact bs_1 hp0 (b01_no e7) (ba_y hp0 (by omega) (Or.inr (Or.inr (Or.inl (by assumption))))) | exact bs_1 hp0 (b01_no e7) (ba_y hp0 (by omega) (Or.inr (Or.inr (Or.inr (by assumption))))))⟩, by rw [ht]; exact hP9, va_K.moved hW.alike hK, hD9⟩, hS.F ht⟩) hS.2.2 d_Blocks_beginsBlock_49
    rcases Classical.em ((wdI f_y0_kinds f_y0_values n_y0_size ((nI y1 - 1))) = (2 : Int32)) with h2 | h2_2
    · refine lv_tableIn (tgt := 48) (off := 29) hx hb d_Blocks_beginsBlock_19 (by rw [h2]; decide +kernel) (by rw [h2]; decide +kernel) (by rw [h2]; decide +kernel) (by decide) ?_
      refine lv_iconst (v := 1) hx hb d_Blocks_beginsBlock_48 (by decide) ?_
      have hP9 := hP.sub (ws' := [(a_y0, .inr (11, [.ref a_y0_kinds, .ref a_y0_values, .int (nI n_y0_size)])), (a_y0_kinds, .inl (ka_y0_kinds, 90, .inl f_y0_kinds)), (a_y0_values, .inl (ka_y0_values, 90, .inr (.inl f_y0_values)))]) [0, 1, 2] rfl
      have hD9 := hD.sub (ws' := [(a_y0, .inr (11, [.ref a_y0_kinds, .ref a_y0_values, .int (nI n_y0_size)])), (a_y0_kinds, .inl (ka_y0_kinds, 90, .inl f_y0_kinds)), (a_y0_values, .inl (ka_y0_values, 90, .inr (.inl f_y0_values)))]) [0, 1, 2] (by decide) rfl
      exact W.zret (v := 1) hx hb hr (by decide +kernel) (fun t ht hW => ⟨⟨1, (), rfl, ⟨(by first | assumption | exact Or.inl rfl | exact Or.inr rfl), (by first | exact bs_1 hp0 (b01_no e7) (ba_y hp0 (by omega) (Or.inl (by assumption))) | exact bs_1 hp0 (b01_no e7) (ba_y hp0 (by omega) (Or.inr (Or.inl (by assumption)))) | exact bs_1 hp0 (b01_no e7) (ba_y hp0 (by omega) (Or.inr (Or.inr (Or.inl (by assumption))))) | exact bs_1 hp0 (b01_no e7) (ba_y hp0 (by omega) (Or.inr (Or.inr (Or.inr (by assumption))))))⟩, by rw [ht]; exact hP9, va_K.moved hW.alike hK, hD9⟩, hS.F ht⟩) hS.2.2 d_Blocks_beginsBlock_49
    rcases Classical.em ((wdI f_y0_kinds f_y0_values n_y0_size ((nI y1 - 1))) = (3 : Int32)) with h2 | h2_3
    · refine lv_tableIn (tgt := 48) (off := 29) hx hb d_Blocks_beginsBlock_19 (by rw [h2]; decide +kernel) (by rw [h2]; decide +kernel) (by rw [h2]; decide +kernel) (by decide) ?_
      refine lv_iconst (v := 1) hx hb d_Blocks_beginsBlock_48 (by decide) ?_
      have hP9 := hP.sub (ws' := [(a_y0, .inr (11, [.ref a_y0_kinds, .ref a_y0_values, .int (nI n_y0_size)])), (a_y0_kinds, .inl (ka_y0_kinds, 90, .inl f_y0_kinds)), (a_y0_values, .inl (ka_y0_values, 90, .inr (.inl f_y0_values)))]) [0, 1, 2] rfl
      have hD9 := hD.sub (ws' := [(a_y0, .inr (11, [.ref a_y0_kinds, .ref a_y0_values, .int (nI n_y0_size)])), (a_y0_kinds, .inl (ka_y0_kinds, 90, .inl f_y0_kinds)), (a_y0_values, .inl (ka_y0_values, 90, .inr (.inl f_y0_values)))]) [0, 1, 2] (by decide) rfl
      exact W.zret (v := 1) hx hb hr (by decide +kernel) (fun t ht hW => ⟨⟨1, (), rfl, ⟨(by first | assumption | exact Or.inl rfl | exact Or.inr rfl), (by first | exact bs_1 hp0 (b01_no e7) (ba_y hp0 (by omega) (Or.inl (by assumption))) | exact bs_1 hp0 (b01_no e7) (ba_y hp0 (by omega) (Or.inr (Or.inl (by assumption)))) | exact bs_1 hp0 (b01_no e7) (ba_y hp0 (by omega) (Or.inr (Or.inr (Or.inl (by assumption))))) | exact bs_1 hp0 (b01_no e7) (ba_y hp0 (by omega) (Or.inr (Or.inr (Or.inr (by assumption))))))⟩, by rw [ht]; exact hP9, va_K.moved hW.alike hK, hD9⟩, hS.F ht⟩) hS.2.2 d_Blocks_beginsBlock_49
    have h2_0 := lv_neT (a := 0) h2_0 (by decide)
    have h2_1 := lv_neT (a := 1) h2_1 (by decide)
    have h2_2 := lv_neT (a := 2) h2_2 (by decide)
    have h2_3 := lv_neT (a := 3) h2_3 (by decide)
    refine lv_tableOut (tgt := 50) hx hb d_Blocks_beginsBlock_19 (by omega) (by decide) ?_
    refine lv_iload_n hx hb d_Blocks_beginsBlock_50 rfl (lv_at hl 1 rfl) ?_
    refine lv_if_ne (tgt := 58) hx hb d_Blocks_beginsBlock_51 (by decide) (fun h3 => ?_) (fun h3 => ?_)
    · have h3 : ¬ y1 = 0 := fun q => h3 ((nI_eq (a := y1) (b := 0) (by omega) (by omega)).mpr q)
      have e51 := h3
      refine lv_iconst (v := 0) hx hb d_Blocks_beginsBlock_58 (by decide) ?_
      have hP9 := hP.sub (ws' := [(a_y0, .inr (11, [.ref a_y0_kinds, .ref a_y0_values, .int (nI n_y0_size)])), (a_y0_kinds, .inl (ka_y0_kinds, 90, .inl f_y0_kinds)), (a_y0_values, .inl (ka_y0_values, 90, .inr (.inl f_y0_values)))]) [0, 1, 2] rfl
      have hD9 := hD.sub (ws' := [(a_y0, .inr (11, [.ref a_y0_kinds, .ref a_y0_values, .int (nI n_y0_size)])), (a_y0_kinds, .inl (ka_y0_kinds, 90, .inl f_y0_kinds)), (a_y0_values, .inl (ka_y0_values, 90, .inr (.inl f_y0_values)))]) [0, 1, 2] (by decide) rfl
      exact W.zret (v := 0) hx hb hr (by decide +kernel) (fun t ht hW => ⟨⟨0, (), rfl, ⟨(by first | assumption | exact Or.inl rfl | exact Or.inr rfl), (by exact bs_n (ba_n hp0 (by omega) (by omega) (by assumption) (by assumption) (by assumption) (by assumption)))⟩, by rw [ht]; exact hP9, va_K.moved hW.alike hK, hD9⟩, hS.F ht⟩) hS.2.2 d_Blocks_beginsBlock_59
    · have h3 : y1 = 0 := (nI_eq (a := y1) (b := 0) (by omega) (by omega)).mp h3
      have e51 := h3
      refine lv_iconst (v := 1) hx hb d_Blocks_beginsBlock_54 (by decide) ?_
      refine lv_goto (tgt := 59) hx hb d_Blocks_beginsBlock_55 (by decide) ?_
      have hP9 := hP.sub (ws' := [(a_y0, .inr (11, [.ref a_y0_kinds, .ref a_y0_values, .int (nI n_y0_size)])), (a_y0_kinds, .inl (ka_y0_kinds, 90, .inl f_y0_kinds)), (a_y0_values, .inl (ka_y0_values, 90, .inr (.inl f_y0_values)))]) [0, 1, 2] rfl
      have hD9 := hD.sub (ws' := [(a_y0, .inr (11, [.ref a_y0_kinds, .ref a_y0_values, .int (nI n_y0_size)])), (a_y0_kinds, .inl (ka_y0_kinds, 90, .inl f_y0_kinds)), (a_y0_values, .inl (ka_y0_values, 90, .inr (.inl f_y0_values)))]) [0, 1, 2] (by decide) rfl
      exact W.zret (v := 1) hx hb hr (by decide +kernel) (fun t ht hW => ⟨⟨1, (), rfl, ⟨(by first | assumption | exact Or.inl rfl | exact Or.inr rfl), (by exact bs_1 hp0 (b01_no e7) (ga_0 (by omega)))⟩, by rw [ht]; exact hP9, va_K.moved hW.alike hK, hD9⟩, hS.F ht⟩) hS.2.2 d_Blocks_beginsBlock_59
  · have e7 := h1
    refine lv_iconst (v := 0) hx hb d_Blocks_beginsBlock_10 (by decide) ?_
    have hP9 := hP.sub (ws' := [(a_y0, .inr (11, [.ref a_y0_kinds, .ref a_y0_values, .int (nI n_y0_size)])), (a_y0_kinds, .inl (ka_y0_kinds, 90, .inl f_y0_kinds)), (a_y0_values, .inl (ka_y0_values, 90, .inr (.inl f_y0_values)))]) [0, 1, 2] rfl
    have hD9 := hD.sub (ws' := [(a_y0, .inr (11, [.ref a_y0_kinds, .ref a_y0_values, .int (nI n_y0_size)])), (a_y0_kinds, .inl (ka_y0_kinds, 90, .inl f_y0_kinds)), (a_y0_values, .inl (ka_y0_values, 90, .inr (.inl f_y0_values)))]) [0, 1, 2] (by decide) rfl
    exact W.zret (v := 0) hx hb hr (by decide +kernel) (fun t ht hW => ⟨⟨0, (), rfl, ⟨(by first | assumption | exact Or.inl rfl | exact Or.inr rfl), (by exact bs_0 (b01_yes e7))⟩, by rw [ht]; exact hP9, va_K.moved hW.alike hK, hD9⟩, hS.F ht⟩) hS.2.2 d_Blocks_beginsBlock_11
