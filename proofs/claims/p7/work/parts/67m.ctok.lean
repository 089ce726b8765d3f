set_option maxHeartbeats 4000000 in
set_option maxRecDepth 100000 in
theorem s_Tokens_opensBracket7 (l : Launch) (dC : Nat → ClassId) (dI : Nat → Nat → Nat) (sz : Nat) (cap : Nat) (a_t : Nat) (a_kinds : Nat) (f_kinds : Nat → Int32) (a_values : Nat) (f_values : Nat → Int64) (n_size : Nat) (y0 : Nat) (ka_kinds : ClassId) (ka_values : ClassId) (bcap : cap ≤ 600) (b_size : n_size ≤ cap) (by0 : y0 ≤ 600) : Met l y_Tokens_opensBracket w_Tokens_opensBracket ({ frames := 1, cells := 0, slots := 0, locals := 22 }) (va_Pc [.ref a_t, .int (nI y0)] (fun U => U.heap.size = sz ∧ va_P (dC, dI) vcl [(a_t, .inr (11, [.ref a_kinds, .ref a_values, .int (nI n_size)])), (a_kinds, .inl (ka_kinds, cap, .inl f_kinds)), (a_values, .inl (ka_values, cap, .inr (.inl f_values)))] U.heap ∧ va_K (dC, dI) vcl [(ka_kinds, .int), (ka_values, .long)] U ∧ va_D (fun _ => True) [(a_t, .inr (11, [.ref a_kinds, .ref a_values, .int (nI n_size)])), (a_kinds, .inl (ka_kinds, cap, .inl f_kinds)), (a_values, .inl (ka_values, cap, .inr (.inl f_values)))])) (va_Qi (fun (r : Int32) (_ : Unit) => (r = 0 ∨ r = 1) ∧ (r = b01 (obB f_kinds f_values n_size y0))) (fun _ t => va_P (dC, dI) vcl [(a_t, .inr (11, [.ref a_kinds, .ref a_values, .int (nI n_size)])), (a_kinds, .inl (ka_kinds, cap, .inl f_kinds)), (a_values, .inl (ka_values, cap, .inr (.inl f_values)))] t.heap ∧ va_K (dC, dI) vcl [(ka_kinds, .int), (ka_values, .long)] t ∧ va_D (va_A [(a_t, .inr (11, [.ref a_kinds, .ref a_values, .int (nI n_size)])), (a_kinds, .inl (ka_kinds, cap, .inl f_kinds)), (a_values, .inl (ka_values, cap, .inr (.inl f_values)))] sz) [(a_t, .inr (11, [.ref a_kinds, .ref a_values, .int (nI n_size)])), (a_kinds, .inl (ka_kinds, cap, .inl f_kinds)), (a_values, .inl (ka_values, cap, .inr (.inl f_values)))]) (va_A [(a_t, .inr (11, [.ref a_kinds, .ref a_values, .int (nI n_size)])), (a_kinds, .inl (ka_kinds, cap, .inl f_kinds)), (a_values, .inl (ka_values, cap, .inr (.inl f_values)))] sz)) 0 0 (va_A [(a_t, .inr (11, [.ref a_kinds, .ref a_values, .int (nI n_size)])), (a_kinds, .inl (ka_kinds, cap, .inl f_kinds)), (a_values, .inl (ka_values, cap, .inr (.inl f_values)))] sz) := by
  refine Met.ofW (cc := b_Tokens_opensBracket) (maxL := 2) (ret := (some .boolean)) (by decide) rfl ?_
  intro p e s m args below meth c s₁ B hml hv
  obtain ⟨rfl, hsz, hP, hK, hD0⟩ := hv
  have hx := B.exec
  have hb := B.bytes
  have hr := B.returns
  have hts := atoms_spec (ws := w_Tokens_opensBracket) B.pre
  have hz : ∀ w ∈ wz, w.before _ s = true := fun w h => hts w (List.mem_cons_of_mem _ h)
  have hown : s.vm.findClass R_Tokens = some m.cls := findClass_of_methodNamed B.named
  have hlocks := B.notSynchronized
  subst hsz
  have hD := hD0.self (sz := s.heap.size)
  generalize hAe : va_A [(a_t, .inr (11, [.ref a_kinds, .ref a_values, .int (nI n_size)])), (a_kinds, .inl (ka_kinds, cap, .inl f_kinds)), (a_values, .inl (ka_values, cap, .inr (.inl f_values)))] s.heap.size = A at hD ⊢
  have hA : ∀ q : Nat, s.heap.size ≤ q → A q := fun q h => by rw [← hAe]; exact Or.inr h
  have hS : va_S A s.heap s.heap [] := va_S.rf
  have hP : va_P (dC, dI) vcl [(a_t, .inr (11, [.ref a_kinds, .ref a_values, .int (nI n_size)])), (a_kinds, .inl (ka_kinds, cap, .inl f_kinds)), (a_values, .inl (ka_values, cap, .inr (.inl f_values)))] s.heap := hP
  have hl := lv_entry ([.ref a_t, .int (nI y0)]) (n := 2) (Nat.le_of_ble_eq_true rfl)
  rw [lg_entry_eq]
  generalize (lg_sl ([.ref a_t, .int (nI y0)]) ++ List.replicate (2 - (lg_sl ([.ref a_t, .int (nI y0)])).length) Slot.unset).toArray = ls at hl ⊢
  have hl : lv_has ls 2 [(0, .ref a_t), (1, .int (nI y0))] := hl
  refine lv_aload_n hx hb d_Tokens_opensBracket_0 rfl (lv_at hl 0 rfl) ?_
  refine lv_iload_n hx hb d_Tokens_opensBracket_1 rfl (lv_at hl 1 rfl) ?_
  refine lv_bipush (v := 40) hx hb d_Tokens_opensBracket_2 (by decide) ?_
  have hPc := hP.sub (ws' := [(a_t, .inr (11, [.ref a_kinds, .ref a_values, .int (nI n_size)])), (a_kinds, .inl (ka_kinds, cap, .inl f_kinds)), (a_values, .inl (ka_values, cap, .inr (.inl f_values)))]) [0, 1, 2] rfl
  have hDc := hD.sub (ws' := [(a_t, .inr (11, [.ref a_kinds, .ref a_values, .int (nI n_size)])), (a_kinds, .inl (ka_kinds, cap, .inl f_kinds)), (a_values, .inl (ka_values, cap, .inr (.inl f_values)))]) [0, 1, 2] (by decide) rfl
  have hKc := hK.sub (tys' := [(ka_kinds, .int), (ka_values, .long)]) [0, 1] rfl
  have hFc := va_free (wc := [(a_t, .inr (11, [.ref a_kinds, .ref a_values, .int (nI n_size)])), (a_kinds, .inl (ka_kinds, cap, .inl f_kinds)), (a_values, .inl (ka_values, cap, .inr (.inl f_values)))]) hD hS hA [0, 1, 2] rfl
  refine va_calli (va_runV (As := [.int (nI y0), .int 40]) (rest := []) ⟨hx, hb, hml, hown, hz⟩ (s_Tokens_isSign6 l dC dI s.heap.size cap a_t a_kinds f_kinds a_values f_values n_size y0 40 ka_kinds ka_values (by first | omega | assumption | exact Or.inl rfl | exact Or.inr rfl | decide) (by first | omega | assumption | exact Or.inl rfl | exact Or.inr rfl | decide) (by first | omega | assumption | exact Or.inl rfl | exact Or.inr rfl | decide)) (cwV 2 hz (zV zm_41 zm_42 zm_43 zm_35 zm_44) rfl rfl rfl (by decide +kernel) ⟨Nat.le_of_ble_eq_true rfl, Nat.le_of_ble_eq_true rfl⟩) ⟨fun a U g mk q => by obtain ⟨q0, q1, qP, qK, qD⟩ := q; exact ⟨q0, q1, qP, va_K.moved (u := U) (U := U.calling g mk a) (Vm.Alike.refl U.vm) qK, qD⟩, va_recv (q := (R_Tokens, F_Tokens, 3)) (q0 := 0) (ci := 11) hK hP rfl rfl, fun U hU hW => ⟨rfl, by rw [hU], by rw [hU]; exact hPc, va_K.moved hW.alike hKc, hDc.weaken (fun _ _ _ _ => trivial)⟩⟩ rfl rfl hl.1 rfl (lv_room (Nat.le_of_ble_eq_true rfl)) d_Tokens_opensBracket_4 ⟨Nat.zero_le _, Nat.zero_le _⟩) hS (fun q _ h => hFc q h) hFc (fun r u t H1 locs ht hvm hw_r hB hz1 hk1 hS => ?_)
  obtain ⟨hP1, hK1, hD1⟩ := hB
  obtain ⟨hb_r, he_r⟩ := hw_r
  subst r
  rw [ht] at hP1
  obtain ⟨hP, hD⟩ := va_join (wr := []) (w1 := [(a_t, .inr (11, [.ref a_kinds, .ref a_values, .int (nI n_size)])), (a_kinds, .inl (ka_kinds, cap, .inl f_kinds)), (a_values, .inl (ka_values, cap, .inr (.inl f_values)))]) hP hD [0, 1, 2] [] rfl rfl (by decide) (by decide) hk1 hFc hP1 hD1
  generalize H1 = H at hP hS ⊢
  have hP : va_P (dC, dI) vcl [(a_t, .inr (11, [.ref a_kinds, .ref a_values, .int (nI n_size)])), (a_kinds, .inl (ka_kinds, cap, .inl f_kinds)), (a_values, .inl (ka_values, cap, .inr (.inl f_values)))] H := hP
  have hD : va_D A [(a_t, .inr (11, [.ref a_kinds, .ref a_values, .int (nI n_size)])), (a_kinds, .inl (ka_kinds, cap, .inl f_kinds)), (a_values, .inl (ka_values, cap, .inr (.inl f_values)))] := hD
  refine lv_if_ne (tgt := 20) hx hb d_Tokens_opensBracket_7 (by decide) (fun h1 => ?_) (fun h1 => ?_)
  · have e7 := h1
    refine lv_iconst (v := 1) hx hb d_Tokens_opensBracket_20 (by decide) ?_
    refine lv_goto (tgt := 25) hx hb d_Tokens_opensBracket_21 (by decide) ?_
    have hP9 := hP.sub (ws' := [(a_t, .inr (11, [.ref a_kinds, .ref a_values, .int (nI n_size)])), (a_kinds, .inl (ka_kinds, cap, .inl f_kinds)), (a_values, .inl (ka_values, cap, .inr (.inl f_values)))]) [0, 1, 2] rfl
    have hD9 := hD.sub (ws' := [(a_t, .inr (11, [.ref a_kinds, .ref a_values, .int (nI n_size)])), (a_kinds, .inl (ka_kinds, cap, .inl f_kinds)), (a_values, .inl (ka_values, cap, .inr (.inl f_values)))]) [0, 1, 2] (by decide) rfl
    exact W.zret (v := 1) hx hb hr (by decide +kernel) (fun t ht hW => ⟨⟨1, (), rfl, ⟨(by first | assumption | exact Or.inl rfl | exact Or.inr rfl), (by exact ob_a (b01_yes e7))⟩, by rw [ht]; exact hP9, va_K.moved hW.alike hK, hD9⟩, hS.F ht⟩) hS.2.2 d_Tokens_opensBracket_25
  · have e7 := h1
    refine lv_aload_n hx hb d_Tokens_opensBracket_10 rfl (lv_at hl 0 rfl) ?_
    refine lv_iload_n hx hb d_Tokens_opensBracket_11 rfl (lv_at hl 1 rfl) ?_
    refine lv_bipush (v := 91) hx hb d_Tokens_opensBracket_12 (by decide) ?_
    have hPc := hP.sub (ws' := [(a_t, .inr (11, [.ref a_kinds, .ref a_values, .int (nI n_size)])), (a_kinds, .inl (ka_kinds, cap, .inl f_kinds)), (a_values, .inl (ka_values, cap, .inr (.inl f_values)))]) [0, 1, 2] rfl
    have hDc := hD.sub (ws' := [(a_t, .inr (11, [.ref a_kinds, .ref a_values, .int (nI n_size)])), (a_kinds, .inl (ka_kinds, cap, .inl f_kinds)), (a_values, .inl (ka_values, cap, .inr (.inl f_values)))]) [0, 1, 2] (by decide) rfl
    have hKc := hK.sub (tys' := [(ka_kinds, .int), (ka_values, .long)]) [0, 1] rfl
    have hFc := va_free (wc := [(a_t, .inr (11, [.ref a_kinds, .ref a_values, .int (nI n_size)])), (a_kinds, .inl (ka_kinds, cap, .inl f_kinds)), (a_values, .inl (ka_values, cap, .inr (.inl f_values)))]) hD hS hA [0, 1, 2] rfl
    refine va_calli (va_runV (As := [.int (nI y0), .int 91]) (rest := []) ⟨hx, hb, hml, hown, hz⟩ (s_Tokens_isSign6 l dC dI H.size cap a_t a_kinds f_kinds a_values f_values n_size y0 91 ka_kinds ka_values (by first | omega | assumption | exact Or.inl rfl | exact Or.inr rfl | decide) (by first | omega | assumption | exact Or.inl rfl | exact Or.inr rfl | decide) (by first | omega | assumption | exact Or.inl rfl | exact Or.inr rfl | decide)) (cwV 2 hz (zV zm_41 zm_42 zm_43 zm_35 zm_44) rfl rfl rfl (by decide +kernel) ⟨Nat.le_of_ble_eq_true rfl, Nat.le_of_ble_eq_true rfl⟩) ⟨fun a U g mk q => by obtain ⟨q0, q1, qP, qK, qD⟩ := q; exact ⟨q0, q1, qP, va_K.moved (u := U) (U := U.calling g mk a) (Vm.Alike.refl U.vm) qK, qD⟩, va_recv (q := (R_Tokens, F_Tokens, 3)) (q0 := 0) (ci := 11) hK hP rfl rfl, fun U hU hW => ⟨rfl, by rw [hU], by rw [hU]; exact hPc, va_K.moved hW.alike hKc, hDc.weaken (fun _ _ _ _ => trivial)⟩⟩ rfl rfl hl.1 rfl (lv_room (Nat.le_of_ble_eq_true rfl)) d_Tokens_opensBracket_14 ⟨Nat.zero_le _, Nat.zero_le _⟩) hS (fun q _ h => hFc q h) hFc (fun r u t H1 locs ht hvm hw_r hB hz1 hk1 hS => ?_)
    obtain ⟨hP1, hK1, hD1⟩ := hB
    obtain ⟨hb_r, he_r⟩ := hw_r
    subst r
    rw [ht] at hP1
    obtain ⟨hP, hD⟩ := va_join (wr := []) (w1 := [(a_t, .inr (11, [.ref a_kinds, .ref a_values, .int (nI n_size)])), (a_kinds, .inl (ka_kinds, cap, .inl f_kinds)), (a_values, .inl (ka_values, cap, .inr (.inl f_values)))]) hP hD [0, 1, 2] [] rfl rfl (by decide) (by decide) hk1 hFc hP1 hD1
    generalize H1 = H at hP hS ⊢
    have hP : va_P (dC, dI) vcl [(a_t, .inr (11, [.ref a_kinds, .ref a_values, .int (nI n_size)])), (a_kinds, .inl (ka_kinds, cap, .inl f_kinds)), (a_values, .inl (ka_values, cap, .inr (.inl f_values)))] H := hP
    have hD : va_D A [(a_t, .inr (11, [.ref a_kinds, .ref a_values, .int (nI n_size)])), (a_kinds, .inl (ka_kinds, cap, .inl f_kinds)), (a_values, .inl (ka_values, cap, .inr (.inl f_values)))] := hD
    refine lv_if_eq (tgt := 24) hx hb d_Tokens_opensBracket_17 (by decide) (fun h2 => ?_) (fun h2 => ?_)
    · have e17 := h2
      refine lv_iconst (v := 0) hx hb d_Tokens_opensBracket_24 (by decide) ?_
      have hP9 := hP.sub (ws' := [(a_t, .inr (11, [.ref a_kinds, .ref a_values, .int (nI n_size)])), (a_kinds, .inl (ka_kinds, cap, .inl f_kinds)), (a_values, .inl (ka_values, cap, .inr (.inl f_values)))]) [0, 1, 2] rfl
      have hD9 := hD.sub (ws' := [(a_t, .inr (11, [.ref a_kinds, .ref a_values, .int (nI n_size)])), (a_kinds, .inl (ka_kinds, cap, .inl f_kinds)), (a_values, .inl (ka_values, cap, .inr (.inl f_values)))]) [0, 1, 2] (by decide) rfl
      exact W.zret (v := 0) hx hb hr (by decide +kernel) (fun t ht hW => ⟨⟨0, (), rfl, ⟨(by first | assumption | exact Or.inl rfl | exact Or.inr rfl), (by exact ob_n (b01_no e7) (b01_no e17))⟩, by rw [ht]; exact hP9, va_K.moved hW.alike hK, hD9⟩, hS.F ht⟩) hS.2.2 d_Tokens_opensBracket_25
    · have e17 := h2
      refine lv_iconst (v := 1) hx hb d_Tokens_opensBracket_20 (by decide) ?_
      refine lv_goto (tgt := 25) hx hb d_Tokens_opensBracket_21 (by decide) ?_
      have hP9 := hP.sub (ws' := [(a_t, .inr (11, [.ref a_kinds, .ref a_values, .int (nI n_size)])), (a_kinds, .inl (ka_kinds, cap, .inl f_kinds)), (a_values, .inl (ka_values, cap, .inr (.inl f_values)))]) [0, 1, 2] rfl
      have hD9 := hD.sub (ws' := [(a_t, .inr (11, [.ref a_kinds, .ref a_values, .int (nI n_size)])), (a_kinds, .inl (ka_kinds, cap, .inl f_kinds)), (a_values, .inl (ka_values, cap, .inr (.inl f_values)))]) [0, 1, 2] (by decide) rfl
      exact W.zret (v := 1) hx hb hr (by decide +kernel) (fun t ht hW => ⟨⟨1, (), rfl, ⟨(by first | assumption | exact Or.inl rfl | exact Or.inr rfl), (by exact ob_b (b01_yes e17))⟩, by rw [ht]; exact hP9, va_K.moved hW.alike hK, hD9⟩, hS.F ht⟩) hS.2.2 d_Tokens_opensBracket_25
set_option maxHeartbeats 4000000 in
set_option maxRecDepth 100000 in
theorem s_Tokens_closesBracket7 (l : Launch) (dC : Nat → ClassId) (dI : Nat → Nat → Nat) (sz : Nat) (cap : Nat) (a_t : Nat) (a_kinds : Nat) (f_kinds : Nat → Int32) (a_values : Nat) (f_values : Nat → Int64) (n_size : Nat) (y0 : Nat) (ka_kinds : ClassId) (ka_values : ClassId) (bcap : cap ≤ 600) (b_size : n_size ≤ cap) (by0 : y0 ≤ 600) : Met l y_Tokens_closesBracket w_Tokens_closesBracket ({ frames := 1, cells := 0, slots := 0, locals := 22 }) (va_Pc [.ref a_t, .int (nI y0)] (fun U => U.heap.size = sz ∧ va_P (dC, dI) vcl [(a_t, .inr (11, [.ref a_kinds, .ref a_values, .int (nI n_size)])), (a_kinds, .inl (ka_kinds, cap, .inl f_kinds)), (a_values, .inl (ka_values, cap, .inr (.inl f_values)))] U.heap ∧ va_K (dC, dI) vcl [(ka_kinds, .int), (ka_values, .long)] U ∧ va_D (fun _ => True) [(a_t, .inr (11, [.ref a_kinds, .ref a_values, .int (nI n_size)])), (a_kinds, .inl (ka_kinds, cap, .inl f_kinds)), (a_values, .inl (ka_values, cap, .inr (.inl f_values)))])) (va_Qi (fun (r : Int32) (_ : Unit) => (r = 0 ∨ r = 1) ∧ (r = b01 (cbB f_kinds f_values n_size y0))) (fun _ t => va_P (dC, dI) vcl [(a_t, .inr (11, [.ref a_kinds, .ref a_values, .int (nI n_size)])), (a_kinds, .inl (ka_kinds, cap, .inl f_kinds)), (a_values, .inl (ka_values, cap, .inr (.inl f_values)))] t.heap ∧ va_K (dC, dI) vcl [(ka_kinds, .int), (ka_values, .long)] t ∧ va_D (va_A [(a_t, .inr (11, [.ref a_kinds, .ref a_values, .int (nI n_size)])), (a_kinds, .inl (ka_kinds, cap, .inl f_kinds)), (a_values, .inl (ka_values, cap, .inr (.inl f_values)))] sz) [(a_t, .inr (11, [.ref a_kinds, .ref a_values, .int (nI n_size)])), (a_kinds, .inl (ka_kinds, cap, .inl f_kinds)), (a_values, .inl (ka_values, cap, .inr (.inl f_values)))]) (va_A [(a_t, .inr (11, [.ref a_kinds, .ref a_values, .int (nI n_size)])), (a_kinds, .inl (ka_kinds, cap, .inl f_kinds)), (a_values, .inl (ka_values, cap, .inr (.inl f_values)))] sz)) 0 0 (va_A [(a_t, .inr (11, [.ref a_kinds, .ref a_values, .int (nI n_size)])), (a_kinds, .inl (ka_kinds, cap, .inl f_kinds)), (a_values, .inl (ka_values, cap, .inr (.inl f_values)))] sz) := by
  refine Met.ofW (cc := b_Tokens_closesBracket) (maxL := 2) (ret := (some .boolean)) (by decide) rfl ?_
  intro p e s m args below meth c s₁ B hml hv
  obtain ⟨rfl, hsz, hP, hK, hD0⟩ := hv
  have hx := B.exec
  have hb := B.bytes
  have hr := B.returns
  have hts := atoms_spec (ws := w_Tokens_closesBracket) B.pre
  have hz : ∀ w ∈ wz, w.before _ s = true := fun w h => hts w (List.mem_cons_of_mem _ h)
  have hown : s.vm.findClass R_Tokens = some m.cls := findClass_of_methodNamed B.named
  have hlocks := B.notSynchronized
  subst hsz
  have hD := hD0.self (sz := s.heap.size)
  generalize hAe : va_A [(a_t, .inr (11, [.ref a_kinds, .ref a_values, .int (nI n_size)])), (a_kinds, .inl (ka_kinds, cap, .inl f_kinds)), (a_values, .inl (ka_values, cap, .inr (.inl f_values)))] s.heap.size = A at hD ⊢
  have hA : ∀ q : Nat, s.heap.size ≤ q → A q := fun q h => by rw [← hAe]; exact Or.inr h
  have hS : va_S A s.heap s.heap [] := va_S.rf
  have hP : va_P (dC, dI) vcl [(a_t, .inr (11, [.ref a_kinds, .ref a_values, .int (nI n_size)])), (a_kinds, .inl (ka_kinds, cap, .inl f_kinds)), (a_values, .inl (ka_values, cap, .inr (.inl f_values)))] s.heap := hP
  have hl := lv_entry ([.ref a_t, .int (nI y0)]) (n := 2) (Nat.le_of_ble_eq_true rfl)
  rw [lg_entry_eq]
  generalize (lg_sl ([.ref a_t, .int (nI y0)]) ++ List.replicate (2 - (lg_sl ([.ref a_t, .int (nI y0)])).length) Slot.unset).toArray = ls at hl ⊢
  have hl : lv_has ls 2 [(0, .ref a_t), (1, .int (nI y0))] := hl
  refine lv_aload_n hx hb d_Tokens_closesBracket_0 rfl (lv_at hl 0 rfl) ?_
  refine lv_iload_n hx hb d_Tokens_closesBracket_1 rfl (lv_at hl 1 rfl) ?_
  refine lv_bipush (v := 41) hx hb d_Tokens_closesBracket_2 (by decide) ?_
  have hPc := hP.sub (ws' := [(a_t, .inr (11, [.ref a_kinds, .ref a_values, .int (nI n_size)])), (a_kinds, .inl (ka_kinds, cap, .inl f_kinds)), (a_values, .inl (ka_values, cap, .inr (.inl f_values)))]) [0, 1, 2] rfl
  have hDc := hD.sub (ws' := [(a_t, .inr (11, [.ref a_kinds, .ref a_values, .int (nI n_size)])), (a_kinds, .inl (ka_kinds, cap, .inl f_kinds)), (a_values, .inl (ka_values, cap, .inr (.inl f_values)))]) [0, 1, 2] (by decide) rfl
  have hKc := hK.sub (tys' := [(ka_kinds, .int), (ka_values, .long)]) [0, 1] rfl
  have hFc := va_free (wc := [(a_t, .inr (11, [.ref a_kinds, .ref a_values, .int (nI n_size)])), (a_kinds, .inl (ka_kinds, cap, .inl f_kinds)), (a_values, .inl (ka_values, cap, .inr (.inl f_values)))]) hD hS hA [0, 1, 2] rfl
  refine va_calli (va_runV (As := [.int (nI y0), .int 41]) (rest := []) ⟨hx, hb, hml, hown, hz⟩ (s_Tokens_isSign6 l dC dI s.heap.size cap a_t a_kinds f_kinds a_values f_values n_size y0 41 ka_kinds ka_values (by first | omega | assumption | exact Or.inl rfl | exact Or.inr rfl | decide) (by first | omega | assumption | exact Or.inl rfl | exact Or.inr rfl | decide) (by first | omega | assumption | exact Or.inl rfl | exact Or.inr rfl | decide)) (cwV 2 hz (zV zm_41 zm_42 zm_43 zm_35 zm_44) rfl rfl rfl (by decide +kernel) ⟨Nat.le_of_ble_eq_true rfl, Nat.le_of_ble_eq_true rfl⟩) ⟨fun a U g mk q => by obtain ⟨q0, q1, qP, qK, qD⟩ := q; exact ⟨q0, q1, qP, va_K.moved (u := U) (U := U.calling g mk a) (Vm.Alike.refl U.vm) qK, qD⟩, va_recv (q := (R_Tokens, F_Tokens, 3)) (q0 := 0) (ci := 11) hK hP rfl rfl, fun U hU hW => ⟨rfl, by rw [hU], by rw [hU]; exact hPc, va_K.moved hW.alike hKc, hDc.weaken (fun _ _ _ _ => trivial)⟩⟩ rfl rfl hl.1 rfl (lv_room (Nat.le_of_ble_eq_true rfl)) d_Tokens_closesBracket_4 ⟨Nat.zero_le _, Nat.zero_le _⟩) hS (fun q _ h => hFc q h) hFc (fun r u t H1 locs ht hvm hw_r hB hz1 hk1 hS => ?_)
  obtain ⟨hP1, hK1, hD1⟩ := hB
  obtain ⟨hb_r, he_r⟩ := hw_r
  subst r
  rw [ht] at hP1
  obtain ⟨hP, hD⟩ := va_join (wr := []) (w1 := [(a_t, .inr (11, [.ref a_kinds, .ref a_values, .int (nI n_size)])), (a_kinds, .inl (ka_kinds, cap, .inl f_kinds)), (a_values, .inl (ka_values, cap, .inr (.inl f_values)))]) hP hD [0, 1, 2] [] rfl rfl (by decide) (by decide) hk1 hFc hP1 hD1
  generalize H1 = H at hP hS ⊢
  have hP : va_P (dC, dI) vcl [(a_t, .inr (11, [.ref a_kinds, .ref a_values, .int (nI n_size)])), (a_kinds, .inl (ka_kinds, cap, .inl f_kinds)), (a_values, .inl (ka_values, cap, .inr (.inl f_values)))] H := hP
  have hD : va_D A [(a_t, .inr (11, [.ref a_kinds, .ref a_values, .int (nI n_size)])), (a_kinds, .inl (ka_kinds, cap, .inl f_kinds)), (a_values, .inl (ka_values, cap, .inr (.inl f_values)))] := hD
  refine lv_if_ne (tgt := 20) hx hb d_Tokens_closesBracket_7 (by decide) (fun h1 => ?_) (fun h1 => ?_)
  · have e7 := h1
    refine lv_iconst (v := 1) hx hb d_Tokens_closesBracket_20 (by decide) ?_
    refine lv_goto (tgt := 25) hx hb d_Tokens_closesBracket_21 (by decide) ?_
    have hP9 := hP.sub (ws' := [(a_t, .inr (11, [.ref a_kinds, .ref a_values, .int (nI n_size)])), (a_kinds, .inl (ka_kinds, cap, .inl f_kinds)), (a_values, .inl (ka_values, cap, .inr (.inl f_values)))]) [0, 1, 2] rfl
    have hD9 := hD.sub (ws' := [(a_t, .inr (11, [.ref a_kinds, .ref a_values, .int (nI n_size)])), (a_kinds, .inl (ka_kinds, cap, .inl f_kinds)), (a_values, .inl (ka_values, cap, .inr (.inl f_values)))]) [0, 1, 2] (by decide) rfl
    exact W.zret (v := 1) hx hb hr (by decide +kernel) (fun t ht hW => ⟨⟨1, (), rfl, ⟨(by first | assumption | exact Or.inl rfl | exact Or.inr rfl), (by exact cb_a (b01_yes e7))⟩, by rw [ht]; exact hP9, va_K.moved hW.alike hK, hD9⟩, hS.F ht⟩) hS.2.2 d_Tokens_closesBracket_25
  · have e7 := h1
    refine lv_aload_n hx hb d_Tokens_closesBracket_10 rfl (lv_at hl 0 rfl) ?_
    refine lv_iload_n hx hb d_Tokens_closesBracket_11 rfl (lv_at hl 1 rfl) ?_
    refine lv_bipush (v := 93) hx hb d_Tokens_closesBracket_12 (by decide) ?_
    have hPc := hP.sub (ws' := [(a_t, .inr (11, [.ref a_kinds, .ref a_values, .int (nI n_size)])), (a_kinds, .inl (ka_kinds, cap, .inl f_kinds)), (a_values, .inl (ka_values, cap, .inr (.inl f_values)))]) [0, 1, 2] rfl
    have hDc := hD.sub (ws' := [(a_t, .inr (11, [.ref a_kinds, .ref a_values, .int (nI n_size)])), (a_kinds, .inl (ka_kinds, cap, .inl f_kinds)), (a_values, .inl (ka_values, cap, .inr (.inl f_values)))]) [0, 1, 2] (by decide) rfl
    have hKc := hK.sub (tys' := [(ka_kinds, .int), (ka_values, .long)]) [0, 1] rfl
    have hFc := va_free (wc := [(a_t, .inr (11, [.ref a_kinds, .ref a_values, .int (nI n_size)])), (a_kinds, .inl (ka_kinds, cap, .inl f_kinds)), (a_values, .inl (ka_values, cap, .inr (.inl f_values)))]) hD hS hA [0, 1, 2] rfl
    refine va_calli (va_runV (As := [.int (nI y0), .int 93]) (rest := []) ⟨hx, hb, hml, hown, hz⟩ (s_Tokens_isSign6 l dC dI H.size cap a_t a_kinds f_kinds a_values f_values n_size y0 93 ka_kinds ka_values (by first | omega | assumption | exact Or.inl rfl | exact Or.inr rfl | decide) (by first | omega | assumption | exact Or.inl rfl | exact Or.inr rfl | decide) (by first | omega | assumption | exact Or.inl rfl | exact Or.inr rfl | decide)) (cwV 2 hz (zV zm_41 zm_42 zm_43 zm_35 zm_44) rfl rfl rfl (by decide +kernel) ⟨Nat.le_of_ble_eq_true rfl, Nat.le_of_ble_eq_true rfl⟩) ⟨fun a U g mk q => by obtain ⟨q0, q1, qP, qK, qD⟩ := q; exact ⟨q0, q1, qP, va_K.moved (u := U) (U := U.calling g mk a) (Vm.Alike.refl U.vm) qK, qD⟩, va_recv (q := (R_Tokens, F_Tokens, 3)) (q0 := 0) (ci := 11) hK hP rfl rfl, fun U hU hW => ⟨rfl, by rw [hU], by rw [hU]; exact hPc, va_K.moved hW.alike hKc, hDc.weaken (fun _ _ _ _ => trivial)⟩⟩ rfl rfl hl.1 rfl (lv_room (Nat.le_of_ble_eq_true rfl)) d_Tokens_closesBracket_14 ⟨Nat.zero_le _, Nat.zero_le _⟩) hS (fun q _ h => hFc q h) hFc (fun r u t H1 locs ht hvm hw_r hB hz1 hk1 hS => ?_)
    obtain ⟨hP1, hK1, hD1⟩ := hB
    obtain ⟨hb_r, he_r⟩ := hw_r
    subst r
    rw [ht] at hP1
    obtain ⟨hP, hD⟩ := va_join (wr := []) (w1 := [(a_t, .inr (11, [.ref a_kinds, .ref a_values, .int (nI n_size)])), (a_kinds, .inl (ka_kinds, cap, .inl f_kinds)), (a_values, .inl (ka_values, cap, .inr (.inl f_values)))]) hP hD [0, 1, 2] [] rfl rfl (by decide) (by decide) hk1 hFc hP1 hD1
    generalize H1 = H at hP hS ⊢
    have hP : va_P (dC, dI) vcl [(a_t, .inr (11, [.ref a_kinds, .ref a_values, .int (nI n_size)])), (a_kinds, .inl (ka_kinds, cap, .inl f_kinds)), (a_values, .inl (ka_values, cap, .inr (.inl f_values)))] H := hP
    have hD : va_D A [(a_t, .inr (11, [.ref a_kinds, .ref a_values, .int (nI n_size)])), (a_kinds, .inl (ka_kinds, cap, .inl f_kinds)), (a_values, .inl (ka_values, cap, .inr (.inl f_values)))] := hD
    refine lv_if_eq (tgt := 24) hx hb d_Tokens_closesBracket_17 (by decide) (fun h2 => ?_) (fun h2 => ?_)
    · have e17 := h2
      refine lv_iconst (v := 0) hx hb d_Tokens_closesBracket_24 (by decide) ?_
      have hP9 := hP.sub (ws' := [(a_t, .inr (11, [.ref a_kinds, .ref a_values, .int (nI n_size)])), (a_kinds, .inl (ka_kinds, cap, .inl f_kinds)), (a_values, .inl (ka_values, cap, .inr (.inl f_values)))]) [0, 1, 2] rfl
      have hD9 := hD.sub (ws' := [(a_t, .inr (11, [.ref a_kinds, .ref a_values, .int (nI n_size)])), (a_kinds, .inl (ka_kinds, cap, .inl f_kinds)), (a_values, .inl (ka_values, cap, .inr (.inl f_values)))]) [0, 1, 2] (by decide) rfl
      exact W.zret (v := 0) hx hb hr (by decide +kernel) (fun t ht hW => ⟨⟨0, (), rfl, ⟨(by first | assumption | exact Or.inl rfl | exact Or.inr rfl), (by exact cb_n (b01_no e7) (b01_no e17))⟩, by rw [ht]; exact hP9, va_K.moved hW.alike hK, hD9⟩, hS.F ht⟩) hS.2.2 d_Tokens_closesBracket_25
    · have e17 := h2
      refine lv_iconst (v := 1) hx hb d_Tokens_closesBracket_20 (by decide) ?_
      refine lv_goto (tgt := 25) hx hb d_Tokens_closesBracket_21 (by decide) ?_
      have hP9 := hP.sub (ws' := [(a_t, .inr (11, [.ref a_kinds, .ref a_values, .int (nI n_size)])), (a_kinds, .inl (ka_kinds, cap, .inl f_kinds)), (a_values, .inl (ka_values, cap, .inr (.inl f_values)))]) [0, 1, 2] rfl
      have hD9 := hD.sub (ws' := [(a_t, .inr (11, [.ref a_kinds, .ref a_values, .int (nI n_size)])), (a_kinds, .inl (ka_kinds, cap, .inl f_kinds)), (a_values, .inl (ka_values, cap, .inr (.inl f_values)))]) [0, 1, 2] (by decide) rfl
      exact W.zret (v := 1) hx hb hr (by decide +kernel) (fun t ht hW => ⟨⟨1, (), rfl, ⟨(by first | assumption | exact Or.inl rfl | exact Or.inr rfl), (by exact cb_b (b01_yes e17))⟩, by rw [ht]; exact hP9, va_K.moved hW.alike hK, hD9⟩, hS.F ht⟩) hS.2.2 d_Tokens_closesBracket_25
set_option maxHeartbeats 4000000 in
set_option maxRecDepth 100000 in
theorem s_Tokens_isFreeName7 (l : Launch) (dC : Nat → ClassId) (dI : Nat → Nat → Nat) (sz : Nat) (cap : Nat) (a_t : Nat) (a_kinds : Nat) (f_kinds : Nat → Int32) (a_values : Nat) (f_values : Nat → Int64) (n_size : Nat) (y0 : Nat) (ka_kinds : ClassId) (ka_values : ClassId) (bcap : cap ≤ 600) (b_size : n_size ≤ cap) (by0 : y0 ≤ 600) : Met l y_Tokens_isFreeName w_Tokens_isFreeName ({ frames := 1, cells := 0, slots := 0, locals := 23 }) (va_Pc [.ref a_t, .int (nI y0)] (fun U => U.heap.size = sz ∧ va_P (dC, dI) vcl [(a_t, .inr (11, [.ref a_kinds, .ref a_values, .int (nI n_size)])), (a_kinds, .inl (ka_kinds, cap, .inl f_kinds)), (a_values, .inl (ka_values, cap, .inr (.inl f_values)))] U.heap ∧ va_K (dC, dI) vcl [(ka_kinds, .int), (ka_values, .long)] U ∧ va_D (fun _ => True) [(a_t, .inr (11, [.ref a_kinds, .ref a_values, .int (nI n_size)])), (a_kinds, .inl (ka_kinds, cap, .inl f_kinds)), (a_values, .inl (ka_values, cap, .inr (.inl f_values)))] ∧ cx_E (va_A [(a_t, .inr (11, [.ref a_kinds, .ref a_values, .int (nI n_size)])), (a_kinds, .inl (ka_kinds, cap, .inl f_kinds)), (a_values, .inl (ka_values, cap, .inr (.inl f_values)))] sz) U U.heap)) (va_Qi (fun (r : Int32) (_ : Unit) => (r = 0 ∨ r = 1) ∧ (r = b01 (nmB wdB f_kinds f_values n_size y0))) (fun _ t => va_P (dC, dI) vcl [(a_t, .inr (11, [.ref a_kinds, .ref a_values, .int (nI n_size)])), (a_kinds, .inl (ka_kinds, cap, .inl f_kinds)), (a_values, .inl (ka_values, cap, .inr (.inl f_values)))] t.heap ∧ va_K (dC, dI) vcl [(ka_kinds, .int), (ka_values, .long)] t ∧ va_D (va_A [(a_t, .inr (11, [.ref a_kinds, .ref a_values, .int (nI n_size)])), (a_kinds, .inl (ka_kinds, cap, .inl f_kinds)), (a_values, .inl (ka_values, cap, .inr (.inl f_values)))] sz) [(a_t, .inr (11, [.ref a_kinds, .ref a_values, .int (nI n_size)])), (a_kinds, .inl (ka_kinds, cap, .inl f_kinds)), (a_values, .inl (ka_values, cap, .inr (.inl f_values)))]) (va_A [(a_t, .inr (11, [.ref a_kinds, .ref a_values, .int (nI n_size)])), (a_kinds, .inl (ka_kinds, cap, .inl f_kinds)), (a_values, .inl (ka_values, cap, .inr (.inl f_values)))] sz)) 0 0 (va_A [(a_t, .inr (11, [.ref a_kinds, .ref a_values, .int (nI n_size)])), (a_kinds, .inl (ka_kinds, cap, .inl f_kinds)), (a_values, .inl (ka_values, cap, .inr (.inl f_values)))] sz) := by
  refine Met.ofW (cc := b_Tokens_isFreeName) (maxL := 2) (ret := (some .boolean)) (by decide) rfl ?_
  intro p e s m args below meth c s₁ B hml hv
  obtain ⟨rfl, hsz, hP, hK, hD0, hE⟩ := hv
  have hx := B.exec
  have hb := B.bytes
  have hr := B.returns
  have hts := atoms_spec (ws := w_Tokens_isFreeName) B.pre
  have hz : ∀ w ∈ wz, w.before _ s = true := fun w h => hts w (List.mem_cons_of_mem _ h)
  have hown : s.vm.findClass R_Tokens = some m.cls := findClass_of_methodNamed B.named
  have hlocks := B.notSynchronized
  subst hsz
  have hD := hD0.self (sz := s.heap.size)
  generalize hAe : va_A [(a_t, .inr (11, [.ref a_kinds, .ref a_values, .int (nI n_size)])), (a_kinds, .inl (ka_kinds, cap, .inl f_kinds)), (a_values, .inl (ka_values, cap, .inr (.inl f_values)))] s.heap.size = A at hD hE ⊢
  have hA : ∀ q : Nat, s.heap.size ≤ q → A q := fun q h => by rw [← hAe]; exact Or.inr h
  have hS : va_S A s.heap s.heap [] := va_S.rf
  have hP : va_P (dC, dI) vcl [(a_t, .inr (11, [.ref a_kinds, .ref a_values, .int (nI n_size)])), (a_kinds, .inl (ka_kinds, cap, .inl f_kinds)), (a_values, .inl (ka_values, cap, .inr (.inl f_values)))] s.heap := hP
  have hl := lv_entry ([.ref a_t, .int (nI y0)]) (n := 2) (Nat.le_of_ble_eq_true rfl)
  rw [lg_entry_eq]
  generalize (lg_sl ([.ref a_t, .int (nI y0)]) ++ List.replicate (2 - (lg_sl ([.ref a_t, .int (nI y0)])).length) Slot.unset).toArray = ls at hl ⊢
  have hl : lv_has ls 2 [(0, .ref a_t), (1, .int (nI y0))] := hl
  refine lv_aload_n hx hb d_Tokens_isFreeName_0 rfl (lv_at hl 0 rfl) ?_
  refine lv_iload_n hx hb d_Tokens_isFreeName_1 rfl (lv_at hl 1 rfl) ?_
  have hPc := hP.sub (ws' := [(a_t, .inr (11, [.ref a_kinds, .ref a_values, .int (nI n_size)]))]) [0] rfl
  have hDc := hD.sub (ws' := [(a_t, .inr (11, [.ref a_kinds, .ref a_values, .int (nI n_size)]))]) [0] (by decide) rfl
  have hKc := hK.sub (tys' := []) [] rfl
  have hFc := va_free (wc := [(a_t, .inr (11, [.ref a_kinds, .ref a_values, .int (nI n_size)]))]) hD hS hA [0] rfl
  refine va_calli (va_runV (As := [.int (nI y0)]) (rest := []) ⟨hx, hb, hml, hown, hz⟩ (s_Tokens_has6 l dC dI s.heap.size a_t a_kinds a_values n_size ((nI y0))) (cwV 1 hz (zV zm_37 zm_38 zm_39 zm_35 zm_40) rfl rfl rfl (by decide +kernel) ⟨Nat.le_of_ble_eq_true rfl, Nat.le_of_ble_eq_true rfl⟩) ⟨fun a U g mk q => by obtain ⟨q0, q1, qP, qK, qD⟩ := q; exact ⟨q0, q1, qP, va_K.moved (u := U) (U := U.calling g mk a) (Vm.Alike.refl U.vm) qK, qD⟩, va_recv (q := (R_Tokens, F_Tokens, 3)) (q0 := 0) (ci := 11) hK hP rfl rfl, fun U hU hW => ⟨rfl, by rw [hU], by rw [hU]; exact hPc, va_K.moved hW.alike hKc, hDc.weaken (fun _ _ _ _ => trivial)⟩⟩ rfl rfl hl.1 rfl (lv_room (Nat.le_of_ble_eq_true rfl)) d_Tokens_isFreeName_2 ⟨Nat.zero_le _, Nat.zero_le _⟩) hS (fun q _ h => hFc q h) hFc (fun r u t H1 locs ht hvm hw_r hB hz1 hk1 hS => ?_)
  obtain ⟨hP1, hK1, hD1⟩ := hB
  obtain ⟨hb_r, he_r⟩ := hw_r
  subst r
  rw [ht] at hP1
  obtain ⟨hP, hD⟩ := va_join (wr := [(a_kinds, .inl (ka_kinds, cap, .inl f_kinds)), (a_values, .inl (ka_values, cap, .inr (.inl f_values)))]) (w1 := [(a_t, .inr (11, [.ref a_kinds, .ref a_values, .int (nI n_size)]))]) hP hD [0] [1, 2] rfl rfl (by decide) (by decide) hk1 hFc hP1 hD1
  generalize H1 = H at hP hS ⊢
  have hP : va_P (dC, dI) vcl [(a_kinds, .inl (ka_kinds, cap, .inl f_kinds)), (a_values, .inl (ka_values, cap, .inr (.inl f_values))), (a_t, .inr (11, [.ref a_kinds, .ref a_values, .int (nI n_size)]))] H := hP
  have hD : va_D A [(a_kinds, .inl (ka_kinds, cap, .inl f_kinds)), (a_values, .inl (ka_values, cap, .inr (.inl f_values))), (a_t, .inr (11, [.ref a_kinds, .ref a_values, .int (nI n_size)]))] := hD
  refine lv_if_eq (tgt := 37) hx hb d_Tokens_isFreeName_5 (by decide) (fun h1 => ?_) (fun h1 => ?_)
  · have e5 := hs_no h1 (by omega) (by omega)
    refine lv_iconst (v := 0) hx hb d_Tokens_isFreeName_37 (by decide) ?_
    have hP9 := hP.sub (ws' := [(a_t, .inr (11, [.ref a_kinds, .ref a_values, .int (nI n_size)])), (a_kinds, .inl (ka_kinds, cap, .inl f_kinds)), (a_values, .inl (ka_values, cap, .inr (.inl f_values)))]) [2, 0, 1] rfl
    have hD9 := hD.sub (ws' := [(a_t, .inr (11, [.ref a_kinds, .ref a_values, .int (nI n_size)])), (a_kinds, .inl (ka_kinds, cap, .inl f_kinds)), (a_values, .inl (ka_values, cap, .inr (.inl f_values)))]) [2, 0, 1] (by decide) rfl
    exact W.zret (v := 0) hx hb hr (by decide +kernel) (fun t ht hW => ⟨⟨0, (), rfl, ⟨(by first | assumption | exact Or.inl rfl | exact Or.inr rfl), (by exact fn_1 e5)⟩, by rw [ht]; exact hP9, va_K.moved hW.alike hK, hD9⟩, hS.F ht⟩) hS.2.2 d_Tokens_isFreeName_38
  · have e5 := hs_yes h1 (by omega) (by omega)
    refine lv_aload_n hx hb d_Tokens_isFreeName_8 rfl (lv_at hl 0 rfl) ?_
    refine va_get (D := (dC, dI)) (ci := 11) (v := .ref a_kinds) (C := R_Tokens) (T := F_Tokens) (N := 3) hx hb hz zu_Tokens hown hK hP 2 rfl rfl 0 (by decide) (hz (.fieldLink R_Tokens 9 "LayoutFront$Tokens" "kinds" "[I") zm_28) (fun _ h9 => h9) rfl d_Tokens_isFreeName_9 ?_
    refine lv_iload_n hx hb d_Tokens_isFreeName_12 rfl (lv_at hl 1 rfl) ?_
    refine xr_iald (v := (f_kinds y0)) hx hb hK hP 0 0 rfl rfl (vp_in_nI (by omega) (by omega)) (congrArg f_kinds (nI_clamp (by omega))) d_Tokens_isFreeName_13 ?_
    refine lv_if_ne (tgt := 37) hx hb d_Tokens_isFreeName_14 (by decide) (fun h3 => ?_) (fun h3 => ?_)
    · have e14 := h3
      refine lv_iconst (v := 0) hx hb d_Tokens_isFreeName_37 (by decide) ?_
      have hP9 := hP.sub (ws' := [(a_t, .inr (11, [.ref a_kinds, .ref a_values, .int (nI n_size)])), (a_kinds, .inl (ka_kinds, cap, .inl f_kinds)), (a_values, .inl (ka_values, cap, .inr (.inl f_values)))]) [2, 0, 1] rfl
      have hD9 := hD.sub (ws' := [(a_t, .inr (11, [.ref a_kinds, .ref a_values, .int (nI n_size)])), (a_kinds, .inl (ka_kinds, cap, .inl f_kinds)), (a_values, .inl (ka_values, cap, .inr (.inl f_values)))]) [2, 0, 1] (by decide) rfl
      exact W.zret (v := 0) hx hb hr (by decide +kernel) (fun t ht hW => ⟨⟨0, (), rfl, ⟨(by first | assumption | exact Or.inl rfl | exact Or.inr rfl), (by exact fn_2 e14)⟩, by rw [ht]; exact hP9, va_K.moved hW.alike hK, hD9⟩, hS.F ht⟩) hS.2.2 d_Tokens_isFreeName_38
    · have e14 := h3
      obtain ⟨aW, hN_aW, hZ_aW, hT_aW⟩ := hE.words
      refine va_getsN hx hb hZ_aW hS hown (va_Nw.use rfl hN_aW) (fun _ h9 => h9) d_Tokens_isFreeName_17 ?_
      refine lv_aload_n hx hb d_Tokens_isFreeName_20 rfl (lv_at hl 0 rfl) ?_
      refine va_get (D := (dC, dI)) (ci := 11) (v := .ref a_values) (C := R_Tokens) (T := F_Tokens) (N := 3) hx hb hz zu_Tokens hown hK hP 2 rfl rfl 1 (by decide) (hz (.fieldLink R_Tokens 15 "LayoutFront$Tokens" "values" "[J") zm_29) (fun _ h9 => h9) rfl d_Tokens_isFreeName_21 ?_
      refine lv_iload_n hx hb d_Tokens_isFreeName_24 rfl (lv_at hl 1 rfl) ?_
      refine xr_lald (v := (f_values y0)) hx hb hK hP 1 1 rfl rfl (vp_in_nI (by omega) (by omega)) (congrArg f_values (nI_clamp (by omega))) d_Tokens_isFreeName_25 ?_
      have hPc := hP.sub (ws' := []) [] rfl
      have hDc := hD.sub (ws' := []) [] (by decide) rfl
      have hKc := hK.sub (tys' := []) [] rfl
      have hFc := va_free (wc := []) hD hS hA [] rfl
      refine va_calli (va_runS (As := [.ref aW, .long (f_values y0)]) (rest := []) ⟨hx, hb, hml, hown, hz⟩ (s_Tokens_findC6 l dC dI H.size aW 9 wWd ((f_values y0)) (by first | omega | assumption | exact Or.inl rfl | exact Or.inr rfl | decide)) (cwS 2 hz (zS zm_45 zm_46 zm_35 zm_47) rfl rfl rfl (by decide +kernel) ⟨Nat.le_of_ble_eq_true rfl, Nat.le_of_ble_eq_true rfl⟩) ⟨fun a U g mk q => by obtain ⟨q0, q1, qP, qK, qD, qx0⟩ := q; exact ⟨q0, q1, qP, va_K.moved (u := U) (U := U.calling g mk a) (Vm.Alike.refl U.vm) qK, qD, cx_T.same (u := U) (U := U.calling g mk a) rfl qx0⟩, fun U hU hW => ⟨rfl, by rw [hU], by rw [hU]; exact hPc, va_K.moved hW.alike hKc, hDc.weaken (fun _ _ _ _ => trivial), by rw [hU]; exact cx_T.to hW hS hFc hT_aW⟩⟩ rfl rfl hl.1 rfl (lv_room (Nat.le_of_ble_eq_true rfl)) d_Tokens_isFreeName_26 ⟨Nat.zero_le _, Nat.zero_le _⟩) hS (fun q _ h => hFc q h) hFc (fun r u t H1 locs ht hvm hw hB hz1 hk1 hS => ?_)
      obtain ⟨hP1, hK1, hD1⟩ := hB
      subst r
      rw [ht] at hP1
      obtain ⟨hP, hD⟩ := va_join (wr := [(a_kinds, .inl (ka_kinds, cap, .inl f_kinds)), (a_values, .inl (ka_values, cap, .inr (.inl f_values))), (a_t, .inr (11, [.ref a_kinds, .ref a_values, .int (nI n_size)]))]) (w1 := []) hP hD [] [0, 1, 2] rfl rfl (by decide) (by decide) hk1 hFc hP1 hD1
      generalize H1 = H at hP hS ⊢
      have hP : va_P (dC, dI) vcl [(a_kinds, .inl (ka_kinds, cap, .inl f_kinds)), (a_values, .inl (ka_values, cap, .inr (.inl f_values))), (a_t, .inr (11, [.ref a_kinds, .ref a_values, .int (nI n_size)]))] H := hP
      have hD : va_D A [(a_kinds, .inl (ka_kinds, cap, .inl f_kinds)), (a_values, .inl (ka_values, cap, .inr (.inl f_values))), (a_t, .inr (11, [.ref a_kinds, .ref a_values, .int (nI n_size)]))] := hD
      refine lv_iconst (v := (-1)) hx hb d_Tokens_isFreeName_29 (by decide) ?_
      refine lv_icmp_ne (tgt := 37) hx hb d_Tokens_isFreeName_30 (by decide) (fun h5 => ?_) (fun h5 => ?_)
      · have e30 := h5
        refine lv_iconst (v := 0) hx hb d_Tokens_isFreeName_37 (by decide) ?_
        have hP9 := hP.sub (ws' := [(a_t, .inr (11, [.ref a_kinds, .ref a_values, .int (nI n_size)])), (a_kinds, .inl (ka_kinds, cap, .inl f_kinds)), (a_values, .inl (ka_values, cap, .inr (.inl f_values)))]) [2, 0, 1] rfl
        have hD9 := hD.sub (ws' := [(a_t, .inr (11, [.ref a_kinds, .ref a_values, .int (nI n_size)])), (a_kinds, .inl (ka_kinds, cap, .inl f_kinds)), (a_values, .inl (ka_values, cap, .inr (.inl f_values)))]) [2, 0, 1] (by decide) rfl
        exact W.zret (v := 0) hx hb hr (by decide +kernel) (fun t ht hW => ⟨⟨0, (), rfl, ⟨(by first | assumption | exact Or.inl rfl | exact Or.inr rfl), (by exact fn_3 e30)⟩, by rw [ht]; exact hP9, va_K.moved hW.alike hK, hD9⟩, hS.F ht⟩) hS.2.2 d_Tokens_isFreeName_38
      · have e30 := h5
        refine lv_iconst (v := 1) hx hb d_Tokens_isFreeName_33 (by decide) ?_
        refine lv_goto (tgt := 38) hx hb d_Tokens_isFreeName_34 (by decide) ?_
        have hP9 := hP.sub (ws' := [(a_t, .inr (11, [.ref a_kinds, .ref a_values, .int (nI n_size)])), (a_kinds, .inl (ka_kinds, cap, .inl f_kinds)), (a_values, .inl (ka_values, cap, .inr (.inl f_values)))]) [2, 0, 1] rfl
        have hD9 := hD.sub (ws' := [(a_t, .inr (11, [.ref a_kinds, .ref a_values, .int (nI n_size)])), (a_kinds, .inl (ka_kinds, cap, .inl f_kinds)), (a_values, .inl (ka_values, cap, .inr (.inl f_values)))]) [2, 0, 1] (by decide) rfl
        exact W.zret (v := 1) hx hb hr (by decide +kernel) (fun t ht hW => ⟨⟨1, (), rfl, ⟨(by first | assumption | exact Or.inl rfl | exact Or.inr rfl), (by exact fn_4 e5 e14 e30)⟩, by rw [ht]; exact hP9, va_K.moved hW.alike hK, hD9⟩, hS.F ht⟩) hS.2.2 d_Tokens_isFreeName_38
set_option maxHeartbeats 4000000 in
set_option maxRecDepth 100000 in
theorem s_Tokens_isFreeOperator7 (l : Launch) (dC : Nat → ClassId) (dI : Nat → Nat → Nat) (sz : Nat) (cap : Nat) (a_t : Nat) (a_kinds : Nat) (f_kinds : Nat → Int32) (a_values : Nat) (f_values : Nat → Int64) (n_size : Nat) (y0 : Nat) (ka_kinds : ClassId) (ka_values : ClassId) (bcap : cap ≤ 600) (b_size : n_size ≤ cap) (by0 : y0 ≤ 600) : Met l y_Tokens_isFreeOperator w_Tokens_isFreeOperator ({ frames := 1, cells := 0, slots := 0, locals := 23 }) (va_Pc [.ref a_t, .int (nI y0)] (fun U => U.heap.size = sz ∧ va_P (dC, dI) vcl [(a_t, .inr (11, [.ref a_kinds, .ref a_values, .int (nI n_size)])), (a_kinds, .inl (ka_kinds, cap, .inl f_kinds)), (a_values, .inl (ka_values, cap, .inr (.inl f_values)))] U.heap ∧ va_K (dC, dI) vcl [(ka_kinds, .int), (ka_values, .long)] U ∧ va_D (fun _ => True) [(a_t, .inr (11, [.ref a_kinds, .ref a_values, .int (nI n_size)])), (a_kinds, .inl (ka_kinds, cap, .inl f_kinds)), (a_values, .inl (ka_values, cap, .inr (.inl f_values)))] ∧ cx_E (va_A [(a_t, .inr (11, [.ref a_kinds, .ref a_values, .int (nI n_size)])), (a_kinds, .inl (ka_kinds, cap, .inl f_kinds)), (a_values, .inl (ka_values, cap, .inr (.inl f_values)))] sz) U U.heap)) (va_Qi (fun (r : Int32) (_ : Unit) => (r = 0 ∨ r = 1) ∧ (r = b01 (foB f_kinds f_values n_size y0))) (fun _ t => va_P (dC, dI) vcl [(a_t, .inr (11, [.ref a_kinds, .ref a_values, .int (nI n_size)])), (a_kinds, .inl (ka_kinds, cap, .inl f_kinds)), (a_values, .inl (ka_values, cap, .inr (.inl f_values)))] t.heap ∧ va_K (dC, dI) vcl [(ka_kinds, .int), (ka_values, .long)] t ∧ va_D (va_A [(a_t, .inr (11, [.ref a_kinds, .ref a_values, .int (nI n_size)])), (a_kinds, .inl (ka_kinds, cap, .inl f_kinds)), (a_values, .inl (ka_values, cap, .inr (.inl f_values)))] sz) [(a_t, .inr (11, [.ref a_kinds, .ref a_values, .int (nI n_size)])), (a_kinds, .inl (ka_kinds, cap, .inl f_kinds)), (a_values, .inl (ka_values, cap, .inr (.inl f_values)))]) (va_A [(a_t, .inr (11, [.ref a_kinds, .ref a_values, .int (nI n_size)])), (a_kinds, .inl (ka_kinds, cap, .inl f_kinds)), (a_values, .inl (ka_values, cap, .inr (.inl f_values)))] sz)) 0 0 (va_A [(a_t, .inr (11, [.ref a_kinds, .ref a_values, .int (nI n_size)])), (a_kinds, .inl (ka_kinds, cap, .inl f_kinds)), (a_values, .inl (ka_values, cap, .inr (.inl f_values)))] sz) := by
  refine Met.ofW (cc := b_Tokens_isFreeOperator) (maxL := 2) (ret := (some .boolean)) (by decide) rfl ?_
  intro p e s m args below meth c s₁ B hml hv
  obtain ⟨rfl, hsz, hP, hK, hD0, hE⟩ := hv
  have hx := B.exec
  have hb := B.bytes
  have hr := B.returns
  have hts := atoms_spec (ws := w_Tokens_isFreeOperator) B.pre
  have hz : ∀ w ∈ wz, w.before _ s = true := fun w h => hts w (List.mem_cons_of_mem _ h)
  have hown : s.vm.findClass R_Tokens = some m.cls := findClass_of_methodNamed B.named
  have hlocks := B.notSynchronized
  subst hsz
  have hD := hD0.self (sz := s.heap.size)
  generalize hAe : va_A [(a_t, .inr (11, [.ref a_kinds, .ref a_values, .int (nI n_size)])), (a_kinds, .inl (ka_kinds, cap, .inl f_kinds)), (a_values, .inl (ka_values, cap, .inr (.inl f_values)))] s.heap.size = A at hD hE ⊢
  have hA : ∀ q : Nat, s.heap.size ≤ q → A q := fun q h => by rw [← hAe]; exact Or.inr h
  have hS : va_S A s.heap s.heap [] := va_S.rf
  have hP : va_P (dC, dI) vcl [(a_t, .inr (11, [.ref a_kinds, .ref a_values, .int (nI n_size)])), (a_kinds, .inl (ka_kinds, cap, .inl f_kinds)), (a_values, .inl (ka_values, cap, .inr (.inl f_values)))] s.heap := hP
  have hl := lv_entry ([.ref a_t, .int (nI y0)]) (n := 2) (Nat.le_of_ble_eq_true rfl)
  rw [lg_entry_eq]
  generalize (lg_sl ([.ref a_t, .int (nI y0)]) ++ List.replicate (2 - (lg_sl ([.ref a_t, .int (nI y0)])).length) Slot.unset).toArray = ls at hl ⊢
  have hl : lv_has ls 2 [(0, .ref a_t), (1, .int (nI y0))] := hl
  refine lv_aload_n hx hb d_Tokens_isFreeOperator_0 rfl (lv_at hl 0 rfl) ?_
  refine lv_iload_n hx hb d_Tokens_isFreeOperator_1 rfl (lv_at hl 1 rfl) ?_
  have hPc := hP.sub (ws' := [(a_t, .inr (11, [.ref a_kinds, .ref a_values, .int (nI n_size)]))]) [0] rfl
  have hDc := hD.sub (ws' := [(a_t, .inr (11, [.ref a_kinds, .ref a_values, .int (nI n_size)]))]) [0] (by decide) rfl
  have hKc := hK.sub (tys' := []) [] rfl
  have hFc := va_free (wc := [(a_t, .inr (11, [.ref a_kinds, .ref a_values, .int (nI n_size)]))]) hD hS hA [0] rfl
  refine va_calli (va_runV (As := [.int (nI y0)]) (rest := []) ⟨hx, hb, hml, hown, hz⟩ (s_Tokens_has6 l dC dI s.heap.size a_t a_kinds a_values n_size ((nI y0))) (cwV 1 hz (zV zm_37 zm_38 zm_39 zm_35 zm_40) rfl rfl rfl (by decide +kernel) ⟨Nat.le_of_ble_eq_true rfl, Nat.le_of_ble_eq_true rfl⟩) ⟨fun a U g mk q => by obtain ⟨q0, q1, qP, qK, qD⟩ := q; exact ⟨q0, q1, qP, va_K.moved (u := U) (U := U.calling g mk a) (Vm.Alike.refl U.vm) qK, qD⟩, va_recv (q := (R_Tokens, F_Tokens, 3)) (q0 := 0) (ci := 11) hK hP rfl rfl, fun U hU hW => ⟨rfl, by rw [hU], by rw [hU]; exact hPc, va_K.moved hW.alike hKc, hDc.weaken (fun _ _ _ _ => trivial)⟩⟩ rfl rfl hl.1 rfl (lv_room (Nat.le_of_ble_eq_true rfl)) d_Tokens_isFreeOperator_2 ⟨Nat.zero_le _, Nat.zero_le _⟩) hS (fun q _ h => hFc q h) hFc (fun r u t H1 locs ht hvm hw_r hB hz1 hk1 hS => ?_)
  obtain ⟨hP1, hK1, hD1⟩ := hB
  obtain ⟨hb_r, he_r⟩ := hw_r
  subst r
  rw [ht] at hP1
  obtain ⟨hP, hD⟩ := va_join (wr := [(a_kinds, .inl (ka_kinds, cap, .inl f_kinds)), (a_values, .inl (ka_values, cap, .inr (.inl f_values)))]) (w1 := [(a_t, .inr (11, [.ref a_kinds, .ref a_values, .int (nI n_size)]))]) hP hD [0] [1, 2] rfl rfl (by decide) (by decide) hk1 hFc hP1 hD1
  generalize H1 = H at hP hS ⊢
  have hP : va_P (dC, dI) vcl [(a_kinds, .inl (ka_kinds, cap, .inl f_kinds)), (a_values, .inl (ka_values, cap, .inr (.inl f_values))), (a_t, .inr (11, [.ref a_kinds, .ref a_values, .int (nI n_size)]))] H := hP
  have hD : va_D A [(a_kinds, .inl (ka_kinds, cap, .inl f_kinds)), (a_values, .inl (ka_values, cap, .inr (.inl f_values))), (a_t, .inr (11, [.ref a_kinds, .ref a_values, .int (nI n_size)]))] := hD
  refine lv_if_eq (tgt := 38) hx hb d_Tokens_isFreeOperator_5 (by decide) (fun h1 => ?_) (fun h1 => ?_)
  · have e5 := hs_no h1 (by omega) (by omega)
    refine lv_iconst (v := 0) hx hb d_Tokens_isFreeOperator_38 (by decide) ?_
    have hP9 := hP.sub (ws' := [(a_t, .inr (11, [.ref a_kinds, .ref a_values, .int (nI n_size)])), (a_kinds, .inl (ka_kinds, cap, .inl f_kinds)), (a_values, .inl (ka_values, cap, .inr (.inl f_values)))]) [2, 0, 1] rfl
    have hD9 := hD.sub (ws' := [(a_t, .inr (11, [.ref a_kinds, .ref a_values, .int (nI n_size)])), (a_kinds, .inl (ka_kinds, cap, .inl f_kinds)), (a_values, .inl (ka_values, cap, .inr (.inl f_values)))]) [2, 0, 1] (by decide) rfl
    exact W.zret (v := 0) hx hb hr (by decide +kernel) (fun t ht hW => ⟨⟨0, (), rfl, ⟨(by first | assumption | exact Or.inl rfl | exact Or.inr rfl), (by exact fo_1 e5)⟩, by rw [ht]; exact hP9, va_K.moved hW.alike hK, hD9⟩, hS.F ht⟩) hS.2.2 d_Tokens_isFreeOperator_39
  · have e5 := hs_yes h1 (by omega) (by omega)
    refine lv_aload_n hx hb d_Tokens_isFreeOperator_8 rfl (lv_at hl 0 rfl) ?_
    refine va_get (D := (dC, dI)) (ci := 11) (v := .ref a_kinds) (C := R_Tokens) (T := F_Tokens) (N := 3) hx hb hz zu_Tokens hown hK hP 2 rfl rfl 0 (by decide) (hz (.fieldLink R_Tokens 9 "LayoutFront$Tokens" "kinds" "[I") zm_28) (fun _ h9 => h9) rfl d_Tokens_isFreeOperator_9 ?_
    refine lv_iload_n hx hb d_Tokens_isFreeOperator_12 rfl (lv_at hl 1 rfl) ?_
    refine xr_iald (v := (f_kinds y0)) hx hb hK hP 0 0 rfl rfl (vp_in_nI (by omega) (by omega)) (congrArg f_kinds (nI_clamp (by omega))) d_Tokens_isFreeOperator_13 ?_
    refine lv_iconst (v := 2) hx hb d_Tokens_isFreeOperator_14 (by decide) ?_
    refine lv_icmp_ne (tgt := 38) hx hb d_Tokens_isFreeOperator_15 (by decide) (fun h3 => ?_) (fun h3 => ?_)
    · have e15 := h3
      refine lv_iconst (v := 0) hx hb d_Tokens_isFreeOperator_38 (by decide) ?_
      have hP9 := hP.sub (ws' := [(a_t, .inr (11, [.ref a_kinds, .ref a_values, .int (nI n_size)])), (a_kinds, .inl (ka_kinds, cap, .inl f_kinds)), (a_values, .inl (ka_values, cap, .inr (.inl f_values)))]) [2, 0, 1] rfl
      have hD9 := hD.sub (ws' := [(a_t, .inr (11, [.ref a_kinds, .ref a_values, .int (nI n_size)])), (a_kinds, .inl (ka_kinds, cap, .inl f_kinds)), (a_values, .inl (ka_values, cap, .inr (.inl f_values)))]) [2, 0, 1] (by decide) rfl
      exact W.zret (v := 0) hx hb hr (by decide +kernel) (fun t ht hW => ⟨⟨0, (), rfl, ⟨(by first | assumption | exact Or.inl rfl | exact Or.inr rfl), (by exact fo_2 e15)⟩, by rw [ht]; exact hP9, va_K.moved hW.alike hK, hD9⟩, hS.F ht⟩) hS.2.2 d_Tokens_isFreeOperator_39
    · have e15 := h3
      obtain ⟨aR, hN_aR, hZ_aR, hT_aR⟩ := hE.reserved
      refine va_getsN hx hb hZ_aR hS hown (va_Nw.use rfl hN_aR) (fun _ h9 => h9) d_Tokens_isFreeOperator_18 ?_
      refine lv_aload_n hx hb d_Tokens_isFreeOperator_21 rfl (lv_at hl 0 rfl) ?_
      refine va_get (D := (dC, dI)) (ci := 11) (v := .ref a_values) (C := R_Tokens) (T := F_Tokens) (N := 3) hx hb hz zu_Tokens hown hK hP 2 rfl rfl 1 (by decide) (hz (.fieldLink R_Tokens 15 "LayoutFront$Tokens" "values" "[J") zm_29) (fun _ h9 => h9) rfl d_Tokens_isFreeOperator_22 ?_
      refine lv_iload_n hx hb d_Tokens_isFreeOperator_25 rfl (lv_at hl 1 rfl) ?_
      refine xr_lald (v := (f_values y0)) hx hb hK hP 1 1 rfl rfl (vp_in_nI (by omega) (by omega)) (congrArg f_values (nI_clamp (by omega))) d_Tokens_isFreeOperator_26 ?_
      have hPc := hP.sub (ws' := []) [] rfl
      have hDc := hD.sub (ws' := []) [] (by decide) rfl
      have hKc := hK.sub (tys' := []) [] rfl
      have hFc := va_free (wc := []) hD hS hA [] rfl
      refine va_calli (va_runS (As := [.ref aR, .long (f_values y0)]) (rest := []) ⟨hx, hb, hml, hown, hz⟩ (s_Tokens_findC6 l dC dI H.size aR 10 wRs ((f_values y0)) (by first | omega | assumption | exact Or.inl rfl | exact Or.inr rfl | decide)) (cwS 2 hz (zS zm_45 zm_46 zm_35 zm_47) rfl rfl rfl (by decide +kernel) ⟨Nat.le_of_ble_eq_true rfl, Nat.le_of_ble_eq_true rfl⟩) ⟨fun a U g mk q => by obtain ⟨q0, q1, qP, qK, qD, qx0⟩ := q; exact ⟨q0, q1, qP, va_K.moved (u := U) (U := U.calling g mk a) (Vm.Alike.refl U.vm) qK, qD, cx_T.same (u := U) (U := U.calling g mk a) rfl qx0⟩, fun U hU hW => ⟨rfl, by rw [hU], by rw [hU]; exact hPc, va_K.moved hW.alike hKc, hDc.weaken (fun _ _ _ _ => trivial), by rw [hU]; exact cx_T.to hW hS hFc hT_aR⟩⟩ rfl rfl hl.1 rfl (lv_room (Nat.le_of_ble_eq_true rfl)) d_Tokens_isFreeOperator_27 ⟨Nat.zero_le _, Nat.zero_le _⟩) hS (fun q _ h => hFc q h) hFc (fun r u t H1 locs ht hvm hw hB hz1 hk1 hS => ?_)
      obtain ⟨hP1, hK1, hD1⟩ := hB
      subst r
      rw [ht] at hP1
      obtain ⟨hP, hD⟩ := va_join (wr := [(a_kinds, .inl (ka_kinds, cap, .inl f_kinds)), (a_values, .inl (ka_values, cap, .inr (.inl f_values))), (a_t, .inr (11, [.ref a_kinds, .ref a_values, .int (nI n_size)]))]) (w1 := []) hP hD [] [0, 1, 2] rfl rfl (by decide) (by decide) hk1 hFc hP1 hD1
      generalize H1 = H at hP hS ⊢
      have hP : va_P (dC, dI) vcl [(a_kinds, .inl (ka_kinds, cap, .inl f_kinds)), (a_values, .inl (ka_values, cap, .inr (.inl f_values))), (a_t, .inr (11, [.ref a_kinds, .ref a_values, .int (nI n_size)]))] H := hP
      have hD : va_D A [(a_kinds, .inl (ka_kinds, cap, .inl f_kinds)), (a_values, .inl (ka_values, cap, .inr (.inl f_values))), (a_t, .inr (11, [.ref a_kinds, .ref a_values, .int (nI n_size)]))] := hD
      refine lv_iconst (v := (-1)) hx hb d_Tokens_isFreeOperator_30 (by decide) ?_
      refine lv_icmp_ne (tgt := 38) hx hb d_Tokens_isFreeOperator_31 (by decide) (fun h5 => ?_) (fun h5 => ?_)
      · have e31 := h5
        refine lv_iconst (v := 0) hx hb d_Tokens_isFreeOperator_38 (by decide) ?_
        have hP9 := hP.sub (ws' := [(a_t, .inr (11, [.ref a_kinds, .ref a_values, .int (nI n_size)])), (a_kinds, .inl (ka_kinds, cap, .inl f_kinds)), (a_values, .inl (ka_values, cap, .inr (.inl f_values)))]) [2, 0, 1] rfl
        have hD9 := hD.sub (ws' := [(a_t, .inr (11, [.ref a_kinds, .ref a_values, .int (nI n_size)])), (a_kinds, .inl (ka_kinds, cap, .inl f_kinds)), (a_values, .inl (ka_values, cap, .inr (.inl f_values)))]) [2, 0, 1] (by decide) rfl
        exact W.zret (v := 0) hx hb hr (by decide +kernel) (fun t ht hW => ⟨⟨0, (), rfl, ⟨(by first | assumption | exact Or.inl rfl | exact Or.inr rfl), (by exact fo_3 e31)⟩, by rw [ht]; exact hP9, va_K.moved hW.alike hK, hD9⟩, hS.F ht⟩) hS.2.2 d_Tokens_isFreeOperator_39
      · have e31 := h5
        refine lv_iconst (v := 1) hx hb d_Tokens_isFreeOperator_34 (by decide) ?_
        refine lv_goto (tgt := 39) hx hb d_Tokens_isFreeOperator_35 (by decide) ?_
        have hP9 := hP.sub (ws' := [(a_t, .inr (11, [.ref a_kinds, .ref a_values, .int (nI n_size)])), (a_kinds, .inl (ka_kinds, cap, .inl f_kinds)), (a_values, .inl (ka_values, cap, .inr (.inl f_values)))]) [2, 0, 1] rfl
        have hD9 := hD.sub (ws' := [(a_t, .inr (11, [.ref a_kinds, .ref a_values, .int (nI n_size)])), (a_kinds, .inl (ka_kinds, cap, .inl f_kinds)), (a_values, .inl (ka_values, cap, .inr (.inl f_values)))]) [2, 0, 1] (by decide) rfl
        exact W.zret (v := 1) hx hb hr (by decide +kernel) (fun t ht hW => ⟨⟨1, (), rfl, ⟨(by first | assumption | exact Or.inl rfl | exact Or.inr rfl), (by exact fo_4 e5 e15 e31)⟩, by rw [ht]; exact hP9, va_K.moved hW.alike hK, hD9⟩, hS.F ht⟩) hS.2.2 d_Tokens_isFreeOperator_39
