set_option maxHeartbeats 4000000 in
set_option maxRecDepth 100000 in
theorem c14_Tokens_clear (l : Launch) (dC : Nat → ClassId) (dI : Nat → Nat → Nat) (sz : Nat) (a0 : Nat) (a1 : Nat) (a2 : Nat) : Met l y_Tokens_clear w_Tokens_clear ({ frames := 0, cells := 0, slots := 0, locals := 0 }) (va_Pc [.ref a0] (fun U => U.heap.size = sz ∧ va_P (dC, dI) vcl [(a0, .inr (11, [.ref a1, .ref a2, .int 0]))] U.heap ∧ va_K (dC, dI) vcl [] U ∧ va_D (fun _ => True) [(a0, .inr (11, [.ref a1, .ref a2, .int 0]))])) (va_Qv (fun (_ : Unit) => True) (fun _ t => va_P (dC, dI) vcl [(a0, .inr (11, [.ref a1, .ref a2, .int 0]))] t.heap ∧ va_K (dC, dI) vcl [] t ∧ va_D (va_A [(a0, .inr (11, [.ref a1, .ref a2, .int 0]))] sz) [(a0, .inr (11, [.ref a1, .ref a2, .int 0]))]) (va_A [(a0, .inr (11, [.ref a1, .ref a2, .int 0]))] sz)) 0 0 (va_A [(a0, .inr (11, [.ref a1, .ref a2, .int 0]))] sz) := by
  refine Met.ofW (cc := b_Tokens_clear) (maxL := 1) (ret := none) (by decide) rfl ?_
  intro p e s m args below meth c s₁ B hml hv
  obtain ⟨rfl, hsz, hP, hK, hD0⟩ := hv
  have hx := B.exec
  have hb := B.bytes
  have hr := B.returns
  have hts := atoms_spec (ws := w_Tokens_clear) B.pre
  have hz : ∀ w ∈ wz, w.before _ s = true := fun w h => hts w (List.mem_cons_of_mem _ h)
  have hown : s.vm.findClass R_Tokens = some m.cls := findClass_of_methodNamed B.named
  have hlocks := B.notSynchronized
  subst hsz
  have hD := hD0.self (sz := s.heap.size)
  generalize hAe : va_A [(a0, .inr (11, [.ref a1, .ref a2, .int 0]))] s.heap.size = A at hD ⊢
  have hA : ∀ q : Nat, s.heap.size ≤ q → A q := fun q h => by rw [← hAe]; exact Or.inr h
  have hS : va_S A s.heap s.heap [] := va_S.rf
  have hP : va_P (dC, dI) vcl [(a0, .inr (11, [.ref a1, .ref a2, .int 0]))] s.heap := hP
  have hl := lv_entry ([.ref a0]) (n := 1) (Nat.le_of_ble_eq_true rfl)
  rw [lg_entry_eq]
  generalize (lg_sl ([.ref a0]) ++ List.replicate (1 - (lg_sl ([.ref a0])).length) Slot.unset).toArray = ls at hl ⊢
  have hl : lv_has ls 1 [(0, .ref a0)] := hl
  refine lv_aload_n hx hb d_Tokens_clear_0 rfl (lv_at hl 0 rfl) ?_
  refine lv_iconst (v := 0) hx hb d_Tokens_clear_1 (by decide) ?_
  refine va_put (D := (dC, dI)) (ci := 11) (v := .int 0) (ty := .int) (C := R_Tokens) (T := F_Tokens) (N := 3) hx hb hz zu_Tokens t_Tokens t_Tokens_ok n_Tokens hown hK hP hD hS 0 rfl rfl 2 (by decide) (hz (.fieldLink R_Tokens 19 "LayoutFront$Tokens" "size" "I") zm_111) (fun _ h9 => h9) rfl (by decide +kernel) rfl rfl (Nat.le_of_ble_eq_true rfl) d_Tokens_clear_2 (fun H locs hP hD hS => ?_)
  have hP : va_P (dC, dI) vcl [(a0, .inr (11, [.ref a1, .ref a2, .int 0]))] H := hP
  have hD : va_D A [(a0, .inr (11, [.ref a1, .ref a2, .int 0]))] := hD
  have hP9 := hP.sub (ws' := [(a0, .inr (11, [.ref a1, .ref a2, .int 0]))]) [0] rfl
  have hD9 := hD.sub (ws' := [(a0, .inr (11, [.ref a1, .ref a2, .int 0]))]) [0] (by decide) rfl
  have hK9 := hK.sub (tys' := []) [] rfl
  exact W.vret hx hb hr (fun t ht hW => ⟨⟨(), rfl, trivial, by rw [ht]; exact hP9, va_K.moved hW.alike hK9, hD9⟩, hS.F ht⟩) hS.2.2 d_Tokens_clear_5
set_option maxHeartbeats 4000000 in
set_option maxRecDepth 100000 in
theorem c15_Lexemes_clear (l : Launch) (dC : Nat → ClassId) (dI : Nat → Nat → Nat) (sz : Nat) (a0 : Nat) (a1 : Nat) (a2 : Nat) (a3 : Nat) (a4 : Nat) (a5 : Nat) (a6 : Nat) : Met l y_Lexemes_clear w_Lexemes_clear ({ frames := 1, cells := 0, slots := 0, locals := 20 }) (va_Pc [.ref a0] (fun U => U.heap.size = sz ∧ va_P (dC, dI) vcl [(a0, .inr (5, [.ref a1, .ref a2, .ref a3, .ref a4])), (a1, .inr (11, [.ref a5, .ref a6, .int 0]))] U.heap ∧ va_K (dC, dI) vcl [] U ∧ va_D (fun _ => True) [(a0, .inr (5, [.ref a1, .ref a2, .ref a3, .ref a4])), (a1, .inr (11, [.ref a5, .ref a6, .int 0]))])) (va_Qv (fun (_ : Unit) => True) (fun _ t => va_P (dC, dI) vcl [(a0, .inr (5, [.ref a1, .ref a2, .ref a3, .ref a4])), (a1, .inr (11, [.ref a5, .ref a6, .int 0]))] t.heap ∧ va_K (dC, dI) vcl [] t ∧ va_D (va_A [(a0, .inr (5, [.ref a1, .ref a2, .ref a3, .ref a4])), (a1, .inr (11, [.ref a5, .ref a6, .int 0]))] sz) [(a0, .inr (5, [.ref a1, .ref a2, .ref a3, .ref a4])), (a1, .inr (11, [.ref a5, .ref a6, .int 0]))]) (va_A [(a0, .inr (5, [.ref a1, .ref a2, .ref a3, .ref a4])), (a1, .inr (11, [.ref a5, .ref a6, .int 0]))] sz)) 0 0 (va_A [(a0, .inr (5, [.ref a1, .ref a2, .ref a3, .ref a4])), (a1, .inr (11, [.ref a5, .ref a6, .int 0]))] sz) := by
  refine Met.ofW (cc := b_Lexemes_clear) (maxL := 1) (ret := none) (by decide) rfl ?_
  intro p e s m args below meth c s₁ B hml hv
  obtain ⟨rfl, hsz, hP, hK, hD0⟩ := hv
  have hx := B.exec
  have hb := B.bytes
  have hr := B.returns
  have hts := atoms_spec (ws := w_Lexemes_clear) B.pre
  have hz : ∀ w ∈ wz, w.before _ s = true := fun w h => hts w (List.mem_cons_of_mem _ h)
  have hown : s.vm.findClass R_Lexemes = some m.cls := findClass_of_methodNamed B.named
  have hlocks := B.notSynchronized
  subst hsz
  have hD := hD0.self (sz := s.heap.size)
  generalize hAe : va_A [(a0, .inr (5, [.ref a1, .ref a2, .ref a3, .ref a4])), (a1, .inr (11, [.ref a5, .ref a6, .int 0]))] s.heap.size = A at hD ⊢
  have hA : ∀ q : Nat, s.heap.size ≤ q → A q := fun q h => by rw [← hAe]; exact Or.inr h
  have hS : va_S A s.heap s.heap [] := va_S.rf
  have hP : va_P (dC, dI) vcl [(a0, .inr (5, [.ref a1, .ref a2, .ref a3, .ref a4])), (a1, .inr (11, [.ref a5, .ref a6, .int 0]))] s.heap := hP
  have hl := lv_entry ([.ref a0]) (n := 1) (Nat.le_of_ble_eq_true rfl)
  rw [lg_entry_eq]
  generalize (lg_sl ([.ref a0]) ++ List.replicate (1 - (lg_sl ([.ref a0])).length) Slot.unset).toArray = ls at hl ⊢
  have hl : lv_has ls 1 [(0, .ref a0)] := hl
  refine lv_aload_n hx hb d_Lexemes_clear_0 rfl (lv_at hl 0 rfl) ?_
  refine va_get (D := (dC, dI)) (ci := 5) (v := .ref a1) (C := R_Lexemes) (T := F_Lexemes) (N := 4) hx hb hz zu_Lexemes hown hK hP 0 rfl rfl 0 (by decide) (hz (.fieldLink R_Lexemes 14 "LayoutFront$Lexemes" "tokens" "LLayoutFront$Tokens;") zm_21) (fun _ h9 => h9) rfl d_Lexemes_clear_1 ?_
  have hPc := hP.sub (ws' := [(a1, .inr (11, [.ref a5, .ref a6, .int 0]))]) [1] rfl
  have hDc := hD.sub (ws' := [(a1, .inr (11, [.ref a5, .ref a6, .int 0]))]) [1] (by decide) rfl
  have hKc := hK.sub (tys' := []) [] rfl
  have hFc := va_free (wc := [(a1, .inr (11, [.ref a5, .ref a6, .int 0]))]) hD hS hA [1] rfl
  refine va_callv (va_runV (As := []) (rest := []) ⟨hx, hb, hml, hown, hz⟩ (c14_Tokens_clear l dC dI s.heap.size a1 a5 a6) (cwV 0 hz (zV zm_112 zm_113 zm_114 zm_17 zm_115) rfl rfl rfl (by decide +kernel) ⟨Nat.le_of_ble_eq_true rfl, Nat.le_of_ble_eq_true rfl⟩) ⟨fun a U g mk q => by obtain ⟨q0, q1, qP, qK, qD⟩ := q; exact ⟨q0, q1, qP, va_K.moved (u := U) (U := U.calling g mk a) (Vm.Alike.refl U.vm) qK, qD⟩, va_recv (q := (R_Tokens, F_Tokens, 3)) (q0 := 1) (ci := 11) hK hP rfl rfl, fun U hU hW => ⟨rfl, by rw [hU], by rw [hU]; exact hPc, va_K.moved hW.alike hKc, hDc.weaken (fun _ _ _ _ => trivial)⟩⟩ rfl rfl hl.1 rfl (lv_room (Nat.le_of_ble_eq_true rfl)) d_Lexemes_clear_4 ⟨by decide, by decide⟩) hS (fun q _ h => hFc q h) hFc (fun u t H1 locs ht hvm hw hB hz1 hk1 hS => ?_)
  obtain ⟨hP1, hK1, hD1⟩ := hB
  rw [ht] at hP1
  obtain ⟨hP, hD⟩ := va_join (wr := [(a0, .inr (5, [.ref a1, .ref a2, .ref a3, .ref a4]))]) (w1 := [(a1, .inr (11, [.ref a5, .ref a6, .int 0]))]) hP hD [1] [0] rfl rfl (by decide) (by decide) hk1 hFc hP1 hD1
  generalize H1 = H at hP hS ⊢
  have hP : va_P (dC, dI) vcl [(a0, .inr (5, [.ref a1, .ref a2, .ref a3, .ref a4])), (a1, .inr (11, [.ref a5, .ref a6, .int 0]))] H := hP
  have hD : va_D A [(a0, .inr (5, [.ref a1, .ref a2, .ref a3, .ref a4])), (a1, .inr (11, [.ref a5, .ref a6, .int 0]))] := hD
  have hP9 := hP.sub (ws' := [(a0, .inr (5, [.ref a1, .ref a2, .ref a3, .ref a4])), (a1, .inr (11, [.ref a5, .ref a6, .int 0]))]) [0, 1] rfl
  have hD9 := hD.sub (ws' := [(a0, .inr (5, [.ref a1, .ref a2, .ref a3, .ref a4])), (a1, .inr (11, [.ref a5, .ref a6, .int 0]))]) [0, 1] (by decide) rfl
  have hK9 := hK.sub (tys' := []) [] rfl
  exact W.vret hx hb hr (fun t ht hW => ⟨⟨(), rfl, trivial, by rw [ht]; exact hP9, va_K.moved hW.alike hK9, hD9⟩, hS.F ht⟩) hS.2.2 d_Lexemes_clear_7
set_option maxHeartbeats 4000000 in
set_option maxRecDepth 100000 in
theorem c16_Text_length (l : Launch) (dC : Nat → ClassId) (dI : Nat → Nat → Nat) (sz : Nat) (a0 : Nat) (a1 : Nat) : Met l y_Text_length w_Text_length ({ frames := 0, cells := 0, slots := 0, locals := 0 }) (va_Pc [.ref a0] (fun U => U.heap.size = sz ∧ va_P (dC, dI) vcl [(a0, .inr (10, [.ref a1, .int 0]))] U.heap ∧ va_K (dC, dI) vcl [] U ∧ va_D (fun _ => True) [(a0, .inr (10, [.ref a1, .int 0]))])) (va_Qi (fun (r : Int32) (_ : Unit) => r = 0) (fun _ t => va_P (dC, dI) vcl [(a0, .inr (10, [.ref a1, .int 0]))] t.heap ∧ va_K (dC, dI) vcl [] t ∧ va_D (va_A [(a0, .inr (10, [.ref a1, .int 0]))] sz) [(a0, .inr (10, [.ref a1, .int 0]))]) (va_A [(a0, .inr (10, [.ref a1, .int 0]))] sz)) 0 0 (va_A [(a0, .inr (10, [.ref a1, .int 0]))] sz) := by
  refine Met.ofW (cc := b_Text_length) (maxL := 1) (ret := (some .int)) (by decide) rfl ?_
  intro p e s m args below meth c s₁ B hml hv
  obtain ⟨rfl, hsz, hP, hK, hD0⟩ := hv
  have hx := B.exec
  have hb := B.bytes
  have hr := B.returns
  have hts := atoms_spec (ws := w_Text_length) B.pre
  have hz : ∀ w ∈ wz, w.before _ s = true := fun w h => hts w (List.mem_cons_of_mem _ h)
  have hown : s.vm.findClass R_Text = some m.cls := findClass_of_methodNamed B.named
  have hlocks := B.notSynchronized
  subst hsz
  have hD := hD0.self (sz := s.heap.size)
  generalize hAe : va_A [(a0, .inr (10, [.ref a1, .int 0]))] s.heap.size = A at hD ⊢
  have hA : ∀ q : Nat, s.heap.size ≤ q → A q := fun q h => by rw [← hAe]; exact Or.inr h
  have hS : va_S A s.heap s.heap [] := va_S.rf
  have hP : va_P (dC, dI) vcl [(a0, .inr (10, [.ref a1, .int 0]))] s.heap := hP
  have hl := lv_entry ([.ref a0]) (n := 1) (Nat.le_of_ble_eq_true rfl)
  rw [lg_entry_eq]
  generalize (lg_sl ([.ref a0]) ++ List.replicate (1 - (lg_sl ([.ref a0])).length) Slot.unset).toArray = ls at hl ⊢
  have hl : lv_has ls 1 [(0, .ref a0)] := hl
  refine lv_aload_n hx hb d_Text_length_0 rfl (lv_at hl 0 rfl) ?_
  refine va_get (D := (dC, dI)) (ci := 10) (v := .int 0) (C := R_Text) (T := F_Text) (N := 2) hx hb hz zu_Text hown hK hP 0 rfl rfl 1 (by decide) (hz (.fieldLink R_Text 19 "LayoutFront$Text" "length" "I") zm_116) (fun _ h9 => h9) rfl d_Text_length_1 ?_
  have hP9 := hP.sub (ws' := [(a0, .inr (10, [.ref a1, .int 0]))]) [0] rfl
  have hD9 := hD.sub (ws' := [(a0, .inr (10, [.ref a1, .int 0]))]) [0] (by decide) rfl
  have hK9 := hK.sub (tys' := []) [] rfl
  exact W.iret (v := 0) hx hb hr (fun t ht hW => ⟨⟨0, (), rfl, rfl, by rw [ht]; exact hP9, va_K.moved hW.alike hK9, hD9⟩, hS.F ht⟩) hS.2.2 d_Text_length_4
set_option maxHeartbeats 4000000 in
set_option maxRecDepth 100000 in
theorem c17_Cutter_cut (l : Launch) (dC : Nat → ClassId) (dI : Nat → Nat → Nat) (sz : Nat) (a0 : Nat) (a1 : Nat) (a2 : Nat) (a3 : Nat) (a4 : Nat) (a5 : Nat) (a6 : Nat) (a7 : Nat) (a8 : Nat) (a9 : Nat) : Met l y_Cutter_cut w_Cutter_cut ({ frames := 2, cells := 0, slots := 0, locals := 40 }) (va_Pc [.ref a0, .ref a1] (fun U => U.heap.size = sz ∧ va_P (dC, dI) vcl [(a1, .inr (10, [.ref a4, .int 0])), (a0, .inr (3, [.ref a2, .int 0, .int 0, .int 0, .int (-1), .int 0])), (a2, .inr (5, [.ref a3, .ref a5, .ref a6, .ref a7])), (a3, .inr (11, [.ref a8, .ref a9, .int 0]))] U.heap ∧ va_K (dC, dI) vcl [] U ∧ va_D (fun _ => True) [(a1, .inr (10, [.ref a4, .int 0])), (a0, .inr (3, [.ref a2, .int 0, .int 0, .int 0, .int (-1), .int 0])), (a2, .inr (5, [.ref a3, .ref a5, .ref a6, .ref a7])), (a3, .inr (11, [.ref a8, .ref a9, .int 0]))])) (va_Qi (fun (r : Int32) (_ : Unit) => r = (-1)) (fun _ t => va_P (dC, dI) vcl [(a1, .inr (10, [.ref a4, .int 0])), (a0, .inr (3, [.ref a2, .int 0, .int 0, .int 1, .int (-1), .int 0])), (a2, .inr (5, [.ref a3, .ref a5, .ref a6, .ref a7])), (a3, .inr (11, [.ref a8, .ref a9, .int 0]))] t.heap ∧ va_K (dC, dI) vcl [] t ∧ va_D (va_A [(a1, .inr (10, [.ref a4, .int 0])), (a0, .inr (3, [.ref a2, .int 0, .int 0, .int 0, .int (-1), .int 0])), (a2, .inr (5, [.ref a3, .ref a5, .ref a6, .ref a7])), (a3, .inr (11, [.ref a8, .ref a9, .int 0]))] sz) [(a1, .inr (10, [.ref a4, .int 0])), (a0, .inr (3, [.ref a2, .int 0, .int 0, .int 1, .int (-1), .int 0])), (a2, .inr (5, [.ref a3, .ref a5, .ref a6, .ref a7])), (a3, .inr (11, [.ref a8, .ref a9, .int 0]))]) (va_A [(a1, .inr (10, [.ref a4, .int 0])), (a0, .inr (3, [.ref a2, .int 0, .int 0, .int 0, .int (-1), .int 0])), (a2, .inr (5, [.ref a3, .ref a5, .ref a6, .ref a7])), (a3, .inr (11, [.ref a8, .ref a9, .int 0]))] sz)) 0 0 (va_A [(a1, .inr (10, [.ref a4, .int 0])), (a0, .inr (3, [.ref a2, .int 0, .int 0, .int 0, .int (-1), .int 0])), (a2, .inr (5, [.ref a3, .ref a5, .ref a6, .ref a7])), (a3, .inr (11, [.ref a8, .ref a9, .int 0]))] sz) := by
  refine Met.ofW (cc := b_Cutter_cut) (maxL := 3) (ret := (some .int)) (by decide) rfl ?_
  intro p e s m args below meth c s₁ B hml hv
  obtain ⟨rfl, hsz, hP, hK, hD0⟩ := hv
  have hx := B.exec
  have hb := B.bytes
  have hr := B.returns
  have hts := atoms_spec (ws := w_Cutter_cut) B.pre
  have hz : ∀ w ∈ wz, w.before _ s = true := fun w h => hts w (List.mem_cons_of_mem _ h)
  have hown : s.vm.findClass R_Cutter = some m.cls := findClass_of_methodNamed B.named
  have hlocks := B.notSynchronized
  subst hsz
  have hD := hD0.self (sz := s.heap.size)
  generalize hAe : va_A [(a1, .inr (10, [.ref a4, .int 0])), (a0, .inr (3, [.ref a2, .int 0, .int 0, .int 0, .int (-1), .int 0])), (a2, .inr (5, [.ref a3, .ref a5, .ref a6, .ref a7])), (a3, .inr (11, [.ref a8, .ref a9, .int 0]))] s.heap.size = A at hD ⊢
  have hA : ∀ q : Nat, s.heap.size ≤ q → A q := fun q h => by rw [← hAe]; exact Or.inr h
  have hS : va_S A s.heap s.heap [] := va_S.rf
  have hP : va_P (dC, dI) vcl [(a1, .inr (10, [.ref a4, .int 0])), (a0, .inr (3, [.ref a2, .int 0, .int 0, .int 0, .int (-1), .int 0])), (a2, .inr (5, [.ref a3, .ref a5, .ref a6, .ref a7])), (a3, .inr (11, [.ref a8, .ref a9, .int 0]))] s.heap := hP
  have hl := lv_entry ([.ref a0, .ref a1]) (n := 3) (Nat.le_of_ble_eq_true rfl)
  rw [lg_entry_eq]
  generalize (lg_sl ([.ref a0, .ref a1]) ++ List.replicate (3 - (lg_sl ([.ref a0, .ref a1])).length) Slot.unset).toArray = ls at hl ⊢
  have hl : lv_has ls 3 [(0, .ref a0), (1, .ref a1)] := hl
  refine lv_aload_n hx hb d_Cutter_cut_0 rfl (lv_at hl 0 rfl) ?_
  refine va_get (D := (dC, dI)) (ci := 3) (v := .ref a2) (C := R_Cutter) (T := F_Cutter) (N := 6) hx hb hz zu_Cutter hown hK hP 1 rfl rfl 0 (by decide) (hz (.fieldLink R_Cutter 12 "LayoutFront$Cutter" "lexemes" "LLayoutFront$Lexemes;") zm_32) (fun _ h9 => h9) rfl d_Cutter_cut_1 ?_
  have hPc := hP.sub (ws' := [(a2, .inr (5, [.ref a3, .ref a5, .ref a6, .ref a7])), (a3, .inr (11, [.ref a8, .ref a9, .int 0]))]) [2, 3] rfl
  have hDc := hD.sub (ws' := [(a2, .inr (5, [.ref a3, .ref a5, .ref a6, .ref a7])), (a3, .inr (11, [.ref a8, .ref a9, .int 0]))]) [2, 3] (by decide) rfl
  have hKc := hK.sub (tys' := []) [] rfl
  have hFc := va_free (wc := [(a2, .inr (5, [.ref a3, .ref a5, .ref a6, .ref a7])), (a3, .inr (11, [.ref a8, .ref a9, .int 0]))]) hD hS hA [2, 3] rfl
  refine va_callv (va_runV (As := []) (rest := []) ⟨hx, hb, hml, hown, hz⟩ (c15_Lexemes_clear l dC dI s.heap.size a2 a3 a5 a6 a7 a8 a9) (cwV 0 hz (zV zm_117 zm_118 zm_119 zm_29 zm_120) rfl rfl rfl (by decide +kernel) ⟨Nat.le_of_ble_eq_true rfl, Nat.le_of_ble_eq_true rfl⟩) ⟨fun a U g mk q => by obtain ⟨q0, q1, qP, qK, qD⟩ := q; exact ⟨q0, q1, qP, va_K.moved (u := U) (U := U.calling g mk a) (Vm.Alike.refl U.vm) qK, qD⟩, va_recv (q := (R_Lexemes, F_Lexemes, 4)) (q0 := 2) (ci := 5) hK hP rfl rfl, fun U hU hW => ⟨rfl, by rw [hU], by rw [hU]; exact hPc, va_K.moved hW.alike hKc, hDc.weaken (fun _ _ _ _ => trivial)⟩⟩ rfl rfl hl.1 rfl (lv_room (Nat.le_of_ble_eq_true rfl)) d_Cutter_cut_4 ⟨by decide, by decide⟩) hS (fun q _ h => hFc q h) hFc (fun u t H1 locs ht hvm hw hB hz1 hk1 hS => ?_)
  obtain ⟨hP1, hK1, hD1⟩ := hB
  rw [ht] at hP1
  obtain ⟨hP, hD⟩ := va_join (wr := [(a1, .inr (10, [.ref a4, .int 0])), (a0, .inr (3, [.ref a2, .int 0, .int 0, .int 0, .int (-1), .int 0]))]) (w1 := [(a2, .inr (5, [.ref a3, .ref a5, .ref a6, .ref a7])), (a3, .inr (11, [.ref a8, .ref a9, .int 0]))]) hP hD [2, 3] [0, 1] rfl rfl (by decide) (by decide) hk1 hFc hP1 hD1
  generalize H1 = H at hP hS ⊢
  have hP : va_P (dC, dI) vcl [(a1, .inr (10, [.ref a4, .int 0])), (a0, .inr (3, [.ref a2, .int 0, .int 0, .int 0, .int (-1), .int 0])), (a2, .inr (5, [.ref a3, .ref a5, .ref a6, .ref a7])), (a3, .inr (11, [.ref a8, .ref a9, .int 0]))] H := hP
  have hD : va_D A [(a1, .inr (10, [.ref a4, .int 0])), (a0, .inr (3, [.ref a2, .int 0, .int 0, .int 0, .int (-1), .int 0])), (a2, .inr (5, [.ref a3, .ref a5, .ref a6, .ref a7])), (a3, .inr (11, [.ref a8, .ref a9, .int 0]))] := hD
  refine lv_aload_n hx hb d_Cutter_cut_7 rfl (lv_at hl 0 rfl) ?_
  refine lv_iconst (v := 0) hx hb d_Cutter_cut_8 (by decide) ?_
  refine va_put (D := (dC, dI)) (ci := 3) (v := .int 0) (ty := .int) (C := R_Cutter) (T := F_Cutter) (N := 6) hx hb hz zu_Cutter t_Cutter t_Cutter_ok n_Cutter hown hK hP hD hS 1 rfl rfl 1 (by decide) (hz (.fieldLink R_Cutter 29 "LayoutFront$Cutter" "at" "I") zm_121) (fun _ h9 => h9) rfl (by decide +kernel) rfl rfl (Nat.le_of_ble_eq_true rfl) d_Cutter_cut_9 (fun H locs hP hD hS => ?_)
  have hP : va_P (dC, dI) vcl [(a1, .inr (10, [.ref a4, .int 0])), (a0, .inr (3, [.ref a2, .int 0, .int 0, .int 0, .int (-1), .int 0])), (a2, .inr (5, [.ref a3, .ref a5, .ref a6, .ref a7])), (a3, .inr (11, [.ref a8, .ref a9, .int 0]))] H := hP
  have hD : va_D A [(a1, .inr (10, [.ref a4, .int 0])), (a0, .inr (3, [.ref a2, .int 0, .int 0, .int 0, .int (-1), .int 0])), (a2, .inr (5, [.ref a3, .ref a5, .ref a6, .ref a7])), (a3, .inr (11, [.ref a8, .ref a9, .int 0]))] := hD
  refine lv_aload_n hx hb d_Cutter_cut_12 rfl (lv_at hl 0 rfl) ?_
  refine lv_iconst (v := 0) hx hb d_Cutter_cut_13 (by decide) ?_
  refine va_put (D := (dC, dI)) (ci := 3) (v := .int 0) (ty := .int) (C := R_Cutter) (T := F_Cutter) (N := 6) hx hb hz zu_Cutter t_Cutter t_Cutter_ok n_Cutter hown hK hP hD hS 1 rfl rfl 2 (by decide) (hz (.fieldLink R_Cutter 32 "LayoutFront$Cutter" "lineStart" "I") zm_122) (fun _ h9 => h9) rfl (by decide +kernel) rfl rfl (Nat.le_of_ble_eq_true rfl) d_Cutter_cut_14 (fun H locs hP hD hS => ?_)
  have hP : va_P (dC, dI) vcl [(a1, .inr (10, [.ref a4, .int 0])), (a0, .inr (3, [.ref a2, .int 0, .int 0, .int 0, .int (-1), .int 0])), (a2, .inr (5, [.ref a3, .ref a5, .ref a6, .ref a7])), (a3, .inr (11, [.ref a8, .ref a9, .int 0]))] H := hP
  have hD : va_D A [(a1, .inr (10, [.ref a4, .int 0])), (a0, .inr (3, [.ref a2, .int 0, .int 0, .int 0, .int (-1), .int 0])), (a2, .inr (5, [.ref a3, .ref a5, .ref a6, .ref a7])), (a3, .inr (11, [.ref a8, .ref a9, .int 0]))] := hD
  refine lv_aload_n hx hb d_Cutter_cut_17 rfl (lv_at hl 0 rfl) ?_
  refine lv_iconst (v := 1) hx hb d_Cutter_cut_18 (by decide) ?_
  refine va_put (D := (dC, dI)) (ci := 3) (v := .int 1) (ty := .boolean) (C := R_Cutter) (T := F_Cutter) (N := 6) hx hb hz zu_Cutter t_Cutter t_Cutter_ok n_Cutter hown hK hP hD hS 1 rfl rfl 3 (by decide) (hz (.fieldLink R_Cutter 35 "LayoutFront$Cutter" "lineIsFresh" "Z") zm_123) (fun _ h9 => h9) rfl (by decide +kernel) rfl rfl (Nat.le_of_ble_eq_true rfl) d_Cutter_cut_19 (fun H locs hP hD hS => ?_)
  have hP : va_P (dC, dI) vcl [(a1, .inr (10, [.ref a4, .int 0])), (a0, .inr (3, [.ref a2, .int 0, .int 0, .int 1, .int (-1), .int 0])), (a2, .inr (5, [.ref a3, .ref a5, .ref a6, .ref a7])), (a3, .inr (11, [.ref a8, .ref a9, .int 0]))] H := hP
  have hD : va_D A [(a1, .inr (10, [.ref a4, .int 0])), (a0, .inr (3, [.ref a2, .int 0, .int 0, .int 1, .int (-1), .int 0])), (a2, .inr (5, [.ref a3, .ref a5, .ref a6, .ref a7])), (a3, .inr (11, [.ref a8, .ref a9, .int 0]))] := hD
  refine lv_aload_n hx hb d_Cutter_cut_22 rfl (lv_at hl 0 rfl) ?_
  refine lv_iconst (v := (-1)) hx hb d_Cutter_cut_23 (by decide) ?_
  refine va_put (D := (dC, dI)) (ci := 3) (v := .int (-1)) (ty := .int) (C := R_Cutter) (T := F_Cutter) (N := 6) hx hb hz zu_Cutter t_Cutter t_Cutter_ok n_Cutter hown hK hP hD hS 1 rfl rfl 4 (by decide) (hz (.fieldLink R_Cutter 18 "LayoutFront$Cutter" "wrongPlace" "I") zm_33) (fun _ h9 => h9) rfl (by decide +kernel) rfl rfl (Nat.le_of_ble_eq_true rfl) d_Cutter_cut_24 (fun H locs hP hD hS => ?_)
  have hP : va_P (dC, dI) vcl [(a1, .inr (10, [.ref a4, .int 0])), (a0, .inr (3, [.ref a2, .int 0, .int 0, .int 1, .int (-1), .int 0])), (a2, .inr (5, [.ref a3, .ref a5, .ref a6, .ref a7])), (a3, .inr (11, [.ref a8, .ref a9, .int 0]))] H := hP
  have hD : va_D A [(a1, .inr (10, [.ref a4, .int 0])), (a0, .inr (3, [.ref a2, .int 0, .int 0, .int 1, .int (-1), .int 0])), (a2, .inr (5, [.ref a3, .ref a5, .ref a6, .ref a7])), (a3, .inr (11, [.ref a8, .ref a9, .int 0]))] := hD
  refine lv_aload_n hx hb d_Cutter_cut_27 rfl (lv_at hl 0 rfl) ?_
  refine lv_iconst (v := 0) hx hb d_Cutter_cut_28 (by decide) ?_
  refine va_put (D := (dC, dI)) (ci := 3) (v := .int 0) (ty := .boolean) (C := R_Cutter) (T := F_Cutter) (N := 6) hx hb hz zu_Cutter t_Cutter t_Cutter_ok n_Cutter hown hK hP hD hS 1 rfl rfl 5 (by decide) (hz (.fieldLink R_Cutter 22 "LayoutFront$Cutter" "tooMany" "Z") zm_124) (fun _ h9 => h9) rfl (by decide +kernel) rfl rfl (Nat.le_of_ble_eq_true rfl) d_Cutter_cut_29 (fun H locs hP hD hS => ?_)
  have hP : va_P (dC, dI) vcl [(a1, .inr (10, [.ref a4, .int 0])), (a0, .inr (3, [.ref a2, .int 0, .int 0, .int 1, .int (-1), .int 0])), (a2, .inr (5, [.ref a3, .ref a5, .ref a6, .ref a7])), (a3, .inr (11, [.ref a8, .ref a9, .int 0]))] H := hP
  have hD : va_D A [(a1, .inr (10, [.ref a4, .int 0])), (a0, .inr (3, [.ref a2, .int 0, .int 0, .int 1, .int (-1), .int 0])), (a2, .inr (5, [.ref a3, .ref a5, .ref a6, .ref a7])), (a3, .inr (11, [.ref a8, .ref a9, .int 0]))] := hD
  refine lv_iconst (v := 0) hx hb d_Cutter_cut_32 (by decide) ?_
  refine lv_istore_n hx hb d_Cutter_cut_33 rfl hl (by decide) rfl (fun ls hl => ?_)
  have hl : lv_has ls 3 [(2, .int 0), (0, .ref a0), (1, .ref a1)] := hl
  refine lv_iload_n hx hb d_Cutter_cut_34 rfl (lv_at hl 0 rfl) ?_
  refine lv_sipush (v := 240) hx hb d_Cutter_cut_35 (by decide) ?_
  refine lv_icmp_ge (tgt := 122) hx hb d_Cutter_cut_38 (by decide) (fun h => absurd h (by decide +kernel)) (fun _ => ?_)
  refine lv_aload_n hx hb d_Cutter_cut_41 rfl (lv_at hl 1 rfl) ?_
  refine va_get (D := (dC, dI)) (ci := 3) (v := .int 0) (C := R_Cutter) (T := F_Cutter) (N := 6) hx hb hz zu_Cutter hown hK hP 1 rfl rfl 1 (by decide) (hz (.fieldLink R_Cutter 29 "LayoutFront$Cutter" "at" "I") zm_121) (fun _ h9 => h9) rfl d_Cutter_cut_42 ?_
  refine lv_aload_n hx hb d_Cutter_cut_45 rfl (lv_at hl 2 rfl) ?_
  have hPc := hP.sub (ws' := [(a1, .inr (10, [.ref a4, .int 0]))]) [0] rfl
  have hDc := hD.sub (ws' := [(a1, .inr (10, [.ref a4, .int 0]))]) [0] (by decide) rfl
  have hKc := hK.sub (tys' := []) [] rfl
  have hFc := va_free (wc := [(a1, .inr (10, [.ref a4, .int 0]))]) hD hS hA [0] rfl
  refine va_calli (va_runV (As := []) (rest := [.int 0]) ⟨hx, hb, hml, hown, hz⟩ (c16_Text_length l dC dI H.size a1 a4) (cwV 0 hz (zV zm_125 zm_126 zm_127 zm_78 zm_128) rfl rfl rfl (by decide +kernel) ⟨Nat.le_of_ble_eq_true rfl, Nat.le_of_ble_eq_true rfl⟩) ⟨fun a U g mk q => by obtain ⟨q0, q1, qP, qK, qD⟩ := q; exact ⟨q0, q1, qP, va_K.moved (u := U) (U := U.calling g mk a) (Vm.Alike.refl U.vm) qK, qD⟩, va_recv (q := (R_Text, F_Text, 2)) (q0 := 0) (ci := 10) hK hP rfl rfl, fun U hU hW => ⟨rfl, by rw [hU], by rw [hU]; exact hPc, va_K.moved hW.alike hKc, hDc.weaken (fun _ _ _ _ => trivial)⟩⟩ rfl rfl hl.1 rfl (lv_room (Nat.le_of_ble_eq_true rfl)) d_Cutter_cut_46 ⟨by decide, by decide⟩) hS (fun q _ h => hFc q h) hFc (fun r u t H1 locs ht hvm hw hB hz1 hk1 hS => ?_)
  obtain ⟨hP1, hK1, hD1⟩ := hB
  subst r
  rw [ht] at hP1
  obtain ⟨hP, hD⟩ := va_join (wr := [(a0, .inr (3, [.ref a2, .int 0, .int 0, .int 1, .int (-1), .int 0])), (a2, .inr (5, [.ref a3, .ref a5, .ref a6, .ref a7])), (a3, .inr (11, [.ref a8, .ref a9, .int 0]))]) (w1 := [(a1, .inr (10, [.ref a4, .int 0]))]) hP hD [0] [1, 2, 3] rfl rfl (by decide) (by decide) hk1 hFc hP1 hD1
  generalize H1 = H at hP hS ⊢
  have hP : va_P (dC, dI) vcl [(a0, .inr (3, [.ref a2, .int 0, .int 0, .int 1, .int (-1), .int 0])), (a2, .inr (5, [.ref a3, .ref a5, .ref a6, .ref a7])), (a3, .inr (11, [.ref a8, .ref a9, .int 0])), (a1, .inr (10, [.ref a4, .int 0]))] H := hP
  have hD : va_D A [(a0, .inr (3, [.ref a2, .int 0, .int 0, .int 1, .int (-1), .int 0])), (a2, .inr (5, [.ref a3, .ref a5, .ref a6, .ref a7])), (a3, .inr (11, [.ref a8, .ref a9, .int 0])), (a1, .inr (10, [.ref a4, .int 0]))] := hD
  refine lv_icmp_ge (tgt := 122) hx hb d_Cutter_cut_49 (by decide) (fun _ => ?_) (fun h => (h (by decide +kernel)).elim)
  refine lv_aload_n hx hb d_Cutter_cut_122 rfl (lv_at hl 1 rfl) ?_
  refine va_get (D := (dC, dI)) (ci := 3) (v := .int (-1)) (C := R_Cutter) (T := F_Cutter) (N := 6) hx hb hz zu_Cutter hown hK hP 0 rfl rfl 4 (by decide) (hz (.fieldLink R_Cutter 18 "LayoutFront$Cutter" "wrongPlace" "I") zm_33) (fun _ h9 => h9) rfl d_Cutter_cut_123 ?_
  have hP9 := hP.sub (ws' := [(a1, .inr (10, [.ref a4, .int 0])), (a0, .inr (3, [.ref a2, .int 0, .int 0, .int 1, .int (-1), .int 0])), (a2, .inr (5, [.ref a3, .ref a5, .ref a6, .ref a7])), (a3, .inr (11, [.ref a8, .ref a9, .int 0]))]) [3, 0, 1, 2] rfl
  have hD9 := hD.sub (ws' := [(a1, .inr (10, [.ref a4, .int 0])), (a0, .inr (3, [.ref a2, .int 0, .int 0, .int 1, .int (-1), .int 0])), (a2, .inr (5, [.ref a3, .ref a5, .ref a6, .ref a7])), (a3, .inr (11, [.ref a8, .ref a9, .int 0]))]) [3, 0, 1, 2] (by decide) rfl
  have hK9 := hK.sub (tys' := []) [] rfl
  exact W.iret (v := (-1)) hx hb hr (fun t ht hW => ⟨⟨(-1), (), rfl, rfl, by rw [ht]; exact hP9, va_K.moved hW.alike hK9, hD9⟩, hS.F ht⟩) hS.2.2 d_Cutter_cut_126
set_option maxHeartbeats 4000000 in
set_option maxRecDepth 100000 in
theorem c18_Cutter_foundTooMany (l : Launch) (dC : Nat → ClassId) (dI : Nat → Nat → Nat) (sz : Nat) (a0 : Nat) (a1 : Nat) : Met l y_Cutter_foundTooMany w_Cutter_foundTooMany ({ frames := 0, cells := 0, slots := 0, locals := 0 }) (va_Pc [.ref a0] (fun U => U.heap.size = sz ∧ va_P (dC, dI) vcl [(a0, .inr (3, [.ref a1, .int 0, .int 0, .int 1, .int (-1), .int 0]))] U.heap ∧ va_K (dC, dI) vcl [] U ∧ va_D (fun _ => True) [(a0, .inr (3, [.ref a1, .int 0, .int 0, .int 1, .int (-1), .int 0]))])) (va_Qi (fun (r : Int32) (_ : Unit) => r = 0) (fun _ t => va_P (dC, dI) vcl [(a0, .inr (3, [.ref a1, .int 0, .int 0, .int 1, .int (-1), .int 0]))] t.heap ∧ va_K (dC, dI) vcl [] t ∧ va_D (va_A [(a0, .inr (3, [.ref a1, .int 0, .int 0, .int 1, .int (-1), .int 0]))] sz) [(a0, .inr (3, [.ref a1, .int 0, .int 0, .int 1, .int (-1), .int 0]))]) (va_A [(a0, .inr (3, [.ref a1, .int 0, .int 0, .int 1, .int (-1), .int 0]))] sz)) 0 0 (va_A [(a0, .inr (3, [.ref a1, .int 0, .int 0, .int 1, .int (-1), .int 0]))] sz) := by
  refine Met.ofW (cc := b_Cutter_foundTooMany) (maxL := 1) (ret := (some .boolean)) (by decide) rfl ?_
  intro p e s m args below meth c s₁ B hml hv
  obtain ⟨rfl, hsz, hP, hK, hD0⟩ := hv
  have hx := B.exec
  have hb := B.bytes
  have hr := B.returns
  have hts := atoms_spec (ws := w_Cutter_foundTooMany) B.pre
  have hz : ∀ w ∈ wz, w.before _ s = true := fun w h => hts w (List.mem_cons_of_mem _ h)
  have hown : s.vm.findClass R_Cutter = some m.cls := findClass_of_methodNamed B.named
  have hlocks := B.notSynchronized
  subst hsz
  have hD := hD0.self (sz := s.heap.size)
  generalize hAe : va_A [(a0, .inr (3, [.ref a1, .int 0, .int 0, .int 1, .int (-1), .int 0]))] s.heap.size = A at hD ⊢
  have hA : ∀ q : Nat, s.heap.size ≤ q → A q := fun q h => by rw [← hAe]; exact Or.inr h
  have hS : va_S A s.heap s.heap [] := va_S.rf
  have hP : va_P (dC, dI) vcl [(a0, .inr (3, [.ref a1, .int 0, .int 0, .int 1, .int (-1), .int 0]))] s.heap := hP
  have hl := lv_entry ([.ref a0]) (n := 1) (Nat.le_of_ble_eq_true rfl)
  rw [lg_entry_eq]
  generalize (lg_sl ([.ref a0]) ++ List.replicate (1 - (lg_sl ([.ref a0])).length) Slot.unset).toArray = ls at hl ⊢
  have hl : lv_has ls 1 [(0, .ref a0)] := hl
  refine lv_aload_n hx hb d_Cutter_foundTooMany_0 rfl (lv_at hl 0 rfl) ?_
  refine va_get (D := (dC, dI)) (ci := 3) (v := .int 0) (C := R_Cutter) (T := F_Cutter) (N := 6) hx hb hz zu_Cutter hown hK hP 0 rfl rfl 5 (by decide) (hz (.fieldLink R_Cutter 22 "LayoutFront$Cutter" "tooMany" "Z") zm_124) (fun _ h9 => h9) rfl d_Cutter_foundTooMany_1 ?_
  have hP9 := hP.sub (ws' := [(a0, .inr (3, [.ref a1, .int 0, .int 0, .int 1, .int (-1), .int 0]))]) [0] rfl
  have hD9 := hD.sub (ws' := [(a0, .inr (3, [.ref a1, .int 0, .int 0, .int 1, .int (-1), .int 0]))]) [0] (by decide) rfl
  have hK9 := hK.sub (tys' := []) [] rfl
  exact W.zret (v := 0) hx hb hr (by decide +kernel) (fun t ht hW => ⟨⟨0, (), rfl, rfl, by rw [ht]; exact hP9, va_K.moved hW.alike hK9, hD9⟩, hS.F ht⟩) hS.2.2 d_Cutter_foundTooMany_4
set_option maxHeartbeats 4000000 in
set_option maxRecDepth 100000 in
theorem c19_Cutter_lexemes (l : Launch) (dC : Nat → ClassId) (dI : Nat → Nat → Nat) (sz : Nat) (a0 : Nat) (a1 : Nat) : Met l y_Cutter_lexemes w_Cutter_lexemes ({ frames := 0, cells := 0, slots := 0, locals := 0 }) (va_Pc [.ref a0] (fun U => U.heap.size = sz ∧ va_P (dC, dI) vcl [(a0, .inr (3, [.ref a1, .int 0, .int 0, .int 1, .int (-1), .int 0]))] U.heap ∧ va_K (dC, dI) vcl [] U ∧ va_D (fun _ => True) [(a0, .inr (3, [.ref a1, .int 0, .int 0, .int 1, .int (-1), .int 0]))])) (va_Qr (fun (_ : Unit) => True) (fun _ ra t => ra = a1 ∧ va_P (dC, dI) vcl [(a0, .inr (3, [.ref a1, .int 0, .int 0, .int 1, .int (-1), .int 0]))] t.heap ∧ va_K (dC, dI) vcl [] t ∧ va_D (va_A [(a0, .inr (3, [.ref a1, .int 0, .int 0, .int 1, .int (-1), .int 0]))] sz) [(a0, .inr (3, [.ref a1, .int 0, .int 0, .int 1, .int (-1), .int 0]))]) (va_A [(a0, .inr (3, [.ref a1, .int 0, .int 0, .int 1, .int (-1), .int 0]))] sz)) 0 0 (va_A [(a0, .inr (3, [.ref a1, .int 0, .int 0, .int 1, .int (-1), .int 0]))] sz) := by
  refine Met.ofW (cc := b_Cutter_lexemes) (maxL := 1) (ret := (some (.object "LayoutFront$Lexemes"))) (by decide) rfl ?_
  intro p e s m args below meth c s₁ B hml hv
  obtain ⟨rfl, hsz, hP, hK, hD0⟩ := hv
  have hx := B.exec
  have hb := B.bytes
  have hr := B.returns
  have hts := atoms_spec (ws := w_Cutter_lexemes) B.pre
  have hz : ∀ w ∈ wz, w.before _ s = true := fun w h => hts w (List.mem_cons_of_mem _ h)
  have hown : s.vm.findClass R_Cutter = some m.cls := findClass_of_methodNamed B.named
  have hlocks := B.notSynchronized
  subst hsz
  have hD := hD0.self (sz := s.heap.size)
  generalize hAe : va_A [(a0, .inr (3, [.ref a1, .int 0, .int 0, .int 1, .int (-1), .int 0]))] s.heap.size = A at hD ⊢
  have hA : ∀ q : Nat, s.heap.size ≤ q → A q := fun q h => by rw [← hAe]; exact Or.inr h
  have hS : va_S A s.heap s.heap [] := va_S.rf
  have hP : va_P (dC, dI) vcl [(a0, .inr (3, [.ref a1, .int 0, .int 0, .int 1, .int (-1), .int 0]))] s.heap := hP
  have hl := lv_entry ([.ref a0]) (n := 1) (Nat.le_of_ble_eq_true rfl)
  rw [lg_entry_eq]
  generalize (lg_sl ([.ref a0]) ++ List.replicate (1 - (lg_sl ([.ref a0])).length) Slot.unset).toArray = ls at hl ⊢
  have hl : lv_has ls 1 [(0, .ref a0)] := hl
  refine lv_aload_n hx hb d_Cutter_lexemes_0 rfl (lv_at hl 0 rfl) ?_
  refine va_get (D := (dC, dI)) (ci := 3) (v := .ref a1) (C := R_Cutter) (T := F_Cutter) (N := 6) hx hb hz zu_Cutter hown hK hP 0 rfl rfl 0 (by decide) (hz (.fieldLink R_Cutter 12 "LayoutFront$Cutter" "lexemes" "LLayoutFront$Lexemes;") zm_32) (fun _ h9 => h9) rfl d_Cutter_lexemes_1 ?_
  have hP9 := hP.sub (ws' := [(a0, .inr (3, [.ref a1, .int 0, .int 0, .int 1, .int (-1), .int 0]))]) [0] rfl
  have hD9 := hD.sub (ws' := [(a0, .inr (3, [.ref a1, .int 0, .int 0, .int 1, .int (-1), .int 0]))]) [0] (by decide) rfl
  have hK9 := hK.sub (tys' := []) [] rfl
  exact W.aret (v := .ref a1) hx hb hr (Or.inl ⟨_, rfl⟩) (Or.inr ⟨_, rfl⟩) (fun t ht hW => ⟨⟨(), a1, rfl, trivial, rfl, by rw [ht]; exact hP9, va_K.moved hW.alike hK9, hD9⟩, hS.F ht⟩) hS.2.2 d_Cutter_lexemes_4
set_option maxHeartbeats 4000000 in
set_option maxRecDepth 100000 in
theorem c20_Open_clear (l : Launch) (dC : Nat → ClassId) (dI : Nat → Nat → Nat) (sz : Nat) (a0 : Nat) (a1 : Nat) : Met l y_Open_clear w_Open_clear ({ frames := 0, cells := 0, slots := 0, locals := 0 }) (va_Pc [.ref a0] (fun U => U.heap.size = sz ∧ va_P (dC, dI) vcl [(a0, .inr (6, [.ref a1, .int 0, .int 0]))] U.heap ∧ va_K (dC, dI) vcl [] U ∧ va_D (fun _ => True) [(a0, .inr (6, [.ref a1, .int 0, .int 0]))])) (va_Qv (fun (_ : Unit) => True) (fun _ t => va_P (dC, dI) vcl [(a0, .inr (6, [.ref a1, .int 0, .int 0]))] t.heap ∧ va_K (dC, dI) vcl [] t ∧ va_D (va_A [(a0, .inr (6, [.ref a1, .int 0, .int 0]))] sz) [(a0, .inr (6, [.ref a1, .int 0, .int 0]))]) (va_A [(a0, .inr (6, [.ref a1, .int 0, .int 0]))] sz)) 0 0 (va_A [(a0, .inr (6, [.ref a1, .int 0, .int 0]))] sz) := by
  refine Met.ofW (cc := b_Open_clear) (maxL := 1) (ret := none) (by decide) rfl ?_
  intro p e s m args below meth c s₁ B hml hv
  obtain ⟨rfl, hsz, hP, hK, hD0⟩ := hv
  have hx := B.exec
  have hb := B.bytes
  have hr := B.returns
  have hts := atoms_spec (ws := w_Open_clear) B.pre
  have hz : ∀ w ∈ wz, w.before _ s = true := fun w h => hts w (List.mem_cons_of_mem _ h)
  have hown : s.vm.findClass R_Open = some m.cls := findClass_of_methodNamed B.named
  have hlocks := B.notSynchronized
  subst hsz
  have hD := hD0.self (sz := s.heap.size)
  generalize hAe : va_A [(a0, .inr (6, [.ref a1, .int 0, .int 0]))] s.heap.size = A at hD ⊢
  have hA : ∀ q : Nat, s.heap.size ≤ q → A q := fun q h => by rw [← hAe]; exact Or.inr h
  have hS : va_S A s.heap s.heap [] := va_S.rf
  have hP : va_P (dC, dI) vcl [(a0, .inr (6, [.ref a1, .int 0, .int 0]))] s.heap := hP
  have hl := lv_entry ([.ref a0]) (n := 1) (Nat.le_of_ble_eq_true rfl)
  rw [lg_entry_eq]
  generalize (lg_sl ([.ref a0]) ++ List.replicate (1 - (lg_sl ([.ref a0])).length) Slot.unset).toArray = ls at hl ⊢
  have hl : lv_has ls 1 [(0, .ref a0)] := hl
  refine lv_aload_n hx hb d_Open_clear_0 rfl (lv_at hl 0 rfl) ?_
  refine lv_iconst (v := 0) hx hb d_Open_clear_1 (by decide) ?_
  refine va_put (D := (dC, dI)) (ci := 6) (v := .int 0) (ty := .int) (C := R_Open) (T := F_Open) (N := 3) hx hb hz zu_Open t_Open t_Open_ok n_Open hown hK hP hD hS 0 rfl rfl 1 (by decide) (hz (.fieldLink R_Open 15 "LayoutFront$Open" "size" "I") zm_129) (fun _ h9 => h9) rfl (by decide +kernel) rfl rfl (Nat.le_of_ble_eq_true rfl) d_Open_clear_2 (fun H locs hP hD hS => ?_)
  have hP : va_P (dC, dI) vcl [(a0, .inr (6, [.ref a1, .int 0, .int 0]))] H := hP
  have hD : va_D A [(a0, .inr (6, [.ref a1, .int 0, .int 0]))] := hD
  refine lv_aload_n hx hb d_Open_clear_5 rfl (lv_at hl 0 rfl) ?_
  refine lv_iconst (v := 0) hx hb d_Open_clear_6 (by decide) ?_
  refine va_put (D := (dC, dI)) (ci := 6) (v := .int 0) (ty := .int) (C := R_Open) (T := F_Open) (N := 3) hx hb hz zu_Open t_Open t_Open_ok n_Open hown hK hP hD hS 0 rfl rfl 2 (by decide) (hz (.fieldLink R_Open 19 "LayoutFront$Open" "most" "I") zm_130) (fun _ h9 => h9) rfl (by decide +kernel) rfl rfl (Nat.le_of_ble_eq_true rfl) d_Open_clear_7 (fun H locs hP hD hS => ?_)
  have hP : va_P (dC, dI) vcl [(a0, .inr (6, [.ref a1, .int 0, .int 0]))] H := hP
  have hD : va_D A [(a0, .inr (6, [.ref a1, .int 0, .int 0]))] := hD
  have hP9 := hP.sub (ws' := [(a0, .inr (6, [.ref a1, .int 0, .int 0]))]) [0] rfl
  have hD9 := hD.sub (ws' := [(a0, .inr (6, [.ref a1, .int 0, .int 0]))]) [0] (by decide) rfl
  have hK9 := hK.sub (tys' := []) [] rfl
  exact W.vret hx hb hr (fun t ht hW => ⟨⟨(), rfl, trivial, by rw [ht]; exact hP9, va_K.moved hW.alike hK9, hD9⟩, hS.F ht⟩) hS.2.2 d_Open_clear_10
set_option maxHeartbeats 4000000 in
set_option maxRecDepth 100000 in
theorem c21_Tokens_size (l : Launch) (dC : Nat → ClassId) (dI : Nat → Nat → Nat) (sz : Nat) (a0 : Nat) (a1 : Nat) (a2 : Nat) : Met l y_Tokens_size w_Tokens_size ({ frames := 0, cells := 0, slots := 0, locals := 0 }) (va_Pc [.ref a0] (fun U => U.heap.size = sz ∧ va_P (dC, dI) vcl [(a0, .inr (11, [.ref a1, .ref a2, .int 0]))] U.heap ∧ va_K (dC, dI) vcl [] U ∧ va_D (fun _ => True) [(a0, .inr (11, [.ref a1, .ref a2, .int 0]))])) (va_Qi (fun (r : Int32) (_ : Unit) => r = 0) (fun _ t => va_P (dC, dI) vcl [(a0, .inr (11, [.ref a1, .ref a2, .int 0]))] t.heap ∧ va_K (dC, dI) vcl [] t ∧ va_D (va_A [(a0, .inr (11, [.ref a1, .ref a2, .int 0]))] sz) [(a0, .inr (11, [.ref a1, .ref a2, .int 0]))]) (va_A [(a0, .inr (11, [.ref a1, .ref a2, .int 0]))] sz)) 0 0 (va_A [(a0, .inr (11, [.ref a1, .ref a2, .int 0]))] sz) := by
  refine Met.ofW (cc := b_Tokens_size) (maxL := 1) (ret := (some .int)) (by decide) rfl ?_
  intro p e s m args below meth c s₁ B hml hv
  obtain ⟨rfl, hsz, hP, hK, hD0⟩ := hv
  have hx := B.exec
  have hb := B.bytes
  have hr := B.returns
  have hts := atoms_spec (ws := w_Tokens_size) B.pre
  have hz : ∀ w ∈ wz, w.before _ s = true := fun w h => hts w (List.mem_cons_of_mem _ h)
  have hown : s.vm.findClass R_Tokens = some m.cls := findClass_of_methodNamed B.named
  have hlocks := B.notSynchronized
  subst hsz
  have hD := hD0.self (sz := s.heap.size)
  generalize hAe : va_A [(a0, .inr (11, [.ref a1, .ref a2, .int 0]))] s.heap.size = A at hD ⊢
  have hA : ∀ q : Nat, s.heap.size ≤ q → A q := fun q h => by rw [← hAe]; exact Or.inr h
  have hS : va_S A s.heap s.heap [] := va_S.rf
  have hP : va_P (dC, dI) vcl [(a0, .inr (11, [.ref a1, .ref a2, .int 0]))] s.heap := hP
  have hl := lv_entry ([.ref a0]) (n := 1) (Nat.le_of_ble_eq_true rfl)
  rw [lg_entry_eq]
  generalize (lg_sl ([.ref a0]) ++ List.replicate (1 - (lg_sl ([.ref a0])).length) Slot.unset).toArray = ls at hl ⊢
  have hl : lv_has ls 1 [(0, .ref a0)] := hl
  refine lv_aload_n hx hb d_Tokens_size_0 rfl (lv_at hl 0 rfl) ?_
  refine va_get (D := (dC, dI)) (ci := 11) (v := .int 0) (C := R_Tokens) (T := F_Tokens) (N := 3) hx hb hz zu_Tokens hown hK hP 0 rfl rfl 2 (by decide) (hz (.fieldLink R_Tokens 19 "LayoutFront$Tokens" "size" "I") zm_111) (fun _ h9 => h9) rfl d_Tokens_size_1 ?_
  have hP9 := hP.sub (ws' := [(a0, .inr (11, [.ref a1, .ref a2, .int 0]))]) [0] rfl
  have hD9 := hD.sub (ws' := [(a0, .inr (11, [.ref a1, .ref a2, .int 0]))]) [0] (by decide) rfl
  have hK9 := hK.sub (tys' := []) [] rfl
  exact W.iret (v := 0) hx hb hr (fun t ht hW => ⟨⟨0, (), rfl, rfl, by rw [ht]; exact hP9, va_K.moved hW.alike hK9, hD9⟩, hS.F ht⟩) hS.2.2 d_Tokens_size_4
set_option maxHeartbeats 4000000 in
set_option maxRecDepth 100000 in
theorem c22_Lexemes_size (l : Launch) (dC : Nat → ClassId) (dI : Nat → Nat → Nat) (sz : Nat) (a0 : Nat) (a1 : Nat) (a2 : Nat) (a3 : Nat) (a4 : Nat) (a5 : Nat) (a6 : Nat) : Met l y_Lexemes_size w_Lexemes_size ({ frames := 1, cells := 0, slots := 0, locals := 20 }) (va_Pc [.ref a0] (fun U => U.heap.size = sz ∧ va_P (dC, dI) vcl [(a0, .inr (5, [.ref a1, .ref a2, .ref a3, .ref a4])), (a1, .inr (11, [.ref a5, .ref a6, .int 0]))] U.heap ∧ va_K (dC, dI) vcl [] U ∧ va_D (fun _ => True) [(a0, .inr (5, [.ref a1, .ref a2, .ref a3, .ref a4])), (a1, .inr (11, [.ref a5, .ref a6, .int 0]))])) (va_Qi (fun (r : Int32) (_ : Unit) => r = 0) (fun _ t => va_P (dC, dI) vcl [(a0, .inr (5, [.ref a1, .ref a2, .ref a3, .ref a4])), (a1, .inr (11, [.ref a5, .ref a6, .int 0]))] t.heap ∧ va_K (dC, dI) vcl [] t ∧ va_D (va_A [(a0, .inr (5, [.ref a1, .ref a2, .ref a3, .ref a4])), (a1, .inr (11, [.ref a5, .ref a6, .int 0]))] sz) [(a0, .inr (5, [.ref a1, .ref a2, .ref a3, .ref a4])), (a1, .inr (11, [.ref a5, .ref a6, .int 0]))]) (va_A [(a0, .inr (5, [.ref a1, .ref a2, .ref a3, .ref a4])), (a1, .inr (11, [.ref a5, .ref a6, .int 0]))] sz)) 0 0 (va_A [(a0, .inr (5, [.ref a1, .ref a2, .ref a3, .ref a4])), (a1, .inr (11, [.ref a5, .ref a6, .int 0]))] sz) := by
  refine Met.ofW (cc := b_Lexemes_size) (maxL := 1) (ret := (some .int)) (by decide) rfl ?_
  intro p e s m args below meth c s₁ B hml hv
  obtain ⟨rfl, hsz, hP, hK, hD0⟩ := hv
  have hx := B.exec
  have hb := B.bytes
  have hr := B.returns
  have hts := atoms_spec (ws := w_Lexemes_size) B.pre
  have hz : ∀ w ∈ wz, w.before _ s = true := fun w h => hts w (List.mem_cons_of_mem _ h)
  have hown : s.vm.findClass R_Lexemes = some m.cls := findClass_of_methodNamed B.named
  have hlocks := B.notSynchronized
  subst hsz
  have hD := hD0.self (sz := s.heap.size)
  generalize hAe : va_A [(a0, .inr (5, [.ref a1, .ref a2, .ref a3, .ref a4])), (a1, .inr (11, [.ref a5, .ref a6, .int 0]))] s.heap.size = A at hD ⊢
  have hA : ∀ q : Nat, s.heap.size ≤ q → A q := fun q h => by rw [← hAe]; exact Or.inr h
  have hS : va_S A s.heap s.heap [] := va_S.rf
  have hP : va_P (dC, dI) vcl [(a0, .inr (5, [.ref a1, .ref a2, .ref a3, .ref a4])), (a1, .inr (11, [.ref a5, .ref a6, .int 0]))] s.heap := hP
  have hl := lv_entry ([.ref a0]) (n := 1) (Nat.le_of_ble_eq_true rfl)
  rw [lg_entry_eq]
  generalize (lg_sl ([.ref a0]) ++ List.replicate (1 - (lg_sl ([.ref a0])).length) Slot.unset).toArray = ls at hl ⊢
  have hl : lv_has ls 1 [(0, .ref a0)] := hl
  refine lv_aload_n hx hb d_Lexemes_size_0 rfl (lv_at hl 0 rfl) ?_
  refine va_get (D := (dC, dI)) (ci := 5) (v := .ref a1) (C := R_Lexemes) (T := F_Lexemes) (N := 4) hx hb hz zu_Lexemes hown hK hP 0 rfl rfl 0 (by decide) (hz (.fieldLink R_Lexemes 14 "LayoutFront$Lexemes" "tokens" "LLayoutFront$Tokens;") zm_21) (fun _ h9 => h9) rfl d_Lexemes_size_1 ?_
  have hPc := hP.sub (ws' := [(a1, .inr (11, [.ref a5, .ref a6, .int 0]))]) [1] rfl
  have hDc := hD.sub (ws' := [(a1, .inr (11, [.ref a5, .ref a6, .int 0]))]) [1] (by decide) rfl
  have hKc := hK.sub (tys' := []) [] rfl
  have hFc := va_free (wc := [(a1, .inr (11, [.ref a5, .ref a6, .int 0]))]) hD hS hA [1] rfl
  refine va_calli (va_runV (As := []) (rest := []) ⟨hx, hb, hml, hown, hz⟩ (c21_Tokens_size l dC dI s.heap.size a1 a5 a6) (cwV 0 hz (zV zm_131 zm_132 zm_133 zm_17 zm_134) rfl rfl rfl (by decide +kernel) ⟨Nat.le_of_ble_eq_true rfl, Nat.le_of_ble_eq_true rfl⟩) ⟨fun a U g mk q => by obtain ⟨q0, q1, qP, qK, qD⟩ := q; exact ⟨q0, q1, qP, va_K.moved (u := U) (U := U.calling g mk a) (Vm.Alike.refl U.vm) qK, qD⟩, va_recv (q := (R_Tokens, F_Tokens, 3)) (q0 := 1) (ci := 11) hK hP rfl rfl, fun U hU hW => ⟨rfl, by rw [hU], by rw [hU]; exact hPc, va_K.moved hW.alike hKc, hDc.weaken (fun _ _ _ _ => trivial)⟩⟩ rfl rfl hl.1 rfl (lv_room (Nat.le_of_ble_eq_true rfl)) d_Lexemes_size_4 ⟨by decide, by decide⟩) hS (fun q _ h => hFc q h) hFc (fun r u t H1 locs ht hvm hw hB hz1 hk1 hS => ?_)
  obtain ⟨hP1, hK1, hD1⟩ := hB
  subst r
  rw [ht] at hP1
  obtain ⟨hP, hD⟩ := va_join (wr := [(a0, .inr (5, [.ref a1, .ref a2, .ref a3, .ref a4]))]) (w1 := [(a1, .inr (11, [.ref a5, .ref a6, .int 0]))]) hP hD [1] [0] rfl rfl (by decide) (by decide) hk1 hFc hP1 hD1
  generalize H1 = H at hP hS ⊢
  have hP : va_P (dC, dI) vcl [(a0, .inr (5, [.ref a1, .ref a2, .ref a3, .ref a4])), (a1, .inr (11, [.ref a5, .ref a6, .int 0]))] H := hP
  have hD : va_D A [(a0, .inr (5, [.ref a1, .ref a2, .ref a3, .ref a4])), (a1, .inr (11, [.ref a5, .ref a6, .int 0]))] := hD
  have hP9 := hP.sub (ws' := [(a0, .inr (5, [.ref a1, .ref a2, .ref a3, .ref a4])), (a1, .inr (11, [.ref a5, .ref a6, .int 0]))]) [0, 1] rfl
  have hD9 := hD.sub (ws' := [(a0, .inr (5, [.ref a1, .ref a2, .ref a3, .ref a4])), (a1, .inr (11, [.ref a5, .ref a6, .int 0]))]) [0, 1] (by decide) rfl
  have hK9 := hK.sub (tys' := []) [] rfl
  exact W.iret (v := 0) hx hb hr (fun t ht hW => ⟨⟨0, (), rfl, rfl, by rw [ht]; exact hP9, va_K.moved hW.alike hK9, hD9⟩, hS.F ht⟩) hS.2.2 d_Lexemes_size_7
set_option maxHeartbeats 4000000 in
set_option maxRecDepth 100000 in
theorem c23_Lexemes_tokens (l : Launch) (dC : Nat → ClassId) (dI : Nat → Nat → Nat) (sz : Nat) (a0 : Nat) (a1 : Nat) (a2 : Nat) (a3 : Nat) (a4 : Nat) : Met l y_Lexemes_tokens w_Lexemes_tokens ({ frames := 0, cells := 0, slots := 0, locals := 0 }) (va_Pc [.ref a0] (fun U => U.heap.size = sz ∧ va_P (dC, dI) vcl [(a0, .inr (5, [.ref a1, .ref a2, .ref a3, .ref a4]))] U.heap ∧ va_K (dC, dI) vcl [] U ∧ va_D (fun _ => True) [(a0, .inr (5, [.ref a1, .ref a2, .ref a3, .ref a4]))])) (va_Qr (fun (_ : Unit) => True) (fun _ ra t => ra = a1 ∧ va_P (dC, dI) vcl [(a0, .inr (5, [.ref a1, .ref a2, .ref a3, .ref a4]))] t.heap ∧ va_K (dC, dI) vcl [] t ∧ va_D (va_A [(a0, .inr (5, [.ref a1, .ref a2, .ref a3, .ref a4]))] sz) [(a0, .inr (5, [.ref a1, .ref a2, .ref a3, .ref a4]))]) (va_A [(a0, .inr (5, [.ref a1, .ref a2, .ref a3, .ref a4]))] sz)) 0 0 (va_A [(a0, .inr (5, [.ref a1, .ref a2, .ref a3, .ref a4]))] sz) := by
  refine Met.ofW (cc := b_Lexemes_tokens) (maxL := 1) (ret := (some (.object "LayoutFront$Tokens"))) (by decide) rfl ?_
  intro p e s m args below meth c s₁ B hml hv
  obtain ⟨rfl, hsz, hP, hK, hD0⟩ := hv
  have hx := B.exec
  have hb := B.bytes
  have hr := B.returns
  have hts := atoms_spec (ws := w_Lexemes_tokens) B.pre
  have hz : ∀ w ∈ wz, w.before _ s = true := fun w h => hts w (List.mem_cons_of_mem _ h)
  have hown : s.vm.findClass R_Lexemes = some m.cls := findClass_of_methodNamed B.named
  have hlocks := B.notSynchronized
  subst hsz
  have hD := hD0.self (sz := s.heap.size)
  generalize hAe : va_A [(a0, .inr (5, [.ref a1, .ref a2, .ref a3, .ref a4]))] s.heap.size = A at hD ⊢
  have hA : ∀ q : Nat, s.heap.size ≤ q → A q := fun q h => by rw [← hAe]; exact Or.inr h
  have hS : va_S A s.heap s.heap [] := va_S.rf
  have hP : va_P (dC, dI) vcl [(a0, .inr (5, [.ref a1, .ref a2, .ref a3, .ref a4]))] s.heap := hP
  have hl := lv_entry ([.ref a0]) (n := 1) (Nat.le_of_ble_eq_true rfl)
  rw [lg_entry_eq]
  generalize (lg_sl ([.ref a0]) ++ List.replicate (1 - (lg_sl ([.ref a0])).length) Slot.unset).toArray = ls at hl ⊢
  have hl : lv_has ls 1 [(0, .ref a0)] := hl
  refine lv_aload_n hx hb d_Lexemes_tokens_0 rfl (lv_at hl 0 rfl) ?_
  refine va_get (D := (dC, dI)) (ci := 5) (v := .ref a1) (C := R_Lexemes) (T := F_Lexemes) (N := 4) hx hb hz zu_Lexemes hown hK hP 0 rfl rfl 0 (by decide) (hz (.fieldLink R_Lexemes 14 "LayoutFront$Lexemes" "tokens" "LLayoutFront$Tokens;") zm_21) (fun _ h9 => h9) rfl d_Lexemes_tokens_1 ?_
  have hP9 := hP.sub (ws' := [(a0, .inr (5, [.ref a1, .ref a2, .ref a3, .ref a4]))]) [0] rfl
  have hD9 := hD.sub (ws' := [(a0, .inr (5, [.ref a1, .ref a2, .ref a3, .ref a4]))]) [0] (by decide) rfl
  have hK9 := hK.sub (tys' := []) [] rfl
  exact W.aret (v := .ref a1) hx hb hr (Or.inl ⟨_, rfl⟩) (Or.inr ⟨_, rfl⟩) (fun t ht hW => ⟨⟨(), a1, rfl, trivial, rfl, by rw [ht]; exact hP9, va_K.moved hW.alike hK9, hD9⟩, hS.F ht⟩) hS.2.2 d_Lexemes_tokens_4
set_option maxHeartbeats 4000000 in
set_option maxRecDepth 100000 in
theorem c24_Tokens_isSign (l : Launch) (dC : Nat → ClassId) (dI : Nat → Nat → Nat) (sz : Nat) (a0 : Nat) (a1 : Nat) (a2 : Nat) : Met l y_Tokens_isSign w_Tokens_isSign ({ frames := 0, cells := 0, slots := 0, locals := 0 }) (va_Pc [.ref a0, .int 0, .int 123] (fun U => U.heap.size = sz ∧ va_P (dC, dI) vcl [(a0, .inr (11, [.ref a1, .ref a2, .int 0]))] U.heap ∧ va_K (dC, dI) vcl [] U ∧ va_D (fun _ => True) [(a0, .inr (11, [.ref a1, .ref a2, .int 0]))])) (va_Qi (fun (r : Int32) (_ : Unit) => r = 0) (fun _ t => va_P (dC, dI) vcl [(a0, .inr (11, [.ref a1, .ref a2, .int 0]))] t.heap ∧ va_K (dC, dI) vcl [] t ∧ va_D (va_A [(a0, .inr (11, [.ref a1, .ref a2, .int 0]))] sz) [(a0, .inr (11, [.ref a1, .ref a2, .int 0]))]) (va_A [(a0, .inr (11, [.ref a1, .ref a2, .int 0]))] sz)) 0 0 (va_A [(a0, .inr (11, [.ref a1, .ref a2, .int 0]))] sz) := by
  refine Met.ofW (cc := b_Tokens_isSign) (maxL := 3) (ret := (some .boolean)) (by decide) rfl ?_
  intro p e s m args below meth c s₁ B hml hv
  obtain ⟨rfl, hsz, hP, hK, hD0⟩ := hv
  have hx := B.exec
  have hb := B.bytes
  have hr := B.returns
  have hts := atoms_spec (ws := w_Tokens_isSign) B.pre
  have hz : ∀ w ∈ wz, w.before _ s = true := fun w h => hts w (List.mem_cons_of_mem _ h)
  have hown : s.vm.findClass R_Tokens = some m.cls := findClass_of_methodNamed B.named
  have hlocks := B.notSynchronized
  subst hsz
  have hD := hD0.self (sz := s.heap.size)
  generalize hAe : va_A [(a0, .inr (11, [.ref a1, .ref a2, .int 0]))] s.heap.size = A at hD ⊢
  have hA : ∀ q : Nat, s.heap.size ≤ q → A q := fun q h => by rw [← hAe]; exact Or.inr h
  have hS : va_S A s.heap s.heap [] := va_S.rf
  have hP : va_P (dC, dI) vcl [(a0, .inr (11, [.ref a1, .ref a2, .int 0]))] s.heap := hP
  have hl := lv_entry ([.ref a0, .int 0, .int 123]) (n := 3) (Nat.le_of_ble_eq_true rfl)
  rw [lg_entry_eq]
  generalize (lg_sl ([.ref a0, .int 0, .int 123]) ++ List.replicate (3 - (lg_sl ([.ref a0, .int 0, .int 123])).length) Slot.unset).toArray = ls at hl ⊢
  have hl : lv_has ls 3 [(0, .ref a0), (1, .int 0), (2, .int 123)] := hl
  refine lv_iload_n hx hb d_Tokens_isSign_0 rfl (lv_at hl 1 rfl) ?_
  refine lv_if_lt (tgt := 38) hx hb d_Tokens_isSign_1 (by decide) (fun h => absurd h (by decide +kernel)) (fun _ => ?_)
  refine lv_iload_n hx hb d_Tokens_isSign_4 rfl (lv_at hl 1 rfl) ?_
  refine lv_aload_n hx hb d_Tokens_isSign_5 rfl (lv_at hl 0 rfl) ?_
  refine va_get (D := (dC, dI)) (ci := 11) (v := .int 0) (C := R_Tokens) (T := F_Tokens) (N := 3) hx hb hz zu_Tokens hown hK hP 0 rfl rfl 2 (by decide) (hz (.fieldLink R_Tokens 19 "LayoutFront$Tokens" "size" "I") zm_111) (fun _ h9 => h9) rfl d_Tokens_isSign_6 ?_
  refine lv_icmp_ge (tgt := 38) hx hb d_Tokens_isSign_9 (by decide) (fun _ => ?_) (fun h => (h (by decide +kernel)).elim)
  refine lv_iconst (v := 0) hx hb d_Tokens_isSign_38 (by decide) ?_
  have hP9 := hP.sub (ws' := [(a0, .inr (11, [.ref a1, .ref a2, .int 0]))]) [0] rfl
  have hD9 := hD.sub (ws' := [(a0, .inr (11, [.ref a1, .ref a2, .int 0]))]) [0] (by decide) rfl
  have hK9 := hK.sub (tys' := []) [] rfl
  exact W.zret (v := 0) hx hb hr (by decide +kernel) (fun t ht hW => ⟨⟨0, (), rfl, rfl, by rw [ht]; exact hP9, va_K.moved hW.alike hK9, hD9⟩, hS.F ht⟩) hS.2.2 d_Tokens_isSign_39
set_option maxHeartbeats 4000000 in
set_option maxRecDepth 100000 in
theorem c25_Tokens_has (l : Launch) (dC : Nat → ClassId) (dI : Nat → Nat → Nat) (sz : Nat) (a0 : Nat) : Met l y_Tokens_has w_Tokens_has ({ frames := 0, cells := 0, slots := 0, locals := 0 }) (va_Pc [.ref a0, .int (-1)] (fun U => U.heap.size = sz ∧ va_P (dC, dI) vcl [] U.heap ∧ va_K (dC, dI) vcl [] U ∧ va_D (fun _ => True) [])) (va_Qi (fun (r : Int32) (_ : Unit) => r = 0) (fun _ t => va_P (dC, dI) vcl [] t.heap ∧ va_K (dC, dI) vcl [] t ∧ va_D (va_A [] sz) []) (va_A [] sz)) 0 0 (va_A [] sz) := by
  refine Met.ofW (cc := b_Tokens_has) (maxL := 2) (ret := (some .boolean)) (by decide) rfl ?_
  intro p e s m args below meth c s₁ B hml hv
  obtain ⟨rfl, hsz, hP, hK, hD0⟩ := hv
  have hx := B.exec
  have hb := B.bytes
  have hr := B.returns
  have hts := atoms_spec (ws := w_Tokens_has) B.pre
  have hz : ∀ w ∈ wz, w.before _ s = true := fun w h => hts w (List.mem_cons_of_mem _ h)
  have hown : s.vm.findClass R_Tokens = some m.cls := findClass_of_methodNamed B.named
  have hlocks := B.notSynchronized
  subst hsz
  have hD := hD0.self (sz := s.heap.size)
  generalize hAe : va_A [] s.heap.size = A at hD ⊢
  have hA : ∀ q : Nat, s.heap.size ≤ q → A q := fun q h => by rw [← hAe]; exact Or.inr h
  have hS : va_S A s.heap s.heap [] := va_S.rf
  have hP : va_P (dC, dI) vcl [] s.heap := hP
  have hl := lv_entry ([.ref a0, .int (-1)]) (n := 2) (Nat.le_of_ble_eq_true rfl)
  rw [lg_entry_eq]
  generalize (lg_sl ([.ref a0, .int (-1)]) ++ List.replicate (2 - (lg_sl ([.ref a0, .int (-1)])).length) Slot.unset).toArray = ls at hl ⊢
  have hl : lv_has ls 2 [(0, .ref a0), (1, .int (-1))] := hl
  refine lv_iload_n hx hb d_Tokens_has_0 rfl (lv_at hl 1 rfl) ?_
  refine lv_if_lt (tgt := 16) hx hb d_Tokens_has_1 (by decide) (fun _ => ?_) (fun h => (h (by decide +kernel)).elim)
  refine lv_iconst (v := 0) hx hb d_Tokens_has_16 (by decide) ?_
  have hP9 := hP.sub (ws' := []) [] rfl
  have hD9 := hD.sub (ws' := []) [] (by decide) rfl
  have hK9 := hK.sub (tys' := []) [] rfl
  exact W.zret (v := 0) hx hb hr (by decide +kernel) (fun t ht hW => ⟨⟨0, (), rfl, rfl, by rw [ht]; exact hP9, va_K.moved hW.alike hK9, hD9⟩, hS.F ht⟩) hS.2.2 d_Tokens_has_17
set_option maxHeartbeats 4000000 in
set_option maxRecDepth 100000 in
theorem c26_Tokens_wordAt (l : Launch) (dC : Nat → ClassId) (dI : Nat → Nat → Nat) (sz : Nat) (a0 : Nat) (a1 : Nat) (a2 : Nat) : Met l y_Tokens_wordAt w_Tokens_wordAt ({ frames := 1, cells := 0, slots := 0, locals := 21 }) (va_Pc [.ref a0, .int (-1)] (fun U => U.heap.size = sz ∧ va_P (dC, dI) vcl [(a0, .inr (11, [.ref a1, .ref a2, .int 0]))] U.heap ∧ va_K (dC, dI) vcl [] U ∧ va_D (fun _ => True) [(a0, .inr (11, [.ref a1, .ref a2, .int 0]))])) (va_Qi (fun (r : Int32) (_ : Unit) => r = (-1)) (fun _ t => va_P (dC, dI) vcl [(a0, .inr (11, [.ref a1, .ref a2, .int 0]))] t.heap ∧ va_K (dC, dI) vcl [] t ∧ va_D (va_A [(a0, .inr (11, [.ref a1, .ref a2, .int 0]))] sz) [(a0, .inr (11, [.ref a1, .ref a2, .int 0]))]) (va_A [(a0, .inr (11, [.ref a1, .ref a2, .int 0]))] sz)) 0 0 (va_A [(a0, .inr (11, [.ref a1, .ref a2, .int 0]))] sz) := by
  refine Met.ofW (cc := b_Tokens_wordAt) (maxL := 2) (ret := (some .int)) (by decide) rfl ?_
  intro p e s m args below meth c s₁ B hml hv
  obtain ⟨rfl, hsz, hP, hK, hD0⟩ := hv
  have hx := B.exec
  have hb := B.bytes
  have hr := B.returns
  have hts := atoms_spec (ws := w_Tokens_wordAt) B.pre
  have hz : ∀ w ∈ wz, w.before _ s = true := fun w h => hts w (List.mem_cons_of_mem _ h)
  have hown : s.vm.findClass R_Tokens = some m.cls := findClass_of_methodNamed B.named
  have hlocks := B.notSynchronized
  subst hsz
  have hD := hD0.self (sz := s.heap.size)
  generalize hAe : va_A [(a0, .inr (11, [.ref a1, .ref a2, .int 0]))] s.heap.size = A at hD ⊢
  have hA : ∀ q : Nat, s.heap.size ≤ q → A q := fun q h => by rw [← hAe]; exact Or.inr h
  have hS : va_S A s.heap s.heap [] := va_S.rf
  have hP : va_P (dC, dI) vcl [(a0, .inr (11, [.ref a1, .ref a2, .int 0]))] s.heap := hP
  have hl := lv_entry ([.ref a0, .int (-1)]) (n := 2) (Nat.le_of_ble_eq_true rfl)
  rw [lg_entry_eq]
  generalize (lg_sl ([.ref a0, .int (-1)]) ++ List.replicate (2 - (lg_sl ([.ref a0, .int (-1)])).length) Slot.unset).toArray = ls at hl ⊢
  have hl : lv_has ls 2 [(0, .ref a0), (1, .int (-1))] := hl
  refine lv_aload_n hx hb d_Tokens_wordAt_0 rfl (lv_at hl 0 rfl) ?_
  refine lv_iload_n hx hb d_Tokens_wordAt_1 rfl (lv_at hl 1 rfl) ?_
  have hPc := hP.sub (ws' := []) [] rfl
  have hDc := hD.sub (ws' := []) [] (by decide) rfl
  have hKc := hK.sub (tys' := []) [] rfl
  have hFc := va_free (wc := []) hD hS hA [] rfl
  refine va_calli (va_runV (As := [.int (-1)]) (rest := []) ⟨hx, hb, hml, hown, hz⟩ (c25_Tokens_has l dC dI s.heap.size a0) (cwV 1 hz (zV zm_135 zm_136 zm_137 zm_17 zm_138) rfl rfl rfl (by decide +kernel) ⟨Nat.le_of_ble_eq_true rfl, Nat.le_of_ble_eq_true rfl⟩) ⟨fun a U g mk q => by obtain ⟨q0, q1, qP, qK, qD⟩ := q; exact ⟨q0, q1, qP, va_K.moved (u := U) (U := U.calling g mk a) (Vm.Alike.refl U.vm) qK, qD⟩, va_recv (q := (R_Tokens, F_Tokens, 3)) (q0 := 0) (ci := 11) hK hP rfl rfl, fun U hU hW => ⟨rfl, by rw [hU], by rw [hU]; exact hPc, va_K.moved hW.alike hKc, hDc.weaken (fun _ _ _ _ => trivial)⟩⟩ rfl rfl hl.1 rfl (lv_room (Nat.le_of_ble_eq_true rfl)) d_Tokens_wordAt_2 ⟨by decide, by decide⟩) hS (fun q _ h => hFc q h) hFc (fun r u t H1 locs ht hvm hw hB hz1 hk1 hS => ?_)
  obtain ⟨hP1, hK1, hD1⟩ := hB
  subst r
  rw [ht] at hP1
  obtain ⟨hP, hD⟩ := va_join (wr := [(a0, .inr (11, [.ref a1, .ref a2, .int 0]))]) (w1 := []) hP hD [] [0] rfl rfl (by decide) (by decide) hk1 hFc hP1 hD1
  generalize H1 = H at hP hS ⊢
  have hP : va_P (dC, dI) vcl [(a0, .inr (11, [.ref a1, .ref a2, .int 0]))] H := hP
  have hD : va_D A [(a0, .inr (11, [.ref a1, .ref a2, .int 0]))] := hD
  refine lv_if_eq (tgt := 32) hx hb d_Tokens_wordAt_5 (by decide) (fun _ => ?_) (fun h => (h (by decide +kernel)).elim)
  refine lv_iconst (v := (-1)) hx hb d_Tokens_wordAt_32 (by decide) ?_
  have hP9 := hP.sub (ws' := [(a0, .inr (11, [.ref a1, .ref a2, .int 0]))]) [0] rfl
  have hD9 := hD.sub (ws' := [(a0, .inr (11, [.ref a1, .ref a2, .int 0]))]) [0] (by decide) rfl
  have hK9 := hK.sub (tys' := []) [] rfl
  exact W.iret (v := (-1)) hx hb hr (fun t ht hW => ⟨⟨(-1), (), rfl, rfl, by rw [ht]; exact hP9, va_K.moved hW.alike hK9, hD9⟩, hS.F ht⟩) hS.2.2 d_Tokens_wordAt_33
set_option maxHeartbeats 4000000 in
set_option maxRecDepth 100000 in
theorem c27_Blocks_beginsBlock (l : Launch) (dC : Nat → ClassId) (dI : Nat → Nat → Nat) (sz : Nat) (a0 : Nat) (a1 : Nat) (a2 : Nat) : Met l y_Blocks_beginsBlock w_Blocks_beginsBlock ({ frames := 2, cells := 0, slots := 0, locals := 42 }) (va_Pc [.ref a0, .int 0] (fun U => U.heap.size = sz ∧ va_P (dC, dI) vcl [(a0, .inr (11, [.ref a1, .ref a2, .int 0]))] U.heap ∧ va_K (dC, dI) vcl [] U ∧ va_D (fun _ => True) [(a0, .inr (11, [.ref a1, .ref a2, .int 0]))])) (va_Qi (fun (r : Int32) (_ : Unit) => r = 1) (fun _ t => va_P (dC, dI) vcl [(a0, .inr (11, [.ref a1, .ref a2, .int 0]))] t.heap ∧ va_K (dC, dI) vcl [] t ∧ va_D (va_A [(a0, .inr (11, [.ref a1, .ref a2, .int 0]))] sz) [(a0, .inr (11, [.ref a1, .ref a2, .int 0]))]) (va_A [(a0, .inr (11, [.ref a1, .ref a2, .int 0]))] sz)) 0 0 (va_A [(a0, .inr (11, [.ref a1, .ref a2, .int 0]))] sz) := by
  refine Met.ofW (cc := b_Blocks_beginsBlock) (maxL := 2) (ret := (some .boolean)) (by decide) rfl ?_
  intro p e s m args below meth c s₁ B hml hv
  obtain ⟨rfl, hsz, hP, hK, hD0⟩ := hv
  have hx := B.exec
  have hb := B.bytes
  have hr := B.returns
  have hts := atoms_spec (ws := w_Blocks_beginsBlock) B.pre
  have hz : ∀ w ∈ wz, w.before _ s = true := fun w h => hts w (List.mem_cons_of_mem _ h)
  have hown : s.vm.findClass R_Blocks = some m.cls := findClass_of_methodNamed B.named
  have hlocks := B.notSynchronized
  subst hsz
  have hD := hD0.self (sz := s.heap.size)
  generalize hAe : va_A [(a0, .inr (11, [.ref a1, .ref a2, .int 0]))] s.heap.size = A at hD ⊢
  have hA : ∀ q : Nat, s.heap.size ≤ q → A q := fun q h => by rw [← hAe]; exact Or.inr h
  have hS : va_S A s.heap s.heap [] := va_S.rf
  have hP : va_P (dC, dI) vcl [(a0, .inr (11, [.ref a1, .ref a2, .int 0]))] s.heap := hP
  have hl := lv_entry ([.ref a0, .int 0]) (n := 2) (Nat.le_of_ble_eq_true rfl)
  rw [lg_entry_eq]
  generalize (lg_sl ([.ref a0, .int 0]) ++ List.replicate (2 - (lg_sl ([.ref a0, .int 0])).length) Slot.unset).toArray = ls at hl ⊢
  have hl : lv_has ls 2 [(0, .ref a0), (1, .int 0)] := hl
  refine lv_aload_n hx hb d_Blocks_beginsBlock_0 rfl (lv_at hl 0 rfl) ?_
  refine lv_iload_n hx hb d_Blocks_beginsBlock_1 rfl (lv_at hl 1 rfl) ?_
  refine lv_bipush (v := 123) hx hb d_Blocks_beginsBlock_2 (by decide) ?_
  have hPc := hP.sub (ws' := [(a0, .inr (11, [.ref a1, .ref a2, .int 0]))]) [0] rfl
  have hDc := hD.sub (ws' := [(a0, .inr (11, [.ref a1, .ref a2, .int 0]))]) [0] (by decide) rfl
  have hKc := hK.sub (tys' := []) [] rfl
  have hFc := va_free (wc := [(a0, .inr (11, [.ref a1, .ref a2, .int 0]))]) hD hS hA [0] rfl
  refine va_calli (va_runV (As := [.int 0, .int 123]) (rest := []) ⟨hx, hb, hml, hown, hz⟩ (c24_Tokens_isSign l dC dI s.heap.size a0 a1 a2) (cwV 2 hz (zV zm_139 zm_140 zm_141 zm_17 zm_142) rfl rfl rfl (by decide +kernel) ⟨Nat.le_of_ble_eq_true rfl, Nat.le_of_ble_eq_true rfl⟩) ⟨fun a U g mk q => by obtain ⟨q0, q1, qP, qK, qD⟩ := q; exact ⟨q0, q1, qP, va_K.moved (u := U) (U := U.calling g mk a) (Vm.Alike.refl U.vm) qK, qD⟩, va_recv (q := (R_Tokens, F_Tokens, 3)) (q0 := 0) (ci := 11) hK hP rfl rfl, fun U hU hW => ⟨rfl, by rw [hU], by rw [hU]; exact hPc, va_K.moved hW.alike hKc, hDc.weaken (fun _ _ _ _ => trivial)⟩⟩ rfl rfl hl.1 rfl (lv_room (Nat.le_of_ble_eq_true rfl)) d_Blocks_beginsBlock_4 ⟨by decide, by decide⟩) hS (fun q _ h => hFc q h) hFc (fun r u t H1 locs ht hvm hw hB hz1 hk1 hS => ?_)
  obtain ⟨hP1, hK1, hD1⟩ := hB
  subst r
  rw [ht] at hP1
  obtain ⟨hP, hD⟩ := va_join (wr := []) (w1 := [(a0, .inr (11, [.ref a1, .ref a2, .int 0]))]) hP hD [0] [] rfl rfl (by decide) (by decide) hk1 hFc hP1 hD1
  generalize H1 = H at hP hS ⊢
  have hP : va_P (dC, dI) vcl [(a0, .inr (11, [.ref a1, .ref a2, .int 0]))] H := hP
  have hD : va_D A [(a0, .inr (11, [.ref a1, .ref a2, .int 0]))] := hD
  refine lv_if_eq (tgt := 12) hx hb d_Blocks_beginsBlock_7 (by decide) (fun _ => ?_) (fun h => (h (by decide +kernel)).elim)
  refine lv_aload_n hx hb d_Blocks_beginsBlock_12 rfl (lv_at hl 0 rfl) ?_
  refine lv_iload_n hx hb d_Blocks_beginsBlock_13 rfl (lv_at hl 1 rfl) ?_
  refine lv_iconst (v := 1) hx hb d_Blocks_beginsBlock_14 (by decide) ?_
  refine xr_isub (v := (-1)) hx hb d_Blocks_beginsBlock_15 (by decide +kernel) ?_
  have hPc := hP.sub (ws' := [(a0, .inr (11, [.ref a1, .ref a2, .int 0]))]) [0] rfl
  have hDc := hD.sub (ws' := [(a0, .inr (11, [.ref a1, .ref a2, .int 0]))]) [0] (by decide) rfl
  have hKc := hK.sub (tys' := []) [] rfl
  have hFc := va_free (wc := [(a0, .inr (11, [.ref a1, .ref a2, .int 0]))]) hD hS hA [0] rfl
  refine va_calli (va_runV (As := [.int (-1)]) (rest := []) ⟨hx, hb, hml, hown, hz⟩ (c26_Tokens_wordAt l dC dI H.size a0 a1 a2) (cwV 1 hz (zV zm_143 zm_144 zm_145 zm_17 zm_146) rfl rfl rfl (by decide +kernel) ⟨Nat.le_of_ble_eq_true rfl, Nat.le_of_ble_eq_true rfl⟩) ⟨fun a U g mk q => by obtain ⟨q0, q1, qP, qK, qD⟩ := q; exact ⟨q0, q1, qP, va_K.moved (u := U) (U := U.calling g mk a) (Vm.Alike.refl U.vm) qK, qD⟩, va_recv (q := (R_Tokens, F_Tokens, 3)) (q0 := 0) (ci := 11) hK hP rfl rfl, fun U hU hW => ⟨rfl, by rw [hU], by rw [hU]; exact hPc, va_K.moved hW.alike hKc, hDc.weaken (fun _ _ _ _ => trivial)⟩⟩ rfl rfl hl.1 rfl (lv_room (Nat.le_of_ble_eq_true rfl)) d_Blocks_beginsBlock_16 ⟨by decide, by decide⟩) hS (fun q _ h => hFc q h) hFc (fun r u t H1 locs ht hvm hw hB hz1 hk1 hS => ?_)
  obtain ⟨hP1, hK1, hD1⟩ := hB
  subst r
  rw [ht] at hP1
  obtain ⟨hP, hD⟩ := va_join (wr := []) (w1 := [(a0, .inr (11, [.ref a1, .ref a2, .int 0]))]) hP hD [0] [] rfl rfl (by decide) (by decide) hk1 hFc hP1 hD1
  generalize H1 = H at hP hS ⊢
  have hP : va_P (dC, dI) vcl [(a0, .inr (11, [.ref a1, .ref a2, .int 0]))] H := hP
  have hD : va_D A [(a0, .inr (11, [.ref a1, .ref a2, .int 0]))] := hD
  refine lv_tableOut (tgt := 50) hx hb d_Blocks_beginsBlock_19 (Or.inl (by decide +kernel)) (by decide) ?_
  refine lv_iload_n hx hb d_Blocks_beginsBlock_50 rfl (lv_at hl 1 rfl) ?_
  refine lv_if_ne (tgt := 58) hx hb d_Blocks_beginsBlock_51 (by decide) (fun h => (h (by decide +kernel)).elim) (fun _ => ?_)
  refine lv_iconst (v := 1) hx hb d_Blocks_beginsBlock_54 (by decide) ?_
  refine lv_goto (tgt := 59) hx hb d_Blocks_beginsBlock_55 (by decide) ?_
  have hP9 := hP.sub (ws' := [(a0, .inr (11, [.ref a1, .ref a2, .int 0]))]) [0] rfl
  have hD9 := hD.sub (ws' := [(a0, .inr (11, [.ref a1, .ref a2, .int 0]))]) [0] (by decide) rfl
  have hK9 := hK.sub (tys' := []) [] rfl
  exact W.zret (v := 1) hx hb hr (by decide +kernel) (fun t ht hW => ⟨⟨1, (), rfl, rfl, by rw [ht]; exact hP9, va_K.moved hW.alike hK9, hD9⟩, hS.F ht⟩) hS.2.2 d_Blocks_beginsBlock_59
set_option maxHeartbeats 4000000 in
set_option maxRecDepth 100000 in
theorem c28_Tokens_has (l : Launch) (dC : Nat → ClassId) (dI : Nat → Nat → Nat) (sz : Nat) (a0 : Nat) (a1 : Nat) (a2 : Nat) : Met l y_Tokens_has w_Tokens_has ({ frames := 0, cells := 0, slots := 0, locals := 0 }) (va_Pc [.ref a0, .int 0] (fun U => U.heap.size = sz ∧ va_P (dC, dI) vcl [(a0, .inr (11, [.ref a1, .ref a2, .int 0]))] U.heap ∧ va_K (dC, dI) vcl [] U ∧ va_D (fun _ => True) [(a0, .inr (11, [.ref a1, .ref a2, .int 0]))])) (va_Qi (fun (r : Int32) (_ : Unit) => r = 0) (fun _ t => va_P (dC, dI) vcl [(a0, .inr (11, [.ref a1, .ref a2, .int 0]))] t.heap ∧ va_K (dC, dI) vcl [] t ∧ va_D (va_A [(a0, .inr (11, [.ref a1, .ref a2, .int 0]))] sz) [(a0, .inr (11, [.ref a1, .ref a2, .int 0]))]) (va_A [(a0, .inr (11, [.ref a1, .ref a2, .int 0]))] sz)) 0 0 (va_A [(a0, .inr (11, [.ref a1, .ref a2, .int 0]))] sz) := by
  refine Met.ofW (cc := b_Tokens_has) (maxL := 2) (ret := (some .boolean)) (by decide) rfl ?_
  intro p e s m args below meth c s₁ B hml hv
  obtain ⟨rfl, hsz, hP, hK, hD0⟩ := hv
  have hx := B.exec
  have hb := B.bytes
  have hr := B.returns
  have hts := atoms_spec (ws := w_Tokens_has) B.pre
  have hz : ∀ w ∈ wz, w.before _ s = true := fun w h => hts w (List.mem_cons_of_mem _ h)
  have hown : s.vm.findClass R_Tokens = some m.cls := findClass_of_methodNamed B.named
  have hlocks := B.notSynchronized
  subst hsz
  have hD := hD0.self (sz := s.heap.size)
  generalize hAe : va_A [(a0, .inr (11, [.ref a1, .ref a2, .int 0]))] s.heap.size = A at hD ⊢
  have hA : ∀ q : Nat, s.heap.size ≤ q → A q := fun q h => by rw [← hAe]; exact Or.inr h
  have hS : va_S A s.heap s.heap [] := va_S.rf
  have hP : va_P (dC, dI) vcl [(a0, .inr (11, [.ref a1, .ref a2, .int 0]))] s.heap := hP
  have hl := lv_entry ([.ref a0, .int 0]) (n := 2) (Nat.le_of_ble_eq_true rfl)
  rw [lg_entry_eq]
  generalize (lg_sl ([.ref a0, .int 0]) ++ List.replicate (2 - (lg_sl ([.ref a0, .int 0])).length) Slot.unset).toArray = ls at hl ⊢
  have hl : lv_has ls 2 [(0, .ref a0), (1, .int 0)] := hl
  refine lv_iload_n hx hb d_Tokens_has_0 rfl (lv_at hl 1 rfl) ?_
  refine lv_if_lt (tgt := 16) hx hb d_Tokens_has_1 (by decide) (fun h => absurd h (by decide +kernel)) (fun _ => ?_)
  refine lv_iload_n hx hb d_Tokens_has_4 rfl (lv_at hl 1 rfl) ?_
  refine lv_aload_n hx hb d_Tokens_has_5 rfl (lv_at hl 0 rfl) ?_
  refine va_get (D := (dC, dI)) (ci := 11) (v := .int 0) (C := R_Tokens) (T := F_Tokens) (N := 3) hx hb hz zu_Tokens hown hK hP 0 rfl rfl 2 (by decide) (hz (.fieldLink R_Tokens 19 "LayoutFront$Tokens" "size" "I") zm_111) (fun _ h9 => h9) rfl d_Tokens_has_6 ?_
  refine lv_icmp_ge (tgt := 16) hx hb d_Tokens_has_9 (by decide) (fun _ => ?_) (fun h => (h (by decide +kernel)).elim)
  refine lv_iconst (v := 0) hx hb d_Tokens_has_16 (by decide) ?_
  have hP9 := hP.sub (ws' := [(a0, .inr (11, [.ref a1, .ref a2, .int 0]))]) [0] rfl
  have hD9 := hD.sub (ws' := [(a0, .inr (11, [.ref a1, .ref a2, .int 0]))]) [0] (by decide) rfl
  have hK9 := hK.sub (tys' := []) [] rfl
  exact W.zret (v := 0) hx hb hr (by decide +kernel) (fun t ht hW => ⟨⟨0, (), rfl, rfl, by rw [ht]; exact hP9, va_K.moved hW.alike hK9, hD9⟩, hS.F ht⟩) hS.2.2 d_Tokens_has_17
set_option maxHeartbeats 4000000 in
set_option maxRecDepth 100000 in
theorem c29_Lexemes_columnAt (l : Launch) (dC : Nat → ClassId) (dI : Nat → Nat → Nat) (sz : Nat) (a0 : Nat) (a1 : Nat) (a2 : Nat) (a3 : Nat) (a4 : Nat) (a5 : Nat) (a6 : Nat) : Met l y_Lexemes_columnAt w_Lexemes_columnAt ({ frames := 1, cells := 0, slots := 0, locals := 21 }) (va_Pc [.ref a0, .int 0] (fun U => U.heap.size = sz ∧ va_P (dC, dI) vcl [(a0, .inr (5, [.ref a1, .ref a2, .ref a3, .ref a4])), (a1, .inr (11, [.ref a5, .ref a6, .int 0]))] U.heap ∧ va_K (dC, dI) vcl [] U ∧ va_D (fun _ => True) [(a0, .inr (5, [.ref a1, .ref a2, .ref a3, .ref a4])), (a1, .inr (11, [.ref a5, .ref a6, .int 0]))])) (va_Qi (fun (r : Int32) (_ : Unit) => r = 0) (fun _ t => va_P (dC, dI) vcl [(a0, .inr (5, [.ref a1, .ref a2, .ref a3, .ref a4])), (a1, .inr (11, [.ref a5, .ref a6, .int 0]))] t.heap ∧ va_K (dC, dI) vcl [] t ∧ va_D (va_A [(a0, .inr (5, [.ref a1, .ref a2, .ref a3, .ref a4])), (a1, .inr (11, [.ref a5, .ref a6, .int 0]))] sz) [(a0, .inr (5, [.ref a1, .ref a2, .ref a3, .ref a4])), (a1, .inr (11, [.ref a5, .ref a6, .int 0]))]) (va_A [(a0, .inr (5, [.ref a1, .ref a2, .ref a3, .ref a4])), (a1, .inr (11, [.ref a5, .ref a6, .int 0]))] sz)) 0 0 (va_A [(a0, .inr (5, [.ref a1, .ref a2, .ref a3, .ref a4])), (a1, .inr (11, [.ref a5, .ref a6, .int 0]))] sz) := by
  refine Met.ofW (cc := b_Lexemes_columnAt) (maxL := 2) (ret := (some .int)) (by decide) rfl ?_
  intro p e s m args below meth c s₁ B hml hv
  obtain ⟨rfl, hsz, hP, hK, hD0⟩ := hv
  have hx := B.exec
  have hb := B.bytes
  have hr := B.returns
  have hts := atoms_spec (ws := w_Lexemes_columnAt) B.pre
  have hz : ∀ w ∈ wz, w.before _ s = true := fun w h => hts w (List.mem_cons_of_mem _ h)
  have hown : s.vm.findClass R_Lexemes = some m.cls := findClass_of_methodNamed B.named
  have hlocks := B.notSynchronized
  subst hsz
  have hD := hD0.self (sz := s.heap.size)
  generalize hAe : va_A [(a0, .inr (5, [.ref a1, .ref a2, .ref a3, .ref a4])), (a1, .inr (11, [.ref a5, .ref a6, .int 0]))] s.heap.size = A at hD ⊢
  have hA : ∀ q : Nat, s.heap.size ≤ q → A q := fun q h => by rw [← hAe]; exact Or.inr h
  have hS : va_S A s.heap s.heap [] := va_S.rf
  have hP : va_P (dC, dI) vcl [(a0, .inr (5, [.ref a1, .ref a2, .ref a3, .ref a4])), (a1, .inr (11, [.ref a5, .ref a6, .int 0]))] s.heap := hP
  have hl := lv_entry ([.ref a0, .int 0]) (n := 2) (Nat.le_of_ble_eq_true rfl)
  rw [lg_entry_eq]
  generalize (lg_sl ([.ref a0, .int 0]) ++ List.replicate (2 - (lg_sl ([.ref a0, .int 0])).length) Slot.unset).toArray = ls at hl ⊢
  have hl : lv_has ls 2 [(0, .ref a0), (1, .int 0)] := hl
  refine lv_aload_n hx hb d_Lexemes_columnAt_0 rfl (lv_at hl 0 rfl) ?_
  refine va_get (D := (dC, dI)) (ci := 5) (v := .ref a1) (C := R_Lexemes) (T := F_Lexemes) (N := 4) hx hb hz zu_Lexemes hown hK hP 0 rfl rfl 0 (by decide) (hz (.fieldLink R_Lexemes 14 "LayoutFront$Lexemes" "tokens" "LLayoutFront$Tokens;") zm_21) (fun _ h9 => h9) rfl d_Lexemes_columnAt_1 ?_
  refine lv_iload_n hx hb d_Lexemes_columnAt_4 rfl (lv_at hl 1 rfl) ?_
  have hPc := hP.sub (ws' := [(a1, .inr (11, [.ref a5, .ref a6, .int 0]))]) [1] rfl
  have hDc := hD.sub (ws' := [(a1, .inr (11, [.ref a5, .ref a6, .int 0]))]) [1] (by decide) rfl
  have hKc := hK.sub (tys' := []) [] rfl
  have hFc := va_free (wc := [(a1, .inr (11, [.ref a5, .ref a6, .int 0]))]) hD hS hA [1] rfl
  refine va_calli (va_runV (As := [.int 0]) (rest := []) ⟨hx, hb, hml, hown, hz⟩ (c28_Tokens_has l dC dI s.heap.size a1 a5 a6) (cwV 1 hz (zV zm_147 zm_136 zm_137 zm_17 zm_138) rfl rfl rfl (by decide +kernel) ⟨Nat.le_of_ble_eq_true rfl, Nat.le_of_ble_eq_true rfl⟩) ⟨fun a U g mk q => by obtain ⟨q0, q1, qP, qK, qD⟩ := q; exact ⟨q0, q1, qP, va_K.moved (u := U) (U := U.calling g mk a) (Vm.Alike.refl U.vm) qK, qD⟩, va_recv (q := (R_Tokens, F_Tokens, 3)) (q0 := 1) (ci := 11) hK hP rfl rfl, fun U hU hW => ⟨rfl, by rw [hU], by rw [hU]; exact hPc, va_K.moved hW.alike hKc, hDc.weaken (fun _ _ _ _ => trivial)⟩⟩ rfl rfl hl.1 rfl (lv_room (Nat.le_of_ble_eq_true rfl)) d_Lexemes_columnAt_5 ⟨by decide, by decide⟩) hS (fun q _ h => hFc q h) hFc (fun r u t H1 locs ht hvm hw hB hz1 hk1 hS => ?_)
  obtain ⟨hP1, hK1, hD1⟩ := hB
  subst r
  rw [ht] at hP1
  obtain ⟨hP, hD⟩ := va_join (wr := [(a0, .inr (5, [.ref a1, .ref a2, .ref a3, .ref a4]))]) (w1 := [(a1, .inr (11, [.ref a5, .ref a6, .int 0]))]) hP hD [1] [0] rfl rfl (by decide) (by decide) hk1 hFc hP1 hD1
  generalize H1 = H at hP hS ⊢
  have hP : va_P (dC, dI) vcl [(a0, .inr (5, [.ref a1, .ref a2, .ref a3, .ref a4])), (a1, .inr (11, [.ref a5, .ref a6, .int 0]))] H := hP
  have hD : va_D A [(a0, .inr (5, [.ref a1, .ref a2, .ref a3, .ref a4])), (a1, .inr (11, [.ref a5, .ref a6, .int 0]))] := hD
  refine lv_if_eq (tgt := 20) hx hb d_Lexemes_columnAt_8 (by decide) (fun _ => ?_) (fun h => (h (by decide +kernel)).elim)
  refine lv_iconst (v := 0) hx hb d_Lexemes_columnAt_20 (by decide) ?_
  have hP9 := hP.sub (ws' := [(a0, .inr (5, [.ref a1, .ref a2, .ref a3, .ref a4])), (a1, .inr (11, [.ref a5, .ref a6, .int 0]))]) [0, 1] rfl
  have hD9 := hD.sub (ws' := [(a0, .inr (5, [.ref a1, .ref a2, .ref a3, .ref a4])), (a1, .inr (11, [.ref a5, .ref a6, .int 0]))]) [0, 1] (by decide) rfl
  have hK9 := hK.sub (tys' := []) [] rfl
  exact W.iret (v := 0) hx hb hr (fun t ht hW => ⟨⟨0, (), rfl, rfl, by rw [ht]; exact hP9, va_K.moved hW.alike hK9, hD9⟩, hS.F ht⟩) hS.2.2 d_Lexemes_columnAt_21
set_option maxHeartbeats 4000000 in
set_option maxRecDepth 100000 in
theorem c30_Tokens_add (l : Launch) (dC : Nat → ClassId) (dI : Nat → Nat → Nat) (sz : Nat) (a0 : Nat) (a1 : Nat) (a2 : Nat) (k0 : ClassId) (k1 : ClassId) : Met l y_Tokens_add w_Tokens_add ({ frames := 0, cells := 0, slots := 0, locals := 0 }) (va_Pc [.ref a0, .int 4, .long 123] (fun U => U.heap.size = sz ∧ va_P (dC, dI) vcl [(a0, .inr (11, [.ref a1, .ref a2, .int 0])), (a1, .inl (k0, 362, .inl (fun _ => 0))), (a2, .inl (k1, 362, .inr (.inl (fun _ => 0))))] U.heap ∧ va_K (dC, dI) vcl [(k0, .int), (k1, .long)] U ∧ va_D (fun _ => True) [(a0, .inr (11, [.ref a1, .ref a2, .int 0])), (a1, .inl (k0, 362, .inl (fun _ => 0))), (a2, .inl (k1, 362, .inr (.inl (fun _ => 0))))])) (va_Qv (fun (_ : Unit) => True) (fun _ t => va_P (dC, dI) vcl [(a0, .inr (11, [.ref a1, .ref a2, .int 1])), (a1, .inl (k0, 362, .inl (upd (fun _ => 0) 0 4))), (a2, .inl (k1, 362, .inr (.inl (vp_updL (fun _ => 0) 0 123))))] t.heap ∧ va_K (dC, dI) vcl [(k0, .int), (k1, .long)] t ∧ va_D (va_A [(a0, .inr (11, [.ref a1, .ref a2, .int 0])), (a1, .inl (k0, 362, .inl (fun _ => 0))), (a2, .inl (k1, 362, .inr (.inl (fun _ => 0))))] sz) [(a0, .inr (11, [.ref a1, .ref a2, .int 1])), (a1, .inl (k0, 362, .inl (upd (fun _ => 0) 0 4))), (a2, .inl (k1, 362, .inr (.inl (vp_updL (fun _ => 0) 0 123))))]) (va_A [(a0, .inr (11, [.ref a1, .ref a2, .int 0])), (a1, .inl (k0, 362, .inl (fun _ => 0))), (a2, .inl (k1, 362, .inr (.inl (fun _ => 0))))] sz)) 0 0 (va_A [(a0, .inr (11, [.ref a1, .ref a2, .int 0])), (a1, .inl (k0, 362, .inl (fun _ => 0))), (a2, .inl (k1, 362, .inr (.inl (fun _ => 0))))] sz) := by
  refine Met.ofW (cc := b_Tokens_add) (maxL := 4) (ret := none) (by decide) rfl ?_
  intro p e s m args below meth c s₁ B hml hv
  obtain ⟨rfl, hsz, hP, hK, hD0⟩ := hv
  have hx := B.exec
  have hb := B.bytes
  have hr := B.returns
  have hts := atoms_spec (ws := w_Tokens_add) B.pre
  have hz : ∀ w ∈ wz, w.before _ s = true := fun w h => hts w (List.mem_cons_of_mem _ h)
  have hown : s.vm.findClass R_Tokens = some m.cls := findClass_of_methodNamed B.named
  have hlocks := B.notSynchronized
  subst hsz
  have hD := hD0.self (sz := s.heap.size)
  generalize hAe : va_A [(a0, .inr (11, [.ref a1, .ref a2, .int 0])), (a1, .inl (k0, 362, .inl (fun _ => 0))), (a2, .inl (k1, 362, .inr (.inl (fun _ => 0))))] s.heap.size = A at hD ⊢
  have hA : ∀ q : Nat, s.heap.size ≤ q → A q := fun q h => by rw [← hAe]; exact Or.inr h
  have hS : va_S A s.heap s.heap [] := va_S.rf
  have hP : va_P (dC, dI) vcl [(a0, .inr (11, [.ref a1, .ref a2, .int 0])), (a1, .inl (k0, 362, .inl (fun _ => 0))), (a2, .inl (k1, 362, .inr (.inl (fun _ => 0))))] s.heap := hP
  have hl := lv_entry ([.ref a0, .int 4, .long 123]) (n := 4) (Nat.le_of_ble_eq_true rfl)
  rw [lg_entry_eq]
  generalize (lg_sl ([.ref a0, .int 4, .long 123]) ++ List.replicate (4 - (lg_sl ([.ref a0, .int 4, .long 123])).length) Slot.unset).toArray = ls at hl ⊢
  have hl : lv_has ls 4 [(0, .ref a0), (1, .int 4), (2, .long 123)] := hl
  refine lv_aload_n hx hb d_Tokens_add_0 rfl (lv_at hl 0 rfl) ?_
  refine va_get (D := (dC, dI)) (ci := 11) (v := .int 0) (C := R_Tokens) (T := F_Tokens) (N := 3) hx hb hz zu_Tokens hown hK hP 0 rfl rfl 2 (by decide) (hz (.fieldLink R_Tokens 19 "LayoutFront$Tokens" "size" "I") zm_111) (fun _ h9 => h9) rfl d_Tokens_add_1 ?_
  refine lv_aload_n hx hb d_Tokens_add_4 rfl (lv_at hl 0 rfl) ?_
  refine va_get (D := (dC, dI)) (ci := 11) (v := .ref a1) (C := R_Tokens) (T := F_Tokens) (N := 3) hx hb hz zu_Tokens hown hK hP 0 rfl rfl 0 (by decide) (hz (.fieldLink R_Tokens 9 "LayoutFront$Tokens" "kinds" "[I") zm_12) (fun _ h9 => h9) rfl d_Tokens_add_5 ?_
  refine va_alen (v := 362) hx hb hK hP 1 0 rfl rfl (by decide +kernel) d_Tokens_add_8 ?_
  refine lv_icmp_ge (tgt := 42) hx hb d_Tokens_add_9 (by decide) (fun h => absurd h (by decide +kernel)) (fun _ => ?_)
  refine lv_aload_n hx hb d_Tokens_add_12 rfl (lv_at hl 0 rfl) ?_
  refine va_get (D := (dC, dI)) (ci := 11) (v := .ref a1) (C := R_Tokens) (T := F_Tokens) (N := 3) hx hb hz zu_Tokens hown hK hP 0 rfl rfl 0 (by decide) (hz (.fieldLink R_Tokens 9 "LayoutFront$Tokens" "kinds" "[I") zm_12) (fun _ h9 => h9) rfl d_Tokens_add_13 ?_
  refine lv_aload_n hx hb d_Tokens_add_16 rfl (lv_at hl 0 rfl) ?_
  refine va_get (D := (dC, dI)) (ci := 11) (v := .int 0) (C := R_Tokens) (T := F_Tokens) (N := 3) hx hb hz zu_Tokens hown hK hP 0 rfl rfl 2 (by decide) (hz (.fieldLink R_Tokens 19 "LayoutFront$Tokens" "size" "I") zm_111) (fun _ h9 => h9) rfl d_Tokens_add_17 ?_
  refine lv_iload_n hx hb d_Tokens_add_20 rfl (lv_at hl 1 rfl) ?_
  refine xr_iast (j := 0) hx hb hK hP hD hS 1 0 rfl rfl (xr_in (by decide +kernel)) (by decide +kernel) d_Tokens_add_21 (fun H locs hP hD hS => ?_)
  have hP : va_P (dC, dI) vcl [(a0, .inr (11, [.ref a1, .ref a2, .int 0])), (a1, .inl (k0, 362, .inl (upd (fun _ => 0) 0 4))), (a2, .inl (k1, 362, .inr (.inl (fun _ => 0))))] H := hP
  have hD : va_D A [(a0, .inr (11, [.ref a1, .ref a2, .int 0])), (a1, .inl (k0, 362, .inl (upd (fun _ => 0) 0 4))), (a2, .inl (k1, 362, .inr (.inl (fun _ => 0))))] := hD
  refine lv_aload_n hx hb d_Tokens_add_22 rfl (lv_at hl 0 rfl) ?_
  refine va_get (D := (dC, dI)) (ci := 11) (v := .ref a2) (C := R_Tokens) (T := F_Tokens) (N := 3) hx hb hz zu_Tokens hown hK hP 0 rfl rfl 1 (by decide) (hz (.fieldLink R_Tokens 15 "LayoutFront$Tokens" "values" "[J") zm_13) (fun _ h9 => h9) rfl d_Tokens_add_23 ?_
  refine lv_aload_n hx hb d_Tokens_add_26 rfl (lv_at hl 0 rfl) ?_
  refine va_get (D := (dC, dI)) (ci := 11) (v := .int 0) (C := R_Tokens) (T := F_Tokens) (N := 3) hx hb hz zu_Tokens hown hK hP 0 rfl rfl 2 (by decide) (hz (.fieldLink R_Tokens 19 "LayoutFront$Tokens" "size" "I") zm_111) (fun _ h9 => h9) rfl d_Tokens_add_27 ?_
  refine lv_lload_n hx hb d_Tokens_add_30 rfl (lv_at hl 2 rfl) ?_
  refine xr_last (j := 0) hx hb hK hP hD hS 2 1 rfl rfl (xr_in (by decide +kernel)) (by decide +kernel) d_Tokens_add_31 (fun H locs hP hD hS => ?_)
  have hP : va_P (dC, dI) vcl [(a0, .inr (11, [.ref a1, .ref a2, .int 0])), (a1, .inl (k0, 362, .inl (upd (fun _ => 0) 0 4))), (a2, .inl (k1, 362, .inr (.inl (vp_updL (fun _ => 0) 0 123))))] H := hP
  have hD : va_D A [(a0, .inr (11, [.ref a1, .ref a2, .int 0])), (a1, .inl (k0, 362, .inl (upd (fun _ => 0) 0 4))), (a2, .inl (k1, 362, .inr (.inl (vp_updL (fun _ => 0) 0 123))))] := hD
  refine lv_aload_n hx hb d_Tokens_add_32 rfl (lv_at hl 0 rfl) ?_
  refine lv_dup hx hb d_Tokens_add_33 rfl ?_
  refine va_get (D := (dC, dI)) (ci := 11) (v := .int 0) (C := R_Tokens) (T := F_Tokens) (N := 3) hx hb hz zu_Tokens hown hK hP 0 rfl rfl 2 (by decide) (hz (.fieldLink R_Tokens 19 "LayoutFront$Tokens" "size" "I") zm_111) (fun _ h9 => h9) rfl d_Tokens_add_34 ?_
  refine lv_iconst (v := 1) hx hb d_Tokens_add_37 (by decide) ?_
  refine xr_iadd (v := 1) hx hb d_Tokens_add_38 (by decide +kernel) ?_
  refine va_put (D := (dC, dI)) (ci := 11) (v := .int 1) (ty := .int) (C := R_Tokens) (T := F_Tokens) (N := 3) hx hb hz zu_Tokens t_Tokens t_Tokens_ok n_Tokens hown hK hP hD hS 0 rfl rfl 2 (by decide) (hz (.fieldLink R_Tokens 19 "LayoutFront$Tokens" "size" "I") zm_111) (fun _ h9 => h9) rfl (by decide +kernel) rfl rfl (Nat.le_of_ble_eq_true rfl) d_Tokens_add_39 (fun H locs hP hD hS => ?_)
  have hP : va_P (dC, dI) vcl [(a0, .inr (11, [.ref a1, .ref a2, .int 1])), (a1, .inl (k0, 362, .inl (upd (fun _ => 0) 0 4))), (a2, .inl (k1, 362, .inr (.inl (vp_updL (fun _ => 0) 0 123))))] H := hP
  have hD : va_D A [(a0, .inr (11, [.ref a1, .ref a2, .int 1])), (a1, .inl (k0, 362, .inl (upd (fun _ => 0) 0 4))), (a2, .inl (k1, 362, .inr (.inl (vp_updL (fun _ => 0) 0 123))))] := hD
  have hP9 := hP.sub (ws' := [(a0, .inr (11, [.ref a1, .ref a2, .int 1])), (a1, .inl (k0, 362, .inl (upd (fun _ => 0) 0 4))), (a2, .inl (k1, 362, .inr (.inl (vp_updL (fun _ => 0) 0 123))))]) [0, 1, 2] rfl
  have hD9 := hD.sub (ws' := [(a0, .inr (11, [.ref a1, .ref a2, .int 1])), (a1, .inl (k0, 362, .inl (upd (fun _ => 0) 0 4))), (a2, .inl (k1, 362, .inr (.inl (vp_updL (fun _ => 0) 0 123))))]) [0, 1, 2] (by decide) rfl
  have hK9 := hK.sub (tys' := [(k0, .int), (k1, .long)]) [0, 1] rfl
  exact W.vret hx hb hr (fun t ht hW => ⟨⟨(), rfl, trivial, by rw [ht]; exact hP9, va_K.moved hW.alike hK9, hD9⟩, hS.F ht⟩) hS.2.2 d_Tokens_add_42
set_option maxHeartbeats 4000000 in
set_option maxRecDepth 100000 in
theorem c31_Blocks_putIn (l : Launch) (dC : Nat → ClassId) (dI : Nat → Nat → Nat) (sz : Nat) (a0 : Nat) (a1 : Nat) (a2 : Nat) (a3 : Nat) (a4 : Nat) (k0 : ClassId) (k1 : ClassId) : Met l y_Blocks_putIn w_Blocks_putIn ({ frames := 1, cells := 0, slots := 0, locals := 23 }) (va_Pc [.ref a0, .int 123] (fun U => U.heap.size = sz ∧ va_P (dC, dI) vcl [(a0, .inr (2, [.ref a4, .ref a1, .int 1])), (a1, .inr (11, [.ref a2, .ref a3, .int 0])), (a2, .inl (k0, 362, .inl (fun _ => 0))), (a3, .inl (k1, 362, .inr (.inl (fun _ => 0))))] U.heap ∧ va_K (dC, dI) vcl [(k0, .int), (k1, .long)] U ∧ va_D (fun _ => True) [(a0, .inr (2, [.ref a4, .ref a1, .int 1])), (a1, .inr (11, [.ref a2, .ref a3, .int 0])), (a2, .inl (k0, 362, .inl (fun _ => 0))), (a3, .inl (k1, 362, .inr (.inl (fun _ => 0))))])) (va_Qv (fun (_ : Unit) => True) (fun _ t => va_P (dC, dI) vcl [(a0, .inr (2, [.ref a4, .ref a1, .int 1])), (a1, .inr (11, [.ref a2, .ref a3, .int 1])), (a2, .inl (k0, 362, .inl (upd (fun _ => 0) 0 4))), (a3, .inl (k1, 362, .inr (.inl (vp_updL (fun _ => 0) 0 123))))] t.heap ∧ va_K (dC, dI) vcl [(k0, .int), (k1, .long)] t ∧ va_D (va_A [(a0, .inr (2, [.ref a4, .ref a1, .int 1])), (a1, .inr (11, [.ref a2, .ref a3, .int 0])), (a2, .inl (k0, 362, .inl (fun _ => 0))), (a3, .inl (k1, 362, .inr (.inl (fun _ => 0))))] sz) [(a0, .inr (2, [.ref a4, .ref a1, .int 1])), (a1, .inr (11, [.ref a2, .ref a3, .int 1])), (a2, .inl (k0, 362, .inl (upd (fun _ => 0) 0 4))), (a3, .inl (k1, 362, .inr (.inl (vp_updL (fun _ => 0) 0 123))))]) (va_A [(a0, .inr (2, [.ref a4, .ref a1, .int 1])), (a1, .inr (11, [.ref a2, .ref a3, .int 0])), (a2, .inl (k0, 362, .inl (fun _ => 0))), (a3, .inl (k1, 362, .inr (.inl (fun _ => 0))))] sz)) 0 0 (va_A [(a0, .inr (2, [.ref a4, .ref a1, .int 1])), (a1, .inr (11, [.ref a2, .ref a3, .int 0])), (a2, .inl (k0, 362, .inl (fun _ => 0))), (a3, .inl (k1, 362, .inr (.inl (fun _ => 0))))] sz) := by
  refine Met.ofW (cc := b_Blocks_putIn) (maxL := 2) (ret := none) (by decide) rfl ?_
  intro p e s m args below meth c s₁ B hml hv
  obtain ⟨rfl, hsz, hP, hK, hD0⟩ := hv
  have hx := B.exec
  have hb := B.bytes
  have hr := B.returns
  have hts := atoms_spec (ws := w_Blocks_putIn) B.pre
  have hz : ∀ w ∈ wz, w.before _ s = true := fun w h => hts w (List.mem_cons_of_mem _ h)
  have hown : s.vm.findClass R_Blocks = some m.cls := findClass_of_methodNamed B.named
  have hlocks := B.notSynchronized
  subst hsz
  have hD := hD0.self (sz := s.heap.size)
  generalize hAe : va_A [(a0, .inr (2, [.ref a4, .ref a1, .int 1])), (a1, .inr (11, [.ref a2, .ref a3, .int 0])), (a2, .inl (k0, 362, .inl (fun _ => 0))), (a3, .inl (k1, 362, .inr (.inl (fun _ => 0))))] s.heap.size = A at hD ⊢
  have hA : ∀ q : Nat, s.heap.size ≤ q → A q := fun q h => by rw [← hAe]; exact Or.inr h
  have hS : va_S A s.heap s.heap [] := va_S.rf
  have hP : va_P (dC, dI) vcl [(a0, .inr (2, [.ref a4, .ref a1, .int 1])), (a1, .inr (11, [.ref a2, .ref a3, .int 0])), (a2, .inl (k0, 362, .inl (fun _ => 0))), (a3, .inl (k1, 362, .inr (.inl (fun _ => 0))))] s.heap := hP
  have hl := lv_entry ([.ref a0, .int 123]) (n := 2) (Nat.le_of_ble_eq_true rfl)
  rw [lg_entry_eq]
  generalize (lg_sl ([.ref a0, .int 123]) ++ List.replicate (2 - (lg_sl ([.ref a0, .int 123])).length) Slot.unset).toArray = ls at hl ⊢
  have hl : lv_has ls 2 [(0, .ref a0), (1, .int 123)] := hl
  refine lv_aload_n hx hb d_Blocks_putIn_0 rfl (lv_at hl 0 rfl) ?_
  refine va_get (D := (dC, dI)) (ci := 2) (v := .ref a1) (C := R_Blocks) (T := F_Blocks) (N := 3) hx hb hz zu_Blocks hown hK hP 0 rfl rfl 1 (by decide) (hz (.fieldLink R_Blocks 23 "LayoutFront$Blocks" "laid" "LLayoutFront$Tokens;") zm_45) (fun _ h9 => h9) rfl d_Blocks_putIn_1 ?_
  refine lv_iconst (v := 4) hx hb d_Blocks_putIn_4 (by decide) ?_
  refine lv_iload_n hx hb d_Blocks_putIn_5 rfl (lv_at hl 1 rfl) ?_
  refine lv_i2l (v := 123) hx hb d_Blocks_putIn_6 (by decide +kernel) ?_
  have hPc := hP.sub (ws' := [(a1, .inr (11, [.ref a2, .ref a3, .int 0])), (a2, .inl (k0, 362, .inl (fun _ => 0))), (a3, .inl (k1, 362, .inr (.inl (fun _ => 0))))]) [1, 2, 3] rfl
  have hDc := hD.sub (ws' := [(a1, .inr (11, [.ref a2, .ref a3, .int 0])), (a2, .inl (k0, 362, .inl (fun _ => 0))), (a3, .inl (k1, 362, .inr (.inl (fun _ => 0))))]) [1, 2, 3] (by decide) rfl
  have hKc := hK.sub (tys' := [(k0, .int), (k1, .long)]) [0, 1] rfl
  have hFc := va_free (wc := [(a1, .inr (11, [.ref a2, .ref a3, .int 0])), (a2, .inl (k0, 362, .inl (fun _ => 0))), (a3, .inl (k1, 362, .inr (.inl (fun _ => 0))))]) hD hS hA [1, 2, 3] rfl
  refine va_callv (va_runV (As := [.int 4, .long 123]) (rest := []) ⟨hx, hb, hml, hown, hz⟩ (c30_Tokens_add l dC dI s.heap.size a1 a2 a3 k0 k1) (cwV 2 hz (zV zm_148 zm_149 zm_150 zm_17 zm_151) rfl rfl rfl (by decide +kernel) ⟨Nat.le_of_ble_eq_true rfl, Nat.le_of_ble_eq_true rfl⟩) ⟨fun a U g mk q => by obtain ⟨q0, q1, qP, qK, qD⟩ := q; exact ⟨q0, q1, qP, va_K.moved (u := U) (U := U.calling g mk a) (Vm.Alike.refl U.vm) qK, qD⟩, va_recv (q := (R_Tokens, F_Tokens, 3)) (q0 := 1) (ci := 11) hK hP rfl rfl, fun U hU hW => ⟨rfl, by rw [hU], by rw [hU]; exact hPc, va_K.moved hW.alike hKc, hDc.weaken (fun _ _ _ _ => trivial)⟩⟩ rfl rfl hl.1 rfl (lv_room (Nat.le_of_ble_eq_true rfl)) d_Blocks_putIn_7 ⟨by decide, by decide⟩) hS (fun q _ h => hFc q h) hFc (fun u t H1 locs ht hvm hw hB hz1 hk1 hS => ?_)
  obtain ⟨hP1, hK1, hD1⟩ := hB
  rw [ht] at hP1
  obtain ⟨hP, hD⟩ := va_join (wr := [(a0, .inr (2, [.ref a4, .ref a1, .int 1]))]) (w1 := [(a1, .inr (11, [.ref a2, .ref a3, .int 1])), (a2, .inl (k0, 362, .inl (upd (fun _ => 0) 0 4))), (a3, .inl (k1, 362, .inr (.inl (vp_updL (fun _ => 0) 0 123))))]) hP hD [1, 2, 3] [0] rfl rfl (by decide) (by decide) hk1 hFc hP1 hD1
  generalize H1 = H at hP hS ⊢
  have hP : va_P (dC, dI) vcl [(a0, .inr (2, [.ref a4, .ref a1, .int 1])), (a1, .inr (11, [.ref a2, .ref a3, .int 1])), (a2, .inl (k0, 362, .inl (upd (fun _ => 0) 0 4))), (a3, .inl (k1, 362, .inr (.inl (vp_updL (fun _ => 0) 0 123))))] H := hP
  have hD : va_D A [(a0, .inr (2, [.ref a4, .ref a1, .int 1])), (a1, .inr (11, [.ref a2, .ref a3, .int 1])), (a2, .inl (k0, 362, .inl (upd (fun _ => 0) 0 4))), (a3, .inl (k1, 362, .inr (.inl (vp_updL (fun _ => 0) 0 123))))] := hD
  have hP9 := hP.sub (ws' := [(a0, .inr (2, [.ref a4, .ref a1, .int 1])), (a1, .inr (11, [.ref a2, .ref a3, .int 1])), (a2, .inl (k0, 362, .inl (upd (fun _ => 0) 0 4))), (a3, .inl (k1, 362, .inr (.inl (vp_updL (fun _ => 0) 0 123))))]) [0, 1, 2, 3] rfl
  have hD9 := hD.sub (ws' := [(a0, .inr (2, [.ref a4, .ref a1, .int 1])), (a1, .inr (11, [.ref a2, .ref a3, .int 1])), (a2, .inl (k0, 362, .inl (upd (fun _ => 0) 0 4))), (a3, .inl (k1, 362, .inr (.inl (vp_updL (fun _ => 0) 0 123))))]) [0, 1, 2, 3] (by decide) rfl
  have hK9 := hK.sub (tys' := [(k0, .int), (k1, .long)]) [0, 1] rfl
  exact W.vret hx hb hr (fun t ht hW => ⟨⟨(), rfl, trivial, by rw [ht]; exact hP9, va_K.moved hW.alike hK9, hD9⟩, hS.F ht⟩) hS.2.2 d_Blocks_putIn_10
set_option maxHeartbeats 4000000 in
set_option maxRecDepth 100000 in
theorem c32_Open_latestColumn (l : Launch) (dC : Nat → ClassId) (dI : Nat → Nat → Nat) (sz : Nat) (a0 : Nat) (a1 : Nat) : Met l y_Open_latestColumn w_Open_latestColumn ({ frames := 0, cells := 0, slots := 0, locals := 0 }) (va_Pc [.ref a0] (fun U => U.heap.size = sz ∧ va_P (dC, dI) vcl [(a0, .inr (6, [.ref a1, .int 0, .int 0]))] U.heap ∧ va_K (dC, dI) vcl [] U ∧ va_D (fun _ => True) [(a0, .inr (6, [.ref a1, .int 0, .int 0]))])) (va_Qi (fun (r : Int32) (_ : Unit) => r = 0) (fun _ t => va_P (dC, dI) vcl [(a0, .inr (6, [.ref a1, .int 0, .int 0]))] t.heap ∧ va_K (dC, dI) vcl [] t ∧ va_D (va_A [(a0, .inr (6, [.ref a1, .int 0, .int 0]))] sz) [(a0, .inr (6, [.ref a1, .int 0, .int 0]))]) (va_A [(a0, .inr (6, [.ref a1, .int 0, .int 0]))] sz)) 0 0 (va_A [(a0, .inr (6, [.ref a1, .int 0, .int 0]))] sz) := by
  refine Met.ofW (cc := b_Open_latestColumn) (maxL := 2) (ret := (some .int)) (by decide) rfl ?_
  intro p e s m args below meth c s₁ B hml hv
  obtain ⟨rfl, hsz, hP, hK, hD0⟩ := hv
  have hx := B.exec
  have hb := B.bytes
  have hr := B.returns
  have hts := atoms_spec (ws := w_Open_latestColumn) B.pre
  have hz : ∀ w ∈ wz, w.before _ s = true := fun w h => hts w (List.mem_cons_of_mem _ h)
  have hown : s.vm.findClass R_Open = some m.cls := findClass_of_methodNamed B.named
  have hlocks := B.notSynchronized
  subst hsz
  have hD := hD0.self (sz := s.heap.size)
  generalize hAe : va_A [(a0, .inr (6, [.ref a1, .int 0, .int 0]))] s.heap.size = A at hD ⊢
  have hA : ∀ q : Nat, s.heap.size ≤ q → A q := fun q h => by rw [← hAe]; exact Or.inr h
  have hS : va_S A s.heap s.heap [] := va_S.rf
  have hP : va_P (dC, dI) vcl [(a0, .inr (6, [.ref a1, .int 0, .int 0]))] s.heap := hP
  have hl := lv_entry ([.ref a0]) (n := 2) (Nat.le_of_ble_eq_true rfl)
  rw [lg_entry_eq]
  generalize (lg_sl ([.ref a0]) ++ List.replicate (2 - (lg_sl ([.ref a0])).length) Slot.unset).toArray = ls at hl ⊢
  have hl : lv_has ls 2 [(0, .ref a0)] := hl
  refine lv_aload_n hx hb d_Open_latestColumn_0 rfl (lv_at hl 0 rfl) ?_
  refine va_get (D := (dC, dI)) (ci := 6) (v := .int 0) (C := R_Open) (T := F_Open) (N := 3) hx hb hz zu_Open hown hK hP 0 rfl rfl 1 (by decide) (hz (.fieldLink R_Open 15 "LayoutFront$Open" "size" "I") zm_129) (fun _ h9 => h9) rfl d_Open_latestColumn_1 ?_
  refine lv_iconst (v := 1) hx hb d_Open_latestColumn_4 (by decide) ?_
  refine xr_isub (v := (-1)) hx hb d_Open_latestColumn_5 (by decide +kernel) ?_
  refine lv_istore_n hx hb d_Open_latestColumn_6 rfl hl (by decide) rfl (fun ls hl => ?_)
  have hl : lv_has ls 2 [(1, .int (-1)), (0, .ref a0)] := hl
  refine lv_iload_n hx hb d_Open_latestColumn_7 rfl (lv_at hl 0 rfl) ?_
  refine lv_if_lt (tgt := 31) hx hb d_Open_latestColumn_8 (by decide) (fun _ => ?_) (fun h => (h (by decide +kernel)).elim)
  refine lv_iconst (v := 0) hx hb d_Open_latestColumn_31 (by decide) ?_
  have hP9 := hP.sub (ws' := [(a0, .inr (6, [.ref a1, .int 0, .int 0]))]) [0] rfl
  have hD9 := hD.sub (ws' := [(a0, .inr (6, [.ref a1, .int 0, .int 0]))]) [0] (by decide) rfl
  have hK9 := hK.sub (tys' := []) [] rfl
  exact W.iret (v := 0) hx hb hr (fun t ht hW => ⟨⟨0, (), rfl, rfl, by rw [ht]; exact hP9, va_K.moved hW.alike hK9, hD9⟩, hS.F ht⟩) hS.2.2 d_Open_latestColumn_32
set_option maxHeartbeats 4000000 in
set_option maxRecDepth 100000 in
theorem c33_Tokens_add (l : Launch) (dC : Nat → ClassId) (dI : Nat → Nat → Nat) (sz : Nat) (a0 : Nat) (a1 : Nat) (a2 : Nat) (k0 : ClassId) (k1 : ClassId) : Met l y_Tokens_add w_Tokens_add ({ frames := 0, cells := 0, slots := 0, locals := 0 }) (va_Pc [.ref a0, .int 4, .long 125] (fun U => U.heap.size = sz ∧ va_P (dC, dI) vcl [(a0, .inr (11, [.ref a1, .ref a2, .int 1])), (a1, .inl (k0, 362, .inl (upd (fun _ => 0) 0 4))), (a2, .inl (k1, 362, .inr (.inl (vp_updL (fun _ => 0) 0 123))))] U.heap ∧ va_K (dC, dI) vcl [(k0, .int), (k1, .long)] U ∧ va_D (fun _ => True) [(a0, .inr (11, [.ref a1, .ref a2, .int 1])), (a1, .inl (k0, 362, .inl (upd (fun _ => 0) 0 4))), (a2, .inl (k1, 362, .inr (.inl (vp_updL (fun _ => 0) 0 123))))])) (va_Qv (fun (_ : Unit) => True) (fun _ t => va_P (dC, dI) vcl [(a0, .inr (11, [.ref a1, .ref a2, .int 2])), (a1, .inl (k0, 362, .inl (upd (upd (fun _ => 0) 0 4) 1 4))), (a2, .inl (k1, 362, .inr (.inl (vp_updL (vp_updL (fun _ => 0) 0 123) 1 125))))] t.heap ∧ va_K (dC, dI) vcl [(k0, .int), (k1, .long)] t ∧ va_D (va_A [(a0, .inr (11, [.ref a1, .ref a2, .int 1])), (a1, .inl (k0, 362, .inl (upd (fun _ => 0) 0 4))), (a2, .inl (k1, 362, .inr (.inl (vp_updL (fun _ => 0) 0 123))))] sz) [(a0, .inr (11, [.ref a1, .ref a2, .int 2])), (a1, .inl (k0, 362, .inl (upd (upd (fun _ => 0) 0 4) 1 4))), (a2, .inl (k1, 362, .inr (.inl (vp_updL (vp_updL (fun _ => 0) 0 123) 1 125))))]) (va_A [(a0, .inr (11, [.ref a1, .ref a2, .int 1])), (a1, .inl (k0, 362, .inl (upd (fun _ => 0) 0 4))), (a2, .inl (k1, 362, .inr (.inl (vp_updL (fun _ => 0) 0 123))))] sz)) 0 0 (va_A [(a0, .inr (11, [.ref a1, .ref a2, .int 1])), (a1, .inl (k0, 362, .inl (upd (fun _ => 0) 0 4))), (a2, .inl (k1, 362, .inr (.inl (vp_updL (fun _ => 0) 0 123))))] sz) := by
  refine Met.ofW (cc := b_Tokens_add) (maxL := 4) (ret := none) (by decide) rfl ?_
  intro p e s m args below meth c s₁ B hml hv
  obtain ⟨rfl, hsz, hP, hK, hD0⟩ := hv
  have hx := B.exec
  have hb := B.bytes
  have hr := B.returns
  have hts := atoms_spec (ws := w_Tokens_add) B.pre
  have hz : ∀ w ∈ wz, w.before _ s = true := fun w h => hts w (List.mem_cons_of_mem _ h)
  have hown : s.vm.findClass R_Tokens = some m.cls := findClass_of_methodNamed B.named
  have hlocks := B.notSynchronized
  subst hsz
  have hD := hD0.self (sz := s.heap.size)
  generalize hAe : va_A [(a0, .inr (11, [.ref a1, .ref a2, .int 1])), (a1, .inl (k0, 362, .inl (upd (fun _ => 0) 0 4))), (a2, .inl (k1, 362, .inr (.inl (vp_updL (fun _ => 0) 0 123))))] s.heap.size = A at hD ⊢
  have hA : ∀ q : Nat, s.heap.size ≤ q → A q := fun q h => by rw [← hAe]; exact Or.inr h
  have hS : va_S A s.heap s.heap [] := va_S.rf
  have hP : va_P (dC, dI) vcl [(a0, .inr (11, [.ref a1, .ref a2, .int 1])), (a1, .inl (k0, 362, .inl (upd (fun _ => 0) 0 4))), (a2, .inl (k1, 362, .inr (.inl (vp_updL (fun _ => 0) 0 123))))] s.heap := hP
  have hl := lv_entry ([.ref a0, .int 4, .long 125]) (n := 4) (Nat.le_of_ble_eq_true rfl)
  rw [lg_entry_eq]
  generalize (lg_sl ([.ref a0, .int 4, .long 125]) ++ List.replicate (4 - (lg_sl ([.ref a0, .int 4, .long 125])).length) Slot.unset).toArray = ls at hl ⊢
  have hl : lv_has ls 4 [(0, .ref a0), (1, .int 4), (2, .long 125)] := hl
  refine lv_aload_n hx hb d_Tokens_add_0 rfl (lv_at hl 0 rfl) ?_
  refine va_get (D := (dC, dI)) (ci := 11) (v := .int 1) (C := R_Tokens) (T := F_Tokens) (N := 3) hx hb hz zu_Tokens hown hK hP 0 rfl rfl 2 (by decide) (hz (.fieldLink R_Tokens 19 "LayoutFront$Tokens" "size" "I") zm_111) (fun _ h9 => h9) rfl d_Tokens_add_1 ?_
  refine lv_aload_n hx hb d_Tokens_add_4 rfl (lv_at hl 0 rfl) ?_
  refine va_get (D := (dC, dI)) (ci := 11) (v := .ref a1) (C := R_Tokens) (T := F_Tokens) (N := 3) hx hb hz zu_Tokens hown hK hP 0 rfl rfl 0 (by decide) (hz (.fieldLink R_Tokens 9 "LayoutFront$Tokens" "kinds" "[I") zm_12) (fun _ h9 => h9) rfl d_Tokens_add_5 ?_
  refine va_alen (v := 362) hx hb hK hP 1 0 rfl rfl (by decide +kernel) d_Tokens_add_8 ?_
  refine lv_icmp_ge (tgt := 42) hx hb d_Tokens_add_9 (by decide) (fun h => absurd h (by decide +kernel)) (fun _ => ?_)
  refine lv_aload_n hx hb d_Tokens_add_12 rfl (lv_at hl 0 rfl) ?_
  refine va_get (D := (dC, dI)) (ci := 11) (v := .ref a1) (C := R_Tokens) (T := F_Tokens) (N := 3) hx hb hz zu_Tokens hown hK hP 0 rfl rfl 0 (by decide) (hz (.fieldLink R_Tokens 9 "LayoutFront$Tokens" "kinds" "[I") zm_12) (fun _ h9 => h9) rfl d_Tokens_add_13 ?_
  refine lv_aload_n hx hb d_Tokens_add_16 rfl (lv_at hl 0 rfl) ?_
  refine va_get (D := (dC, dI)) (ci := 11) (v := .int 1) (C := R_Tokens) (T := F_Tokens) (N := 3) hx hb hz zu_Tokens hown hK hP 0 rfl rfl 2 (by decide) (hz (.fieldLink R_Tokens 19 "LayoutFront$Tokens" "size" "I") zm_111) (fun _ h9 => h9) rfl d_Tokens_add_17 ?_
  refine lv_iload_n hx hb d_Tokens_add_20 rfl (lv_at hl 1 rfl) ?_
  refine xr_iast (j := 1) hx hb hK hP hD hS 1 0 rfl rfl (xr_in (by decide +kernel)) (by decide +kernel) d_Tokens_add_21 (fun H locs hP hD hS => ?_)
  have hP : va_P (dC, dI) vcl [(a0, .inr (11, [.ref a1, .ref a2, .int 1])), (a1, .inl (k0, 362, .inl (upd (upd (fun _ => 0) 0 4) 1 4))), (a2, .inl (k1, 362, .inr (.inl (vp_updL (fun _ => 0) 0 123))))] H := hP
  have hD : va_D A [(a0, .inr (11, [.ref a1, .ref a2, .int 1])), (a1, .inl (k0, 362, .inl (upd (upd (fun _ => 0) 0 4) 1 4))), (a2, .inl (k1, 362, .inr (.inl (vp_updL (fun _ => 0) 0 123))))] := hD
  refine lv_aload_n hx hb d_Tokens_add_22 rfl (lv_at hl 0 rfl) ?_
  refine va_get (D := (dC, dI)) (ci := 11) (v := .ref a2) (C := R_Tokens) (T := F_Tokens) (N := 3) hx hb hz zu_Tokens hown hK hP 0 rfl rfl 1 (by decide) (hz (.fieldLink R_Tokens 15 "LayoutFront$Tokens" "values" "[J") zm_13) (fun _ h9 => h9) rfl d_Tokens_add_23 ?_
  refine lv_aload_n hx hb d_Tokens_add_26 rfl (lv_at hl 0 rfl) ?_
  refine va_get (D := (dC, dI)) (ci := 11) (v := .int 1) (C := R_Tokens) (T := F_Tokens) (N := 3) hx hb hz zu_Tokens hown hK hP 0 rfl rfl 2 (by decide) (hz (.fieldLink R_Tokens 19 "LayoutFront$Tokens" "size" "I") zm_111) (fun _ h9 => h9) rfl d_Tokens_add_27 ?_
  refine lv_lload_n hx hb d_Tokens_add_30 rfl (lv_at hl 2 rfl) ?_
  refine xr_last (j := 1) hx hb hK hP hD hS 2 1 rfl rfl (xr_in (by decide +kernel)) (by decide +kernel) d_Tokens_add_31 (fun H locs hP hD hS => ?_)
  have hP : va_P (dC, dI) vcl [(a0, .inr (11, [.ref a1, .ref a2, .int 1])), (a1, .inl (k0, 362, .inl (upd (upd (fun _ => 0) 0 4) 1 4))), (a2, .inl (k1, 362, .inr (.inl (vp_updL (vp_updL (fun _ => 0) 0 123) 1 125))))] H := hP
  have hD : va_D A [(a0, .inr (11, [.ref a1, .ref a2, .int 1])), (a1, .inl (k0, 362, .inl (upd (upd (fun _ => 0) 0 4) 1 4))), (a2, .inl (k1, 362, .inr (.inl (vp_updL (vp_updL (fun _ => 0) 0 123) 1 125))))] := hD
  refine lv_aload_n hx hb d_Tokens_add_32 rfl (lv_at hl 0 rfl) ?_
  refine lv_dup hx hb d_Tokens_add_33 rfl ?_
  refine va_get (D := (dC, dI)) (ci := 11) (v := .int 1) (C := R_Tokens) (T := F_Tokens) (N := 3) hx hb hz zu_Tokens hown hK hP 0 rfl rfl 2 (by decide) (hz (.fieldLink R_Tokens 19 "LayoutFront$Tokens" "size" "I") zm_111) (fun _ h9 => h9) rfl d_Tokens_add_34 ?_
  refine lv_iconst (v := 1) hx hb d_Tokens_add_37 (by decide) ?_
  refine xr_iadd (v := 2) hx hb d_Tokens_add_38 (by decide +kernel) ?_
  refine va_put (D := (dC, dI)) (ci := 11) (v := .int 2) (ty := .int) (C := R_Tokens) (T := F_Tokens) (N := 3) hx hb hz zu_Tokens t_Tokens t_Tokens_ok n_Tokens hown hK hP hD hS 0 rfl rfl 2 (by decide) (hz (.fieldLink R_Tokens 19 "LayoutFront$Tokens" "size" "I") zm_111) (fun _ h9 => h9) rfl (by decide +kernel) rfl rfl (Nat.le_of_ble_eq_true rfl) d_Tokens_add_39 (fun H locs hP hD hS => ?_)
  have hP : va_P (dC, dI) vcl [(a0, .inr (11, [.ref a1, .ref a2, .int 2])), (a1, .inl (k0, 362, .inl (upd (upd (fun _ => 0) 0 4) 1 4))), (a2, .inl (k1, 362, .inr (.inl (vp_updL (vp_updL (fun _ => 0) 0 123) 1 125))))] H := hP
  have hD : va_D A [(a0, .inr (11, [.ref a1, .ref a2, .int 2])), (a1, .inl (k0, 362, .inl (upd (upd (fun _ => 0) 0 4) 1 4))), (a2, .inl (k1, 362, .inr (.inl (vp_updL (vp_updL (fun _ => 0) 0 123) 1 125))))] := hD
  have hP9 := hP.sub (ws' := [(a0, .inr (11, [.ref a1, .ref a2, .int 2])), (a1, .inl (k0, 362, .inl (upd (upd (fun _ => 0) 0 4) 1 4))), (a2, .inl (k1, 362, .inr (.inl (vp_updL (vp_updL (fun _ => 0) 0 123) 1 125))))]) [0, 1, 2] rfl
  have hD9 := hD.sub (ws' := [(a0, .inr (11, [.ref a1, .ref a2, .int 2])), (a1, .inl (k0, 362, .inl (upd (upd (fun _ => 0) 0 4) 1 4))), (a2, .inl (k1, 362, .inr (.inl (vp_updL (vp_updL (fun _ => 0) 0 123) 1 125))))]) [0, 1, 2] (by decide) rfl
  have hK9 := hK.sub (tys' := [(k0, .int), (k1, .long)]) [0, 1] rfl
  exact W.vret hx hb hr (fun t ht hW => ⟨⟨(), rfl, trivial, by rw [ht]; exact hP9, va_K.moved hW.alike hK9, hD9⟩, hS.F ht⟩) hS.2.2 d_Tokens_add_42
