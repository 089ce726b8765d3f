set_option maxHeartbeats 4000000 in
set_option maxRecDepth 100000 in
theorem c54_Tokens_isSign (l : Launch) (dC : Nat → ClassId) (dI : Nat → Nat → Nat) (sz : Nat) (a0 : Nat) (a1 : Nat) (a2 : Nat) (k0 : ClassId) : Met l y_Tokens_isSign w_Tokens_isSign ({ frames := 0, cells := 0, slots := 0, locals := 0 }) (va_Pc [.ref a0, .int 1, .int 93] (fun U => U.heap.size = sz ∧ va_P (dC, dI) vcl [(a0, .inr (11, [.ref a1, .ref a2, .int 2])), (a1, .inl (k0, 362, .inl (upd (upd (fun _ => 0) 0 4) 1 4)))] U.heap ∧ va_K (dC, dI) vcl [(k0, .int)] U ∧ va_D (fun _ => True) [(a0, .inr (11, [.ref a1, .ref a2, .int 2])), (a1, .inl (k0, 362, .inl (upd (upd (fun _ => 0) 0 4) 1 4)))])) (va_Qi (fun (r : Int32) (_ : Unit) => r = 0) (fun _ t => va_P (dC, dI) vcl [(a0, .inr (11, [.ref a1, .ref a2, .int 2])), (a1, .inl (k0, 362, .inl (upd (upd (fun _ => 0) 0 4) 1 4)))] t.heap ∧ va_K (dC, dI) vcl [(k0, .int)] t ∧ va_D (va_A [(a0, .inr (11, [.ref a1, .ref a2, .int 2])), (a1, .inl (k0, 362, .inl (upd (upd (fun _ => 0) 0 4) 1 4)))] sz) [(a0, .inr (11, [.ref a1, .ref a2, .int 2])), (a1, .inl (k0, 362, .inl (upd (upd (fun _ => 0) 0 4) 1 4)))]) (va_A [(a0, .inr (11, [.ref a1, .ref a2, .int 2])), (a1, .inl (k0, 362, .inl (upd (upd (fun _ => 0) 0 4) 1 4)))] sz)) 0 0 (va_A [(a0, .inr (11, [.ref a1, .ref a2, .int 2])), (a1, .inl (k0, 362, .inl (upd (upd (fun _ => 0) 0 4) 1 4)))] sz) := by
  refine Met.ofW (cc := b_Tokens_isSign) (maxL := 3) (ret := (some .boolean)) (by decide) rfl ?_
  intro p e s m args below meth c s₁ B hml hv
  obtain ⟨rfl, hsz, hP, hK, hD0⟩ := hv
  have hx := B.exec
  have hb := B.bytes
  have hr := B.returns
  have hts := atoms_spec (ws := w_Tokens_isSign) B.pre
  have hz : ∀ w ∈ wz, w.before _ s = true := fun w h => hts w (List.mem_cons_of_mem _ h)
  have hown : s.vm.findClass R_Tokens = some m.cls := findClass_of_methodNamed B.named
  have hlocks := B.notSynchronized
  subst hsz
  have hD := hD0.self (sz := s.heap.size)
  generalize hAe : va_A [(a0, .inr (11, [.ref a1, .ref a2, .int 2])), (a1, .inl (k0, 362, .inl (upd (upd (fun _ => 0) 0 4) 1 4)))] s.heap.size = A at hD ⊢
  have hA : ∀ q : Nat, s.heap.size ≤ q → A q := fun q h => by rw [← hAe]; exact Or.inr h
  have hS : va_S A s.heap s.heap [] := va_S.rf
  have hP : va_P (dC, dI) vcl [(a0, .inr (11, [.ref a1, .ref a2, .int 2])), (a1, .inl (k0, 362, .inl (upd (upd (fun _ => 0) 0 4) 1 4)))] s.heap := hP
  have hl := lv_entry ([.ref a0, .int 1, .int 93]) (n := 3) (Nat.le_of_ble_eq_true rfl)
  rw [lg_entry_eq]
  generalize (lg_sl ([.ref a0, .int 1, .int 93]) ++ List.replicate (3 - (lg_sl ([.ref a0, .int 1, .int 93])).length) Slot.unset).toArray = ls at hl ⊢
  have hl : lv_has ls 3 [(0, .ref a0), (1, .int 1), (2, .int 93)] := hl
  refine lv_iload_n hx hb d_Tokens_isSign_0 rfl (lv_at hl 1 rfl) ?_
  refine lv_if_lt (tgt := 38) hx hb d_Tokens_isSign_1 (by decide) (fun h => absurd h (by decide +kernel)) (fun _ => ?_)
  refine lv_iload_n hx hb d_Tokens_isSign_4 rfl (lv_at hl 1 rfl) ?_
  refine lv_aload_n hx hb d_Tokens_isSign_5 rfl (lv_at hl 0 rfl) ?_
  refine va_get (D := (dC, dI)) (ci := 11) (v := .int 2) (C := R_Tokens) (T := F_Tokens) (N := 3) hx hb hz zu_Tokens hown hK hP 0 rfl rfl 2 (by decide) (hz (.fieldLink R_Tokens 19 "LayoutFront$Tokens" "size" "I") zm_111) (fun _ h9 => h9) rfl d_Tokens_isSign_6 ?_
  refine lv_icmp_ge (tgt := 38) hx hb d_Tokens_isSign_9 (by decide) (fun h => absurd h (by decide +kernel)) (fun _ => ?_)
  refine lv_aload_n hx hb d_Tokens_isSign_12 rfl (lv_at hl 0 rfl) ?_
  refine va_get (D := (dC, dI)) (ci := 11) (v := .ref a1) (C := R_Tokens) (T := F_Tokens) (N := 3) hx hb hz zu_Tokens hown hK hP 0 rfl rfl 0 (by decide) (hz (.fieldLink R_Tokens 9 "LayoutFront$Tokens" "kinds" "[I") zm_12) (fun _ h9 => h9) rfl d_Tokens_isSign_13 ?_
  refine lv_iload_n hx hb d_Tokens_isSign_16 rfl (lv_at hl 1 rfl) ?_
  refine xr_iald (v := 4) hx hb hK hP 1 0 rfl rfl (xr_in (by decide +kernel)) (by decide +kernel) d_Tokens_isSign_17 ?_
  refine lv_iconst (v := 3) hx hb d_Tokens_isSign_18 (by decide) ?_
  refine lv_icmp_ne (tgt := 38) hx hb d_Tokens_isSign_19 (by decide) (fun _ => ?_) (fun h => absurd h (by decide +kernel))
  refine lv_iconst (v := 0) hx hb d_Tokens_isSign_38 (by decide) ?_
  have hP9 := hP.sub (ws' := [(a0, .inr (11, [.ref a1, .ref a2, .int 2])), (a1, .inl (k0, 362, .inl (upd (upd (fun _ => 0) 0 4) 1 4)))]) [0, 1] rfl
  have hD9 := hD.sub (ws' := [(a0, .inr (11, [.ref a1, .ref a2, .int 2])), (a1, .inl (k0, 362, .inl (upd (upd (fun _ => 0) 0 4) 1 4)))]) [0, 1] (by decide) rfl
  have hK9 := hK.sub (tys' := [(k0, .int)]) [0] rfl
  exact W.zret (v := 0) hx hb hr (by decide +kernel) (fun t ht hW => ⟨⟨0, (), rfl, rfl, by rw [ht]; exact hP9, va_K.moved hW.alike hK9, hD9⟩, hS.F ht⟩) hS.2.2 d_Tokens_isSign_39
set_option maxHeartbeats 4000000 in
set_option maxRecDepth 100000 in
theorem c55_Tokens_closesBracket (l : Launch) (dC : Nat → ClassId) (dI : Nat → Nat → Nat) (sz : Nat) (a0 : Nat) (a1 : Nat) (a2 : Nat) (k0 : ClassId) : Met l y_Tokens_closesBracket w_Tokens_closesBracket ({ frames := 1, cells := 0, slots := 0, locals := 22 }) (va_Pc [.ref a0, .int 1] (fun U => U.heap.size = sz ∧ va_P (dC, dI) vcl [(a0, .inr (11, [.ref a1, .ref a2, .int 2])), (a1, .inl (k0, 362, .inl (upd (upd (fun _ => 0) 0 4) 1 4)))] U.heap ∧ va_K (dC, dI) vcl [(k0, .int)] U ∧ va_D (fun _ => True) [(a0, .inr (11, [.ref a1, .ref a2, .int 2])), (a1, .inl (k0, 362, .inl (upd (upd (fun _ => 0) 0 4) 1 4)))])) (va_Qi (fun (r : Int32) (_ : Unit) => r = 0) (fun _ t => va_P (dC, dI) vcl [(a0, .inr (11, [.ref a1, .ref a2, .int 2])), (a1, .inl (k0, 362, .inl (upd (upd (fun _ => 0) 0 4) 1 4)))] t.heap ∧ va_K (dC, dI) vcl [(k0, .int)] t ∧ va_D (va_A [(a0, .inr (11, [.ref a1, .ref a2, .int 2])), (a1, .inl (k0, 362, .inl (upd (upd (fun _ => 0) 0 4) 1 4)))] sz) [(a0, .inr (11, [.ref a1, .ref a2, .int 2])), (a1, .inl (k0, 362, .inl (upd (upd (fun _ => 0) 0 4) 1 4)))]) (va_A [(a0, .inr (11, [.ref a1, .ref a2, .int 2])), (a1, .inl (k0, 362, .inl (upd (upd (fun _ => 0) 0 4) 1 4)))] sz)) 0 0 (va_A [(a0, .inr (11, [.ref a1, .ref a2, .int 2])), (a1, .inl (k0, 362, .inl (upd (upd (fun _ => 0) 0 4) 1 4)))] sz) := by
  refine Met.ofW (cc := b_Tokens_closesBracket) (maxL := 2) (ret := (some .boolean)) (by decide) rfl ?_
  intro p e s m args below meth c s₁ B hml hv
  obtain ⟨rfl, hsz, hP, hK, hD0⟩ := hv
  have hx := B.exec
  have hb := B.bytes
  have hr := B.returns
  have hts := atoms_spec (ws := w_Tokens_closesBracket) B.pre
  have hz : ∀ w ∈ wz, w.before _ s = true := fun w h => hts w (List.mem_cons_of_mem _ h)
  have hown : s.vm.findClass R_Tokens = some m.cls := findClass_of_methodNamed B.named
  have hlocks := B.notSynchronized
  subst hsz
  have hD := hD0.self (sz := s.heap.size)
  generalize hAe : va_A [(a0, .inr (11, [.ref a1, .ref a2, .int 2])), (a1, .inl (k0, 362, .inl (upd (upd (fun _ => 0) 0 4) 1 4)))] s.heap.size = A at hD ⊢
  have hA : ∀ q : Nat, s.heap.size ≤ q → A q := fun q h => by rw [← hAe]; exact Or.inr h
  have hS : va_S A s.heap s.heap [] := va_S.rf
  have hP : va_P (dC, dI) vcl [(a0, .inr (11, [.ref a1, .ref a2, .int 2])), (a1, .inl (k0, 362, .inl (upd (upd (fun _ => 0) 0 4) 1 4)))] s.heap := hP
  have hl := lv_entry ([.ref a0, .int 1]) (n := 2) (Nat.le_of_ble_eq_true rfl)
  rw [lg_entry_eq]
  generalize (lg_sl ([.ref a0, .int 1]) ++ List.replicate (2 - (lg_sl ([.ref a0, .int 1])).length) Slot.unset).toArray = ls at hl ⊢
  have hl : lv_has ls 2 [(0, .ref a0), (1, .int 1)] := hl
  refine lv_aload_n hx hb d_Tokens_closesBracket_0 rfl (lv_at hl 0 rfl) ?_
  refine lv_iload_n hx hb d_Tokens_closesBracket_1 rfl (lv_at hl 1 rfl) ?_
  refine lv_bipush (v := 41) hx hb d_Tokens_closesBracket_2 (by decide) ?_
  have hPc := hP.sub (ws' := [(a0, .inr (11, [.ref a1, .ref a2, .int 2])), (a1, .inl (k0, 362, .inl (upd (upd (fun _ => 0) 0 4) 1 4)))]) [0, 1] rfl
  have hDc := hD.sub (ws' := [(a0, .inr (11, [.ref a1, .ref a2, .int 2])), (a1, .inl (k0, 362, .inl (upd (upd (fun _ => 0) 0 4) 1 4)))]) [0, 1] (by decide) rfl
  have hKc := hK.sub (tys' := [(k0, .int)]) [0] rfl
  have hFc := va_free (wc := [(a0, .inr (11, [.ref a1, .ref a2, .int 2])), (a1, .inl (k0, 362, .inl (upd (upd (fun _ => 0) 0 4) 1 4)))]) hD hS hA [0, 1] rfl
  refine va_calli (va_runV (As := [.int 1, .int 41]) (rest := []) ⟨hx, hb, hml, hown, hz⟩ (c53_Tokens_isSign l dC dI s.heap.size a0 a1 a2 k0) (cwV 2 hz (zV zm_205 zm_140 zm_141 zm_17 zm_142) rfl rfl rfl (by decide +kernel) ⟨Nat.le_of_ble_eq_true rfl, Nat.le_of_ble_eq_true rfl⟩) ⟨fun a U g mk q => by obtain ⟨q0, q1, qP, qK, qD⟩ := q; exact ⟨q0, q1, qP, va_K.moved (u := U) (U := U.calling g mk a) (Vm.Alike.refl U.vm) qK, qD⟩, va_recv (q := (R_Tokens, F_Tokens, 3)) (q0 := 0) (ci := 11) hK hP rfl rfl, fun U hU hW => ⟨rfl, by rw [hU], by rw [hU]; exact hPc, va_K.moved hW.alike hKc, hDc.weaken (fun _ _ _ _ => trivial)⟩⟩ rfl rfl hl.1 rfl (lv_room (Nat.le_of_ble_eq_true rfl)) d_Tokens_closesBracket_4 ⟨by decide, by decide⟩) hS (fun q _ h => hFc q h) hFc (fun r u t H1 locs ht hvm hw hB hz1 hk1 hS => ?_)
  obtain ⟨hP1, hK1, hD1⟩ := hB
  subst r
  rw [ht] at hP1
  obtain ⟨hP, hD⟩ := va_join (wr := []) (w1 := [(a0, .inr (11, [.ref a1, .ref a2, .int 2])), (a1, .inl (k0, 362, .inl (upd (upd (fun _ => 0) 0 4) 1 4)))]) hP hD [0, 1] [] rfl rfl (by decide) (by decide) hk1 hFc hP1 hD1
  generalize H1 = H at hP hS ⊢
  have hP : va_P (dC, dI) vcl [(a0, .inr (11, [.ref a1, .ref a2, .int 2])), (a1, .inl (k0, 362, .inl (upd (upd (fun _ => 0) 0 4) 1 4)))] H := hP
  have hD : va_D A [(a0, .inr (11, [.ref a1, .ref a2, .int 2])), (a1, .inl (k0, 362, .inl (upd (upd (fun _ => 0) 0 4) 1 4)))] := hD
  refine lv_if_ne (tgt := 20) hx hb d_Tokens_closesBracket_7 (by decide) (fun h => (h (by decide +kernel)).elim) (fun _ => ?_)
  refine lv_aload_n hx hb d_Tokens_closesBracket_10 rfl (lv_at hl 0 rfl) ?_
  refine lv_iload_n hx hb d_Tokens_closesBracket_11 rfl (lv_at hl 1 rfl) ?_
  refine lv_bipush (v := 93) hx hb d_Tokens_closesBracket_12 (by decide) ?_
  have hPc := hP.sub (ws' := [(a0, .inr (11, [.ref a1, .ref a2, .int 2])), (a1, .inl (k0, 362, .inl (upd (upd (fun _ => 0) 0 4) 1 4)))]) [0, 1] rfl
  have hDc := hD.sub (ws' := [(a0, .inr (11, [.ref a1, .ref a2, .int 2])), (a1, .inl (k0, 362, .inl (upd (upd (fun _ => 0) 0 4) 1 4)))]) [0, 1] (by decide) rfl
  have hKc := hK.sub (tys' := [(k0, .int)]) [0] rfl
  have hFc := va_free (wc := [(a0, .inr (11, [.ref a1, .ref a2, .int 2])), (a1, .inl (k0, 362, .inl (upd (upd (fun _ => 0) 0 4) 1 4)))]) hD hS hA [0, 1] rfl
  refine va_calli (va_runV (As := [.int 1, .int 93]) (rest := []) ⟨hx, hb, hml, hown, hz⟩ (c54_Tokens_isSign l dC dI H.size a0 a1 a2 k0) (cwV 2 hz (zV zm_205 zm_140 zm_141 zm_17 zm_142) rfl rfl rfl (by decide +kernel) ⟨Nat.le_of_ble_eq_true rfl, Nat.le_of_ble_eq_true rfl⟩) ⟨fun a U g mk q => by obtain ⟨q0, q1, qP, qK, qD⟩ := q; exact ⟨q0, q1, qP, va_K.moved (u := U) (U := U.calling g mk a) (Vm.Alike.refl U.vm) qK, qD⟩, va_recv (q := (R_Tokens, F_Tokens, 3)) (q0 := 0) (ci := 11) hK hP rfl rfl, fun U hU hW => ⟨rfl, by rw [hU], by rw [hU]; exact hPc, va_K.moved hW.alike hKc, hDc.weaken (fun _ _ _ _ => trivial)⟩⟩ rfl rfl hl.1 rfl (lv_room (Nat.le_of_ble_eq_true rfl)) d_Tokens_closesBracket_14 ⟨by decide, by decide⟩) hS (fun q _ h => hFc q h) hFc (fun r u t H1 locs ht hvm hw hB hz1 hk1 hS => ?_)
  obtain ⟨hP1, hK1, hD1⟩ := hB
  subst r
  rw [ht] at hP1
  obtain ⟨hP, hD⟩ := va_join (wr := []) (w1 := [(a0, .inr (11, [.ref a1, .ref a2, .int 2])), (a1, .inl (k0, 362, .inl (upd (upd (fun _ => 0) 0 4) 1 4)))]) hP hD [0, 1] [] rfl rfl (by decide) (by decide) hk1 hFc hP1 hD1
  generalize H1 = H at hP hS ⊢
  have hP : va_P (dC, dI) vcl [(a0, .inr (11, [.ref a1, .ref a2, .int 2])), (a1, .inl (k0, 362, .inl (upd (upd (fun _ => 0) 0 4) 1 4)))] H := hP
  have hD : va_D A [(a0, .inr (11, [.ref a1, .ref a2, .int 2])), (a1, .inl (k0, 362, .inl (upd (upd (fun _ => 0) 0 4) 1 4)))] := hD
  refine lv_if_eq (tgt := 24) hx hb d_Tokens_closesBracket_17 (by decide) (fun _ => ?_) (fun h => (h (by decide +kernel)).elim)
  refine lv_iconst (v := 0) hx hb d_Tokens_closesBracket_24 (by decide) ?_
  have hP9 := hP.sub (ws' := [(a0, .inr (11, [.ref a1, .ref a2, .int 2])), (a1, .inl (k0, 362, .inl (upd (upd (fun _ => 0) 0 4) 1 4)))]) [0, 1] rfl
  have hD9 := hD.sub (ws' := [(a0, .inr (11, [.ref a1, .ref a2, .int 2])), (a1, .inl (k0, 362, .inl (upd (upd (fun _ => 0) 0 4) 1 4)))]) [0, 1] (by decide) rfl
  have hK9 := hK.sub (tys' := [(k0, .int)]) [0] rfl
  exact W.zret (v := 0) hx hb hr (by decide +kernel) (fun t ht hW => ⟨⟨0, (), rfl, rfl, by rw [ht]; exact hP9, va_K.moved hW.alike hK9, hD9⟩, hS.F ht⟩) hS.2.2 d_Tokens_closesBracket_25
set_option maxHeartbeats 4000000 in
set_option maxRecDepth 100000 in
theorem c56_Rows_matchBrackets (l : Launch) (dC : Nat → ClassId) (dI : Nat → Nat → Nat) (sz : Nat) (a0 : Nat) (a1 : Nat) (a2 : Nat) (a3 : Nat) (a4 : Nat) (a5 : Nat) (a6 : Nat) (a7 : Nat) (a8 : Nat) (a9 : Nat) (k0 : ClassId) (k1 : ClassId) : Met l y_Rows_matchBrackets w_Rows_matchBrackets ({ frames := 2, cells := 0, slots := 0, locals := 43 }) (va_Pc [.ref a0, .ref a1] (fun U => U.heap.size = sz ∧ va_P (dC, dI) vcl [(a1, .inr (11, [.ref a2, .ref a4, .int 2])), (a2, .inl (k0, 362, .inl (upd (upd (fun _ => 0) 0 4) 1 4))), (a0, .inr (9, [.ref a3, .ref a5, .ref a6, .ref a7, .ref a8, .ref a9, .int 0, .int 0])), (a3, .inl (k1, 362, .inl (fun _ => 0)))] U.heap ∧ va_K (dC, dI) vcl [(k0, .int), (k1, .int)] U ∧ va_D (fun _ => True) [(a1, .inr (11, [.ref a2, .ref a4, .int 2])), (a2, .inl (k0, 362, .inl (upd (upd (fun _ => 0) 0 4) 1 4))), (a0, .inr (9, [.ref a3, .ref a5, .ref a6, .ref a7, .ref a8, .ref a9, .int 0, .int 0])), (a3, .inl (k1, 362, .inl (fun _ => 0)))])) (va_Qv (fun (_ : Unit) => True) (fun _ t => va_P (dC, dI) vcl [(a1, .inr (11, [.ref a2, .ref a4, .int 2])), (a2, .inl (k0, 362, .inl (upd (upd (fun _ => 0) 0 4) 1 4))), (a0, .inr (9, [.ref a3, .ref a5, .ref a6, .ref a7, .ref a8, .ref a9, .int 0, .int 0])), (a3, .inl (k1, 362, .inl (upd (upd (fun _ => 0) 0 0) 1 1)))] t.heap ∧ va_K (dC, dI) vcl [(k0, .int), (k1, .int)] t ∧ va_D (va_A [(a1, .inr (11, [.ref a2, .ref a4, .int 2])), (a2, .inl (k0, 362, .inl (upd (upd (fun _ => 0) 0 4) 1 4))), (a0, .inr (9, [.ref a3, .ref a5, .ref a6, .ref a7, .ref a8, .ref a9, .int 0, .int 0])), (a3, .inl (k1, 362, .inl (fun _ => 0)))] sz) [(a1, .inr (11, [.ref a2, .ref a4, .int 2])), (a2, .inl (k0, 362, .inl (upd (upd (fun _ => 0) 0 4) 1 4))), (a0, .inr (9, [.ref a3, .ref a5, .ref a6, .ref a7, .ref a8, .ref a9, .int 0, .int 0])), (a3, .inl (k1, 362, .inl (upd (upd (fun _ => 0) 0 0) 1 1)))]) (va_A [(a1, .inr (11, [.ref a2, .ref a4, .int 2])), (a2, .inl (k0, 362, .inl (upd (upd (fun _ => 0) 0 4) 1 4))), (a0, .inr (9, [.ref a3, .ref a5, .ref a6, .ref a7, .ref a8, .ref a9, .int 0, .int 0])), (a3, .inl (k1, 362, .inl (fun _ => 0)))] sz)) 0 0 (va_A [(a1, .inr (11, [.ref a2, .ref a4, .int 2])), (a2, .inl (k0, 362, .inl (upd (upd (fun _ => 0) 0 4) 1 4))), (a0, .inr (9, [.ref a3, .ref a5, .ref a6, .ref a7, .ref a8, .ref a9, .int 0, .int 0])), (a3, .inl (k1, 362, .inl (fun _ => 0)))] sz) := by
  refine Met.ofW (cc := b_Rows_matchBrackets) (maxL := 4) (ret := none) (by decide) rfl ?_
  intro p e s m args below meth c s₁ B hml hv
  obtain ⟨rfl, hsz, hP, hK, hD0⟩ := hv
  have hx := B.exec
  have hb := B.bytes
  have hr := B.returns
  have hts := atoms_spec (ws := w_Rows_matchBrackets) B.pre
  have hz : ∀ w ∈ wz, w.before _ s = true := fun w h => hts w (List.mem_cons_of_mem _ h)
  have hown : s.vm.findClass R_Rows = some m.cls := findClass_of_methodNamed B.named
  have hlocks := B.notSynchronized
  subst hsz
  have hD := hD0.self (sz := s.heap.size)
  generalize hAe : va_A [(a1, .inr (11, [.ref a2, .ref a4, .int 2])), (a2, .inl (k0, 362, .inl (upd (upd (fun _ => 0) 0 4) 1 4))), (a0, .inr (9, [.ref a3, .ref a5, .ref a6, .ref a7, .ref a8, .ref a9, .int 0, .int 0])), (a3, .inl (k1, 362, .inl (fun _ => 0)))] s.heap.size = A at hD ⊢
  have hA : ∀ q : Nat, s.heap.size ≤ q → A q := fun q h => by rw [← hAe]; exact Or.inr h
  have hS : va_S A s.heap s.heap [] := va_S.rf
  have hP : va_P (dC, dI) vcl [(a1, .inr (11, [.ref a2, .ref a4, .int 2])), (a2, .inl (k0, 362, .inl (upd (upd (fun _ => 0) 0 4) 1 4))), (a0, .inr (9, [.ref a3, .ref a5, .ref a6, .ref a7, .ref a8, .ref a9, .int 0, .int 0])), (a3, .inl (k1, 362, .inl (fun _ => 0)))] s.heap := hP
  have hl := lv_entry ([.ref a0, .ref a1]) (n := 4) (Nat.le_of_ble_eq_true rfl)
  rw [lg_entry_eq]
  generalize (lg_sl ([.ref a0, .ref a1]) ++ List.replicate (4 - (lg_sl ([.ref a0, .ref a1])).length) Slot.unset).toArray = ls at hl ⊢
  have hl : lv_has ls 4 [(0, .ref a0), (1, .ref a1)] := hl
  refine lv_iconst (v := 0) hx hb d_Rows_matchBrackets_0 (by decide) ?_
  refine lv_istore_n hx hb d_Rows_matchBrackets_1 rfl hl (by decide) rfl (fun ls hl => ?_)
  have hl : lv_has ls 4 [(2, .int 0), (0, .ref a0), (1, .ref a1)] := hl
  refine lv_iconst (v := 0) hx hb d_Rows_matchBrackets_2 (by decide) ?_
  refine lv_istore_n hx hb d_Rows_matchBrackets_3 rfl hl (by decide) rfl (fun ls hl => ?_)
  have hl : lv_has ls 4 [(3, .int 0), (2, .int 0), (0, .ref a0), (1, .ref a1)] := hl
  refine lv_iload_n hx hb d_Rows_matchBrackets_4 rfl (lv_at hl 0 rfl) ?_
  refine lv_aload_n hx hb d_Rows_matchBrackets_5 rfl (lv_at hl 3 rfl) ?_
  have hPc := hP.sub (ws' := [(a1, .inr (11, [.ref a2, .ref a4, .int 2]))]) [0] rfl
  have hDc := hD.sub (ws' := [(a1, .inr (11, [.ref a2, .ref a4, .int 2]))]) [0] (by decide) rfl
  have hKc := hK.sub (tys' := []) [] rfl
  have hFc := va_free (wc := [(a1, .inr (11, [.ref a2, .ref a4, .int 2]))]) hD hS hA [0] rfl
  refine va_calli (va_runV (As := []) (rest := [.int 0]) ⟨hx, hb, hml, hown, hz⟩ (c43_Tokens_size l dC dI s.heap.size a1 a2 a4) (cwV 0 hz (zV zm_206 zm_132 zm_133 zm_17 zm_134) rfl rfl rfl (by decide +kernel) ⟨Nat.le_of_ble_eq_true rfl, Nat.le_of_ble_eq_true rfl⟩) ⟨fun a U g mk q => by obtain ⟨q0, q1, qP, qK, qD⟩ := q; exact ⟨q0, q1, qP, va_K.moved (u := U) (U := U.calling g mk a) (Vm.Alike.refl U.vm) qK, qD⟩, va_recv (q := (R_Tokens, F_Tokens, 3)) (q0 := 0) (ci := 11) hK hP rfl rfl, fun U hU hW => ⟨rfl, by rw [hU], by rw [hU]; exact hPc, va_K.moved hW.alike hKc, hDc.weaken (fun _ _ _ _ => trivial)⟩⟩ rfl rfl hl.1 rfl (lv_room (Nat.le_of_ble_eq_true rfl)) d_Rows_matchBrackets_6 ⟨by decide, by decide⟩) hS (fun q _ h => hFc q h) hFc (fun r u t H1 locs ht hvm hw hB hz1 hk1 hS => ?_)
  obtain ⟨hP1, hK1, hD1⟩ := hB
  subst r
  rw [ht] at hP1
  obtain ⟨hP, hD⟩ := va_join (wr := [(a2, .inl (k0, 362, .inl (upd (upd (fun _ => 0) 0 4) 1 4))), (a0, .inr (9, [.ref a3, .ref a5, .ref a6, .ref a7, .ref a8, .ref a9, .int 0, .int 0])), (a3, .inl (k1, 362, .inl (fun _ => 0)))]) (w1 := [(a1, .inr (11, [.ref a2, .ref a4, .int 2]))]) hP hD [0] [1, 2, 3] rfl rfl (by decide) (by decide) hk1 hFc hP1 hD1
  generalize H1 = H at hP hS ⊢
  have hP : va_P (dC, dI) vcl [(a2, .inl (k0, 362, .inl (upd (upd (fun _ => 0) 0 4) 1 4))), (a0, .inr (9, [.ref a3, .ref a5, .ref a6, .ref a7, .ref a8, .ref a9, .int 0, .int 0])), (a3, .inl (k1, 362, .inl (fun _ => 0))), (a1, .inr (11, [.ref a2, .ref a4, .int 2]))] H := hP
  have hD : va_D A [(a2, .inl (k0, 362, .inl (upd (upd (fun _ => 0) 0 4) 1 4))), (a0, .inr (9, [.ref a3, .ref a5, .ref a6, .ref a7, .ref a8, .ref a9, .int 0, .int 0])), (a3, .inl (k1, 362, .inl (fun _ => 0))), (a1, .inr (11, [.ref a2, .ref a4, .int 2]))] := hD
  refine lv_icmp_ge (tgt := 86) hx hb d_Rows_matchBrackets_9 (by decide) (fun h => absurd h (by decide +kernel)) (fun _ => ?_)
  refine lv_iload_n hx hb d_Rows_matchBrackets_12 rfl (lv_at hl 0 rfl) ?_
  refine lv_sipush (v := 362) hx hb d_Rows_matchBrackets_13 (by decide) ?_
  refine lv_icmp_ge (tgt := 86) hx hb d_Rows_matchBrackets_16 (by decide) (fun h => absurd h (by decide +kernel)) (fun _ => ?_)
  refine lv_aload_n hx hb d_Rows_matchBrackets_19 rfl (lv_at hl 2 rfl) ?_
  refine va_get (D := (dC, dI)) (ci := 9) (v := .ref a3) (C := R_Rows) (T := F_Rows) (N := 8) hx hb hz zu_Rows hown hK hP 1 rfl rfl 0 (by decide) (hz (.fieldLink R_Rows 9 "LayoutFront$Rows" "closers" "[I") zm_59) (fun _ h9 => h9) rfl d_Rows_matchBrackets_20 ?_
  refine lv_iload_n hx hb d_Rows_matchBrackets_23 rfl (lv_at hl 0 rfl) ?_
  refine lv_iload_n hx hb d_Rows_matchBrackets_24 rfl (lv_at hl 0 rfl) ?_
  refine xr_iast (j := 0) hx hb hK hP hD hS 2 1 rfl rfl (xr_in (by decide +kernel)) (by decide +kernel) d_Rows_matchBrackets_25 (fun H locs hP hD hS => ?_)
  have hP : va_P (dC, dI) vcl [(a2, .inl (k0, 362, .inl (upd (upd (fun _ => 0) 0 4) 1 4))), (a0, .inr (9, [.ref a3, .ref a5, .ref a6, .ref a7, .ref a8, .ref a9, .int 0, .int 0])), (a3, .inl (k1, 362, .inl (upd (fun _ => 0) 0 0))), (a1, .inr (11, [.ref a2, .ref a4, .int 2]))] H := hP
  have hD : va_D A [(a2, .inl (k0, 362, .inl (upd (upd (fun _ => 0) 0 4) 1 4))), (a0, .inr (9, [.ref a3, .ref a5, .ref a6, .ref a7, .ref a8, .ref a9, .int 0, .int 0])), (a3, .inl (k1, 362, .inl (upd (fun _ => 0) 0 0))), (a1, .inr (11, [.ref a2, .ref a4, .int 2]))] := hD
  refine lv_aload_n hx hb d_Rows_matchBrackets_26 rfl (lv_at hl 3 rfl) ?_
  refine lv_iload_n hx hb d_Rows_matchBrackets_27 rfl (lv_at hl 0 rfl) ?_
  have hPc := hP.sub (ws' := [(a1, .inr (11, [.ref a2, .ref a4, .int 2])), (a2, .inl (k0, 362, .inl (upd (upd (fun _ => 0) 0 4) 1 4)))]) [3, 0] rfl
  have hDc := hD.sub (ws' := [(a1, .inr (11, [.ref a2, .ref a4, .int 2])), (a2, .inl (k0, 362, .inl (upd (upd (fun _ => 0) 0 4) 1 4)))]) [3, 0] (by decide) rfl
  have hKc := hK.sub (tys' := [(k0, .int)]) [0] rfl
  have hFc := va_free (wc := [(a1, .inr (11, [.ref a2, .ref a4, .int 2])), (a2, .inl (k0, 362, .inl (upd (upd (fun _ => 0) 0 4) 1 4)))]) hD hS hA [3, 0] rfl
  refine va_calli (va_runV (As := [.int 0]) (rest := []) ⟨hx, hb, hml, hown, hz⟩ (c46_Tokens_opensBracket l dC dI H.size a1 a2 a4 k0) (cwV 1 hz (zV zm_207 zm_208 zm_209 zm_17 zm_210) rfl rfl rfl (by decide +kernel) ⟨Nat.le_of_ble_eq_true rfl, Nat.le_of_ble_eq_true rfl⟩) ⟨fun a U g mk q => by obtain ⟨q0, q1, qP, qK, qD⟩ := q; exact ⟨q0, q1, qP, va_K.moved (u := U) (U := U.calling g mk a) (Vm.Alike.refl U.vm) qK, qD⟩, va_recv (q := (R_Tokens, F_Tokens, 3)) (q0 := 3) (ci := 11) hK hP rfl rfl, fun U hU hW => ⟨rfl, by rw [hU], by rw [hU]; exact hPc, va_K.moved hW.alike hKc, hDc.weaken (fun _ _ _ _ => trivial)⟩⟩ rfl rfl hl.1 rfl (lv_room (Nat.le_of_ble_eq_true rfl)) d_Rows_matchBrackets_28 ⟨by decide, by decide⟩) hS (fun q _ h => hFc q h) hFc (fun r u t H1 locs ht hvm hw hB hz1 hk1 hS => ?_)
  obtain ⟨hP1, hK1, hD1⟩ := hB
  subst r
  rw [ht] at hP1
  obtain ⟨hP, hD⟩ := va_join (wr := [(a0, .inr (9, [.ref a3, .ref a5, .ref a6, .ref a7, .ref a8, .ref a9, .int 0, .int 0])), (a3, .inl (k1, 362, .inl (upd (fun _ => 0) 0 0)))]) (w1 := [(a1, .inr (11, [.ref a2, .ref a4, .int 2])), (a2, .inl (k0, 362, .inl (upd (upd (fun _ => 0) 0 4) 1 4)))]) hP hD [3, 0] [1, 2] rfl rfl (by decide) (by decide) hk1 hFc hP1 hD1
  generalize H1 = H at hP hS ⊢
  have hP : va_P (dC, dI) vcl [(a0, .inr (9, [.ref a3, .ref a5, .ref a6, .ref a7, .ref a8, .ref a9, .int 0, .int 0])), (a3, .inl (k1, 362, .inl (upd (fun _ => 0) 0 0))), (a1, .inr (11, [.ref a2, .ref a4, .int 2])), (a2, .inl (k0, 362, .inl (upd (upd (fun _ => 0) 0 4) 1 4)))] H := hP
  have hD : va_D A [(a0, .inr (9, [.ref a3, .ref a5, .ref a6, .ref a7, .ref a8, .ref a9, .int 0, .int 0])), (a3, .inl (k1, 362, .inl (upd (fun _ => 0) 0 0))), (a1, .inr (11, [.ref a2, .ref a4, .int 2])), (a2, .inl (k0, 362, .inl (upd (upd (fun _ => 0) 0 4) 1 4)))] := hD
  refine lv_if_eq (tgt := 53) hx hb d_Rows_matchBrackets_31 (by decide) (fun _ => ?_) (fun h => (h (by decide +kernel)).elim)
  refine lv_aload_n hx hb d_Rows_matchBrackets_53 rfl (lv_at hl 3 rfl) ?_
  refine lv_iload_n hx hb d_Rows_matchBrackets_54 rfl (lv_at hl 0 rfl) ?_
  have hPc := hP.sub (ws' := [(a1, .inr (11, [.ref a2, .ref a4, .int 2])), (a2, .inl (k0, 362, .inl (upd (upd (fun _ => 0) 0 4) 1 4)))]) [2, 3] rfl
  have hDc := hD.sub (ws' := [(a1, .inr (11, [.ref a2, .ref a4, .int 2])), (a2, .inl (k0, 362, .inl (upd (upd (fun _ => 0) 0 4) 1 4)))]) [2, 3] (by decide) rfl
  have hKc := hK.sub (tys' := [(k0, .int)]) [0] rfl
  have hFc := va_free (wc := [(a1, .inr (11, [.ref a2, .ref a4, .int 2])), (a2, .inl (k0, 362, .inl (upd (upd (fun _ => 0) 0 4) 1 4)))]) hD hS hA [2, 3] rfl
  refine va_calli (va_runV (As := [.int 0]) (rest := []) ⟨hx, hb, hml, hown, hz⟩ (c49_Tokens_closesBracket l dC dI H.size a1 a2 a4 k0) (cwV 1 hz (zV zm_211 zm_212 zm_213 zm_17 zm_214) rfl rfl rfl (by decide +kernel) ⟨Nat.le_of_ble_eq_true rfl, Nat.le_of_ble_eq_true rfl⟩) ⟨fun a U g mk q => by obtain ⟨q0, q1, qP, qK, qD⟩ := q; exact ⟨q0, q1, qP, va_K.moved (u := U) (U := U.calling g mk a) (Vm.Alike.refl U.vm) qK, qD⟩, va_recv (q := (R_Tokens, F_Tokens, 3)) (q0 := 2) (ci := 11) hK hP rfl rfl, fun U hU hW => ⟨rfl, by rw [hU], by rw [hU]; exact hPc, va_K.moved hW.alike hKc, hDc.weaken (fun _ _ _ _ => trivial)⟩⟩ rfl rfl hl.1 rfl (lv_room (Nat.le_of_ble_eq_true rfl)) d_Rows_matchBrackets_55 ⟨by decide, by decide⟩) hS (fun q _ h => hFc q h) hFc (fun r u t H1 locs ht hvm hw hB hz1 hk1 hS => ?_)
  obtain ⟨hP1, hK1, hD1⟩ := hB
  subst r
  rw [ht] at hP1
  obtain ⟨hP, hD⟩ := va_join (wr := [(a0, .inr (9, [.ref a3, .ref a5, .ref a6, .ref a7, .ref a8, .ref a9, .int 0, .int 0])), (a3, .inl (k1, 362, .inl (upd (fun _ => 0) 0 0)))]) (w1 := [(a1, .inr (11, [.ref a2, .ref a4, .int 2])), (a2, .inl (k0, 362, .inl (upd (upd (fun _ => 0) 0 4) 1 4)))]) hP hD [2, 3] [0, 1] rfl rfl (by decide) (by decide) hk1 hFc hP1 hD1
  generalize H1 = H at hP hS ⊢
  have hP : va_P (dC, dI) vcl [(a0, .inr (9, [.ref a3, .ref a5, .ref a6, .ref a7, .ref a8, .ref a9, .int 0, .int 0])), (a3, .inl (k1, 362, .inl (upd (fun _ => 0) 0 0))), (a1, .inr (11, [.ref a2, .ref a4, .int 2])), (a2, .inl (k0, 362, .inl (upd (upd (fun _ => 0) 0 4) 1 4)))] H := hP
  have hD : va_D A [(a0, .inr (9, [.ref a3, .ref a5, .ref a6, .ref a7, .ref a8, .ref a9, .int 0, .int 0])), (a3, .inl (k1, 362, .inl (upd (fun _ => 0) 0 0))), (a1, .inr (11, [.ref a2, .ref a4, .int 2])), (a2, .inl (k0, 362, .inl (upd (upd (fun _ => 0) 0 4) 1 4)))] := hD
  refine lv_if_eq (tgt := 80) hx hb d_Rows_matchBrackets_58 (by decide) (fun _ => ?_) (fun h => (h (by decide +kernel)).elim)
  refine lv_iinc (k := 0) (v := 1) hx hb d_Rows_matchBrackets_80 hl rfl (by decide +kernel) (by decide) rfl (fun ls hl => ?_)
  have hl : lv_has ls 4 [(3, .int 1), (2, .int 0), (0, .ref a0), (1, .ref a1)] := hl
  refine lv_goto (tgt := 4) hx hb d_Rows_matchBrackets_83 (by decide) ?_
  refine lv_iload_n hx hb d_Rows_matchBrackets_4 rfl (lv_at hl 0 rfl) ?_
  refine lv_aload_n hx hb d_Rows_matchBrackets_5 rfl (lv_at hl 3 rfl) ?_
  have hPc := hP.sub (ws' := [(a1, .inr (11, [.ref a2, .ref a4, .int 2]))]) [2] rfl
  have hDc := hD.sub (ws' := [(a1, .inr (11, [.ref a2, .ref a4, .int 2]))]) [2] (by decide) rfl
  have hKc := hK.sub (tys' := []) [] rfl
  have hFc := va_free (wc := [(a1, .inr (11, [.ref a2, .ref a4, .int 2]))]) hD hS hA [2] rfl
  refine va_calli (va_runV (As := []) (rest := [.int 1]) ⟨hx, hb, hml, hown, hz⟩ (c43_Tokens_size l dC dI H.size a1 a2 a4) (cwV 0 hz (zV zm_206 zm_132 zm_133 zm_17 zm_134) rfl rfl rfl (by decide +kernel) ⟨Nat.le_of_ble_eq_true rfl, Nat.le_of_ble_eq_true rfl⟩) ⟨fun a U g mk q => by obtain ⟨q0, q1, qP, qK, qD⟩ := q; exact ⟨q0, q1, qP, va_K.moved (u := U) (U := U.calling g mk a) (Vm.Alike.refl U.vm) qK, qD⟩, va_recv (q := (R_Tokens, F_Tokens, 3)) (q0 := 2) (ci := 11) hK hP rfl rfl, fun U hU hW => ⟨rfl, by rw [hU], by rw [hU]; exact hPc, va_K.moved hW.alike hKc, hDc.weaken (fun _ _ _ _ => trivial)⟩⟩ rfl rfl hl.1 rfl (lv_room (Nat.le_of_ble_eq_true rfl)) d_Rows_matchBrackets_6 ⟨by decide, by decide⟩) hS (fun q _ h => hFc q h) hFc (fun r u t H1 locs ht hvm hw hB hz1 hk1 hS => ?_)
  obtain ⟨hP1, hK1, hD1⟩ := hB
  subst r
  rw [ht] at hP1
  obtain ⟨hP, hD⟩ := va_join (wr := [(a0, .inr (9, [.ref a3, .ref a5, .ref a6, .ref a7, .ref a8, .ref a9, .int 0, .int 0])), (a3, .inl (k1, 362, .inl (upd (fun _ => 0) 0 0))), (a2, .inl (k0, 362, .inl (upd (upd (fun _ => 0) 0 4) 1 4)))]) (w1 := [(a1, .inr (11, [.ref a2, .ref a4, .int 2]))]) hP hD [2] [0, 1, 3] rfl rfl (by decide) (by decide) hk1 hFc hP1 hD1
  generalize H1 = H at hP hS ⊢
  have hP : va_P (dC, dI) vcl [(a0, .inr (9, [.ref a3, .ref a5, .ref a6, .ref a7, .ref a8, .ref a9, .int 0, .int 0])), (a3, .inl (k1, 362, .inl (upd (fun _ => 0) 0 0))), (a2, .inl (k0, 362, .inl (upd (upd (fun _ => 0) 0 4) 1 4))), (a1, .inr (11, [.ref a2, .ref a4, .int 2]))] H := hP
  have hD : va_D A [(a0, .inr (9, [.ref a3, .ref a5, .ref a6, .ref a7, .ref a8, .ref a9, .int 0, .int 0])), (a3, .inl (k1, 362, .inl (upd (fun _ => 0) 0 0))), (a2, .inl (k0, 362, .inl (upd (upd (fun _ => 0) 0 4) 1 4))), (a1, .inr (11, [.ref a2, .ref a4, .int 2]))] := hD
  refine lv_icmp_ge (tgt := 86) hx hb d_Rows_matchBrackets_9 (by decide) (fun h => absurd h (by decide +kernel)) (fun _ => ?_)
  refine lv_iload_n hx hb d_Rows_matchBrackets_12 rfl (lv_at hl 0 rfl) ?_
  refine lv_sipush (v := 362) hx hb d_Rows_matchBrackets_13 (by decide) ?_
  refine lv_icmp_ge (tgt := 86) hx hb d_Rows_matchBrackets_16 (by decide) (fun h => absurd h (by decide +kernel)) (fun _ => ?_)
  refine lv_aload_n hx hb d_Rows_matchBrackets_19 rfl (lv_at hl 2 rfl) ?_
  refine va_get (D := (dC, dI)) (ci := 9) (v := .ref a3) (C := R_Rows) (T := F_Rows) (N := 8) hx hb hz zu_Rows hown hK hP 0 rfl rfl 0 (by decide) (hz (.fieldLink R_Rows 9 "LayoutFront$Rows" "closers" "[I") zm_59) (fun _ h9 => h9) rfl d_Rows_matchBrackets_20 ?_
  refine lv_iload_n hx hb d_Rows_matchBrackets_23 rfl (lv_at hl 0 rfl) ?_
  refine lv_iload_n hx hb d_Rows_matchBrackets_24 rfl (lv_at hl 0 rfl) ?_
  refine xr_iast (j := 1) hx hb hK hP hD hS 1 1 rfl rfl (xr_in (by decide +kernel)) (by decide +kernel) d_Rows_matchBrackets_25 (fun H locs hP hD hS => ?_)
  have hP : va_P (dC, dI) vcl [(a0, .inr (9, [.ref a3, .ref a5, .ref a6, .ref a7, .ref a8, .ref a9, .int 0, .int 0])), (a3, .inl (k1, 362, .inl (upd (upd (fun _ => 0) 0 0) 1 1))), (a2, .inl (k0, 362, .inl (upd (upd (fun _ => 0) 0 4) 1 4))), (a1, .inr (11, [.ref a2, .ref a4, .int 2]))] H := hP
  have hD : va_D A [(a0, .inr (9, [.ref a3, .ref a5, .ref a6, .ref a7, .ref a8, .ref a9, .int 0, .int 0])), (a3, .inl (k1, 362, .inl (upd (upd (fun _ => 0) 0 0) 1 1))), (a2, .inl (k0, 362, .inl (upd (upd (fun _ => 0) 0 4) 1 4))), (a1, .inr (11, [.ref a2, .ref a4, .int 2]))] := hD
  refine lv_aload_n hx hb d_Rows_matchBrackets_26 rfl (lv_at hl 3 rfl) ?_
  refine lv_iload_n hx hb d_Rows_matchBrackets_27 rfl (lv_at hl 0 rfl) ?_
  have hPc := hP.sub (ws' := [(a1, .inr (11, [.ref a2, .ref a4, .int 2])), (a2, .inl (k0, 362, .inl (upd (upd (fun _ => 0) 0 4) 1 4)))]) [3, 2] rfl
  have hDc := hD.sub (ws' := [(a1, .inr (11, [.ref a2, .ref a4, .int 2])), (a2, .inl (k0, 362, .inl (upd (upd (fun _ => 0) 0 4) 1 4)))]) [3, 2] (by decide) rfl
  have hKc := hK.sub (tys' := [(k0, .int)]) [0] rfl
  have hFc := va_free (wc := [(a1, .inr (11, [.ref a2, .ref a4, .int 2])), (a2, .inl (k0, 362, .inl (upd (upd (fun _ => 0) 0 4) 1 4)))]) hD hS hA [3, 2] rfl
  refine va_calli (va_runV (As := [.int 1]) (rest := []) ⟨hx, hb, hml, hown, hz⟩ (c52_Tokens_opensBracket l dC dI H.size a1 a2 a4 k0) (cwV 1 hz (zV zm_207 zm_208 zm_209 zm_17 zm_210) rfl rfl rfl (by decide +kernel) ⟨Nat.le_of_ble_eq_true rfl, Nat.le_of_ble_eq_true rfl⟩) ⟨fun a U g mk q => by obtain ⟨q0, q1, qP, qK, qD⟩ := q; exact ⟨q0, q1, qP, va_K.moved (u := U) (U := U.calling g mk a) (Vm.Alike.refl U.vm) qK, qD⟩, va_recv (q := (R_Tokens, F_Tokens, 3)) (q0 := 3) (ci := 11) hK hP rfl rfl, fun U hU hW => ⟨rfl, by rw [hU], by rw [hU]; exact hPc, va_K.moved hW.alike hKc, hDc.weaken (fun _ _ _ _ => trivial)⟩⟩ rfl rfl hl.1 rfl (lv_room (Nat.le_of_ble_eq_true rfl)) d_Rows_matchBrackets_28 ⟨by decide, by decide⟩) hS (fun q _ h => hFc q h) hFc (fun r u t H1 locs ht hvm hw hB hz1 hk1 hS => ?_)
  obtain ⟨hP1, hK1, hD1⟩ := hB
  subst r
  rw [ht] at hP1
  obtain ⟨hP, hD⟩ := va_join (wr := [(a0, .inr (9, [.ref a3, .ref a5, .ref a6, .ref a7, .ref a8, .ref a9, .int 0, .int 0])), (a3, .inl (k1, 362, .inl (upd (upd (fun _ => 0) 0 0) 1 1)))]) (w1 := [(a1, .inr (11, [.ref a2, .ref a4, .int 2])), (a2, .inl (k0, 362, .inl (upd (upd (fun _ => 0) 0 4) 1 4)))]) hP hD [3, 2] [0, 1] rfl rfl (by decide) (by decide) hk1 hFc hP1 hD1
  generalize H1 = H at hP hS ⊢
  have hP : va_P (dC, dI) vcl [(a0, .inr (9, [.ref a3, .ref a5, .ref a6, .ref a7, .ref a8, .ref a9, .int 0, .int 0])), (a3, .inl (k1, 362, .inl (upd (upd (fun _ => 0) 0 0) 1 1))), (a1, .inr (11, [.ref a2, .ref a4, .int 2])), (a2, .inl (k0, 362, .inl (upd (upd (fun _ => 0) 0 4) 1 4)))] H := hP
  have hD : va_D A [(a0, .inr (9, [.ref a3, .ref a5, .ref a6, .ref a7, .ref a8, .ref a9, .int 0, .int 0])), (a3, .inl (k1, 362, .inl (upd (upd (fun _ => 0) 0 0) 1 1))), (a1, .inr (11, [.ref a2, .ref a4, .int 2])), (a2, .inl (k0, 362, .inl (upd (upd (fun _ => 0) 0 4) 1 4)))] := hD
  refine lv_if_eq (tgt := 53) hx hb d_Rows_matchBrackets_31 (by decide) (fun _ => ?_) (fun h => (h (by decide +kernel)).elim)
  refine lv_aload_n hx hb d_Rows_matchBrackets_53 rfl (lv_at hl 3 rfl) ?_
  refine lv_iload_n hx hb d_Rows_matchBrackets_54 rfl (lv_at hl 0 rfl) ?_
  have hPc := hP.sub (ws' := [(a1, .inr (11, [.ref a2, .ref a4, .int 2])), (a2, .inl (k0, 362, .inl (upd (upd (fun _ => 0) 0 4) 1 4)))]) [2, 3] rfl
  have hDc := hD.sub (ws' := [(a1, .inr (11, [.ref a2, .ref a4, .int 2])), (a2, .inl (k0, 362, .inl (upd (upd (fun _ => 0) 0 4) 1 4)))]) [2, 3] (by decide) rfl
  have hKc := hK.sub (tys' := [(k0, .int)]) [0] rfl
  have hFc := va_free (wc := [(a1, .inr (11, [.ref a2, .ref a4, .int 2])), (a2, .inl (k0, 362, .inl (upd (upd (fun _ => 0) 0 4) 1 4)))]) hD hS hA [2, 3] rfl
  refine va_calli (va_runV (As := [.int 1]) (rest := []) ⟨hx, hb, hml, hown, hz⟩ (c55_Tokens_closesBracket l dC dI H.size a1 a2 a4 k0) (cwV 1 hz (zV zm_211 zm_212 zm_213 zm_17 zm_214) rfl rfl rfl (by decide +kernel) ⟨Nat.le_of_ble_eq_true rfl, Nat.le_of_ble_eq_true rfl⟩) ⟨fun a U g mk q => by obtain ⟨q0, q1, qP, qK, qD⟩ := q; exact ⟨q0, q1, qP, va_K.moved (u := U) (U := U.calling g mk a) (Vm.Alike.refl U.vm) qK, qD⟩, va_recv (q := (R_Tokens, F_Tokens, 3)) (q0 := 2) (ci := 11) hK hP rfl rfl, fun U hU hW => ⟨rfl, by rw [hU], by rw [hU]; exact hPc, va_K.moved hW.alike hKc, hDc.weaken (fun _ _ _ _ => trivial)⟩⟩ rfl rfl hl.1 rfl (lv_room (Nat.le_of_ble_eq_true rfl)) d_Rows_matchBrackets_55 ⟨by decide, by decide⟩) hS (fun q _ h => hFc q h) hFc (fun r u t H1 locs ht hvm hw hB hz1 hk1 hS => ?_)
  obtain ⟨hP1, hK1, hD1⟩ := hB
  subst r
  rw [ht] at hP1
  obtain ⟨hP, hD⟩ := va_join (wr := [(a0, .inr (9, [.ref a3, .ref a5, .ref a6, .ref a7, .ref a8, .ref a9, .int 0, .int 0])), (a3, .inl (k1, 362, .inl (upd (upd (fun _ => 0) 0 0) 1 1)))]) (w1 := [(a1, .inr (11, [.ref a2, .ref a4, .int 2])), (a2, .inl (k0, 362, .inl (upd (upd (fun _ => 0) 0 4) 1 4)))]) hP hD [2, 3] [0, 1] rfl rfl (by decide) (by decide) hk1 hFc hP1 hD1
  generalize H1 = H at hP hS ⊢
  have hP : va_P (dC, dI) vcl [(a0, .inr (9, [.ref a3, .ref a5, .ref a6, .ref a7, .ref a8, .ref a9, .int 0, .int 0])), (a3, .inl (k1, 362, .inl (upd (upd (fun _ => 0) 0 0) 1 1))), (a1, .inr (11, [.ref a2, .ref a4, .int 2])), (a2, .inl (k0, 362, .inl (upd (upd (fun _ => 0) 0 4) 1 4)))] H := hP
  have hD : va_D A [(a0, .inr (9, [.ref a3, .ref a5, .ref a6, .ref a7, .ref a8, .ref a9, .int 0, .int 0])), (a3, .inl (k1, 362, .inl (upd (upd (fun _ => 0) 0 0) 1 1))), (a1, .inr (11, [.ref a2, .ref a4, .int 2])), (a2, .inl (k0, 362, .inl (upd (upd (fun _ => 0) 0 4) 1 4)))] := hD
  refine lv_if_eq (tgt := 80) hx hb d_Rows_matchBrackets_58 (by decide) (fun _ => ?_) (fun h => (h (by decide +kernel)).elim)
  refine lv_iinc (k := 0) (v := 2) hx hb d_Rows_matchBrackets_80 hl rfl (by decide +kernel) (by decide) rfl (fun ls hl => ?_)
  have hl : lv_has ls 4 [(3, .int 2), (2, .int 0), (0, .ref a0), (1, .ref a1)] := hl
  refine lv_goto (tgt := 4) hx hb d_Rows_matchBrackets_83 (by decide) ?_
  refine lv_iload_n hx hb d_Rows_matchBrackets_4 rfl (lv_at hl 0 rfl) ?_
  refine lv_aload_n hx hb d_Rows_matchBrackets_5 rfl (lv_at hl 3 rfl) ?_
  have hPc := hP.sub (ws' := [(a1, .inr (11, [.ref a2, .ref a4, .int 2]))]) [2] rfl
  have hDc := hD.sub (ws' := [(a1, .inr (11, [.ref a2, .ref a4, .int 2]))]) [2] (by decide) rfl
  have hKc := hK.sub (tys' := []) [] rfl
  have hFc := va_free (wc := [(a1, .inr (11, [.ref a2, .ref a4, .int 2]))]) hD hS hA [2] rfl
  refine va_calli (va_runV (As := []) (rest := [.int 2]) ⟨hx, hb, hml, hown, hz⟩ (c43_Tokens_size l dC dI H.size a1 a2 a4) (cwV 0 hz (zV zm_206 zm_132 zm_133 zm_17 zm_134) rfl rfl rfl (by decide +kernel) ⟨Nat.le_of_ble_eq_true rfl, Nat.le_of_ble_eq_true rfl⟩) ⟨fun a U g mk q => by obtain ⟨q0, q1, qP, qK, qD⟩ := q; exact ⟨q0, q1, qP, va_K.moved (u := U) (U := U.calling g mk a) (Vm.Alike.refl U.vm) qK, qD⟩, va_recv (q := (R_Tokens, F_Tokens, 3)) (q0 := 2) (ci := 11) hK hP rfl rfl, fun U hU hW => ⟨rfl, by rw [hU], by rw [hU]; exact hPc, va_K.moved hW.alike hKc, hDc.weaken (fun _ _ _ _ => trivial)⟩⟩ rfl rfl hl.1 rfl (lv_room (Nat.le_of_ble_eq_true rfl)) d_Rows_matchBrackets_6 ⟨by decide, by decide⟩) hS (fun q _ h => hFc q h) hFc (fun r u t H1 locs ht hvm hw hB hz1 hk1 hS => ?_)
  obtain ⟨hP1, hK1, hD1⟩ := hB
  subst r
  rw [ht] at hP1
  obtain ⟨hP, hD⟩ := va_join (wr := [(a0, .inr (9, [.ref a3, .ref a5, .ref a6, .ref a7, .ref a8, .ref a9, .int 0, .int 0])), (a3, .inl (k1, 362, .inl (upd (upd (fun _ => 0) 0 0) 1 1))), (a2, .inl (k0, 362, .inl (upd (upd (fun _ => 0) 0 4) 1 4)))]) (w1 := [(a1, .inr (11, [.ref a2, .ref a4, .int 2]))]) hP hD [2] [0, 1, 3] rfl rfl (by decide) (by decide) hk1 hFc hP1 hD1
  generalize H1 = H at hP hS ⊢
  have hP : va_P (dC, dI) vcl [(a0, .inr (9, [.ref a3, .ref a5, .ref a6, .ref a7, .ref a8, .ref a9, .int 0, .int 0])), (a3, .inl (k1, 362, .inl (upd (upd (fun _ => 0) 0 0) 1 1))), (a2, .inl (k0, 362, .inl (upd (upd (fun _ => 0) 0 4) 1 4))), (a1, .inr (11, [.ref a2, .ref a4, .int 2]))] H := hP
  have hD : va_D A [(a0, .inr (9, [.ref a3, .ref a5, .ref a6, .ref a7, .ref a8, .ref a9, .int 0, .int 0])), (a3, .inl (k1, 362, .inl (upd (upd (fun _ => 0) 0 0) 1 1))), (a2, .inl (k0, 362, .inl (upd (upd (fun _ => 0) 0 4) 1 4))), (a1, .inr (11, [.ref a2, .ref a4, .int 2]))] := hD
  refine lv_icmp_ge (tgt := 86) hx hb d_Rows_matchBrackets_9 (by decide) (fun _ => ?_) (fun h => (h (by decide +kernel)).elim)
  have hP9 := hP.sub (ws' := [(a1, .inr (11, [.ref a2, .ref a4, .int 2])), (a2, .inl (k0, 362, .inl (upd (upd (fun _ => 0) 0 4) 1 4))), (a0, .inr (9, [.ref a3, .ref a5, .ref a6, .ref a7, .ref a8, .ref a9, .int 0, .int 0])), (a3, .inl (k1, 362, .inl (upd (upd (fun _ => 0) 0 0) 1 1)))]) [3, 2, 0, 1] rfl
  have hD9 := hD.sub (ws' := [(a1, .inr (11, [.ref a2, .ref a4, .int 2])), (a2, .inl (k0, 362, .inl (upd (upd (fun _ => 0) 0 4) 1 4))), (a0, .inr (9, [.ref a3, .ref a5, .ref a6, .ref a7, .ref a8, .ref a9, .int 0, .int 0])), (a3, .inl (k1, 362, .inl (upd (upd (fun _ => 0) 0 0) 1 1)))]) [3, 2, 0, 1] (by decide) rfl
  have hK9 := hK.sub (tys' := [(k0, .int), (k1, .int)]) [0, 1] rfl
  exact W.vret hx hb hr (fun t ht hW => ⟨⟨(), rfl, trivial, by rw [ht]; exact hP9, va_K.moved hW.alike hK9, hD9⟩, hS.F ht⟩) hS.2.2 d_Rows_matchBrackets_86
set_option maxHeartbeats 4000000 in
set_option maxRecDepth 100000 in
theorem c57_Row_clear (l : Launch) (dC : Nat → ClassId) (dI : Nat → Nat → Nat) (sz : Nat) (a0 : Nat) (a1 : Nat) (a2 : Nat) (a3 : Nat) : Met l y_Row_clear w_Row_clear ({ frames := 0, cells := 0, slots := 0, locals := 0 }) (va_Pc [.ref a0] (fun U => U.heap.size = sz ∧ va_P (dC, dI) vcl [(a0, .inr (8, [.ref a1, .ref a2, .ref a3, .int 0, .int 0, .int 0]))] U.heap ∧ va_K (dC, dI) vcl [] U ∧ va_D (fun _ => True) [(a0, .inr (8, [.ref a1, .ref a2, .ref a3, .int 0, .int 0, .int 0]))])) (va_Qv (fun (_ : Unit) => True) (fun _ t => va_P (dC, dI) vcl [(a0, .inr (8, [.ref a1, .ref a2, .ref a3, .int 0, .int 0, .int 0]))] t.heap ∧ va_K (dC, dI) vcl [] t ∧ va_D (va_A [(a0, .inr (8, [.ref a1, .ref a2, .ref a3, .int 0, .int 0, .int 0]))] sz) [(a0, .inr (8, [.ref a1, .ref a2, .ref a3, .int 0, .int 0, .int 0]))]) (va_A [(a0, .inr (8, [.ref a1, .ref a2, .ref a3, .int 0, .int 0, .int 0]))] sz)) 0 0 (va_A [(a0, .inr (8, [.ref a1, .ref a2, .ref a3, .int 0, .int 0, .int 0]))] sz) := by
  refine Met.ofW (cc := b_Row_clear) (maxL := 1) (ret := none) (by decide) rfl ?_
  intro p e s m args below meth c s₁ B hml hv
  obtain ⟨rfl, hsz, hP, hK, hD0⟩ := hv
  have hx := B.exec
  have hb := B.bytes
  have hr := B.returns
  have hts := atoms_spec (ws := w_Row_clear) B.pre
  have hz : ∀ w ∈ wz, w.before _ s = true := fun w h => hts w (List.mem_cons_of_mem _ h)
  have hown : s.vm.findClass R_Row = some m.cls := findClass_of_methodNamed B.named
  have hlocks := B.notSynchronized
  subst hsz
  have hD := hD0.self (sz := s.heap.size)
  generalize hAe : va_A [(a0, .inr (8, [.ref a1, .ref a2, .ref a3, .int 0, .int 0, .int 0]))] s.heap.size = A at hD ⊢
  have hA : ∀ q : Nat, s.heap.size ≤ q → A q := fun q h => by rw [← hAe]; exact Or.inr h
  have hS : va_S A s.heap s.heap [] := va_S.rf
  have hP : va_P (dC, dI) vcl [(a0, .inr (8, [.ref a1, .ref a2, .ref a3, .int 0, .int 0, .int 0]))] s.heap := hP
  have hl := lv_entry ([.ref a0]) (n := 1) (Nat.le_of_ble_eq_true rfl)
  rw [lg_entry_eq]
  generalize (lg_sl ([.ref a0]) ++ List.replicate (1 - (lg_sl ([.ref a0])).length) Slot.unset).toArray = ls at hl ⊢
  have hl : lv_has ls 1 [(0, .ref a0)] := hl
  refine lv_aload_n hx hb d_Row_clear_0 rfl (lv_at hl 0 rfl) ?_
  refine lv_iconst (v := 0) hx hb d_Row_clear_1 (by decide) ?_
  refine va_put (D := (dC, dI)) (ci := 8) (v := .int 0) (ty := .int) (C := R_Row) (T := F_Row) (N := 6) hx hb hz zu_Row t_Row t_Row_ok n_Row hown hK hP hD hS 0 rfl rfl 3 (by decide) (hz (.fieldLink R_Row 21 "LayoutFront$Row" "size" "I") zm_215) (fun _ h9 => h9) rfl (by decide +kernel) rfl rfl (Nat.le_of_ble_eq_true rfl) d_Row_clear_2 (fun H locs hP hD hS => ?_)
  have hP : va_P (dC, dI) vcl [(a0, .inr (8, [.ref a1, .ref a2, .ref a3, .int 0, .int 0, .int 0]))] H := hP
  have hD : va_D A [(a0, .inr (8, [.ref a1, .ref a2, .ref a3, .int 0, .int 0, .int 0]))] := hD
  refine lv_aload_n hx hb d_Row_clear_5 rfl (lv_at hl 0 rfl) ?_
  refine lv_iconst (v := 0) hx hb d_Row_clear_6 (by decide) ?_
  refine va_put (D := (dC, dI)) (ci := 8) (v := .int 0) (ty := .boolean) (C := R_Row) (T := F_Row) (N := 6) hx hb hz zu_Row t_Row t_Row_ok n_Row hown hK hP hD hS 0 rfl rfl 4 (by decide) (hz (.fieldLink R_Row 25 "LayoutFront$Row" "operates" "Z") zm_216) (fun _ h9 => h9) rfl (by decide +kernel) rfl rfl (Nat.le_of_ble_eq_true rfl) d_Row_clear_7 (fun H locs hP hD hS => ?_)
  have hP : va_P (dC, dI) vcl [(a0, .inr (8, [.ref a1, .ref a2, .ref a3, .int 0, .int 0, .int 0]))] H := hP
  have hD : va_D A [(a0, .inr (8, [.ref a1, .ref a2, .ref a3, .int 0, .int 0, .int 0]))] := hD
  refine lv_aload_n hx hb d_Row_clear_10 rfl (lv_at hl 0 rfl) ?_
  refine lv_iconst (v := 0) hx hb d_Row_clear_11 (by decide) ?_
  refine va_put (D := (dC, dI)) (ci := 8) (v := .int 0) (ty := .boolean) (C := R_Row) (T := F_Row) (N := 6) hx hb hz zu_Row t_Row t_Row_ok n_Row hown hK hP hD hS 0 rfl rfl 5 (by decide) (hz (.fieldLink R_Row 29 "LayoutFront$Row" "lacksOperand" "Z") zm_217) (fun _ h9 => h9) rfl (by decide +kernel) rfl rfl (Nat.le_of_ble_eq_true rfl) d_Row_clear_12 (fun H locs hP hD hS => ?_)
  have hP : va_P (dC, dI) vcl [(a0, .inr (8, [.ref a1, .ref a2, .ref a3, .int 0, .int 0, .int 0]))] H := hP
  have hD : va_D A [(a0, .inr (8, [.ref a1, .ref a2, .ref a3, .int 0, .int 0, .int 0]))] := hD
  have hP9 := hP.sub (ws' := [(a0, .inr (8, [.ref a1, .ref a2, .ref a3, .int 0, .int 0, .int 0]))]) [0] rfl
  have hD9 := hD.sub (ws' := [(a0, .inr (8, [.ref a1, .ref a2, .ref a3, .int 0, .int 0, .int 0]))]) [0] (by decide) rfl
  have hK9 := hK.sub (tys' := []) [] rfl
  exact W.vret hx hb hr (fun t ht hW => ⟨⟨(), rfl, trivial, by rw [ht]; exact hP9, va_K.moved hW.alike hK9, hD9⟩, hS.F ht⟩) hS.2.2 d_Row_clear_15
set_option maxHeartbeats 4000000 in
set_option maxRecDepth 100000 in
theorem c58_Tokens_has (l : Launch) (dC : Nat → ClassId) (dI : Nat → Nat → Nat) (sz : Nat) (a0 : Nat) (a1 : Nat) (a2 : Nat) : Met l y_Tokens_has w_Tokens_has ({ frames := 0, cells := 0, slots := 0, locals := 0 }) (va_Pc [.ref a0, .int 0] (fun U => U.heap.size = sz ∧ va_P (dC, dI) vcl [(a0, .inr (11, [.ref a1, .ref a2, .int 2]))] U.heap ∧ va_K (dC, dI) vcl [] U ∧ va_D (fun _ => True) [(a0, .inr (11, [.ref a1, .ref a2, .int 2]))])) (va_Qi (fun (r : Int32) (_ : Unit) => r = 1) (fun _ t => va_P (dC, dI) vcl [(a0, .inr (11, [.ref a1, .ref a2, .int 2]))] t.heap ∧ va_K (dC, dI) vcl [] t ∧ va_D (va_A [(a0, .inr (11, [.ref a1, .ref a2, .int 2]))] sz) [(a0, .inr (11, [.ref a1, .ref a2, .int 2]))]) (va_A [(a0, .inr (11, [.ref a1, .ref a2, .int 2]))] sz)) 0 0 (va_A [(a0, .inr (11, [.ref a1, .ref a2, .int 2]))] sz) := by
  refine Met.ofW (cc := b_Tokens_has) (maxL := 2) (ret := (some .boolean)) (by decide) rfl ?_
  intro p e s m args below meth c s₁ B hml hv
  obtain ⟨rfl, hsz, hP, hK, hD0⟩ := hv
  have hx := B.exec
  have hb := B.bytes
  have hr := B.returns
  have hts := atoms_spec (ws := w_Tokens_has) B.pre
  have hz : ∀ w ∈ wz, w.before _ s = true := fun w h => hts w (List.mem_cons_of_mem _ h)
  have hown : s.vm.findClass R_Tokens = some m.cls := findClass_of_methodNamed B.named
  have hlocks := B.notSynchronized
  subst hsz
  have hD := hD0.self (sz := s.heap.size)
  generalize hAe : va_A [(a0, .inr (11, [.ref a1, .ref a2, .int 2]))] s.heap.size = A at hD ⊢
  have hA : ∀ q : Nat, s.heap.size ≤ q → A q := fun q h => by rw [← hAe]; exact Or.inr h
  have hS : va_S A s.heap s.heap [] := va_S.rf
  have hP : va_P (dC, dI) vcl [(a0, .inr (11, [.ref a1, .ref a2, .int 2]))] s.heap := hP
  have hl := lv_entry ([.ref a0, .int 0]) (n := 2) (Nat.le_of_ble_eq_true rfl)
  rw [lg_entry_eq]
  generalize (lg_sl ([.ref a0, .int 0]) ++ List.replicate (2 - (lg_sl ([.ref a0, .int 0])).length) Slot.unset).toArray = ls at hl ⊢
  have hl : lv_has ls 2 [(0, .ref a0), (1, .int 0)] := hl
  refine lv_iload_n hx hb d_Tokens_has_0 rfl (lv_at hl 1 rfl) ?_
  refine lv_if_lt (tgt := 16) hx hb d_Tokens_has_1 (by decide) (fun h => absurd h (by decide +kernel)) (fun _ => ?_)
  refine lv_iload_n hx hb d_Tokens_has_4 rfl (lv_at hl 1 rfl) ?_
  refine lv_aload_n hx hb d_Tokens_has_5 rfl (lv_at hl 0 rfl) ?_
  refine va_get (D := (dC, dI)) (ci := 11) (v := .int 2) (C := R_Tokens) (T := F_Tokens) (N := 3) hx hb hz zu_Tokens hown hK hP 0 rfl rfl 2 (by decide) (hz (.fieldLink R_Tokens 19 "LayoutFront$Tokens" "size" "I") zm_111) (fun _ h9 => h9) rfl d_Tokens_has_6 ?_
  refine lv_icmp_ge (tgt := 16) hx hb d_Tokens_has_9 (by decide) (fun h => absurd h (by decide +kernel)) (fun _ => ?_)
  refine lv_iconst (v := 1) hx hb d_Tokens_has_12 (by decide) ?_
  refine lv_goto (tgt := 17) hx hb d_Tokens_has_13 (by decide) ?_
  have hP9 := hP.sub (ws' := [(a0, .inr (11, [.ref a1, .ref a2, .int 2]))]) [0] rfl
  have hD9 := hD.sub (ws' := [(a0, .inr (11, [.ref a1, .ref a2, .int 2]))]) [0] (by decide) rfl
  have hK9 := hK.sub (tys' := []) [] rfl
  exact W.zret (v := 1) hx hb hr (by decide +kernel) (fun t ht hW => ⟨⟨1, (), rfl, rfl, by rw [ht]; exact hP9, va_K.moved hW.alike hK9, hD9⟩, hS.F ht⟩) hS.2.2 d_Tokens_has_17
set_option maxHeartbeats 4000000 in
set_option maxRecDepth 100000 in
theorem c59_Tokens_isFreeName (l : Launch) (dC : Nat → ClassId) (dI : Nat → Nat → Nat) (sz : Nat) (a0 : Nat) (a1 : Nat) (a2 : Nat) (k0 : ClassId) : Met l y_Tokens_isFreeName w_Tokens_isFreeName ({ frames := 1, cells := 0, slots := 0, locals := 21 }) (va_Pc [.ref a0, .int 0] (fun U => U.heap.size = sz ∧ va_P (dC, dI) vcl [(a0, .inr (11, [.ref a1, .ref a2, .int 2])), (a1, .inl (k0, 362, .inl (upd (upd (fun _ => 0) 0 4) 1 4)))] U.heap ∧ va_K (dC, dI) vcl [(k0, .int)] U ∧ va_D (fun _ => True) [(a0, .inr (11, [.ref a1, .ref a2, .int 2])), (a1, .inl (k0, 362, .inl (upd (upd (fun _ => 0) 0 4) 1 4)))])) (va_Qi (fun (r : Int32) (_ : Unit) => r = 0) (fun _ t => va_P (dC, dI) vcl [(a0, .inr (11, [.ref a1, .ref a2, .int 2])), (a1, .inl (k0, 362, .inl (upd (upd (fun _ => 0) 0 4) 1 4)))] t.heap ∧ va_K (dC, dI) vcl [(k0, .int)] t ∧ va_D (va_A [(a0, .inr (11, [.ref a1, .ref a2, .int 2])), (a1, .inl (k0, 362, .inl (upd (upd (fun _ => 0) 0 4) 1 4)))] sz) [(a0, .inr (11, [.ref a1, .ref a2, .int 2])), (a1, .inl (k0, 362, .inl (upd (upd (fun _ => 0) 0 4) 1 4)))]) (va_A [(a0, .inr (11, [.ref a1, .ref a2, .int 2])), (a1, .inl (k0, 362, .inl (upd (upd (fun _ => 0) 0 4) 1 4)))] sz)) 0 0 (va_A [(a0, .inr (11, [.ref a1, .ref a2, .int 2])), (a1, .inl (k0, 362, .inl (upd (upd (fun _ => 0) 0 4) 1 4)))] sz) := by
  refine Met.ofW (cc := b_Tokens_isFreeName) (maxL := 2) (ret := (some .boolean)) (by decide) rfl ?_
  intro p e s m args below meth c s₁ B hml hv
  obtain ⟨rfl, hsz, hP, hK, hD0⟩ := hv
  have hx := B.exec
  have hb := B.bytes
  have hr := B.returns
  have hts := atoms_spec (ws := w_Tokens_isFreeName) B.pre
  have hz : ∀ w ∈ wz, w.before _ s = true := fun w h => hts w (List.mem_cons_of_mem _ h)
  have hown : s.vm.findClass R_Tokens = some m.cls := findClass_of_methodNamed B.named
  have hlocks := B.notSynchronized
  subst hsz
  have hD := hD0.self (sz := s.heap.size)
  generalize hAe : va_A [(a0, .inr (11, [.ref a1, .ref a2, .int 2])), (a1, .inl (k0, 362, .inl (upd (upd (fun _ => 0) 0 4) 1 4)))] s.heap.size = A at hD ⊢
  have hA : ∀ q : Nat, s.heap.size ≤ q → A q := fun q h => by rw [← hAe]; exact Or.inr h
  have hS : va_S A s.heap s.heap [] := va_S.rf
  have hP : va_P (dC, dI) vcl [(a0, .inr (11, [.ref a1, .ref a2, .int 2])), (a1, .inl (k0, 362, .inl (upd (upd (fun _ => 0) 0 4) 1 4)))] s.heap := hP
  have hl := lv_entry ([.ref a0, .int 0]) (n := 2) (Nat.le_of_ble_eq_true rfl)
  rw [lg_entry_eq]
  generalize (lg_sl ([.ref a0, .int 0]) ++ List.replicate (2 - (lg_sl ([.ref a0, .int 0])).length) Slot.unset).toArray = ls at hl ⊢
  have hl : lv_has ls 2 [(0, .ref a0), (1, .int 0)] := hl
  refine lv_aload_n hx hb d_Tokens_isFreeName_0 rfl (lv_at hl 0 rfl) ?_
  refine lv_iload_n hx hb d_Tokens_isFreeName_1 rfl (lv_at hl 1 rfl) ?_
  have hPc := hP.sub (ws' := [(a0, .inr (11, [.ref a1, .ref a2, .int 2]))]) [0] rfl
  have hDc := hD.sub (ws' := [(a0, .inr (11, [.ref a1, .ref a2, .int 2]))]) [0] (by decide) rfl
  have hKc := hK.sub (tys' := []) [] rfl
  have hFc := va_free (wc := [(a0, .inr (11, [.ref a1, .ref a2, .int 2]))]) hD hS hA [0] rfl
  refine va_calli (va_runV (As := [.int 0]) (rest := []) ⟨hx, hb, hml, hown, hz⟩ (c58_Tokens_has l dC dI s.heap.size a0 a1 a2) (cwV 1 hz (zV zm_135 zm_136 zm_137 zm_17 zm_138) rfl rfl rfl (by decide +kernel) ⟨Nat.le_of_ble_eq_true rfl, Nat.le_of_ble_eq_true rfl⟩) ⟨fun a U g mk q => by obtain ⟨q0, q1, qP, qK, qD⟩ := q; exact ⟨q0, q1, qP, va_K.moved (u := U) (U := U.calling g mk a) (Vm.Alike.refl U.vm) qK, qD⟩, va_recv (q := (R_Tokens, F_Tokens, 3)) (q0 := 0) (ci := 11) hK hP rfl rfl, fun U hU hW => ⟨rfl, by rw [hU], by rw [hU]; exact hPc, va_K.moved hW.alike hKc, hDc.weaken (fun _ _ _ _ => trivial)⟩⟩ rfl rfl hl.1 rfl (lv_room (Nat.le_of_ble_eq_true rfl)) d_Tokens_isFreeName_2 ⟨by decide, by decide⟩) hS (fun q _ h => hFc q h) hFc (fun r u t H1 locs ht hvm hw hB hz1 hk1 hS => ?_)
  obtain ⟨hP1, hK1, hD1⟩ := hB
  subst r
  rw [ht] at hP1
  obtain ⟨hP, hD⟩ := va_join (wr := [(a1, .inl (k0, 362, .inl (upd (upd (fun _ => 0) 0 4) 1 4)))]) (w1 := [(a0, .inr (11, [.ref a1, .ref a2, .int 2]))]) hP hD [0] [1] rfl rfl (by decide) (by decide) hk1 hFc hP1 hD1
  generalize H1 = H at hP hS ⊢
  have hP : va_P (dC, dI) vcl [(a1, .inl (k0, 362, .inl (upd (upd (fun _ => 0) 0 4) 1 4))), (a0, .inr (11, [.ref a1, .ref a2, .int 2]))] H := hP
  have hD : va_D A [(a1, .inl (k0, 362, .inl (upd (upd (fun _ => 0) 0 4) 1 4))), (a0, .inr (11, [.ref a1, .ref a2, .int 2]))] := hD
  refine lv_if_eq (tgt := 37) hx hb d_Tokens_isFreeName_5 (by decide) (fun h => absurd h (by decide +kernel)) (fun _ => ?_)
  refine lv_aload_n hx hb d_Tokens_isFreeName_8 rfl (lv_at hl 0 rfl) ?_
  refine va_get (D := (dC, dI)) (ci := 11) (v := .ref a1) (C := R_Tokens) (T := F_Tokens) (N := 3) hx hb hz zu_Tokens hown hK hP 1 rfl rfl 0 (by decide) (hz (.fieldLink R_Tokens 9 "LayoutFront$Tokens" "kinds" "[I") zm_12) (fun _ h9 => h9) rfl d_Tokens_isFreeName_9 ?_
  refine lv_iload_n hx hb d_Tokens_isFreeName_12 rfl (lv_at hl 1 rfl) ?_
  refine xr_iald (v := 4) hx hb hK hP 0 0 rfl rfl (xr_in (by decide +kernel)) (by decide +kernel) d_Tokens_isFreeName_13 ?_
  refine lv_if_ne (tgt := 37) hx hb d_Tokens_isFreeName_14 (by decide) (fun _ => ?_) (fun h => absurd h (by decide +kernel))
  refine lv_iconst (v := 0) hx hb d_Tokens_isFreeName_37 (by decide) ?_
  have hP9 := hP.sub (ws' := [(a0, .inr (11, [.ref a1, .ref a2, .int 2])), (a1, .inl (k0, 362, .inl (upd (upd (fun _ => 0) 0 4) 1 4)))]) [1, 0] rfl
  have hD9 := hD.sub (ws' := [(a0, .inr (11, [.ref a1, .ref a2, .int 2])), (a1, .inl (k0, 362, .inl (upd (upd (fun _ => 0) 0 4) 1 4)))]) [1, 0] (by decide) rfl
  have hK9 := hK.sub (tys' := [(k0, .int)]) [0] rfl
  exact W.zret (v := 0) hx hb hr (by decide +kernel) (fun t ht hW => ⟨⟨0, (), rfl, rfl, by rw [ht]; exact hP9, va_K.moved hW.alike hK9, hD9⟩, hS.F ht⟩) hS.2.2 d_Tokens_isFreeName_38
set_option maxHeartbeats 4000000 in
set_option maxRecDepth 100000 in
theorem c60_Tokens_kindAt (l : Launch) (dC : Nat → ClassId) (dI : Nat → Nat → Nat) (sz : Nat) (a0 : Nat) (a1 : Nat) (a2 : Nat) (k0 : ClassId) : Met l y_Tokens_kindAt w_Tokens_kindAt ({ frames := 1, cells := 0, slots := 0, locals := 21 }) (va_Pc [.ref a0, .int 0] (fun U => U.heap.size = sz ∧ va_P (dC, dI) vcl [(a0, .inr (11, [.ref a1, .ref a2, .int 2])), (a1, .inl (k0, 362, .inl (upd (upd (fun _ => 0) 0 4) 1 4)))] U.heap ∧ va_K (dC, dI) vcl [(k0, .int)] U ∧ va_D (fun _ => True) [(a0, .inr (11, [.ref a1, .ref a2, .int 2])), (a1, .inl (k0, 362, .inl (upd (upd (fun _ => 0) 0 4) 1 4)))])) (va_Qi (fun (r : Int32) (_ : Unit) => r = 4) (fun _ t => va_P (dC, dI) vcl [(a0, .inr (11, [.ref a1, .ref a2, .int 2])), (a1, .inl (k0, 362, .inl (upd (upd (fun _ => 0) 0 4) 1 4)))] t.heap ∧ va_K (dC, dI) vcl [(k0, .int)] t ∧ va_D (va_A [(a0, .inr (11, [.ref a1, .ref a2, .int 2])), (a1, .inl (k0, 362, .inl (upd (upd (fun _ => 0) 0 4) 1 4)))] sz) [(a0, .inr (11, [.ref a1, .ref a2, .int 2])), (a1, .inl (k0, 362, .inl (upd (upd (fun _ => 0) 0 4) 1 4)))]) (va_A [(a0, .inr (11, [.ref a1, .ref a2, .int 2])), (a1, .inl (k0, 362, .inl (upd (upd (fun _ => 0) 0 4) 1 4)))] sz)) 0 0 (va_A [(a0, .inr (11, [.ref a1, .ref a2, .int 2])), (a1, .inl (k0, 362, .inl (upd (upd (fun _ => 0) 0 4) 1 4)))] sz) := by
  refine Met.ofW (cc := b_Tokens_kindAt) (maxL := 2) (ret := (some .int)) (by decide) rfl ?_
  intro p e s m args below meth c s₁ B hml hv
  obtain ⟨rfl, hsz, hP, hK, hD0⟩ := hv
  have hx := B.exec
  have hb := B.bytes
  have hr := B.returns
  have hts := atoms_spec (ws := w_Tokens_kindAt) B.pre
  have hz : ∀ w ∈ wz, w.before _ s = true := fun w h => hts w (List.mem_cons_of_mem _ h)
  have hown : s.vm.findClass R_Tokens = some m.cls := findClass_of_methodNamed B.named
  have hlocks := B.notSynchronized
  subst hsz
  have hD := hD0.self (sz := s.heap.size)
  generalize hAe : va_A [(a0, .inr (11, [.ref a1, .ref a2, .int 2])), (a1, .inl (k0, 362, .inl (upd (upd (fun _ => 0) 0 4) 1 4)))] s.heap.size = A at hD ⊢
  have hA : ∀ q : Nat, s.heap.size ≤ q → A q := fun q h => by rw [← hAe]; exact Or.inr h
  have hS : va_S A s.heap s.heap [] := va_S.rf
  have hP : va_P (dC, dI) vcl [(a0, .inr (11, [.ref a1, .ref a2, .int 2])), (a1, .inl (k0, 362, .inl (upd (upd (fun _ => 0) 0 4) 1 4)))] s.heap := hP
  have hl := lv_entry ([.ref a0, .int 0]) (n := 2) (Nat.le_of_ble_eq_true rfl)
  rw [lg_entry_eq]
  generalize (lg_sl ([.ref a0, .int 0]) ++ List.replicate (2 - (lg_sl ([.ref a0, .int 0])).length) Slot.unset).toArray = ls at hl ⊢
  have hl : lv_has ls 2 [(0, .ref a0), (1, .int 0)] := hl
  refine lv_aload_n hx hb d_Tokens_kindAt_0 rfl (lv_at hl 0 rfl) ?_
  refine lv_iload_n hx hb d_Tokens_kindAt_1 rfl (lv_at hl 1 rfl) ?_
  have hPc := hP.sub (ws' := [(a0, .inr (11, [.ref a1, .ref a2, .int 2]))]) [0] rfl
  have hDc := hD.sub (ws' := [(a0, .inr (11, [.ref a1, .ref a2, .int 2]))]) [0] (by decide) rfl
  have hKc := hK.sub (tys' := []) [] rfl
  have hFc := va_free (wc := [(a0, .inr (11, [.ref a1, .ref a2, .int 2]))]) hD hS hA [0] rfl
  refine va_calli (va_runV (As := [.int 0]) (rest := []) ⟨hx, hb, hml, hown, hz⟩ (c58_Tokens_has l dC dI s.heap.size a0 a1 a2) (cwV 1 hz (zV zm_135 zm_136 zm_137 zm_17 zm_138) rfl rfl rfl (by decide +kernel) ⟨Nat.le_of_ble_eq_true rfl, Nat.le_of_ble_eq_true rfl⟩) ⟨fun a U g mk q => by obtain ⟨q0, q1, qP, qK, qD⟩ := q; exact ⟨q0, q1, qP, va_K.moved (u := U) (U := U.calling g mk a) (Vm.Alike.refl U.vm) qK, qD⟩, va_recv (q := (R_Tokens, F_Tokens, 3)) (q0 := 0) (ci := 11) hK hP rfl rfl, fun U hU hW => ⟨rfl, by rw [hU], by rw [hU]; exact hPc, va_K.moved hW.alike hKc, hDc.weaken (fun _ _ _ _ => trivial)⟩⟩ rfl rfl hl.1 rfl (lv_room (Nat.le_of_ble_eq_true rfl)) d_Tokens_kindAt_2 ⟨by decide, by decide⟩) hS (fun q _ h => hFc q h) hFc (fun r u t H1 locs ht hvm hw hB hz1 hk1 hS => ?_)
  obtain ⟨hP1, hK1, hD1⟩ := hB
  subst r
  rw [ht] at hP1
  obtain ⟨hP, hD⟩ := va_join (wr := [(a1, .inl (k0, 362, .inl (upd (upd (fun _ => 0) 0 4) 1 4)))]) (w1 := [(a0, .inr (11, [.ref a1, .ref a2, .int 2]))]) hP hD [0] [1] rfl rfl (by decide) (by decide) hk1 hFc hP1 hD1
  generalize H1 = H at hP hS ⊢
  have hP : va_P (dC, dI) vcl [(a1, .inl (k0, 362, .inl (upd (upd (fun _ => 0) 0 4) 1 4))), (a0, .inr (11, [.ref a1, .ref a2, .int 2]))] H := hP
  have hD : va_D A [(a1, .inl (k0, 362, .inl (upd (upd (fun _ => 0) 0 4) 1 4))), (a0, .inr (11, [.ref a1, .ref a2, .int 2]))] := hD
  refine lv_if_eq (tgt := 17) hx hb d_Tokens_kindAt_5 (by decide) (fun h => absurd h (by decide +kernel)) (fun _ => ?_)
  refine lv_aload_n hx hb d_Tokens_kindAt_8 rfl (lv_at hl 0 rfl) ?_
  refine va_get (D := (dC, dI)) (ci := 11) (v := .ref a1) (C := R_Tokens) (T := F_Tokens) (N := 3) hx hb hz zu_Tokens hown hK hP 1 rfl rfl 0 (by decide) (hz (.fieldLink R_Tokens 9 "LayoutFront$Tokens" "kinds" "[I") zm_12) (fun _ h9 => h9) rfl d_Tokens_kindAt_9 ?_
  refine lv_iload_n hx hb d_Tokens_kindAt_12 rfl (lv_at hl 1 rfl) ?_
  refine xr_iald (v := 4) hx hb hK hP 0 0 rfl rfl (xr_in (by decide +kernel)) (by decide +kernel) d_Tokens_kindAt_13 ?_
  refine lv_goto (tgt := 18) hx hb d_Tokens_kindAt_14 (by decide) ?_
  have hP9 := hP.sub (ws' := [(a0, .inr (11, [.ref a1, .ref a2, .int 2])), (a1, .inl (k0, 362, .inl (upd (upd (fun _ => 0) 0 4) 1 4)))]) [1, 0] rfl
  have hD9 := hD.sub (ws' := [(a0, .inr (11, [.ref a1, .ref a2, .int 2])), (a1, .inl (k0, 362, .inl (upd (upd (fun _ => 0) 0 4) 1 4)))]) [1, 0] (by decide) rfl
  have hK9 := hK.sub (tys' := [(k0, .int)]) [0] rfl
  exact W.iret (v := 4) hx hb hr (fun t ht hW => ⟨⟨4, (), rfl, rfl, by rw [ht]; exact hP9, va_K.moved hW.alike hK9, hD9⟩, hS.F ht⟩) hS.2.2 d_Tokens_kindAt_18
set_option maxHeartbeats 4000000 in
set_option maxRecDepth 100000 in
theorem c61_Rows_behindOperand (l : Launch) (dC : Nat → ClassId) (dI : Nat → Nat → Nat) (sz : Nat) (a0 : Nat) (a1 : Nat) (a2 : Nat) (a3 : Nat) (k0 : ClassId) : Met l y_Rows_behindOperand w_Rows_behindOperand ({ frames := 2, cells := 0, slots := 0, locals := 43 }) (va_Pc [.ref a0, .ref a1, .int 0] (fun U => U.heap.size = sz ∧ va_P (dC, dI) vcl [(a1, .inr (11, [.ref a2, .ref a3, .int 2])), (a2, .inl (k0, 362, .inl (upd (upd (fun _ => 0) 0 4) 1 4)))] U.heap ∧ va_K (dC, dI) vcl [(k0, .int)] U ∧ va_D (fun _ => True) [(a1, .inr (11, [.ref a2, .ref a3, .int 2])), (a2, .inl (k0, 362, .inl (upd (upd (fun _ => 0) 0 4) 1 4)))])) (va_Qi (fun (r : Int32) (_ : Unit) => r = 0) (fun _ t => va_P (dC, dI) vcl [(a1, .inr (11, [.ref a2, .ref a3, .int 2])), (a2, .inl (k0, 362, .inl (upd (upd (fun _ => 0) 0 4) 1 4)))] t.heap ∧ va_K (dC, dI) vcl [(k0, .int)] t ∧ va_D (va_A [(a1, .inr (11, [.ref a2, .ref a3, .int 2])), (a2, .inl (k0, 362, .inl (upd (upd (fun _ => 0) 0 4) 1 4)))] sz) [(a1, .inr (11, [.ref a2, .ref a3, .int 2])), (a2, .inl (k0, 362, .inl (upd (upd (fun _ => 0) 0 4) 1 4)))]) (va_A [(a1, .inr (11, [.ref a2, .ref a3, .int 2])), (a2, .inl (k0, 362, .inl (upd (upd (fun _ => 0) 0 4) 1 4)))] sz)) 0 0 (va_A [(a1, .inr (11, [.ref a2, .ref a3, .int 2])), (a2, .inl (k0, 362, .inl (upd (upd (fun _ => 0) 0 4) 1 4)))] sz) := by
  refine Met.ofW (cc := b_Rows_behindOperand) (maxL := 3) (ret := (some .int)) (by decide) rfl ?_
  intro p e s m args below meth c s₁ B hml hv
  obtain ⟨rfl, hsz, hP, hK, hD0⟩ := hv
  have hx := B.exec
  have hb := B.bytes
  have hr := B.returns
  have hts := atoms_spec (ws := w_Rows_behindOperand) B.pre
  have hz : ∀ w ∈ wz, w.before _ s = true := fun w h => hts w (List.mem_cons_of_mem _ h)
  have hown : s.vm.findClass R_Rows = some m.cls := findClass_of_methodNamed B.named
  have hlocks := B.notSynchronized
  subst hsz
  have hD := hD0.self (sz := s.heap.size)
  generalize hAe : va_A [(a1, .inr (11, [.ref a2, .ref a3, .int 2])), (a2, .inl (k0, 362, .inl (upd (upd (fun _ => 0) 0 4) 1 4)))] s.heap.size = A at hD ⊢
  have hA : ∀ q : Nat, s.heap.size ≤ q → A q := fun q h => by rw [← hAe]; exact Or.inr h
  have hS : va_S A s.heap s.heap [] := va_S.rf
  have hP : va_P (dC, dI) vcl [(a1, .inr (11, [.ref a2, .ref a3, .int 2])), (a2, .inl (k0, 362, .inl (upd (upd (fun _ => 0) 0 4) 1 4)))] s.heap := hP
  have hl := lv_entry ([.ref a0, .ref a1, .int 0]) (n := 3) (Nat.le_of_ble_eq_true rfl)
  rw [lg_entry_eq]
  generalize (lg_sl ([.ref a0, .ref a1, .int 0]) ++ List.replicate (3 - (lg_sl ([.ref a0, .ref a1, .int 0])).length) Slot.unset).toArray = ls at hl ⊢
  have hl : lv_has ls 3 [(0, .ref a0), (1, .ref a1), (2, .int 0)] := hl
  refine lv_aload_n hx hb d_Rows_behindOperand_0 rfl (lv_at hl 1 rfl) ?_
  refine lv_iload_n hx hb d_Rows_behindOperand_1 rfl (lv_at hl 2 rfl) ?_
  have hPc := hP.sub (ws' := [(a1, .inr (11, [.ref a2, .ref a3, .int 2])), (a2, .inl (k0, 362, .inl (upd (upd (fun _ => 0) 0 4) 1 4)))]) [0, 1] rfl
  have hDc := hD.sub (ws' := [(a1, .inr (11, [.ref a2, .ref a3, .int 2])), (a2, .inl (k0, 362, .inl (upd (upd (fun _ => 0) 0 4) 1 4)))]) [0, 1] (by decide) rfl
  have hKc := hK.sub (tys' := [(k0, .int)]) [0] rfl
  have hFc := va_free (wc := [(a1, .inr (11, [.ref a2, .ref a3, .int 2])), (a2, .inl (k0, 362, .inl (upd (upd (fun _ => 0) 0 4) 1 4)))]) hD hS hA [0, 1] rfl
  refine va_calli (va_runV (As := [.int 0]) (rest := []) ⟨hx, hb, hml, hown, hz⟩ (c46_Tokens_opensBracket l dC dI s.heap.size a1 a2 a3 k0) (cwV 1 hz (zV zm_207 zm_208 zm_209 zm_17 zm_210) rfl rfl rfl (by decide +kernel) ⟨Nat.le_of_ble_eq_true rfl, Nat.le_of_ble_eq_true rfl⟩) ⟨fun a U g mk q => by obtain ⟨q0, q1, qP, qK, qD⟩ := q; exact ⟨q0, q1, qP, va_K.moved (u := U) (U := U.calling g mk a) (Vm.Alike.refl U.vm) qK, qD⟩, va_recv (q := (R_Tokens, F_Tokens, 3)) (q0 := 0) (ci := 11) hK hP rfl rfl, fun U hU hW => ⟨rfl, by rw [hU], by rw [hU]; exact hPc, va_K.moved hW.alike hKc, hDc.weaken (fun _ _ _ _ => trivial)⟩⟩ rfl rfl hl.1 rfl (lv_room (Nat.le_of_ble_eq_true rfl)) d_Rows_behindOperand_2 ⟨by decide, by decide⟩) hS (fun q _ h => hFc q h) hFc (fun r u t H1 locs ht hvm hw hB hz1 hk1 hS => ?_)
  obtain ⟨hP1, hK1, hD1⟩ := hB
  subst r
  rw [ht] at hP1
  obtain ⟨hP, hD⟩ := va_join (wr := []) (w1 := [(a1, .inr (11, [.ref a2, .ref a3, .int 2])), (a2, .inl (k0, 362, .inl (upd (upd (fun _ => 0) 0 4) 1 4)))]) hP hD [0, 1] [] rfl rfl (by decide) (by decide) hk1 hFc hP1 hD1
  generalize H1 = H at hP hS ⊢
  have hP : va_P (dC, dI) vcl [(a1, .inr (11, [.ref a2, .ref a3, .int 2])), (a2, .inl (k0, 362, .inl (upd (upd (fun _ => 0) 0 4) 1 4)))] H := hP
  have hD : va_D A [(a1, .inr (11, [.ref a2, .ref a3, .int 2])), (a2, .inl (k0, 362, .inl (upd (upd (fun _ => 0) 0 4) 1 4)))] := hD
  refine lv_if_eq (tgt := 16) hx hb d_Rows_behindOperand_5 (by decide) (fun _ => ?_) (fun h => (h (by decide +kernel)).elim)
  refine lv_aload_n hx hb d_Rows_behindOperand_16 rfl (lv_at hl 1 rfl) ?_
  refine lv_iload_n hx hb d_Rows_behindOperand_17 rfl (lv_at hl 2 rfl) ?_
  have hPc := hP.sub (ws' := [(a1, .inr (11, [.ref a2, .ref a3, .int 2])), (a2, .inl (k0, 362, .inl (upd (upd (fun _ => 0) 0 4) 1 4)))]) [0, 1] rfl
  have hDc := hD.sub (ws' := [(a1, .inr (11, [.ref a2, .ref a3, .int 2])), (a2, .inl (k0, 362, .inl (upd (upd (fun _ => 0) 0 4) 1 4)))]) [0, 1] (by decide) rfl
  have hKc := hK.sub (tys' := [(k0, .int)]) [0] rfl
  have hFc := va_free (wc := [(a1, .inr (11, [.ref a2, .ref a3, .int 2])), (a2, .inl (k0, 362, .inl (upd (upd (fun _ => 0) 0 4) 1 4)))]) hD hS hA [0, 1] rfl
  refine va_calli (va_runV (As := [.int 0]) (rest := []) ⟨hx, hb, hml, hown, hz⟩ (c59_Tokens_isFreeName l dC dI H.size a1 a2 a3 k0) (cwV 1 hz (zV zm_218 zm_219 zm_220 zm_17 zm_221) rfl rfl rfl (by decide +kernel) ⟨Nat.le_of_ble_eq_true rfl, Nat.le_of_ble_eq_true rfl⟩) ⟨fun a U g mk q => by obtain ⟨q0, q1, qP, qK, qD⟩ := q; exact ⟨q0, q1, qP, va_K.moved (u := U) (U := U.calling g mk a) (Vm.Alike.refl U.vm) qK, qD⟩, va_recv (q := (R_Tokens, F_Tokens, 3)) (q0 := 0) (ci := 11) hK hP rfl rfl, fun U hU hW => ⟨rfl, by rw [hU], by rw [hU]; exact hPc, va_K.moved hW.alike hKc, hDc.weaken (fun _ _ _ _ => trivial)⟩⟩ rfl rfl hl.1 rfl (lv_room (Nat.le_of_ble_eq_true rfl)) d_Rows_behindOperand_18 ⟨by decide, by decide⟩) hS (fun q _ h => hFc q h) hFc (fun r u t H1 locs ht hvm hw hB hz1 hk1 hS => ?_)
  obtain ⟨hP1, hK1, hD1⟩ := hB
  subst r
  rw [ht] at hP1
  obtain ⟨hP, hD⟩ := va_join (wr := []) (w1 := [(a1, .inr (11, [.ref a2, .ref a3, .int 2])), (a2, .inl (k0, 362, .inl (upd (upd (fun _ => 0) 0 4) 1 4)))]) hP hD [0, 1] [] rfl rfl (by decide) (by decide) hk1 hFc hP1 hD1
  generalize H1 = H at hP hS ⊢
  have hP : va_P (dC, dI) vcl [(a1, .inr (11, [.ref a2, .ref a3, .int 2])), (a2, .inl (k0, 362, .inl (upd (upd (fun _ => 0) 0 4) 1 4)))] H := hP
  have hD : va_D A [(a1, .inr (11, [.ref a2, .ref a3, .int 2])), (a2, .inl (k0, 362, .inl (upd (upd (fun _ => 0) 0 4) 1 4)))] := hD
  refine lv_if_ne (tgt := 33) hx hb d_Rows_behindOperand_21 (by decide) (fun h => (h (by decide +kernel)).elim) (fun _ => ?_)
  refine lv_aload_n hx hb d_Rows_behindOperand_24 rfl (lv_at hl 1 rfl) ?_
  refine lv_iload_n hx hb d_Rows_behindOperand_25 rfl (lv_at hl 2 rfl) ?_
  have hPc := hP.sub (ws' := [(a1, .inr (11, [.ref a2, .ref a3, .int 2])), (a2, .inl (k0, 362, .inl (upd (upd (fun _ => 0) 0 4) 1 4)))]) [0, 1] rfl
  have hDc := hD.sub (ws' := [(a1, .inr (11, [.ref a2, .ref a3, .int 2])), (a2, .inl (k0, 362, .inl (upd (upd (fun _ => 0) 0 4) 1 4)))]) [0, 1] (by decide) rfl
  have hKc := hK.sub (tys' := [(k0, .int)]) [0] rfl
  have hFc := va_free (wc := [(a1, .inr (11, [.ref a2, .ref a3, .int 2])), (a2, .inl (k0, 362, .inl (upd (upd (fun _ => 0) 0 4) 1 4)))]) hD hS hA [0, 1] rfl
  refine va_calli (va_runV (As := [.int 0]) (rest := []) ⟨hx, hb, hml, hown, hz⟩ (c60_Tokens_kindAt l dC dI H.size a1 a2 a3 k0) (cwV 1 hz (zV zm_222 zm_223 zm_224 zm_17 zm_225) rfl rfl rfl (by decide +kernel) ⟨Nat.le_of_ble_eq_true rfl, Nat.le_of_ble_eq_true rfl⟩) ⟨fun a U g mk q => by obtain ⟨q0, q1, qP, qK, qD⟩ := q; exact ⟨q0, q1, qP, va_K.moved (u := U) (U := U.calling g mk a) (Vm.Alike.refl U.vm) qK, qD⟩, va_recv (q := (R_Tokens, F_Tokens, 3)) (q0 := 0) (ci := 11) hK hP rfl rfl, fun U hU hW => ⟨rfl, by rw [hU], by rw [hU]; exact hPc, va_K.moved hW.alike hKc, hDc.weaken (fun _ _ _ _ => trivial)⟩⟩ rfl rfl hl.1 rfl (lv_room (Nat.le_of_ble_eq_true rfl)) d_Rows_behindOperand_26 ⟨by decide, by decide⟩) hS (fun q _ h => hFc q h) hFc (fun r u t H1 locs ht hvm hw hB hz1 hk1 hS => ?_)
  obtain ⟨hP1, hK1, hD1⟩ := hB
  subst r
  rw [ht] at hP1
  obtain ⟨hP, hD⟩ := va_join (wr := []) (w1 := [(a1, .inr (11, [.ref a2, .ref a3, .int 2])), (a2, .inl (k0, 362, .inl (upd (upd (fun _ => 0) 0 4) 1 4)))]) hP hD [0, 1] [] rfl rfl (by decide) (by decide) hk1 hFc hP1 hD1
  generalize H1 = H at hP hS ⊢
  have hP : va_P (dC, dI) vcl [(a1, .inr (11, [.ref a2, .ref a3, .int 2])), (a2, .inl (k0, 362, .inl (upd (upd (fun _ => 0) 0 4) 1 4)))] H := hP
  have hD : va_D A [(a1, .inr (11, [.ref a2, .ref a3, .int 2])), (a2, .inl (k0, 362, .inl (upd (upd (fun _ => 0) 0 4) 1 4)))] := hD
  refine lv_iconst (v := 1) hx hb d_Rows_behindOperand_29 (by decide) ?_
  refine lv_icmp_ne (tgt := 39) hx hb d_Rows_behindOperand_30 (by decide) (fun _ => ?_) (fun h => absurd h (by decide +kernel))
  refine lv_iload_n hx hb d_Rows_behindOperand_39 rfl (lv_at hl 2 rfl) ?_
  have hP9 := hP.sub (ws' := [(a1, .inr (11, [.ref a2, .ref a3, .int 2])), (a2, .inl (k0, 362, .inl (upd (upd (fun _ => 0) 0 4) 1 4)))]) [0, 1] rfl
  have hD9 := hD.sub (ws' := [(a1, .inr (11, [.ref a2, .ref a3, .int 2])), (a2, .inl (k0, 362, .inl (upd (upd (fun _ => 0) 0 4) 1 4)))]) [0, 1] (by decide) rfl
  have hK9 := hK.sub (tys' := [(k0, .int)]) [0] rfl
  exact W.iret (v := 0) hx hb hr (fun t ht hW => ⟨⟨0, (), rfl, rfl, by rw [ht]; exact hP9, va_K.moved hW.alike hK9, hD9⟩, hS.F ht⟩) hS.2.2 d_Rows_behindOperand_40
set_option maxHeartbeats 4000000 in
set_option maxRecDepth 100000 in
theorem c62_Tokens_isSign (l : Launch) (dC : Nat → ClassId) (dI : Nat → Nat → Nat) (sz : Nat) (a0 : Nat) (a1 : Nat) (a2 : Nat) (k0 : ClassId) : Met l y_Tokens_isSign w_Tokens_isSign ({ frames := 0, cells := 0, slots := 0, locals := 0 }) (va_Pc [.ref a0, .int 0, .int 96] (fun U => U.heap.size = sz ∧ va_P (dC, dI) vcl [(a0, .inr (11, [.ref a1, .ref a2, .int 2])), (a1, .inl (k0, 362, .inl (upd (upd (fun _ => 0) 0 4) 1 4)))] U.heap ∧ va_K (dC, dI) vcl [(k0, .int)] U ∧ va_D (fun _ => True) [(a0, .inr (11, [.ref a1, .ref a2, .int 2])), (a1, .inl (k0, 362, .inl (upd (upd (fun _ => 0) 0 4) 1 4)))])) (va_Qi (fun (r : Int32) (_ : Unit) => r = 0) (fun _ t => va_P (dC, dI) vcl [(a0, .inr (11, [.ref a1, .ref a2, .int 2])), (a1, .inl (k0, 362, .inl (upd (upd (fun _ => 0) 0 4) 1 4)))] t.heap ∧ va_K (dC, dI) vcl [(k0, .int)] t ∧ va_D (va_A [(a0, .inr (11, [.ref a1, .ref a2, .int 2])), (a1, .inl (k0, 362, .inl (upd (upd (fun _ => 0) 0 4) 1 4)))] sz) [(a0, .inr (11, [.ref a1, .ref a2, .int 2])), (a1, .inl (k0, 362, .inl (upd (upd (fun _ => 0) 0 4) 1 4)))]) (va_A [(a0, .inr (11, [.ref a1, .ref a2, .int 2])), (a1, .inl (k0, 362, .inl (upd (upd (fun _ => 0) 0 4) 1 4)))] sz)) 0 0 (va_A [(a0, .inr (11, [.ref a1, .ref a2, .int 2])), (a1, .inl (k0, 362, .inl (upd (upd (fun _ => 0) 0 4) 1 4)))] sz) := by
  refine Met.ofW (cc := b_Tokens_isSign) (maxL := 3) (ret := (some .boolean)) (by decide) rfl ?_
  intro p e s m args below meth c s₁ B hml hv
  obtain ⟨rfl, hsz, hP, hK, hD0⟩ := hv
  have hx := B.exec
  have hb := B.bytes
  have hr := B.returns
  have hts := atoms_spec (ws := w_Tokens_isSign) B.pre
  have hz : ∀ w ∈ wz, w.before _ s = true := fun w h => hts w (List.mem_cons_of_mem _ h)
  have hown : s.vm.findClass R_Tokens = some m.cls := findClass_of_methodNamed B.named
  have hlocks := B.notSynchronized
  subst hsz
  have hD := hD0.self (sz := s.heap.size)
  generalize hAe : va_A [(a0, .inr (11, [.ref a1, .ref a2, .int 2])), (a1, .inl (k0, 362, .inl (upd (upd (fun _ => 0) 0 4) 1 4)))] s.heap.size = A at hD ⊢
  have hA : ∀ q : Nat, s.heap.size ≤ q → A q := fun q h => by rw [← hAe]; exact Or.inr h
  have hS : va_S A s.heap s.heap [] := va_S.rf
  have hP : va_P (dC, dI) vcl [(a0, .inr (11, [.ref a1, .ref a2, .int 2])), (a1, .inl (k0, 362, .inl (upd (upd (fun _ => 0) 0 4) 1 4)))] s.heap := hP
  have hl := lv_entry ([.ref a0, .int 0, .int 96]) (n := 3) (Nat.le_of_ble_eq_true rfl)
  rw [lg_entry_eq]
  generalize (lg_sl ([.ref a0, .int 0, .int 96]) ++ List.replicate (3 - (lg_sl ([.ref a0, .int 0, .int 96])).length) Slot.unset).toArray = ls at hl ⊢
  have hl : lv_has ls 3 [(0, .ref a0), (1, .int 0), (2, .int 96)] := hl
  refine lv_iload_n hx hb d_Tokens_isSign_0 rfl (lv_at hl 1 rfl) ?_
  refine lv_if_lt (tgt := 38) hx hb d_Tokens_isSign_1 (by decide) (fun h => absurd h (by decide +kernel)) (fun _ => ?_)
  refine lv_iload_n hx hb d_Tokens_isSign_4 rfl (lv_at hl 1 rfl) ?_
  refine lv_aload_n hx hb d_Tokens_isSign_5 rfl (lv_at hl 0 rfl) ?_
  refine va_get (D := (dC, dI)) (ci := 11) (v := .int 2) (C := R_Tokens) (T := F_Tokens) (N := 3) hx hb hz zu_Tokens hown hK hP 0 rfl rfl 2 (by decide) (hz (.fieldLink R_Tokens 19 "LayoutFront$Tokens" "size" "I") zm_111) (fun _ h9 => h9) rfl d_Tokens_isSign_6 ?_
  refine lv_icmp_ge (tgt := 38) hx hb d_Tokens_isSign_9 (by decide) (fun h => absurd h (by decide +kernel)) (fun _ => ?_)
  refine lv_aload_n hx hb d_Tokens_isSign_12 rfl (lv_at hl 0 rfl) ?_
  refine va_get (D := (dC, dI)) (ci := 11) (v := .ref a1) (C := R_Tokens) (T := F_Tokens) (N := 3) hx hb hz zu_Tokens hown hK hP 0 rfl rfl 0 (by decide) (hz (.fieldLink R_Tokens 9 "LayoutFront$Tokens" "kinds" "[I") zm_12) (fun _ h9 => h9) rfl d_Tokens_isSign_13 ?_
  refine lv_iload_n hx hb d_Tokens_isSign_16 rfl (lv_at hl 1 rfl) ?_
  refine xr_iald (v := 4) hx hb hK hP 1 0 rfl rfl (xr_in (by decide +kernel)) (by decide +kernel) d_Tokens_isSign_17 ?_
  refine lv_iconst (v := 3) hx hb d_Tokens_isSign_18 (by decide) ?_
  refine lv_icmp_ne (tgt := 38) hx hb d_Tokens_isSign_19 (by decide) (fun _ => ?_) (fun h => absurd h (by decide +kernel))
  refine lv_iconst (v := 0) hx hb d_Tokens_isSign_38 (by decide) ?_
  have hP9 := hP.sub (ws' := [(a0, .inr (11, [.ref a1, .ref a2, .int 2])), (a1, .inl (k0, 362, .inl (upd (upd (fun _ => 0) 0 4) 1 4)))]) [0, 1] rfl
  have hD9 := hD.sub (ws' := [(a0, .inr (11, [.ref a1, .ref a2, .int 2])), (a1, .inl (k0, 362, .inl (upd (upd (fun _ => 0) 0 4) 1 4)))]) [0, 1] (by decide) rfl
  have hK9 := hK.sub (tys' := [(k0, .int)]) [0] rfl
  exact W.zret (v := 0) hx hb hr (by decide +kernel) (fun t ht hW => ⟨⟨0, (), rfl, rfl, by rw [ht]; exact hP9, va_K.moved hW.alike hK9, hD9⟩, hS.F ht⟩) hS.2.2 d_Tokens_isSign_39
set_option maxHeartbeats 4000000 in
set_option maxRecDepth 100000 in
theorem c63_Tokens_isFreeOperator (l : Launch) (dC : Nat → ClassId) (dI : Nat → Nat → Nat) (sz : Nat) (a0 : Nat) (a1 : Nat) (a2 : Nat) (k0 : ClassId) : Met l y_Tokens_isFreeOperator w_Tokens_isFreeOperator ({ frames := 1, cells := 0, slots := 0, locals := 21 }) (va_Pc [.ref a0, .int 0] (fun U => U.heap.size = sz ∧ va_P (dC, dI) vcl [(a0, .inr (11, [.ref a1, .ref a2, .int 2])), (a1, .inl (k0, 362, .inl (upd (upd (fun _ => 0) 0 4) 1 4)))] U.heap ∧ va_K (dC, dI) vcl [(k0, .int)] U ∧ va_D (fun _ => True) [(a0, .inr (11, [.ref a1, .ref a2, .int 2])), (a1, .inl (k0, 362, .inl (upd (upd (fun _ => 0) 0 4) 1 4)))])) (va_Qi (fun (r : Int32) (_ : Unit) => r = 0) (fun _ t => va_P (dC, dI) vcl [(a0, .inr (11, [.ref a1, .ref a2, .int 2])), (a1, .inl (k0, 362, .inl (upd (upd (fun _ => 0) 0 4) 1 4)))] t.heap ∧ va_K (dC, dI) vcl [(k0, .int)] t ∧ va_D (va_A [(a0, .inr (11, [.ref a1, .ref a2, .int 2])), (a1, .inl (k0, 362, .inl (upd (upd (fun _ => 0) 0 4) 1 4)))] sz) [(a0, .inr (11, [.ref a1, .ref a2, .int 2])), (a1, .inl (k0, 362, .inl (upd (upd (fun _ => 0) 0 4) 1 4)))]) (va_A [(a0, .inr (11, [.ref a1, .ref a2, .int 2])), (a1, .inl (k0, 362, .inl (upd (upd (fun _ => 0) 0 4) 1 4)))] sz)) 0 0 (va_A [(a0, .inr (11, [.ref a1, .ref a2, .int 2])), (a1, .inl (k0, 362, .inl (upd (upd (fun _ => 0) 0 4) 1 4)))] sz) := by
  refine Met.ofW (cc := b_Tokens_isFreeOperator) (maxL := 2) (ret := (some .boolean)) (by decide) rfl ?_
  intro p e s m args below meth c s₁ B hml hv
  obtain ⟨rfl, hsz, hP, hK, hD0⟩ := hv
  have hx := B.exec
  have hb := B.bytes
  have hr := B.returns
  have hts := atoms_spec (ws := w_Tokens_isFreeOperator) B.pre
  have hz : ∀ w ∈ wz, w.before _ s = true := fun w h => hts w (List.mem_cons_of_mem _ h)
  have hown : s.vm.findClass R_Tokens = some m.cls := findClass_of_methodNamed B.named
  have hlocks := B.notSynchronized
  subst hsz
  have hD := hD0.self (sz := s.heap.size)
  generalize hAe : va_A [(a0, .inr (11, [.ref a1, .ref a2, .int 2])), (a1, .inl (k0, 362, .inl (upd (upd (fun _ => 0) 0 4) 1 4)))] s.heap.size = A at hD ⊢
  have hA : ∀ q : Nat, s.heap.size ≤ q → A q := fun q h => by rw [← hAe]; exact Or.inr h
  have hS : va_S A s.heap s.heap [] := va_S.rf
  have hP : va_P (dC, dI) vcl [(a0, .inr (11, [.ref a1, .ref a2, .int 2])), (a1, .inl (k0, 362, .inl (upd (upd (fun _ => 0) 0 4) 1 4)))] s.heap := hP
  have hl := lv_entry ([.ref a0, .int 0]) (n := 2) (Nat.le_of_ble_eq_true rfl)
  rw [lg_entry_eq]
  generalize (lg_sl ([.ref a0, .int 0]) ++ List.replicate (2 - (lg_sl ([.ref a0, .int 0])).length) Slot.unset).toArray = ls at hl ⊢
  have hl : lv_has ls 2 [(0, .ref a0), (1, .int 0)] := hl
  refine lv_aload_n hx hb d_Tokens_isFreeOperator_0 rfl (lv_at hl 0 rfl) ?_
  refine lv_iload_n hx hb d_Tokens_isFreeOperator_1 rfl (lv_at hl 1 rfl) ?_
  have hPc := hP.sub (ws' := [(a0, .inr (11, [.ref a1, .ref a2, .int 2]))]) [0] rfl
  have hDc := hD.sub (ws' := [(a0, .inr (11, [.ref a1, .ref a2, .int 2]))]) [0] (by decide) rfl
  have hKc := hK.sub (tys' := []) [] rfl
  have hFc := va_free (wc := [(a0, .inr (11, [.ref a1, .ref a2, .int 2]))]) hD hS hA [0] rfl
  refine va_calli (va_runV (As := [.int 0]) (rest := []) ⟨hx, hb, hml, hown, hz⟩ (c58_Tokens_has l dC dI s.heap.size a0 a1 a2) (cwV 1 hz (zV zm_135 zm_136 zm_137 zm_17 zm_138) rfl rfl rfl (by decide +kernel) ⟨Nat.le_of_ble_eq_true rfl, Nat.le_of_ble_eq_true rfl⟩) ⟨fun a U g mk q => by obtain ⟨q0, q1, qP, qK, qD⟩ := q; exact ⟨q0, q1, qP, va_K.moved (u := U) (U := U.calling g mk a) (Vm.Alike.refl U.vm) qK, qD⟩, va_recv (q := (R_Tokens, F_Tokens, 3)) (q0 := 0) (ci := 11) hK hP rfl rfl, fun U hU hW => ⟨rfl, by rw [hU], by rw [hU]; exact hPc, va_K.moved hW.alike hKc, hDc.weaken (fun _ _ _ _ => trivial)⟩⟩ rfl rfl hl.1 rfl (lv_room (Nat.le_of_ble_eq_true rfl)) d_Tokens_isFreeOperator_2 ⟨by decide, by decide⟩) hS (fun q _ h => hFc q h) hFc (fun r u t H1 locs ht hvm hw hB hz1 hk1 hS => ?_)
  obtain ⟨hP1, hK1, hD1⟩ := hB
  subst r
  rw [ht] at hP1
  obtain ⟨hP, hD⟩ := va_join (wr := [(a1, .inl (k0, 362, .inl (upd (upd (fun _ => 0) 0 4) 1 4)))]) (w1 := [(a0, .inr (11, [.ref a1, .ref a2, .int 2]))]) hP hD [0] [1] rfl rfl (by decide) (by decide) hk1 hFc hP1 hD1
  generalize H1 = H at hP hS ⊢
  have hP : va_P (dC, dI) vcl [(a1, .inl (k0, 362, .inl (upd (upd (fun _ => 0) 0 4) 1 4))), (a0, .inr (11, [.ref a1, .ref a2, .int 2]))] H := hP
  have hD : va_D A [(a1, .inl (k0, 362, .inl (upd (upd (fun _ => 0) 0 4) 1 4))), (a0, .inr (11, [.ref a1, .ref a2, .int 2]))] := hD
  refine lv_if_eq (tgt := 38) hx hb d_Tokens_isFreeOperator_5 (by decide) (fun h => absurd h (by decide +kernel)) (fun _ => ?_)
  refine lv_aload_n hx hb d_Tokens_isFreeOperator_8 rfl (lv_at hl 0 rfl) ?_
  refine va_get (D := (dC, dI)) (ci := 11) (v := .ref a1) (C := R_Tokens) (T := F_Tokens) (N := 3) hx hb hz zu_Tokens hown hK hP 1 rfl rfl 0 (by decide) (hz (.fieldLink R_Tokens 9 "LayoutFront$Tokens" "kinds" "[I") zm_12) (fun _ h9 => h9) rfl d_Tokens_isFreeOperator_9 ?_
  refine lv_iload_n hx hb d_Tokens_isFreeOperator_12 rfl (lv_at hl 1 rfl) ?_
  refine xr_iald (v := 4) hx hb hK hP 0 0 rfl rfl (xr_in (by decide +kernel)) (by decide +kernel) d_Tokens_isFreeOperator_13 ?_
  refine lv_iconst (v := 2) hx hb d_Tokens_isFreeOperator_14 (by decide) ?_
  refine lv_icmp_ne (tgt := 38) hx hb d_Tokens_isFreeOperator_15 (by decide) (fun _ => ?_) (fun h => absurd h (by decide +kernel))
  refine lv_iconst (v := 0) hx hb d_Tokens_isFreeOperator_38 (by decide) ?_
  have hP9 := hP.sub (ws' := [(a0, .inr (11, [.ref a1, .ref a2, .int 2])), (a1, .inl (k0, 362, .inl (upd (upd (fun _ => 0) 0 4) 1 4)))]) [1, 0] rfl
  have hD9 := hD.sub (ws' := [(a0, .inr (11, [.ref a1, .ref a2, .int 2])), (a1, .inl (k0, 362, .inl (upd (upd (fun _ => 0) 0 4) 1 4)))]) [1, 0] (by decide) rfl
  have hK9 := hK.sub (tys' := [(k0, .int)]) [0] rfl
  exact W.zret (v := 0) hx hb hr (by decide +kernel) (fun t ht hW => ⟨⟨0, (), rfl, rfl, by rw [ht]; exact hP9, va_K.moved hW.alike hK9, hD9⟩, hS.F ht⟩) hS.2.2 d_Tokens_isFreeOperator_39
set_option maxHeartbeats 4000000 in
set_option maxRecDepth 100000 in
theorem c64_Rows_behindOperation (l : Launch) (dC : Nat → ClassId) (dI : Nat → Nat → Nat) (sz : Nat) (a0 : Nat) (a1 : Nat) (a2 : Nat) (k0 : ClassId) : Met l y_Rows_behindOperation w_Rows_behindOperation ({ frames := 2, cells := 0, slots := 0, locals := 42 }) (va_Pc [.ref a0, .int 0] (fun U => U.heap.size = sz ∧ va_P (dC, dI) vcl [(a0, .inr (11, [.ref a1, .ref a2, .int 2])), (a1, .inl (k0, 362, .inl (upd (upd (fun _ => 0) 0 4) 1 4)))] U.heap ∧ va_K (dC, dI) vcl [(k0, .int)] U ∧ va_D (fun _ => True) [(a0, .inr (11, [.ref a1, .ref a2, .int 2])), (a1, .inl (k0, 362, .inl (upd (upd (fun _ => 0) 0 4) 1 4)))])) (va_Qi (fun (r : Int32) (_ : Unit) => r = 0) (fun _ t => va_P (dC, dI) vcl [(a0, .inr (11, [.ref a1, .ref a2, .int 2])), (a1, .inl (k0, 362, .inl (upd (upd (fun _ => 0) 0 4) 1 4)))] t.heap ∧ va_K (dC, dI) vcl [(k0, .int)] t ∧ va_D (va_A [(a0, .inr (11, [.ref a1, .ref a2, .int 2])), (a1, .inl (k0, 362, .inl (upd (upd (fun _ => 0) 0 4) 1 4)))] sz) [(a0, .inr (11, [.ref a1, .ref a2, .int 2])), (a1, .inl (k0, 362, .inl (upd (upd (fun _ => 0) 0 4) 1 4)))]) (va_A [(a0, .inr (11, [.ref a1, .ref a2, .int 2])), (a1, .inl (k0, 362, .inl (upd (upd (fun _ => 0) 0 4) 1 4)))] sz)) 0 0 (va_A [(a0, .inr (11, [.ref a1, .ref a2, .int 2])), (a1, .inl (k0, 362, .inl (upd (upd (fun _ => 0) 0 4) 1 4)))] sz) := by
  refine Met.ofW (cc := b_Rows_behindOperation) (maxL := 2) (ret := (some .int)) (by decide) rfl ?_
  intro p e s m args below meth c s₁ B hml hv
  obtain ⟨rfl, hsz, hP, hK, hD0⟩ := hv
  have hx := B.exec
  have hb := B.bytes
  have hr := B.returns
  have hts := atoms_spec (ws := w_Rows_behindOperation) B.pre
  have hz : ∀ w ∈ wz, w.before _ s = true := fun w h => hts w (List.mem_cons_of_mem _ h)
  have hown : s.vm.findClass R_Rows = some m.cls := findClass_of_methodNamed B.named
  have hlocks := B.notSynchronized
  subst hsz
  have hD := hD0.self (sz := s.heap.size)
  generalize hAe : va_A [(a0, .inr (11, [.ref a1, .ref a2, .int 2])), (a1, .inl (k0, 362, .inl (upd (upd (fun _ => 0) 0 4) 1 4)))] s.heap.size = A at hD ⊢
  have hA : ∀ q : Nat, s.heap.size ≤ q → A q := fun q h => by rw [← hAe]; exact Or.inr h
  have hS : va_S A s.heap s.heap [] := va_S.rf
  have hP : va_P (dC, dI) vcl [(a0, .inr (11, [.ref a1, .ref a2, .int 2])), (a1, .inl (k0, 362, .inl (upd (upd (fun _ => 0) 0 4) 1 4)))] s.heap := hP
  have hl := lv_entry ([.ref a0, .int 0]) (n := 2) (Nat.le_of_ble_eq_true rfl)
  rw [lg_entry_eq]
  generalize (lg_sl ([.ref a0, .int 0]) ++ List.replicate (2 - (lg_sl ([.ref a0, .int 0])).length) Slot.unset).toArray = ls at hl ⊢
  have hl : lv_has ls 2 [(0, .ref a0), (1, .int 0)] := hl
  refine lv_aload_n hx hb d_Rows_behindOperation_0 rfl (lv_at hl 0 rfl) ?_
  refine lv_iload_n hx hb d_Rows_behindOperation_1 rfl (lv_at hl 1 rfl) ?_
  refine lv_bipush (v := 96) hx hb d_Rows_behindOperation_2 (by decide) ?_
  have hPc := hP.sub (ws' := [(a0, .inr (11, [.ref a1, .ref a2, .int 2])), (a1, .inl (k0, 362, .inl (upd (upd (fun _ => 0) 0 4) 1 4)))]) [0, 1] rfl
  have hDc := hD.sub (ws' := [(a0, .inr (11, [.ref a1, .ref a2, .int 2])), (a1, .inl (k0, 362, .inl (upd (upd (fun _ => 0) 0 4) 1 4)))]) [0, 1] (by decide) rfl
  have hKc := hK.sub (tys' := [(k0, .int)]) [0] rfl
  have hFc := va_free (wc := [(a0, .inr (11, [.ref a1, .ref a2, .int 2])), (a1, .inl (k0, 362, .inl (upd (upd (fun _ => 0) 0 4) 1 4)))]) hD hS hA [0, 1] rfl
  refine va_calli (va_runV (As := [.int 0, .int 96]) (rest := []) ⟨hx, hb, hml, hown, hz⟩ (c62_Tokens_isSign l dC dI s.heap.size a0 a1 a2 k0) (cwV 2 hz (zV zm_226 zm_140 zm_141 zm_17 zm_142) rfl rfl rfl (by decide +kernel) ⟨Nat.le_of_ble_eq_true rfl, Nat.le_of_ble_eq_true rfl⟩) ⟨fun a U g mk q => by obtain ⟨q0, q1, qP, qK, qD⟩ := q; exact ⟨q0, q1, qP, va_K.moved (u := U) (U := U.calling g mk a) (Vm.Alike.refl U.vm) qK, qD⟩, va_recv (q := (R_Tokens, F_Tokens, 3)) (q0 := 0) (ci := 11) hK hP rfl rfl, fun U hU hW => ⟨rfl, by rw [hU], by rw [hU]; exact hPc, va_K.moved hW.alike hKc, hDc.weaken (fun _ _ _ _ => trivial)⟩⟩ rfl rfl hl.1 rfl (lv_room (Nat.le_of_ble_eq_true rfl)) d_Rows_behindOperation_4 ⟨by decide, by decide⟩) hS (fun q _ h => hFc q h) hFc (fun r u t H1 locs ht hvm hw hB hz1 hk1 hS => ?_)
  obtain ⟨hP1, hK1, hD1⟩ := hB
  subst r
  rw [ht] at hP1
  obtain ⟨hP, hD⟩ := va_join (wr := []) (w1 := [(a0, .inr (11, [.ref a1, .ref a2, .int 2])), (a1, .inl (k0, 362, .inl (upd (upd (fun _ => 0) 0 4) 1 4)))]) hP hD [0, 1] [] rfl rfl (by decide) (by decide) hk1 hFc hP1 hD1
  generalize H1 = H at hP hS ⊢
  have hP : va_P (dC, dI) vcl [(a0, .inr (11, [.ref a1, .ref a2, .int 2])), (a1, .inl (k0, 362, .inl (upd (upd (fun _ => 0) 0 4) 1 4)))] H := hP
  have hD : va_D A [(a0, .inr (11, [.ref a1, .ref a2, .int 2])), (a1, .inl (k0, 362, .inl (upd (upd (fun _ => 0) 0 4) 1 4)))] := hD
  refine lv_if_eq (tgt := 36) hx hb d_Rows_behindOperation_7 (by decide) (fun _ => ?_) (fun h => (h (by decide +kernel)).elim)
  refine lv_aload_n hx hb d_Rows_behindOperation_36 rfl (lv_at hl 0 rfl) ?_
  refine lv_iload_n hx hb d_Rows_behindOperation_37 rfl (lv_at hl 1 rfl) ?_
  have hPc := hP.sub (ws' := [(a0, .inr (11, [.ref a1, .ref a2, .int 2])), (a1, .inl (k0, 362, .inl (upd (upd (fun _ => 0) 0 4) 1 4)))]) [0, 1] rfl
  have hDc := hD.sub (ws' := [(a0, .inr (11, [.ref a1, .ref a2, .int 2])), (a1, .inl (k0, 362, .inl (upd (upd (fun _ => 0) 0 4) 1 4)))]) [0, 1] (by decide) rfl
  have hKc := hK.sub (tys' := [(k0, .int)]) [0] rfl
  have hFc := va_free (wc := [(a0, .inr (11, [.ref a1, .ref a2, .int 2])), (a1, .inl (k0, 362, .inl (upd (upd (fun _ => 0) 0 4) 1 4)))]) hD hS hA [0, 1] rfl
  refine va_calli (va_runV (As := [.int 0]) (rest := []) ⟨hx, hb, hml, hown, hz⟩ (c63_Tokens_isFreeOperator l dC dI H.size a0 a1 a2 k0) (cwV 1 hz (zV zm_227 zm_228 zm_229 zm_17 zm_230) rfl rfl rfl (by decide +kernel) ⟨Nat.le_of_ble_eq_true rfl, Nat.le_of_ble_eq_true rfl⟩) ⟨fun a U g mk q => by obtain ⟨q0, q1, qP, qK, qD⟩ := q; exact ⟨q0, q1, qP, va_K.moved (u := U) (U := U.calling g mk a) (Vm.Alike.refl U.vm) qK, qD⟩, va_recv (q := (R_Tokens, F_Tokens, 3)) (q0 := 0) (ci := 11) hK hP rfl rfl, fun U hU hW => ⟨rfl, by rw [hU], by rw [hU]; exact hPc, va_K.moved hW.alike hKc, hDc.weaken (fun _ _ _ _ => trivial)⟩⟩ rfl rfl hl.1 rfl (lv_room (Nat.le_of_ble_eq_true rfl)) d_Rows_behindOperation_38 ⟨by decide, by decide⟩) hS (fun q _ h => hFc q h) hFc (fun r u t H1 locs ht hvm hw hB hz1 hk1 hS => ?_)
  obtain ⟨hP1, hK1, hD1⟩ := hB
  subst r
  rw [ht] at hP1
  obtain ⟨hP, hD⟩ := va_join (wr := []) (w1 := [(a0, .inr (11, [.ref a1, .ref a2, .int 2])), (a1, .inl (k0, 362, .inl (upd (upd (fun _ => 0) 0 4) 1 4)))]) hP hD [0, 1] [] rfl rfl (by decide) (by decide) hk1 hFc hP1 hD1
  generalize H1 = H at hP hS ⊢
  have hP : va_P (dC, dI) vcl [(a0, .inr (11, [.ref a1, .ref a2, .int 2])), (a1, .inl (k0, 362, .inl (upd (upd (fun _ => 0) 0 4) 1 4)))] H := hP
  have hD : va_D A [(a0, .inr (11, [.ref a1, .ref a2, .int 2])), (a1, .inl (k0, 362, .inl (upd (upd (fun _ => 0) 0 4) 1 4)))] := hD
  refine lv_if_eq (tgt := 50) hx hb d_Rows_behindOperation_41 (by decide) (fun _ => ?_) (fun h => (h (by decide +kernel)).elim)
  refine lv_iload_n hx hb d_Rows_behindOperation_50 rfl (lv_at hl 1 rfl) ?_
  have hP9 := hP.sub (ws' := [(a0, .inr (11, [.ref a1, .ref a2, .int 2])), (a1, .inl (k0, 362, .inl (upd (upd (fun _ => 0) 0 4) 1 4)))]) [0, 1] rfl
  have hD9 := hD.sub (ws' := [(a0, .inr (11, [.ref a1, .ref a2, .int 2])), (a1, .inl (k0, 362, .inl (upd (upd (fun _ => 0) 0 4) 1 4)))]) [0, 1] (by decide) rfl
  have hK9 := hK.sub (tys' := [(k0, .int)]) [0] rfl
  exact W.iret (v := 0) hx hb hr (fun t ht hW => ⟨⟨0, (), rfl, rfl, by rw [ht]; exact hP9, va_K.moved hW.alike hK9, hD9⟩, hS.F ht⟩) hS.2.2 d_Rows_behindOperation_51
set_option maxHeartbeats 4000000 in
set_option maxRecDepth 100000 in
theorem c65_Rows_collectRow (l : Launch) (dC : Nat → ClassId) (dI : Nat → Nat → Nat) (sz : Nat) (a0 : Nat) (a1 : Nat) (a2 : Nat) (a3 : Nat) (a4 : Nat) (a5 : Nat) (a6 : Nat) (a7 : Nat) (a8 : Nat) (a9 : Nat) (a10 : Nat) (a11 : Nat) (a12 : Nat) (k0 : ClassId) : Met l y_Rows_collectRow w_Rows_collectRow ({ frames := 3, cells := 0, slots := 0, locals := 65 }) (va_Pc [.ref a0, .ref a1, .int 0, .int 2] (fun U => U.heap.size = sz ∧ va_P (dC, dI) vcl [(a1, .inr (11, [.ref a2, .ref a4, .int 2])), (a2, .inl (k0, 362, .inl (upd (upd (fun _ => 0) 0 4) 1 4))), (a0, .inr (9, [.ref a5, .ref a6, .ref a7, .ref a8, .ref a3, .ref a9, .int 0, .int 0])), (a3, .inr (8, [.ref a10, .ref a11, .ref a12, .int 0, .int 0, .int 0]))] U.heap ∧ va_K (dC, dI) vcl [(k0, .int)] U ∧ va_D (fun _ => True) [(a1, .inr (11, [.ref a2, .ref a4, .int 2])), (a2, .inl (k0, 362, .inl (upd (upd (fun _ => 0) 0 4) 1 4))), (a0, .inr (9, [.ref a5, .ref a6, .ref a7, .ref a8, .ref a3, .ref a9, .int 0, .int 0])), (a3, .inr (8, [.ref a10, .ref a11, .ref a12, .int 0, .int 0, .int 0]))])) (va_Qi (fun (r : Int32) (_ : Unit) => r = 0) (fun _ t => va_P (dC, dI) vcl [(a1, .inr (11, [.ref a2, .ref a4, .int 2])), (a2, .inl (k0, 362, .inl (upd (upd (fun _ => 0) 0 4) 1 4))), (a0, .inr (9, [.ref a5, .ref a6, .ref a7, .ref a8, .ref a3, .ref a9, .int 0, .int 0])), (a3, .inr (8, [.ref a10, .ref a11, .ref a12, .int 0, .int 0, .int 0]))] t.heap ∧ va_K (dC, dI) vcl [(k0, .int)] t ∧ va_D (va_A [(a1, .inr (11, [.ref a2, .ref a4, .int 2])), (a2, .inl (k0, 362, .inl (upd (upd (fun _ => 0) 0 4) 1 4))), (a0, .inr (9, [.ref a5, .ref a6, .ref a7, .ref a8, .ref a3, .ref a9, .int 0, .int 0])), (a3, .inr (8, [.ref a10, .ref a11, .ref a12, .int 0, .int 0, .int 0]))] sz) [(a1, .inr (11, [.ref a2, .ref a4, .int 2])), (a2, .inl (k0, 362, .inl (upd (upd (fun _ => 0) 0 4) 1 4))), (a0, .inr (9, [.ref a5, .ref a6, .ref a7, .ref a8, .ref a3, .ref a9, .int 0, .int 0])), (a3, .inr (8, [.ref a10, .ref a11, .ref a12, .int 0, .int 0, .int 0]))]) (va_A [(a1, .inr (11, [.ref a2, .ref a4, .int 2])), (a2, .inl (k0, 362, .inl (upd (upd (fun _ => 0) 0 4) 1 4))), (a0, .inr (9, [.ref a5, .ref a6, .ref a7, .ref a8, .ref a3, .ref a9, .int 0, .int 0])), (a3, .inr (8, [.ref a10, .ref a11, .ref a12, .int 0, .int 0, .int 0]))] sz)) 0 0 (va_A [(a1, .inr (11, [.ref a2, .ref a4, .int 2])), (a2, .inl (k0, 362, .inl (upd (upd (fun _ => 0) 0 4) 1 4))), (a0, .inr (9, [.ref a5, .ref a6, .ref a7, .ref a8, .ref a3, .ref a9, .int 0, .int 0])), (a3, .inr (8, [.ref a10, .ref a11, .ref a12, .int 0, .int 0, .int 0]))] sz) := by
  refine Met.ofW (cc := b_Rows_collectRow) (maxL := 8) (ret := (some .int)) (by decide) rfl ?_
  intro p e s m args below meth c s₁ B hml hv
  obtain ⟨rfl, hsz, hP, hK, hD0⟩ := hv
  have hx := B.exec
  have hb := B.bytes
  have hr := B.returns
  have hts := atoms_spec (ws := w_Rows_collectRow) B.pre
  have hz : ∀ w ∈ wz, w.before _ s = true := fun w h => hts w (List.mem_cons_of_mem _ h)
  have hown : s.vm.findClass R_Rows = some m.cls := findClass_of_methodNamed B.named
  have hlocks := B.notSynchronized
  subst hsz
  have hD := hD0.self (sz := s.heap.size)
  generalize hAe : va_A [(a1, .inr (11, [.ref a2, .ref a4, .int 2])), (a2, .inl (k0, 362, .inl (upd (upd (fun _ => 0) 0 4) 1 4))), (a0, .inr (9, [.ref a5, .ref a6, .ref a7, .ref a8, .ref a3, .ref a9, .int 0, .int 0])), (a3, .inr (8, [.ref a10, .ref a11, .ref a12, .int 0, .int 0, .int 0]))] s.heap.size = A at hD ⊢
  have hA : ∀ q : Nat, s.heap.size ≤ q → A q := fun q h => by rw [← hAe]; exact Or.inr h
  have hS : va_S A s.heap s.heap [] := va_S.rf
  have hP : va_P (dC, dI) vcl [(a1, .inr (11, [.ref a2, .ref a4, .int 2])), (a2, .inl (k0, 362, .inl (upd (upd (fun _ => 0) 0 4) 1 4))), (a0, .inr (9, [.ref a5, .ref a6, .ref a7, .ref a8, .ref a3, .ref a9, .int 0, .int 0])), (a3, .inr (8, [.ref a10, .ref a11, .ref a12, .int 0, .int 0, .int 0]))] s.heap := hP
  have hl := lv_entry ([.ref a0, .ref a1, .int 0, .int 2]) (n := 8) (Nat.le_of_ble_eq_true rfl)
  rw [lg_entry_eq]
  generalize (lg_sl ([.ref a0, .ref a1, .int 0, .int 2]) ++ List.replicate (8 - (lg_sl ([.ref a0, .ref a1, .int 0, .int 2])).length) Slot.unset).toArray = ls at hl ⊢
  have hl : lv_has ls 8 [(0, .ref a0), (1, .ref a1), (2, .int 0), (3, .int 2)] := hl
  refine lv_aload_n hx hb d_Rows_collectRow_0 rfl (lv_at hl 0 rfl) ?_
  refine va_get (D := (dC, dI)) (ci := 9) (v := .ref a3) (C := R_Rows) (T := F_Rows) (N := 8) hx hb hz zu_Rows hown hK hP 2 rfl rfl 4 (by decide) (hz (.fieldLink R_Rows 27 "LayoutFront$Rows" "row" "LLayoutFront$Row;") zm_68) (fun _ h9 => h9) rfl d_Rows_collectRow_1 ?_
  have hPc := hP.sub (ws' := [(a3, .inr (8, [.ref a10, .ref a11, .ref a12, .int 0, .int 0, .int 0]))]) [3] rfl
  have hDc := hD.sub (ws' := [(a3, .inr (8, [.ref a10, .ref a11, .ref a12, .int 0, .int 0, .int 0]))]) [3] (by decide) rfl
  have hKc := hK.sub (tys' := []) [] rfl
  have hFc := va_free (wc := [(a3, .inr (8, [.ref a10, .ref a11, .ref a12, .int 0, .int 0, .int 0]))]) hD hS hA [3] rfl
  refine va_callv (va_runV (As := []) (rest := []) ⟨hx, hb, hml, hown, hz⟩ (c57_Row_clear l dC dI s.heap.size a3 a10 a11 a12) (cwV 0 hz (zV zm_231 zm_232 zm_233 zm_65 zm_234) rfl rfl rfl (by decide +kernel) ⟨Nat.le_of_ble_eq_true rfl, Nat.le_of_ble_eq_true rfl⟩) ⟨fun a U g mk q => by obtain ⟨q0, q1, qP, qK, qD⟩ := q; exact ⟨q0, q1, qP, va_K.moved (u := U) (U := U.calling g mk a) (Vm.Alike.refl U.vm) qK, qD⟩, va_recv (q := (R_Row, F_Row, 6)) (q0 := 3) (ci := 8) hK hP rfl rfl, fun U hU hW => ⟨rfl, by rw [hU], by rw [hU]; exact hPc, va_K.moved hW.alike hKc, hDc.weaken (fun _ _ _ _ => trivial)⟩⟩ rfl rfl hl.1 rfl (lv_room (Nat.le_of_ble_eq_true rfl)) d_Rows_collectRow_4 ⟨by decide, by decide⟩) hS (fun q _ h => hFc q h) hFc (fun u t H1 locs ht hvm hw hB hz1 hk1 hS => ?_)
  obtain ⟨hP1, hK1, hD1⟩ := hB
  rw [ht] at hP1
  obtain ⟨hP, hD⟩ := va_join (wr := [(a1, .inr (11, [.ref a2, .ref a4, .int 2])), (a2, .inl (k0, 362, .inl (upd (upd (fun _ => 0) 0 4) 1 4))), (a0, .inr (9, [.ref a5, .ref a6, .ref a7, .ref a8, .ref a3, .ref a9, .int 0, .int 0]))]) (w1 := [(a3, .inr (8, [.ref a10, .ref a11, .ref a12, .int 0, .int 0, .int 0]))]) hP hD [3] [0, 1, 2] rfl rfl (by decide) (by decide) hk1 hFc hP1 hD1
  generalize H1 = H at hP hS ⊢
  have hP : va_P (dC, dI) vcl [(a1, .inr (11, [.ref a2, .ref a4, .int 2])), (a2, .inl (k0, 362, .inl (upd (upd (fun _ => 0) 0 4) 1 4))), (a0, .inr (9, [.ref a5, .ref a6, .ref a7, .ref a8, .ref a3, .ref a9, .int 0, .int 0])), (a3, .inr (8, [.ref a10, .ref a11, .ref a12, .int 0, .int 0, .int 0]))] H := hP
  have hD : va_D A [(a1, .inr (11, [.ref a2, .ref a4, .int 2])), (a2, .inl (k0, 362, .inl (upd (upd (fun _ => 0) 0 4) 1 4))), (a0, .inr (9, [.ref a5, .ref a6, .ref a7, .ref a8, .ref a3, .ref a9, .int 0, .int 0])), (a3, .inr (8, [.ref a10, .ref a11, .ref a12, .int 0, .int 0, .int 0]))] := hD
  refine lv_iload_n hx hb d_Rows_collectRow_7 rfl (lv_at hl 2 rfl) ?_
  refine lv_istore hx hb d_Rows_collectRow_8 hl (by decide) rfl (fun ls hl => ?_)
  have hl : lv_has ls 8 [(4, .int 0), (0, .ref a0), (1, .ref a1), (2, .int 0), (3, .int 2)] := hl
  refine lv_iload_n hx hb d_Rows_collectRow_10 rfl (lv_at hl 3 rfl) ?_
  refine lv_istore hx hb d_Rows_collectRow_11 hl (by decide) rfl (fun ls hl => ?_)
  have hl : lv_has ls 8 [(5, .int 0), (4, .int 0), (0, .ref a0), (1, .ref a1), (2, .int 0), (3, .int 2)] := hl
  refine lv_iload hx hb d_Rows_collectRow_13 (lv_at hl 0 rfl) ?_
  refine lv_iload_n hx hb d_Rows_collectRow_15 rfl (lv_at hl 5 rfl) ?_
  refine lv_icmp_ge (tgt := 118) hx hb d_Rows_collectRow_16 (by decide) (fun h => absurd h (by decide +kernel)) (fun _ => ?_)
  refine lv_iload hx hb d_Rows_collectRow_19 (lv_at hl 1 rfl) ?_
  refine lv_iload_n hx hb d_Rows_collectRow_21 rfl (lv_at hl 5 rfl) ?_
  refine lv_icmp_ge (tgt := 118) hx hb d_Rows_collectRow_22 (by decide) (fun h => absurd h (by decide +kernel)) (fun _ => ?_)
  refine lv_aload_n hx hb d_Rows_collectRow_25 rfl (lv_at hl 2 rfl) ?_
  refine lv_aload_n hx hb d_Rows_collectRow_26 rfl (lv_at hl 3 rfl) ?_
  refine lv_iload hx hb d_Rows_collectRow_27 (lv_at hl 1 rfl) ?_
  have hPc := hP.sub (ws' := [(a1, .inr (11, [.ref a2, .ref a4, .int 2])), (a2, .inl (k0, 362, .inl (upd (upd (fun _ => 0) 0 4) 1 4)))]) [0, 1] rfl
  have hDc := hD.sub (ws' := [(a1, .inr (11, [.ref a2, .ref a4, .int 2])), (a2, .inl (k0, 362, .inl (upd (upd (fun _ => 0) 0 4) 1 4)))]) [0, 1] (by decide) rfl
  have hKc := hK.sub (tys' := [(k0, .int)]) [0] rfl
  have hFc := va_free (wc := [(a1, .inr (11, [.ref a2, .ref a4, .int 2])), (a2, .inl (k0, 362, .inl (upd (upd (fun _ => 0) 0 4) 1 4)))]) hD hS hA [0, 1] rfl
  refine va_calli (va_runV (As := [.ref a1, .int 0]) (rest := []) ⟨hx, hb, hml, hown, hz⟩ (c61_Rows_behindOperand l dC dI H.size a0 a1 a2 a4 k0) (cwV 2 hz (zV zm_235 zm_236 zm_237 zm_102 zm_238) rfl rfl rfl (by decide +kernel) ⟨Nat.le_of_ble_eq_true rfl, Nat.le_of_ble_eq_true rfl⟩) ⟨fun a U g mk q => by obtain ⟨q0, q1, qP, qK, qD⟩ := q; exact ⟨q0, q1, qP, va_K.moved (u := U) (U := U.calling g mk a) (Vm.Alike.refl U.vm) qK, qD⟩, va_recv (q := (R_Rows, F_Rows, 8)) (q0 := 2) (ci := 9) hK hP rfl rfl, fun U hU hW => ⟨rfl, by rw [hU], by rw [hU]; exact hPc, va_K.moved hW.alike hKc, hDc.weaken (fun _ _ _ _ => trivial)⟩⟩ rfl rfl hl.1 rfl (lv_room (Nat.le_of_ble_eq_true rfl)) d_Rows_collectRow_29 ⟨by decide, by decide⟩) hS (fun q _ h => hFc q h) hFc (fun r u t H1 locs ht hvm hw hB hz1 hk1 hS => ?_)
  obtain ⟨hP1, hK1, hD1⟩ := hB
  subst r
  rw [ht] at hP1
  obtain ⟨hP, hD⟩ := va_join (wr := [(a0, .inr (9, [.ref a5, .ref a6, .ref a7, .ref a8, .ref a3, .ref a9, .int 0, .int 0])), (a3, .inr (8, [.ref a10, .ref a11, .ref a12, .int 0, .int 0, .int 0]))]) (w1 := [(a1, .inr (11, [.ref a2, .ref a4, .int 2])), (a2, .inl (k0, 362, .inl (upd (upd (fun _ => 0) 0 4) 1 4)))]) hP hD [0, 1] [2, 3] rfl rfl (by decide) (by decide) hk1 hFc hP1 hD1
  generalize H1 = H at hP hS ⊢
  have hP : va_P (dC, dI) vcl [(a0, .inr (9, [.ref a5, .ref a6, .ref a7, .ref a8, .ref a3, .ref a9, .int 0, .int 0])), (a3, .inr (8, [.ref a10, .ref a11, .ref a12, .int 0, .int 0, .int 0])), (a1, .inr (11, [.ref a2, .ref a4, .int 2])), (a2, .inl (k0, 362, .inl (upd (upd (fun _ => 0) 0 4) 1 4)))] H := hP
  have hD : va_D A [(a0, .inr (9, [.ref a5, .ref a6, .ref a7, .ref a8, .ref a3, .ref a9, .int 0, .int 0])), (a3, .inr (8, [.ref a10, .ref a11, .ref a12, .int 0, .int 0, .int 0])), (a1, .inr (11, [.ref a2, .ref a4, .int 2])), (a2, .inl (k0, 362, .inl (upd (upd (fun _ => 0) 0 4) 1 4)))] := hD
  refine lv_istore hx hb d_Rows_collectRow_32 hl (by decide) rfl (fun ls hl => ?_)
  have hl : lv_has ls 8 [(6, .int 0), (5, .int 0), (4, .int 0), (0, .ref a0), (1, .ref a1), (2, .int 0), (3, .int 2)] := hl
  refine lv_aload_n hx hb d_Rows_collectRow_34 rfl (lv_at hl 4 rfl) ?_
  refine lv_iload hx hb d_Rows_collectRow_35 (lv_at hl 2 rfl) ?_
  have hPc := hP.sub (ws' := [(a1, .inr (11, [.ref a2, .ref a4, .int 2])), (a2, .inl (k0, 362, .inl (upd (upd (fun _ => 0) 0 4) 1 4)))]) [2, 3] rfl
  have hDc := hD.sub (ws' := [(a1, .inr (11, [.ref a2, .ref a4, .int 2])), (a2, .inl (k0, 362, .inl (upd (upd (fun _ => 0) 0 4) 1 4)))]) [2, 3] (by decide) rfl
  have hKc := hK.sub (tys' := [(k0, .int)]) [0] rfl
  have hFc := va_free (wc := [(a1, .inr (11, [.ref a2, .ref a4, .int 2])), (a2, .inl (k0, 362, .inl (upd (upd (fun _ => 0) 0 4) 1 4)))]) hD hS hA [2, 3] rfl
  refine va_calli (va_runS (As := [.ref a1, .int 0]) (rest := []) ⟨hx, hb, hml, hown, hz⟩ (c64_Rows_behindOperation l dC dI H.size a1 a2 a4 k0) (cwS 2 hz (zS zm_239 zm_240 zm_102 zm_241) rfl rfl rfl (by decide +kernel) ⟨Nat.le_of_ble_eq_true rfl, Nat.le_of_ble_eq_true rfl⟩) ⟨fun a U g mk q => by obtain ⟨q0, q1, qP, qK, qD⟩ := q; exact ⟨q0, q1, qP, va_K.moved (u := U) (U := U.calling g mk a) (Vm.Alike.refl U.vm) qK, qD⟩, fun U hU hW => ⟨rfl, by rw [hU], by rw [hU]; exact hPc, va_K.moved hW.alike hKc, hDc.weaken (fun _ _ _ _ => trivial)⟩⟩ rfl rfl hl.1 rfl (lv_room (Nat.le_of_ble_eq_true rfl)) d_Rows_collectRow_37 ⟨by decide, by decide⟩) hS (fun q _ h => hFc q h) hFc (fun r u t H1 locs ht hvm hw hB hz1 hk1 hS => ?_)
  obtain ⟨hP1, hK1, hD1⟩ := hB
  subst r
  rw [ht] at hP1
  obtain ⟨hP, hD⟩ := va_join (wr := [(a0, .inr (9, [.ref a5, .ref a6, .ref a7, .ref a8, .ref a3, .ref a9, .int 0, .int 0])), (a3, .inr (8, [.ref a10, .ref a11, .ref a12, .int 0, .int 0, .int 0]))]) (w1 := [(a1, .inr (11, [.ref a2, .ref a4, .int 2])), (a2, .inl (k0, 362, .inl (upd (upd (fun _ => 0) 0 4) 1 4)))]) hP hD [2, 3] [0, 1] rfl rfl (by decide) (by decide) hk1 hFc hP1 hD1
  generalize H1 = H at hP hS ⊢
  have hP : va_P (dC, dI) vcl [(a0, .inr (9, [.ref a5, .ref a6, .ref a7, .ref a8, .ref a3, .ref a9, .int 0, .int 0])), (a3, .inr (8, [.ref a10, .ref a11, .ref a12, .int 0, .int 0, .int 0])), (a1, .inr (11, [.ref a2, .ref a4, .int 2])), (a2, .inl (k0, 362, .inl (upd (upd (fun _ => 0) 0 4) 1 4)))] H := hP
  have hD : va_D A [(a0, .inr (9, [.ref a5, .ref a6, .ref a7, .ref a8, .ref a3, .ref a9, .int 0, .int 0])), (a3, .inr (8, [.ref a10, .ref a11, .ref a12, .int 0, .int 0, .int 0])), (a1, .inr (11, [.ref a2, .ref a4, .int 2])), (a2, .inl (k0, 362, .inl (upd (upd (fun _ => 0) 0 4) 1 4)))] := hD
  refine lv_istore hx hb d_Rows_collectRow_40 hl (by decide) rfl (fun ls hl => ?_)
  have hl : lv_has ls 8 [(7, .int 0), (6, .int 0), (5, .int 0), (4, .int 0), (0, .ref a0), (1, .ref a1), (2, .int 0), (3, .int 2)] := hl
  refine lv_iload hx hb d_Rows_collectRow_42 (lv_at hl 1 rfl) ?_
  refine lv_iload hx hb d_Rows_collectRow_44 (lv_at hl 3 rfl) ?_
  refine lv_icmp_le (tgt := 65) hx hb d_Rows_collectRow_46 (by decide) (fun _ => ?_) (fun h => (h (by decide +kernel)).elim)
  refine lv_iload hx hb d_Rows_collectRow_65 (lv_at hl 0 rfl) ?_
  refine lv_iload hx hb d_Rows_collectRow_67 (lv_at hl 3 rfl) ?_
  refine lv_icmp_le (tgt := 118) hx hb d_Rows_collectRow_69 (by decide) (fun _ => ?_) (fun h => (h (by decide +kernel)).elim)
  refine lv_iload hx hb d_Rows_collectRow_118 (lv_at hl 3 rfl) ?_
  have hP9 := hP.sub (ws' := [(a1, .inr (11, [.ref a2, .ref a4, .int 2])), (a2, .inl (k0, 362, .inl (upd (upd (fun _ => 0) 0 4) 1 4))), (a0, .inr (9, [.ref a5, .ref a6, .ref a7, .ref a8, .ref a3, .ref a9, .int 0, .int 0])), (a3, .inr (8, [.ref a10, .ref a11, .ref a12, .int 0, .int 0, .int 0]))]) [2, 3, 0, 1] rfl
  have hD9 := hD.sub (ws' := [(a1, .inr (11, [.ref a2, .ref a4, .int 2])), (a2, .inl (k0, 362, .inl (upd (upd (fun _ => 0) 0 4) 1 4))), (a0, .inr (9, [.ref a5, .ref a6, .ref a7, .ref a8, .ref a3, .ref a9, .int 0, .int 0])), (a3, .inr (8, [.ref a10, .ref a11, .ref a12, .int 0, .int 0, .int 0]))]) [2, 3, 0, 1] (by decide) rfl
  have hK9 := hK.sub (tys' := [(k0, .int)]) [0] rfl
  exact W.iret (v := 0) hx hb hr (fun t ht hW => ⟨⟨0, (), rfl, rfl, by rw [ht]; exact hP9, va_K.moved hW.alike hK9, hD9⟩, hS.F ht⟩) hS.2.2 d_Rows_collectRow_120
set_option maxHeartbeats 4000000 in
set_option maxRecDepth 100000 in
theorem c66_Row_isWhole (l : Launch) (dC : Nat → ClassId) (dI : Nat → Nat → Nat) (sz : Nat) (a0 : Nat) (a1 : Nat) (a2 : Nat) (a3 : Nat) : Met l y_Row_isWhole w_Row_isWhole ({ frames := 0, cells := 0, slots := 0, locals := 0 }) (va_Pc [.ref a0] (fun U => U.heap.size = sz ∧ va_P (dC, dI) vcl [(a0, .inr (8, [.ref a1, .ref a2, .ref a3, .int 0, .int 0, .int 0]))] U.heap ∧ va_K (dC, dI) vcl [] U ∧ va_D (fun _ => True) [(a0, .inr (8, [.ref a1, .ref a2, .ref a3, .int 0, .int 0, .int 0]))])) (va_Qi (fun (r : Int32) (_ : Unit) => r = 0) (fun _ t => va_P (dC, dI) vcl [(a0, .inr (8, [.ref a1, .ref a2, .ref a3, .int 0, .int 0, .int 0]))] t.heap ∧ va_K (dC, dI) vcl [] t ∧ va_D (va_A [(a0, .inr (8, [.ref a1, .ref a2, .ref a3, .int 0, .int 0, .int 0]))] sz) [(a0, .inr (8, [.ref a1, .ref a2, .ref a3, .int 0, .int 0, .int 0]))]) (va_A [(a0, .inr (8, [.ref a1, .ref a2, .ref a3, .int 0, .int 0, .int 0]))] sz)) 0 0 (va_A [(a0, .inr (8, [.ref a1, .ref a2, .ref a3, .int 0, .int 0, .int 0]))] sz) := by
  refine Met.ofW (cc := b_Row_isWhole) (maxL := 1) (ret := (some .boolean)) (by decide) rfl ?_
  intro p e s m args below meth c s₁ B hml hv
  obtain ⟨rfl, hsz, hP, hK, hD0⟩ := hv
  have hx := B.exec
  have hb := B.bytes
  have hr := B.returns
  have hts := atoms_spec (ws := w_Row_isWhole) B.pre
  have hz : ∀ w ∈ wz, w.before _ s = true := fun w h => hts w (List.mem_cons_of_mem _ h)
  have hown : s.vm.findClass R_Row = some m.cls := findClass_of_methodNamed B.named
  have hlocks := B.notSynchronized
  subst hsz
  have hD := hD0.self (sz := s.heap.size)
  generalize hAe : va_A [(a0, .inr (8, [.ref a1, .ref a2, .ref a3, .int 0, .int 0, .int 0]))] s.heap.size = A at hD ⊢
  have hA : ∀ q : Nat, s.heap.size ≤ q → A q := fun q h => by rw [← hAe]; exact Or.inr h
  have hS : va_S A s.heap s.heap [] := va_S.rf
  have hP : va_P (dC, dI) vcl [(a0, .inr (8, [.ref a1, .ref a2, .ref a3, .int 0, .int 0, .int 0]))] s.heap := hP
  have hl := lv_entry ([.ref a0]) (n := 1) (Nat.le_of_ble_eq_true rfl)
  rw [lg_entry_eq]
  generalize (lg_sl ([.ref a0]) ++ List.replicate (1 - (lg_sl ([.ref a0])).length) Slot.unset).toArray = ls at hl ⊢
  have hl : lv_has ls 1 [(0, .ref a0)] := hl
  refine lv_aload_n hx hb d_Row_isWhole_0 rfl (lv_at hl 0 rfl) ?_
  refine va_get (D := (dC, dI)) (ci := 8) (v := .int 0) (C := R_Row) (T := F_Row) (N := 6) hx hb hz zu_Row hown hK hP 0 rfl rfl 4 (by decide) (hz (.fieldLink R_Row 25 "LayoutFront$Row" "operates" "Z") zm_216) (fun _ h9 => h9) rfl d_Row_isWhole_1 ?_
  refine lv_if_eq (tgt := 25) hx hb d_Row_isWhole_4 (by decide) (fun _ => ?_) (fun h => (h (by decide +kernel)).elim)
  refine lv_iconst (v := 0) hx hb d_Row_isWhole_25 (by decide) ?_
  have hP9 := hP.sub (ws' := [(a0, .inr (8, [.ref a1, .ref a2, .ref a3, .int 0, .int 0, .int 0]))]) [0] rfl
  have hD9 := hD.sub (ws' := [(a0, .inr (8, [.ref a1, .ref a2, .ref a3, .int 0, .int 0, .int 0]))]) [0] (by decide) rfl
  have hK9 := hK.sub (tys' := []) [] rfl
  exact W.zret (v := 0) hx hb hr (by decide +kernel) (fun t ht hW => ⟨⟨0, (), rfl, rfl, by rw [ht]; exact hP9, va_K.moved hW.alike hK9, hD9⟩, hS.F ht⟩) hS.2.2 d_Row_isWhole_26
set_option maxHeartbeats 4000000 in
set_option maxRecDepth 100000 in
theorem c67_Tokens_has (l : Launch) (dC : Nat → ClassId) (dI : Nat → Nat → Nat) (sz : Nat) (a0 : Nat) (a1 : Nat) (a2 : Nat) : Met l y_Tokens_has w_Tokens_has ({ frames := 0, cells := 0, slots := 0, locals := 0 }) (va_Pc [.ref a0, .int 1] (fun U => U.heap.size = sz ∧ va_P (dC, dI) vcl [(a0, .inr (11, [.ref a1, .ref a2, .int 2]))] U.heap ∧ va_K (dC, dI) vcl [] U ∧ va_D (fun _ => True) [(a0, .inr (11, [.ref a1, .ref a2, .int 2]))])) (va_Qi (fun (r : Int32) (_ : Unit) => r = 1) (fun _ t => va_P (dC, dI) vcl [(a0, .inr (11, [.ref a1, .ref a2, .int 2]))] t.heap ∧ va_K (dC, dI) vcl [] t ∧ va_D (va_A [(a0, .inr (11, [.ref a1, .ref a2, .int 2]))] sz) [(a0, .inr (11, [.ref a1, .ref a2, .int 2]))]) (va_A [(a0, .inr (11, [.ref a1, .ref a2, .int 2]))] sz)) 0 0 (va_A [(a0, .inr (11, [.ref a1, .ref a2, .int 2]))] sz) := by
  refine Met.ofW (cc := b_Tokens_has) (maxL := 2) (ret := (some .boolean)) (by decide) rfl ?_
  intro p e s m args below meth c s₁ B hml hv
  obtain ⟨rfl, hsz, hP, hK, hD0⟩ := hv
  have hx := B.exec
  have hb := B.bytes
  have hr := B.returns
  have hts := atoms_spec (ws := w_Tokens_has) B.pre
  have hz : ∀ w ∈ wz, w.before _ s = true := fun w h => hts w (List.mem_cons_of_mem _ h)
  have hown : s.vm.findClass R_Tokens = some m.cls := findClass_of_methodNamed B.named
  have hlocks := B.notSynchronized
  subst hsz
  have hD := hD0.self (sz := s.heap.size)
  generalize hAe : va_A [(a0, .inr (11, [.ref a1, .ref a2, .int 2]))] s.heap.size = A at hD ⊢
  have hA : ∀ q : Nat, s.heap.size ≤ q → A q := fun q h => by rw [← hAe]; exact Or.inr h
  have hS : va_S A s.heap s.heap [] := va_S.rf
  have hP : va_P (dC, dI) vcl [(a0, .inr (11, [.ref a1, .ref a2, .int 2]))] s.heap := hP
  have hl := lv_entry ([.ref a0, .int 1]) (n := 2) (Nat.le_of_ble_eq_true rfl)
  rw [lg_entry_eq]
  generalize (lg_sl ([.ref a0, .int 1]) ++ List.replicate (2 - (lg_sl ([.ref a0, .int 1])).length) Slot.unset).toArray = ls at hl ⊢
  have hl : lv_has ls 2 [(0, .ref a0), (1, .int 1)] := hl
  refine lv_iload_n hx hb d_Tokens_has_0 rfl (lv_at hl 1 rfl) ?_
  refine lv_if_lt (tgt := 16) hx hb d_Tokens_has_1 (by decide) (fun h => absurd h (by decide +kernel)) (fun _ => ?_)
  refine lv_iload_n hx hb d_Tokens_has_4 rfl (lv_at hl 1 rfl) ?_
  refine lv_aload_n hx hb d_Tokens_has_5 rfl (lv_at hl 0 rfl) ?_
  refine va_get (D := (dC, dI)) (ci := 11) (v := .int 2) (C := R_Tokens) (T := F_Tokens) (N := 3) hx hb hz zu_Tokens hown hK hP 0 rfl rfl 2 (by decide) (hz (.fieldLink R_Tokens 19 "LayoutFront$Tokens" "size" "I") zm_111) (fun _ h9 => h9) rfl d_Tokens_has_6 ?_
  refine lv_icmp_ge (tgt := 16) hx hb d_Tokens_has_9 (by decide) (fun h => absurd h (by decide +kernel)) (fun _ => ?_)
  refine lv_iconst (v := 1) hx hb d_Tokens_has_12 (by decide) ?_
  refine lv_goto (tgt := 17) hx hb d_Tokens_has_13 (by decide) ?_
  have hP9 := hP.sub (ws' := [(a0, .inr (11, [.ref a1, .ref a2, .int 2]))]) [0] rfl
  have hD9 := hD.sub (ws' := [(a0, .inr (11, [.ref a1, .ref a2, .int 2]))]) [0] (by decide) rfl
  have hK9 := hK.sub (tys' := []) [] rfl
  exact W.zret (v := 1) hx hb hr (by decide +kernel) (fun t ht hW => ⟨⟨1, (), rfl, rfl, by rw [ht]; exact hP9, va_K.moved hW.alike hK9, hD9⟩, hS.F ht⟩) hS.2.2 d_Tokens_has_17
set_option maxHeartbeats 4000000 in
set_option maxRecDepth 100000 in
theorem c68_Tokens_isFreeName (l : Launch) (dC : Nat → ClassId) (dI : Nat → Nat → Nat) (sz : Nat) (a0 : Nat) (a1 : Nat) (a2 : Nat) (k0 : ClassId) : Met l y_Tokens_isFreeName w_Tokens_isFreeName ({ frames := 1, cells := 0, slots := 0, locals := 21 }) (va_Pc [.ref a0, .int 1] (fun U => U.heap.size = sz ∧ va_P (dC, dI) vcl [(a0, .inr (11, [.ref a1, .ref a2, .int 2])), (a1, .inl (k0, 362, .inl (upd (upd (fun _ => 0) 0 4) 1 4)))] U.heap ∧ va_K (dC, dI) vcl [(k0, .int)] U ∧ va_D (fun _ => True) [(a0, .inr (11, [.ref a1, .ref a2, .int 2])), (a1, .inl (k0, 362, .inl (upd (upd (fun _ => 0) 0 4) 1 4)))])) (va_Qi (fun (r : Int32) (_ : Unit) => r = 0) (fun _ t => va_P (dC, dI) vcl [(a0, .inr (11, [.ref a1, .ref a2, .int 2])), (a1, .inl (k0, 362, .inl (upd (upd (fun _ => 0) 0 4) 1 4)))] t.heap ∧ va_K (dC, dI) vcl [(k0, .int)] t ∧ va_D (va_A [(a0, .inr (11, [.ref a1, .ref a2, .int 2])), (a1, .inl (k0, 362, .inl (upd (upd (fun _ => 0) 0 4) 1 4)))] sz) [(a0, .inr (11, [.ref a1, .ref a2, .int 2])), (a1, .inl (k0, 362, .inl (upd (upd (fun _ => 0) 0 4) 1 4)))]) (va_A [(a0, .inr (11, [.ref a1, .ref a2, .int 2])), (a1, .inl (k0, 362, .inl (upd (upd (fun _ => 0) 0 4) 1 4)))] sz)) 0 0 (va_A [(a0, .inr (11, [.ref a1, .ref a2, .int 2])), (a1, .inl (k0, 362, .inl (upd (upd (fun _ => 0) 0 4) 1 4)))] sz) := by
  refine Met.ofW (cc := b_Tokens_isFreeName) (maxL := 2) (ret := (some .boolean)) (by decide) rfl ?_
  intro p e s m args below meth c s₁ B hml hv
  obtain ⟨rfl, hsz, hP, hK, hD0⟩ := hv
  have hx := B.exec
  have hb := B.bytes
  have hr := B.returns
  have hts := atoms_spec (ws := w_Tokens_isFreeName) B.pre
  have hz : ∀ w ∈ wz, w.before _ s = true := fun w h => hts w (List.mem_cons_of_mem _ h)
  have hown : s.vm.findClass R_Tokens = some m.cls := findClass_of_methodNamed B.named
  have hlocks := B.notSynchronized
  subst hsz
  have hD := hD0.self (sz := s.heap.size)
  generalize hAe : va_A [(a0, .inr (11, [.ref a1, .ref a2, .int 2])), (a1, .inl (k0, 362, .inl (upd (upd (fun _ => 0) 0 4) 1 4)))] s.heap.size = A at hD ⊢
  have hA : ∀ q : Nat, s.heap.size ≤ q → A q := fun q h => by rw [← hAe]; exact Or.inr h
  have hS : va_S A s.heap s.heap [] := va_S.rf
  have hP : va_P (dC, dI) vcl [(a0, .inr (11, [.ref a1, .ref a2, .int 2])), (a1, .inl (k0, 362, .inl (upd (upd (fun _ => 0) 0 4) 1 4)))] s.heap := hP
  have hl := lv_entry ([.ref a0, .int 1]) (n := 2) (Nat.le_of_ble_eq_true rfl)
  rw [lg_entry_eq]
  generalize (lg_sl ([.ref a0, .int 1]) ++ List.replicate (2 - (lg_sl ([.ref a0, .int 1])).length) Slot.unset).toArray = ls at hl ⊢
  have hl : lv_has ls 2 [(0, .ref a0), (1, .int 1)] := hl
  refine lv_aload_n hx hb d_Tokens_isFreeName_0 rfl (lv_at hl 0 rfl) ?_
  refine lv_iload_n hx hb d_Tokens_isFreeName_1 rfl (lv_at hl 1 rfl) ?_
  have hPc := hP.sub (ws' := [(a0, .inr (11, [.ref a1, .ref a2, .int 2]))]) [0] rfl
  have hDc := hD.sub (ws' := [(a0, .inr (11, [.ref a1, .ref a2, .int 2]))]) [0] (by decide) rfl
  have hKc := hK.sub (tys' := []) [] rfl
  have hFc := va_free (wc := [(a0, .inr (11, [.ref a1, .ref a2, .int 2]))]) hD hS hA [0] rfl
  refine va_calli (va_runV (As := [.int 1]) (rest := []) ⟨hx, hb, hml, hown, hz⟩ (c67_Tokens_has l dC dI s.heap.size a0 a1 a2) (cwV 1 hz (zV zm_135 zm_136 zm_137 zm_17 zm_138) rfl rfl rfl (by decide +kernel) ⟨Nat.le_of_ble_eq_true rfl, Nat.le_of_ble_eq_true rfl⟩) ⟨fun a U g mk q => by obtain ⟨q0, q1, qP, qK, qD⟩ := q; exact ⟨q0, q1, qP, va_K.moved (u := U) (U := U.calling g mk a) (Vm.Alike.refl U.vm) qK, qD⟩, va_recv (q := (R_Tokens, F_Tokens, 3)) (q0 := 0) (ci := 11) hK hP rfl rfl, fun U hU hW => ⟨rfl, by rw [hU], by rw [hU]; exact hPc, va_K.moved hW.alike hKc, hDc.weaken (fun _ _ _ _ => trivial)⟩⟩ rfl rfl hl.1 rfl (lv_room (Nat.le_of_ble_eq_true rfl)) d_Tokens_isFreeName_2 ⟨by decide, by decide⟩) hS (fun q _ h => hFc q h) hFc (fun r u t H1 locs ht hvm hw hB hz1 hk1 hS => ?_)
  obtain ⟨hP1, hK1, hD1⟩ := hB
  subst r
  rw [ht] at hP1
  obtain ⟨hP, hD⟩ := va_join (wr := [(a1, .inl (k0, 362, .inl (upd (upd (fun _ => 0) 0 4) 1 4)))]) (w1 := [(a0, .inr (11, [.ref a1, .ref a2, .int 2]))]) hP hD [0] [1] rfl rfl (by decide) (by decide) hk1 hFc hP1 hD1
  generalize H1 = H at hP hS ⊢
  have hP : va_P (dC, dI) vcl [(a1, .inl (k0, 362, .inl (upd (upd (fun _ => 0) 0 4) 1 4))), (a0, .inr (11, [.ref a1, .ref a2, .int 2]))] H := hP
  have hD : va_D A [(a1, .inl (k0, 362, .inl (upd (upd (fun _ => 0) 0 4) 1 4))), (a0, .inr (11, [.ref a1, .ref a2, .int 2]))] := hD
  refine lv_if_eq (tgt := 37) hx hb d_Tokens_isFreeName_5 (by decide) (fun h => absurd h (by decide +kernel)) (fun _ => ?_)
  refine lv_aload_n hx hb d_Tokens_isFreeName_8 rfl (lv_at hl 0 rfl) ?_
  refine va_get (D := (dC, dI)) (ci := 11) (v := .ref a1) (C := R_Tokens) (T := F_Tokens) (N := 3) hx hb hz zu_Tokens hown hK hP 1 rfl rfl 0 (by decide) (hz (.fieldLink R_Tokens 9 "LayoutFront$Tokens" "kinds" "[I") zm_12) (fun _ h9 => h9) rfl d_Tokens_isFreeName_9 ?_
  refine lv_iload_n hx hb d_Tokens_isFreeName_12 rfl (lv_at hl 1 rfl) ?_
  refine xr_iald (v := 4) hx hb hK hP 0 0 rfl rfl (xr_in (by decide +kernel)) (by decide +kernel) d_Tokens_isFreeName_13 ?_
  refine lv_if_ne (tgt := 37) hx hb d_Tokens_isFreeName_14 (by decide) (fun _ => ?_) (fun h => absurd h (by decide +kernel))
  refine lv_iconst (v := 0) hx hb d_Tokens_isFreeName_37 (by decide) ?_
  have hP9 := hP.sub (ws' := [(a0, .inr (11, [.ref a1, .ref a2, .int 2])), (a1, .inl (k0, 362, .inl (upd (upd (fun _ => 0) 0 4) 1 4)))]) [1, 0] rfl
  have hD9 := hD.sub (ws' := [(a0, .inr (11, [.ref a1, .ref a2, .int 2])), (a1, .inl (k0, 362, .inl (upd (upd (fun _ => 0) 0 4) 1 4)))]) [1, 0] (by decide) rfl
  have hK9 := hK.sub (tys' := [(k0, .int)]) [0] rfl
  exact W.zret (v := 0) hx hb hr (by decide +kernel) (fun t ht hW => ⟨⟨0, (), rfl, rfl, by rw [ht]; exact hP9, va_K.moved hW.alike hK9, hD9⟩, hS.F ht⟩) hS.2.2 d_Tokens_isFreeName_38
set_option maxHeartbeats 4000000 in
set_option maxRecDepth 100000 in
theorem c69_Tokens_kindAt (l : Launch) (dC : Nat → ClassId) (dI : Nat → Nat → Nat) (sz : Nat) (a0 : Nat) (a1 : Nat) (a2 : Nat) (k0 : ClassId) : Met l y_Tokens_kindAt w_Tokens_kindAt ({ frames := 1, cells := 0, slots := 0, locals := 21 }) (va_Pc [.ref a0, .int 1] (fun U => U.heap.size = sz ∧ va_P (dC, dI) vcl [(a0, .inr (11, [.ref a1, .ref a2, .int 2])), (a1, .inl (k0, 362, .inl (upd (upd (fun _ => 0) 0 4) 1 4)))] U.heap ∧ va_K (dC, dI) vcl [(k0, .int)] U ∧ va_D (fun _ => True) [(a0, .inr (11, [.ref a1, .ref a2, .int 2])), (a1, .inl (k0, 362, .inl (upd (upd (fun _ => 0) 0 4) 1 4)))])) (va_Qi (fun (r : Int32) (_ : Unit) => r = 4) (fun _ t => va_P (dC, dI) vcl [(a0, .inr (11, [.ref a1, .ref a2, .int 2])), (a1, .inl (k0, 362, .inl (upd (upd (fun _ => 0) 0 4) 1 4)))] t.heap ∧ va_K (dC, dI) vcl [(k0, .int)] t ∧ va_D (va_A [(a0, .inr (11, [.ref a1, .ref a2, .int 2])), (a1, .inl (k0, 362, .inl (upd (upd (fun _ => 0) 0 4) 1 4)))] sz) [(a0, .inr (11, [.ref a1, .ref a2, .int 2])), (a1, .inl (k0, 362, .inl (upd (upd (fun _ => 0) 0 4) 1 4)))]) (va_A [(a0, .inr (11, [.ref a1, .ref a2, .int 2])), (a1, .inl (k0, 362, .inl (upd (upd (fun _ => 0) 0 4) 1 4)))] sz)) 0 0 (va_A [(a0, .inr (11, [.ref a1, .ref a2, .int 2])), (a1, .inl (k0, 362, .inl (upd (upd (fun _ => 0) 0 4) 1 4)))] sz) := by
  refine Met.ofW (cc := b_Tokens_kindAt) (maxL := 2) (ret := (some .int)) (by decide) rfl ?_
  intro p e s m args below meth c s₁ B hml hv
  obtain ⟨rfl, hsz, hP, hK, hD0⟩ := hv
  have hx := B.exec
  have hb := B.bytes
  have hr := B.returns
  have hts := atoms_spec (ws := w_Tokens_kindAt) B.pre
  have hz : ∀ w ∈ wz, w.before _ s = true := fun w h => hts w (List.mem_cons_of_mem _ h)
  have hown : s.vm.findClass R_Tokens = some m.cls := findClass_of_methodNamed B.named
  have hlocks := B.notSynchronized
  subst hsz
  have hD := hD0.self (sz := s.heap.size)
  generalize hAe : va_A [(a0, .inr (11, [.ref a1, .ref a2, .int 2])), (a1, .inl (k0, 362, .inl (upd (upd (fun _ => 0) 0 4) 1 4)))] s.heap.size = A at hD ⊢
  have hA : ∀ q : Nat, s.heap.size ≤ q → A q := fun q h => by rw [← hAe]; exact Or.inr h
  have hS : va_S A s.heap s.heap [] := va_S.rf
  have hP : va_P (dC, dI) vcl [(a0, .inr (11, [.ref a1, .ref a2, .int 2])), (a1, .inl (k0, 362, .inl (upd (upd (fun _ => 0) 0 4) 1 4)))] s.heap := hP
  have hl := lv_entry ([.ref a0, .int 1]) (n := 2) (Nat.le_of_ble_eq_true rfl)
  rw [lg_entry_eq]
  generalize (lg_sl ([.ref a0, .int 1]) ++ List.replicate (2 - (lg_sl ([.ref a0, .int 1])).length) Slot.unset).toArray = ls at hl ⊢
  have hl : lv_has ls 2 [(0, .ref a0), (1, .int 1)] := hl
  refine lv_aload_n hx hb d_Tokens_kindAt_0 rfl (lv_at hl 0 rfl) ?_
  refine lv_iload_n hx hb d_Tokens_kindAt_1 rfl (lv_at hl 1 rfl) ?_
  have hPc := hP.sub (ws' := [(a0, .inr (11, [.ref a1, .ref a2, .int 2]))]) [0] rfl
  have hDc := hD.sub (ws' := [(a0, .inr (11, [.ref a1, .ref a2, .int 2]))]) [0] (by decide) rfl
  have hKc := hK.sub (tys' := []) [] rfl
  have hFc := va_free (wc := [(a0, .inr (11, [.ref a1, .ref a2, .int 2]))]) hD hS hA [0] rfl
  refine va_calli (va_runV (As := [.int 1]) (rest := []) ⟨hx, hb, hml, hown, hz⟩ (c67_Tokens_has l dC dI s.heap.size a0 a1 a2) (cwV 1 hz (zV zm_135 zm_136 zm_137 zm_17 zm_138) rfl rfl rfl (by decide +kernel) ⟨Nat.le_of_ble_eq_true rfl, Nat.le_of_ble_eq_true rfl⟩) ⟨fun a U g mk q => by obtain ⟨q0, q1, qP, qK, qD⟩ := q; exact ⟨q0, q1, qP, va_K.moved (u := U) (U := U.calling g mk a) (Vm.Alike.refl U.vm) qK, qD⟩, va_recv (q := (R_Tokens, F_Tokens, 3)) (q0 := 0) (ci := 11) hK hP rfl rfl, fun U hU hW => ⟨rfl, by rw [hU], by rw [hU]; exact hPc, va_K.moved hW.alike hKc, hDc.weaken (fun _ _ _ _ => trivial)⟩⟩ rfl rfl hl.1 rfl (lv_room (Nat.le_of_ble_eq_true rfl)) d_Tokens_kindAt_2 ⟨by decide, by decide⟩) hS (fun q _ h => hFc q h) hFc (fun r u t H1 locs ht hvm hw hB hz1 hk1 hS => ?_)
  obtain ⟨hP1, hK1, hD1⟩ := hB
  subst r
  rw [ht] at hP1
  obtain ⟨hP, hD⟩ := va_join (wr := [(a1, .inl (k0, 362, .inl (upd (upd (fun _ => 0) 0 4) 1 4)))]) (w1 := [(a0, .inr (11, [.ref a1, .ref a2, .int 2]))]) hP hD [0] [1] rfl rfl (by decide) (by decide) hk1 hFc hP1 hD1
  generalize H1 = H at hP hS ⊢
  have hP : va_P (dC, dI) vcl [(a1, .inl (k0, 362, .inl (upd (upd (fun _ => 0) 0 4) 1 4))), (a0, .inr (11, [.ref a1, .ref a2, .int 2]))] H := hP
  have hD : va_D A [(a1, .inl (k0, 362, .inl (upd (upd (fun _ => 0) 0 4) 1 4))), (a0, .inr (11, [.ref a1, .ref a2, .int 2]))] := hD
  refine lv_if_eq (tgt := 17) hx hb d_Tokens_kindAt_5 (by decide) (fun h => absurd h (by decide +kernel)) (fun _ => ?_)
  refine lv_aload_n hx hb d_Tokens_kindAt_8 rfl (lv_at hl 0 rfl) ?_
  refine va_get (D := (dC, dI)) (ci := 11) (v := .ref a1) (C := R_Tokens) (T := F_Tokens) (N := 3) hx hb hz zu_Tokens hown hK hP 1 rfl rfl 0 (by decide) (hz (.fieldLink R_Tokens 9 "LayoutFront$Tokens" "kinds" "[I") zm_12) (fun _ h9 => h9) rfl d_Tokens_kindAt_9 ?_
  refine lv_iload_n hx hb d_Tokens_kindAt_12 rfl (lv_at hl 1 rfl) ?_
  refine xr_iald (v := 4) hx hb hK hP 0 0 rfl rfl (xr_in (by decide +kernel)) (by decide +kernel) d_Tokens_kindAt_13 ?_
  refine lv_goto (tgt := 18) hx hb d_Tokens_kindAt_14 (by decide) ?_
  have hP9 := hP.sub (ws' := [(a0, .inr (11, [.ref a1, .ref a2, .int 2])), (a1, .inl (k0, 362, .inl (upd (upd (fun _ => 0) 0 4) 1 4)))]) [1, 0] rfl
  have hD9 := hD.sub (ws' := [(a0, .inr (11, [.ref a1, .ref a2, .int 2])), (a1, .inl (k0, 362, .inl (upd (upd (fun _ => 0) 0 4) 1 4)))]) [1, 0] (by decide) rfl
  have hK9 := hK.sub (tys' := [(k0, .int)]) [0] rfl
  exact W.iret (v := 4) hx hb hr (fun t ht hW => ⟨⟨4, (), rfl, rfl, by rw [ht]; exact hP9, va_K.moved hW.alike hK9, hD9⟩, hS.F ht⟩) hS.2.2 d_Tokens_kindAt_18
set_option maxHeartbeats 4000000 in
set_option maxRecDepth 100000 in
theorem c70_Rows_behindOperand (l : Launch) (dC : Nat → ClassId) (dI : Nat → Nat → Nat) (sz : Nat) (a0 : Nat) (a1 : Nat) (a2 : Nat) (a3 : Nat) (k0 : ClassId) : Met l y_Rows_behindOperand w_Rows_behindOperand ({ frames := 2, cells := 0, slots := 0, locals := 43 }) (va_Pc [.ref a0, .ref a1, .int 1] (fun U => U.heap.size = sz ∧ va_P (dC, dI) vcl [(a1, .inr (11, [.ref a2, .ref a3, .int 2])), (a2, .inl (k0, 362, .inl (upd (upd (fun _ => 0) 0 4) 1 4)))] U.heap ∧ va_K (dC, dI) vcl [(k0, .int)] U ∧ va_D (fun _ => True) [(a1, .inr (11, [.ref a2, .ref a3, .int 2])), (a2, .inl (k0, 362, .inl (upd (upd (fun _ => 0) 0 4) 1 4)))])) (va_Qi (fun (r : Int32) (_ : Unit) => r = 1) (fun _ t => va_P (dC, dI) vcl [(a1, .inr (11, [.ref a2, .ref a3, .int 2])), (a2, .inl (k0, 362, .inl (upd (upd (fun _ => 0) 0 4) 1 4)))] t.heap ∧ va_K (dC, dI) vcl [(k0, .int)] t ∧ va_D (va_A [(a1, .inr (11, [.ref a2, .ref a3, .int 2])), (a2, .inl (k0, 362, .inl (upd (upd (fun _ => 0) 0 4) 1 4)))] sz) [(a1, .inr (11, [.ref a2, .ref a3, .int 2])), (a2, .inl (k0, 362, .inl (upd (upd (fun _ => 0) 0 4) 1 4)))]) (va_A [(a1, .inr (11, [.ref a2, .ref a3, .int 2])), (a2, .inl (k0, 362, .inl (upd (upd (fun _ => 0) 0 4) 1 4)))] sz)) 0 0 (va_A [(a1, .inr (11, [.ref a2, .ref a3, .int 2])), (a2, .inl (k0, 362, .inl (upd (upd (fun _ => 0) 0 4) 1 4)))] sz) := by
  refine Met.ofW (cc := b_Rows_behindOperand) (maxL := 3) (ret := (some .int)) (by decide) rfl ?_
  intro p e s m args below meth c s₁ B hml hv
  obtain ⟨rfl, hsz, hP, hK, hD0⟩ := hv
  have hx := B.exec
  have hb := B.bytes
  have hr := B.returns
  have hts := atoms_spec (ws := w_Rows_behindOperand) B.pre
  have hz : ∀ w ∈ wz, w.before _ s = true := fun w h => hts w (List.mem_cons_of_mem _ h)
  have hown : s.vm.findClass R_Rows = some m.cls := findClass_of_methodNamed B.named
  have hlocks := B.notSynchronized
  subst hsz
  have hD := hD0.self (sz := s.heap.size)
  generalize hAe : va_A [(a1, .inr (11, [.ref a2, .ref a3, .int 2])), (a2, .inl (k0, 362, .inl (upd (upd (fun _ => 0) 0 4) 1 4)))] s.heap.size = A at hD ⊢
  have hA : ∀ q : Nat, s.heap.size ≤ q → A q := fun q h => by rw [← hAe]; exact Or.inr h
  have hS : va_S A s.heap s.heap [] := va_S.rf
  have hP : va_P (dC, dI) vcl [(a1, .inr (11, [.ref a2, .ref a3, .int 2])), (a2, .inl (k0, 362, .inl (upd (upd (fun _ => 0) 0 4) 1 4)))] s.heap := hP
  have hl := lv_entry ([.ref a0, .ref a1, .int 1]) (n := 3) (Nat.le_of_ble_eq_true rfl)
  rw [lg_entry_eq]
  generalize (lg_sl ([.ref a0, .ref a1, .int 1]) ++ List.replicate (3 - (lg_sl ([.ref a0, .ref a1, .int 1])).length) Slot.unset).toArray = ls at hl ⊢
  have hl : lv_has ls 3 [(0, .ref a0), (1, .ref a1), (2, .int 1)] := hl
  refine lv_aload_n hx hb d_Rows_behindOperand_0 rfl (lv_at hl 1 rfl) ?_
  refine lv_iload_n hx hb d_Rows_behindOperand_1 rfl (lv_at hl 2 rfl) ?_
  have hPc := hP.sub (ws' := [(a1, .inr (11, [.ref a2, .ref a3, .int 2])), (a2, .inl (k0, 362, .inl (upd (upd (fun _ => 0) 0 4) 1 4)))]) [0, 1] rfl
  have hDc := hD.sub (ws' := [(a1, .inr (11, [.ref a2, .ref a3, .int 2])), (a2, .inl (k0, 362, .inl (upd (upd (fun _ => 0) 0 4) 1 4)))]) [0, 1] (by decide) rfl
  have hKc := hK.sub (tys' := [(k0, .int)]) [0] rfl
  have hFc := va_free (wc := [(a1, .inr (11, [.ref a2, .ref a3, .int 2])), (a2, .inl (k0, 362, .inl (upd (upd (fun _ => 0) 0 4) 1 4)))]) hD hS hA [0, 1] rfl
  refine va_calli (va_runV (As := [.int 1]) (rest := []) ⟨hx, hb, hml, hown, hz⟩ (c52_Tokens_opensBracket l dC dI s.heap.size a1 a2 a3 k0) (cwV 1 hz (zV zm_207 zm_208 zm_209 zm_17 zm_210) rfl rfl rfl (by decide +kernel) ⟨Nat.le_of_ble_eq_true rfl, Nat.le_of_ble_eq_true rfl⟩) ⟨fun a U g mk q => by obtain ⟨q0, q1, qP, qK, qD⟩ := q; exact ⟨q0, q1, qP, va_K.moved (u := U) (U := U.calling g mk a) (Vm.Alike.refl U.vm) qK, qD⟩, va_recv (q := (R_Tokens, F_Tokens, 3)) (q0 := 0) (ci := 11) hK hP rfl rfl, fun U hU hW => ⟨rfl, by rw [hU], by rw [hU]; exact hPc, va_K.moved hW.alike hKc, hDc.weaken (fun _ _ _ _ => trivial)⟩⟩ rfl rfl hl.1 rfl (lv_room (Nat.le_of_ble_eq_true rfl)) d_Rows_behindOperand_2 ⟨by decide, by decide⟩) hS (fun q _ h => hFc q h) hFc (fun r u t H1 locs ht hvm hw hB hz1 hk1 hS => ?_)
  obtain ⟨hP1, hK1, hD1⟩ := hB
  subst r
  rw [ht] at hP1
  obtain ⟨hP, hD⟩ := va_join (wr := []) (w1 := [(a1, .inr (11, [.ref a2, .ref a3, .int 2])), (a2, .inl (k0, 362, .inl (upd (upd (fun _ => 0) 0 4) 1 4)))]) hP hD [0, 1] [] rfl rfl (by decide) (by decide) hk1 hFc hP1 hD1
  generalize H1 = H at hP hS ⊢
  have hP : va_P (dC, dI) vcl [(a1, .inr (11, [.ref a2, .ref a3, .int 2])), (a2, .inl (k0, 362, .inl (upd (upd (fun _ => 0) 0 4) 1 4)))] H := hP
  have hD : va_D A [(a1, .inr (11, [.ref a2, .ref a3, .int 2])), (a2, .inl (k0, 362, .inl (upd (upd (fun _ => 0) 0 4) 1 4)))] := hD
  refine lv_if_eq (tgt := 16) hx hb d_Rows_behindOperand_5 (by decide) (fun _ => ?_) (fun h => (h (by decide +kernel)).elim)
  refine lv_aload_n hx hb d_Rows_behindOperand_16 rfl (lv_at hl 1 rfl) ?_
  refine lv_iload_n hx hb d_Rows_behindOperand_17 rfl (lv_at hl 2 rfl) ?_
  have hPc := hP.sub (ws' := [(a1, .inr (11, [.ref a2, .ref a3, .int 2])), (a2, .inl (k0, 362, .inl (upd (upd (fun _ => 0) 0 4) 1 4)))]) [0, 1] rfl
  have hDc := hD.sub (ws' := [(a1, .inr (11, [.ref a2, .ref a3, .int 2])), (a2, .inl (k0, 362, .inl (upd (upd (fun _ => 0) 0 4) 1 4)))]) [0, 1] (by decide) rfl
  have hKc := hK.sub (tys' := [(k0, .int)]) [0] rfl
  have hFc := va_free (wc := [(a1, .inr (11, [.ref a2, .ref a3, .int 2])), (a2, .inl (k0, 362, .inl (upd (upd (fun _ => 0) 0 4) 1 4)))]) hD hS hA [0, 1] rfl
  refine va_calli (va_runV (As := [.int 1]) (rest := []) ⟨hx, hb, hml, hown, hz⟩ (c68_Tokens_isFreeName l dC dI H.size a1 a2 a3 k0) (cwV 1 hz (zV zm_218 zm_219 zm_220 zm_17 zm_221) rfl rfl rfl (by decide +kernel) ⟨Nat.le_of_ble_eq_true rfl, Nat.le_of_ble_eq_true rfl⟩) ⟨fun a U g mk q => by obtain ⟨q0, q1, qP, qK, qD⟩ := q; exact ⟨q0, q1, qP, va_K.moved (u := U) (U := U.calling g mk a) (Vm.Alike.refl U.vm) qK, qD⟩, va_recv (q := (R_Tokens, F_Tokens, 3)) (q0 := 0) (ci := 11) hK hP rfl rfl, fun U hU hW => ⟨rfl, by rw [hU], by rw [hU]; exact hPc, va_K.moved hW.alike hKc, hDc.weaken (fun _ _ _ _ => trivial)⟩⟩ rfl rfl hl.1 rfl (lv_room (Nat.le_of_ble_eq_true rfl)) d_Rows_behindOperand_18 ⟨by decide, by decide⟩) hS (fun q _ h => hFc q h) hFc (fun r u t H1 locs ht hvm hw hB hz1 hk1 hS => ?_)
  obtain ⟨hP1, hK1, hD1⟩ := hB
  subst r
  rw [ht] at hP1
  obtain ⟨hP, hD⟩ := va_join (wr := []) (w1 := [(a1, .inr (11, [.ref a2, .ref a3, .int 2])), (a2, .inl (k0, 362, .inl (upd (upd (fun _ => 0) 0 4) 1 4)))]) hP hD [0, 1] [] rfl rfl (by decide) (by decide) hk1 hFc hP1 hD1
  generalize H1 = H at hP hS ⊢
  have hP : va_P (dC, dI) vcl [(a1, .inr (11, [.ref a2, .ref a3, .int 2])), (a2, .inl (k0, 362, .inl (upd (upd (fun _ => 0) 0 4) 1 4)))] H := hP
  have hD : va_D A [(a1, .inr (11, [.ref a2, .ref a3, .int 2])), (a2, .inl (k0, 362, .inl (upd (upd (fun _ => 0) 0 4) 1 4)))] := hD
  refine lv_if_ne (tgt := 33) hx hb d_Rows_behindOperand_21 (by decide) (fun h => (h (by decide +kernel)).elim) (fun _ => ?_)
  refine lv_aload_n hx hb d_Rows_behindOperand_24 rfl (lv_at hl 1 rfl) ?_
  refine lv_iload_n hx hb d_Rows_behindOperand_25 rfl (lv_at hl 2 rfl) ?_
  have hPc := hP.sub (ws' := [(a1, .inr (11, [.ref a2, .ref a3, .int 2])), (a2, .inl (k0, 362, .inl (upd (upd (fun _ => 0) 0 4) 1 4)))]) [0, 1] rfl
  have hDc := hD.sub (ws' := [(a1, .inr (11, [.ref a2, .ref a3, .int 2])), (a2, .inl (k0, 362, .inl (upd (upd (fun _ => 0) 0 4) 1 4)))]) [0, 1] (by decide) rfl
  have hKc := hK.sub (tys' := [(k0, .int)]) [0] rfl
  have hFc := va_free (wc := [(a1, .inr (11, [.ref a2, .ref a3, .int 2])), (a2, .inl (k0, 362, .inl (upd (upd (fun _ => 0) 0 4) 1 4)))]) hD hS hA [0, 1] rfl
  refine va_calli (va_runV (As := [.int 1]) (rest := []) ⟨hx, hb, hml, hown, hz⟩ (c69_Tokens_kindAt l dC dI H.size a1 a2 a3 k0) (cwV 1 hz (zV zm_222 zm_223 zm_224 zm_17 zm_225) rfl rfl rfl (by decide +kernel) ⟨Nat.le_of_ble_eq_true rfl, Nat.le_of_ble_eq_true rfl⟩) ⟨fun a U g mk q => by obtain ⟨q0, q1, qP, qK, qD⟩ := q; exact ⟨q0, q1, qP, va_K.moved (u := U) (U := U.calling g mk a) (Vm.Alike.refl U.vm) qK, qD⟩, va_recv (q := (R_Tokens, F_Tokens, 3)) (q0 := 0) (ci := 11) hK hP rfl rfl, fun U hU hW => ⟨rfl, by rw [hU], by rw [hU]; exact hPc, va_K.moved hW.alike hKc, hDc.weaken (fun _ _ _ _ => trivial)⟩⟩ rfl rfl hl.1 rfl (lv_room (Nat.le_of_ble_eq_true rfl)) d_Rows_behindOperand_26 ⟨by decide, by decide⟩) hS (fun q _ h => hFc q h) hFc (fun r u t H1 locs ht hvm hw hB hz1 hk1 hS => ?_)
  obtain ⟨hP1, hK1, hD1⟩ := hB
  subst r
  rw [ht] at hP1
  obtain ⟨hP, hD⟩ := va_join (wr := []) (w1 := [(a1, .inr (11, [.ref a2, .ref a3, .int 2])), (a2, .inl (k0, 362, .inl (upd (upd (fun _ => 0) 0 4) 1 4)))]) hP hD [0, 1] [] rfl rfl (by decide) (by decide) hk1 hFc hP1 hD1
  generalize H1 = H at hP hS ⊢
  have hP : va_P (dC, dI) vcl [(a1, .inr (11, [.ref a2, .ref a3, .int 2])), (a2, .inl (k0, 362, .inl (upd (upd (fun _ => 0) 0 4) 1 4)))] H := hP
  have hD : va_D A [(a1, .inr (11, [.ref a2, .ref a3, .int 2])), (a2, .inl (k0, 362, .inl (upd (upd (fun _ => 0) 0 4) 1 4)))] := hD
  refine lv_iconst (v := 1) hx hb d_Rows_behindOperand_29 (by decide) ?_
  refine lv_icmp_ne (tgt := 39) hx hb d_Rows_behindOperand_30 (by decide) (fun _ => ?_) (fun h => absurd h (by decide +kernel))
  refine lv_iload_n hx hb d_Rows_behindOperand_39 rfl (lv_at hl 2 rfl) ?_
  have hP9 := hP.sub (ws' := [(a1, .inr (11, [.ref a2, .ref a3, .int 2])), (a2, .inl (k0, 362, .inl (upd (upd (fun _ => 0) 0 4) 1 4)))]) [0, 1] rfl
  have hD9 := hD.sub (ws' := [(a1, .inr (11, [.ref a2, .ref a3, .int 2])), (a2, .inl (k0, 362, .inl (upd (upd (fun _ => 0) 0 4) 1 4)))]) [0, 1] (by decide) rfl
  have hK9 := hK.sub (tys' := [(k0, .int)]) [0] rfl
  exact W.iret (v := 1) hx hb hr (fun t ht hW => ⟨⟨1, (), rfl, rfl, by rw [ht]; exact hP9, va_K.moved hW.alike hK9, hD9⟩, hS.F ht⟩) hS.2.2 d_Rows_behindOperand_40
set_option maxHeartbeats 4000000 in
set_option maxRecDepth 100000 in
theorem c71_Tokens_isSign (l : Launch) (dC : Nat → ClassId) (dI : Nat → Nat → Nat) (sz : Nat) (a0 : Nat) (a1 : Nat) (a2 : Nat) (k0 : ClassId) : Met l y_Tokens_isSign w_Tokens_isSign ({ frames := 0, cells := 0, slots := 0, locals := 0 }) (va_Pc [.ref a0, .int 1, .int 96] (fun U => U.heap.size = sz ∧ va_P (dC, dI) vcl [(a0, .inr (11, [.ref a1, .ref a2, .int 2])), (a1, .inl (k0, 362, .inl (upd (upd (fun _ => 0) 0 4) 1 4)))] U.heap ∧ va_K (dC, dI) vcl [(k0, .int)] U ∧ va_D (fun _ => True) [(a0, .inr (11, [.ref a1, .ref a2, .int 2])), (a1, .inl (k0, 362, .inl (upd (upd (fun _ => 0) 0 4) 1 4)))])) (va_Qi (fun (r : Int32) (_ : Unit) => r = 0) (fun _ t => va_P (dC, dI) vcl [(a0, .inr (11, [.ref a1, .ref a2, .int 2])), (a1, .inl (k0, 362, .inl (upd (upd (fun _ => 0) 0 4) 1 4)))] t.heap ∧ va_K (dC, dI) vcl [(k0, .int)] t ∧ va_D (va_A [(a0, .inr (11, [.ref a1, .ref a2, .int 2])), (a1, .inl (k0, 362, .inl (upd (upd (fun _ => 0) 0 4) 1 4)))] sz) [(a0, .inr (11, [.ref a1, .ref a2, .int 2])), (a1, .inl (k0, 362, .inl (upd (upd (fun _ => 0) 0 4) 1 4)))]) (va_A [(a0, .inr (11, [.ref a1, .ref a2, .int 2])), (a1, .inl (k0, 362, .inl (upd (upd (fun _ => 0) 0 4) 1 4)))] sz)) 0 0 (va_A [(a0, .inr (11, [.ref a1, .ref a2, .int 2])), (a1, .inl (k0, 362, .inl (upd (upd (fun _ => 0) 0 4) 1 4)))] sz) := by
  refine Met.ofW (cc := b_Tokens_isSign) (maxL := 3) (ret := (some .boolean)) (by decide) rfl ?_
  intro p e s m args below meth c s₁ B hml hv
  obtain ⟨rfl, hsz, hP, hK, hD0⟩ := hv
  have hx := B.exec
  have hb := B.bytes
  have hr := B.returns
  have hts := atoms_spec (ws := w_Tokens_isSign) B.pre
  have hz : ∀ w ∈ wz, w.before _ s = true := fun w h => hts w (List.mem_cons_of_mem _ h)
  have hown : s.vm.findClass R_Tokens = some m.cls := findClass_of_methodNamed B.named
  have hlocks := B.notSynchronized
  subst hsz
  have hD := hD0.self (sz := s.heap.size)
  generalize hAe : va_A [(a0, .inr (11, [.ref a1, .ref a2, .int 2])), (a1, .inl (k0, 362, .inl (upd (upd (fun _ => 0) 0 4) 1 4)))] s.heap.size = A at hD ⊢
  have hA : ∀ q : Nat, s.heap.size ≤ q → A q := fun q h => by rw [← hAe]; exact Or.inr h
  have hS : va_S A s.heap s.heap [] := va_S.rf
  have hP : va_P (dC, dI) vcl [(a0, .inr (11, [.ref a1, .ref a2, .int 2])), (a1, .inl (k0, 362, .inl (upd (upd (fun _ => 0) 0 4) 1 4)))] s.heap := hP
  have hl := lv_entry ([.ref a0, .int 1, .int 96]) (n := 3) (Nat.le_of_ble_eq_true rfl)
  rw [lg_entry_eq]
  generalize (lg_sl ([.ref a0, .int 1, .int 96]) ++ List.replicate (3 - (lg_sl ([.ref a0, .int 1, .int 96])).length) Slot.unset).toArray = ls at hl ⊢
  have hl : lv_has ls 3 [(0, .ref a0), (1, .int 1), (2, .int 96)] := hl
  refine lv_iload_n hx hb d_Tokens_isSign_0 rfl (lv_at hl 1 rfl) ?_
  refine lv_if_lt (tgt := 38) hx hb d_Tokens_isSign_1 (by decide) (fun h => absurd h (by decide +kernel)) (fun _ => ?_)
  refine lv_iload_n hx hb d_Tokens_isSign_4 rfl (lv_at hl 1 rfl) ?_
  refine lv_aload_n hx hb d_Tokens_isSign_5 rfl (lv_at hl 0 rfl) ?_
  refine va_get (D := (dC, dI)) (ci := 11) (v := .int 2) (C := R_Tokens) (T := F_Tokens) (N := 3) hx hb hz zu_Tokens hown hK hP 0 rfl rfl 2 (by decide) (hz (.fieldLink R_Tokens 19 "LayoutFront$Tokens" "size" "I") zm_111) (fun _ h9 => h9) rfl d_Tokens_isSign_6 ?_
  refine lv_icmp_ge (tgt := 38) hx hb d_Tokens_isSign_9 (by decide) (fun h => absurd h (by decide +kernel)) (fun _ => ?_)
  refine lv_aload_n hx hb d_Tokens_isSign_12 rfl (lv_at hl 0 rfl) ?_
  refine va_get (D := (dC, dI)) (ci := 11) (v := .ref a1) (C := R_Tokens) (T := F_Tokens) (N := 3) hx hb hz zu_Tokens hown hK hP 0 rfl rfl 0 (by decide) (hz (.fieldLink R_Tokens 9 "LayoutFront$Tokens" "kinds" "[I") zm_12) (fun _ h9 => h9) rfl d_Tokens_isSign_13 ?_
  refine lv_iload_n hx hb d_Tokens_isSign_16 rfl (lv_at hl 1 rfl) ?_
  refine xr_iald (v := 4) hx hb hK hP 1 0 rfl rfl (xr_in (by decide +kernel)) (by decide +kernel) d_Tokens_isSign_17 ?_
  refine lv_iconst (v := 3) hx hb d_Tokens_isSign_18 (by decide) ?_
  refine lv_icmp_ne (tgt := 38) hx hb d_Tokens_isSign_19 (by decide) (fun _ => ?_) (fun h => absurd h (by decide +kernel))
  refine lv_iconst (v := 0) hx hb d_Tokens_isSign_38 (by decide) ?_
  have hP9 := hP.sub (ws' := [(a0, .inr (11, [.ref a1, .ref a2, .int 2])), (a1, .inl (k0, 362, .inl (upd (upd (fun _ => 0) 0 4) 1 4)))]) [0, 1] rfl
  have hD9 := hD.sub (ws' := [(a0, .inr (11, [.ref a1, .ref a2, .int 2])), (a1, .inl (k0, 362, .inl (upd (upd (fun _ => 0) 0 4) 1 4)))]) [0, 1] (by decide) rfl
  have hK9 := hK.sub (tys' := [(k0, .int)]) [0] rfl
  exact W.zret (v := 0) hx hb hr (by decide +kernel) (fun t ht hW => ⟨⟨0, (), rfl, rfl, by rw [ht]; exact hP9, va_K.moved hW.alike hK9, hD9⟩, hS.F ht⟩) hS.2.2 d_Tokens_isSign_39
set_option maxHeartbeats 4000000 in
set_option maxRecDepth 100000 in
theorem c72_Tokens_isFreeOperator (l : Launch) (dC : Nat → ClassId) (dI : Nat → Nat → Nat) (sz : Nat) (a0 : Nat) (a1 : Nat) (a2 : Nat) (k0 : ClassId) : Met l y_Tokens_isFreeOperator w_Tokens_isFreeOperator ({ frames := 1, cells := 0, slots := 0, locals := 21 }) (va_Pc [.ref a0, .int 1] (fun U => U.heap.size = sz ∧ va_P (dC, dI) vcl [(a0, .inr (11, [.ref a1, .ref a2, .int 2])), (a1, .inl (k0, 362, .inl (upd (upd (fun _ => 0) 0 4) 1 4)))] U.heap ∧ va_K (dC, dI) vcl [(k0, .int)] U ∧ va_D (fun _ => True) [(a0, .inr (11, [.ref a1, .ref a2, .int 2])), (a1, .inl (k0, 362, .inl (upd (upd (fun _ => 0) 0 4) 1 4)))])) (va_Qi (fun (r : Int32) (_ : Unit) => r = 0) (fun _ t => va_P (dC, dI) vcl [(a0, .inr (11, [.ref a1, .ref a2, .int 2])), (a1, .inl (k0, 362, .inl (upd (upd (fun _ => 0) 0 4) 1 4)))] t.heap ∧ va_K (dC, dI) vcl [(k0, .int)] t ∧ va_D (va_A [(a0, .inr (11, [.ref a1, .ref a2, .int 2])), (a1, .inl (k0, 362, .inl (upd (upd (fun _ => 0) 0 4) 1 4)))] sz) [(a0, .inr (11, [.ref a1, .ref a2, .int 2])), (a1, .inl (k0, 362, .inl (upd (upd (fun _ => 0) 0 4) 1 4)))]) (va_A [(a0, .inr (11, [.ref a1, .ref a2, .int 2])), (a1, .inl (k0, 362, .inl (upd (upd (fun _ => 0) 0 4) 1 4)))] sz)) 0 0 (va_A [(a0, .inr (11, [.ref a1, .ref a2, .int 2])), (a1, .inl (k0, 362, .inl (upd (upd (fun _ => 0) 0 4) 1 4)))] sz) := by
  refine Met.ofW (cc := b_Tokens_isFreeOperator) (maxL := 2) (ret := (some .boolean)) (by decide) rfl ?_
  intro p e s m args below meth c s₁ B hml hv
  obtain ⟨rfl, hsz, hP, hK, hD0⟩ := hv
  have hx := B.exec
  have hb := B.bytes
  have hr := B.returns
  have hts := atoms_spec (ws := w_Tokens_isFreeOperator) B.pre
  have hz : ∀ w ∈ wz, w.before _ s = true := fun w h => hts w (List.mem_cons_of_mem _ h)
  have hown : s.vm.findClass R_Tokens = some m.cls := findClass_of_methodNamed B.named
  have hlocks := B.notSynchronized
  subst hsz
  have hD := hD0.self (sz := s.heap.size)
  generalize hAe : va_A [(a0, .inr (11, [.ref a1, .ref a2, .int 2])), (a1, .inl (k0, 362, .inl (upd (upd (fun _ => 0) 0 4) 1 4)))] s.heap.size = A at hD ⊢
  have hA : ∀ q : Nat, s.heap.size ≤ q → A q := fun q h => by rw [← hAe]; exact Or.inr h
  have hS : va_S A s.heap s.heap [] := va_S.rf
  have hP : va_P (dC, dI) vcl [(a0, .inr (11, [.ref a1, .ref a2, .int 2])), (a1, .inl (k0, 362, .inl (upd (upd (fun _ => 0) 0 4) 1 4)))] s.heap := hP
  have hl := lv_entry ([.ref a0, .int 1]) (n := 2) (Nat.le_of_ble_eq_true rfl)
  rw [lg_entry_eq]
  generalize (lg_sl ([.ref a0, .int 1]) ++ List.replicate (2 - (lg_sl ([.ref a0, .int 1])).length) Slot.unset).toArray = ls at hl ⊢
  have hl : lv_has ls 2 [(0, .ref a0), (1, .int 1)] := hl
  refine lv_aload_n hx hb d_Tokens_isFreeOperator_0 rfl (lv_at hl 0 rfl) ?_
  refine lv_iload_n hx hb d_Tokens_isFreeOperator_1 rfl (lv_at hl 1 rfl) ?_
  have hPc := hP.sub (ws' := [(a0, .inr (11, [.ref a1, .ref a2, .int 2]))]) [0] rfl
  have hDc := hD.sub (ws' := [(a0, .inr (11, [.ref a1, .ref a2, .int 2]))]) [0] (by decide) rfl
  have hKc := hK.sub (tys' := []) [] rfl
  have hFc := va_free (wc := [(a0, .inr (11, [.ref a1, .ref a2, .int 2]))]) hD hS hA [0] rfl
  refine va_calli (va_runV (As := [.int 1]) (rest := []) ⟨hx, hb, hml, hown, hz⟩ (c67_Tokens_has l dC dI s.heap.size a0 a1 a2) (cwV 1 hz (zV zm_135 zm_136 zm_137 zm_17 zm_138) rfl rfl rfl (by decide +kernel) ⟨Nat.le_of_ble_eq_true rfl, Nat.le_of_ble_eq_true rfl⟩) ⟨fun a U g mk q => by obtain ⟨q0, q1, qP, qK, qD⟩ := q; exact ⟨q0, q1, qP, va_K.moved (u := U) (U := U.calling g mk a) (Vm.Alike.refl U.vm) qK, qD⟩, va_recv (q := (R_Tokens, F_Tokens, 3)) (q0 := 0) (ci := 11) hK hP rfl rfl, fun U hU hW => ⟨rfl, by rw [hU], by rw [hU]; exact hPc, va_K.moved hW.alike hKc, hDc.weaken (fun _ _ _ _ => trivial)⟩⟩ rfl rfl hl.1 rfl (lv_room (Nat.le_of_ble_eq_true rfl)) d_Tokens_isFreeOperator_2 ⟨by decide, by decide⟩) hS (fun q _ h => hFc q h) hFc (fun r u t H1 locs ht hvm hw hB hz1 hk1 hS => ?_)
  obtain ⟨hP1, hK1, hD1⟩ := hB
  subst r
  rw [ht] at hP1
  obtain ⟨hP, hD⟩ := va_join (wr := [(a1, .inl (k0, 362, .inl (upd (upd (fun _ => 0) 0 4) 1 4)))]) (w1 := [(a0, .inr (11, [.ref a1, .ref a2, .int 2]))]) hP hD [0] [1] rfl rfl (by decide) (by decide) hk1 hFc hP1 hD1
  generalize H1 = H at hP hS ⊢
  have hP : va_P (dC, dI) vcl [(a1, .inl (k0, 362, .inl (upd (upd (fun _ => 0) 0 4) 1 4))), (a0, .inr (11, [.ref a1, .ref a2, .int 2]))] H := hP
  have hD : va_D A [(a1, .inl (k0, 362, .inl (upd (upd (fun _ => 0) 0 4) 1 4))), (a0, .inr (11, [.ref a1, .ref a2, .int 2]))] := hD
  refine lv_if_eq (tgt := 38) hx hb d_Tokens_isFreeOperator_5 (by decide) (fun h => absurd h (by decide +kernel)) (fun _ => ?_)
  refine lv_aload_n hx hb d_Tokens_isFreeOperator_8 rfl (lv_at hl 0 rfl) ?_
  refine va_get (D := (dC, dI)) (ci := 11) (v := .ref a1) (C := R_Tokens) (T := F_Tokens) (N := 3) hx hb hz zu_Tokens hown hK hP 1 rfl rfl 0 (by decide) (hz (.fieldLink R_Tokens 9 "LayoutFront$Tokens" "kinds" "[I") zm_12) (fun _ h9 => h9) rfl d_Tokens_isFreeOperator_9 ?_
  refine lv_iload_n hx hb d_Tokens_isFreeOperator_12 rfl (lv_at hl 1 rfl) ?_
  refine xr_iald (v := 4) hx hb hK hP 0 0 rfl rfl (xr_in (by decide +kernel)) (by decide +kernel) d_Tokens_isFreeOperator_13 ?_
  refine lv_iconst (v := 2) hx hb d_Tokens_isFreeOperator_14 (by decide) ?_
  refine lv_icmp_ne (tgt := 38) hx hb d_Tokens_isFreeOperator_15 (by decide) (fun _ => ?_) (fun h => absurd h (by decide +kernel))
  refine lv_iconst (v := 0) hx hb d_Tokens_isFreeOperator_38 (by decide) ?_
  have hP9 := hP.sub (ws' := [(a0, .inr (11, [.ref a1, .ref a2, .int 2])), (a1, .inl (k0, 362, .inl (upd (upd (fun _ => 0) 0 4) 1 4)))]) [1, 0] rfl
  have hD9 := hD.sub (ws' := [(a0, .inr (11, [.ref a1, .ref a2, .int 2])), (a1, .inl (k0, 362, .inl (upd (upd (fun _ => 0) 0 4) 1 4)))]) [1, 0] (by decide) rfl
  have hK9 := hK.sub (tys' := [(k0, .int)]) [0] rfl
  exact W.zret (v := 0) hx hb hr (by decide +kernel) (fun t ht hW => ⟨⟨0, (), rfl, rfl, by rw [ht]; exact hP9, va_K.moved hW.alike hK9, hD9⟩, hS.F ht⟩) hS.2.2 d_Tokens_isFreeOperator_39
set_option maxHeartbeats 4000000 in
set_option maxRecDepth 100000 in
theorem c73_Rows_behindOperation (l : Launch) (dC : Nat → ClassId) (dI : Nat → Nat → Nat) (sz : Nat) (a0 : Nat) (a1 : Nat) (a2 : Nat) (k0 : ClassId) : Met l y_Rows_behindOperation w_Rows_behindOperation ({ frames := 2, cells := 0, slots := 0, locals := 42 }) (va_Pc [.ref a0, .int 1] (fun U => U.heap.size = sz ∧ va_P (dC, dI) vcl [(a0, .inr (11, [.ref a1, .ref a2, .int 2])), (a1, .inl (k0, 362, .inl (upd (upd (fun _ => 0) 0 4) 1 4)))] U.heap ∧ va_K (dC, dI) vcl [(k0, .int)] U ∧ va_D (fun _ => True) [(a0, .inr (11, [.ref a1, .ref a2, .int 2])), (a1, .inl (k0, 362, .inl (upd (upd (fun _ => 0) 0 4) 1 4)))])) (va_Qi (fun (r : Int32) (_ : Unit) => r = 1) (fun _ t => va_P (dC, dI) vcl [(a0, .inr (11, [.ref a1, .ref a2, .int 2])), (a1, .inl (k0, 362, .inl (upd (upd (fun _ => 0) 0 4) 1 4)))] t.heap ∧ va_K (dC, dI) vcl [(k0, .int)] t ∧ va_D (va_A [(a0, .inr (11, [.ref a1, .ref a2, .int 2])), (a1, .inl (k0, 362, .inl (upd (upd (fun _ => 0) 0 4) 1 4)))] sz) [(a0, .inr (11, [.ref a1, .ref a2, .int 2])), (a1, .inl (k0, 362, .inl (upd (upd (fun _ => 0) 0 4) 1 4)))]) (va_A [(a0, .inr (11, [.ref a1, .ref a2, .int 2])), (a1, .inl (k0, 362, .inl (upd (upd (fun _ => 0) 0 4) 1 4)))] sz)) 0 0 (va_A [(a0, .inr (11, [.ref a1, .ref a2, .int 2])), (a1, .inl (k0, 362, .inl (upd (upd (fun _ => 0) 0 4) 1 4)))] sz) := by
  refine Met.ofW (cc := b_Rows_behindOperation) (maxL := 2) (ret := (some .int)) (by decide) rfl ?_
  intro p e s m args below meth c s₁ B hml hv
  obtain ⟨rfl, hsz, hP, hK, hD0⟩ := hv
  have hx := B.exec
  have hb := B.bytes
  have hr := B.returns
  have hts := atoms_spec (ws := w_Rows_behindOperation) B.pre
  have hz : ∀ w ∈ wz, w.before _ s = true := fun w h => hts w (List.mem_cons_of_mem _ h)
  have hown : s.vm.findClass R_Rows = some m.cls := findClass_of_methodNamed B.named
  have hlocks := B.notSynchronized
  subst hsz
  have hD := hD0.self (sz := s.heap.size)
  generalize hAe : va_A [(a0, .inr (11, [.ref a1, .ref a2, .int 2])), (a1, .inl (k0, 362, .inl (upd (upd (fun _ => 0) 0 4) 1 4)))] s.heap.size = A at hD ⊢
  have hA : ∀ q : Nat, s.heap.size ≤ q → A q := fun q h => by rw [← hAe]; exact Or.inr h
  have hS : va_S A s.heap s.heap [] := va_S.rf
  have hP : va_P (dC, dI) vcl [(a0, .inr (11, [.ref a1, .ref a2, .int 2])), (a1, .inl (k0, 362, .inl (upd (upd (fun _ => 0) 0 4) 1 4)))] s.heap := hP
  have hl := lv_entry ([.ref a0, .int 1]) (n := 2) (Nat.le_of_ble_eq_true rfl)
  rw [lg_entry_eq]
  generalize (lg_sl ([.ref a0, .int 1]) ++ List.replicate (2 - (lg_sl ([.ref a0, .int 1])).length) Slot.unset).toArray = ls at hl ⊢
  have hl : lv_has ls 2 [(0, .ref a0), (1, .int 1)] := hl
  refine lv_aload_n hx hb d_Rows_behindOperation_0 rfl (lv_at hl 0 rfl) ?_
  refine lv_iload_n hx hb d_Rows_behindOperation_1 rfl (lv_at hl 1 rfl) ?_
  refine lv_bipush (v := 96) hx hb d_Rows_behindOperation_2 (by decide) ?_
  have hPc := hP.sub (ws' := [(a0, .inr (11, [.ref a1, .ref a2, .int 2])), (a1, .inl (k0, 362, .inl (upd (upd (fun _ => 0) 0 4) 1 4)))]) [0, 1] rfl
  have hDc := hD.sub (ws' := [(a0, .inr (11, [.ref a1, .ref a2, .int 2])), (a1, .inl (k0, 362, .inl (upd (upd (fun _ => 0) 0 4) 1 4)))]) [0, 1] (by decide) rfl
  have hKc := hK.sub (tys' := [(k0, .int)]) [0] rfl
  have hFc := va_free (wc := [(a0, .inr (11, [.ref a1, .ref a2, .int 2])), (a1, .inl (k0, 362, .inl (upd (upd (fun _ => 0) 0 4) 1 4)))]) hD hS hA [0, 1] rfl
  refine va_calli (va_runV (As := [.int 1, .int 96]) (rest := []) ⟨hx, hb, hml, hown, hz⟩ (c71_Tokens_isSign l dC dI s.heap.size a0 a1 a2 k0) (cwV 2 hz (zV zm_226 zm_140 zm_141 zm_17 zm_142) rfl rfl rfl (by decide +kernel) ⟨Nat.le_of_ble_eq_true rfl, Nat.le_of_ble_eq_true rfl⟩) ⟨fun a U g mk q => by obtain ⟨q0, q1, qP, qK, qD⟩ := q; exact ⟨q0, q1, qP, va_K.moved (u := U) (U := U.calling g mk a) (Vm.Alike.refl U.vm) qK, qD⟩, va_recv (q := (R_Tokens, F_Tokens, 3)) (q0 := 0) (ci := 11) hK hP rfl rfl, fun U hU hW => ⟨rfl, by rw [hU], by rw [hU]; exact hPc, va_K.moved hW.alike hKc, hDc.weaken (fun _ _ _ _ => trivial)⟩⟩ rfl rfl hl.1 rfl (lv_room (Nat.le_of_ble_eq_true rfl)) d_Rows_behindOperation_4 ⟨by decide, by decide⟩) hS (fun q _ h => hFc q h) hFc (fun r u t H1 locs ht hvm hw hB hz1 hk1 hS => ?_)
  obtain ⟨hP1, hK1, hD1⟩ := hB
  subst r
  rw [ht] at hP1
  obtain ⟨hP, hD⟩ := va_join (wr := []) (w1 := [(a0, .inr (11, [.ref a1, .ref a2, .int 2])), (a1, .inl (k0, 362, .inl (upd (upd (fun _ => 0) 0 4) 1 4)))]) hP hD [0, 1] [] rfl rfl (by decide) (by decide) hk1 hFc hP1 hD1
  generalize H1 = H at hP hS ⊢
  have hP : va_P (dC, dI) vcl [(a0, .inr (11, [.ref a1, .ref a2, .int 2])), (a1, .inl (k0, 362, .inl (upd (upd (fun _ => 0) 0 4) 1 4)))] H := hP
  have hD : va_D A [(a0, .inr (11, [.ref a1, .ref a2, .int 2])), (a1, .inl (k0, 362, .inl (upd (upd (fun _ => 0) 0 4) 1 4)))] := hD
  refine lv_if_eq (tgt := 36) hx hb d_Rows_behindOperation_7 (by decide) (fun _ => ?_) (fun h => (h (by decide +kernel)).elim)
  refine lv_aload_n hx hb d_Rows_behindOperation_36 rfl (lv_at hl 0 rfl) ?_
  refine lv_iload_n hx hb d_Rows_behindOperation_37 rfl (lv_at hl 1 rfl) ?_
  have hPc := hP.sub (ws' := [(a0, .inr (11, [.ref a1, .ref a2, .int 2])), (a1, .inl (k0, 362, .inl (upd (upd (fun _ => 0) 0 4) 1 4)))]) [0, 1] rfl
  have hDc := hD.sub (ws' := [(a0, .inr (11, [.ref a1, .ref a2, .int 2])), (a1, .inl (k0, 362, .inl (upd (upd (fun _ => 0) 0 4) 1 4)))]) [0, 1] (by decide) rfl
  have hKc := hK.sub (tys' := [(k0, .int)]) [0] rfl
  have hFc := va_free (wc := [(a0, .inr (11, [.ref a1, .ref a2, .int 2])), (a1, .inl (k0, 362, .inl (upd (upd (fun _ => 0) 0 4) 1 4)))]) hD hS hA [0, 1] rfl
  refine va_calli (va_runV (As := [.int 1]) (rest := []) ⟨hx, hb, hml, hown, hz⟩ (c72_Tokens_isFreeOperator l dC dI H.size a0 a1 a2 k0) (cwV 1 hz (zV zm_227 zm_228 zm_229 zm_17 zm_230) rfl rfl rfl (by decide +kernel) ⟨Nat.le_of_ble_eq_true rfl, Nat.le_of_ble_eq_true rfl⟩) ⟨fun a U g mk q => by obtain ⟨q0, q1, qP, qK, qD⟩ := q; exact ⟨q0, q1, qP, va_K.moved (u := U) (U := U.calling g mk a) (Vm.Alike.refl U.vm) qK, qD⟩, va_recv (q := (R_Tokens, F_Tokens, 3)) (q0 := 0) (ci := 11) hK hP rfl rfl, fun U hU hW => ⟨rfl, by rw [hU], by rw [hU]; exact hPc, va_K.moved hW.alike hKc, hDc.weaken (fun _ _ _ _ => trivial)⟩⟩ rfl rfl hl.1 rfl (lv_room (Nat.le_of_ble_eq_true rfl)) d_Rows_behindOperation_38 ⟨by decide, by decide⟩) hS (fun q _ h => hFc q h) hFc (fun r u t H1 locs ht hvm hw hB hz1 hk1 hS => ?_)
  obtain ⟨hP1, hK1, hD1⟩ := hB
  subst r
  rw [ht] at hP1
  obtain ⟨hP, hD⟩ := va_join (wr := []) (w1 := [(a0, .inr (11, [.ref a1, .ref a2, .int 2])), (a1, .inl (k0, 362, .inl (upd (upd (fun _ => 0) 0 4) 1 4)))]) hP hD [0, 1] [] rfl rfl (by decide) (by decide) hk1 hFc hP1 hD1
  generalize H1 = H at hP hS ⊢
  have hP : va_P (dC, dI) vcl [(a0, .inr (11, [.ref a1, .ref a2, .int 2])), (a1, .inl (k0, 362, .inl (upd (upd (fun _ => 0) 0 4) 1 4)))] H := hP
  have hD : va_D A [(a0, .inr (11, [.ref a1, .ref a2, .int 2])), (a1, .inl (k0, 362, .inl (upd (upd (fun _ => 0) 0 4) 1 4)))] := hD
  refine lv_if_eq (tgt := 50) hx hb d_Rows_behindOperation_41 (by decide) (fun _ => ?_) (fun h => (h (by decide +kernel)).elim)
  refine lv_iload_n hx hb d_Rows_behindOperation_50 rfl (lv_at hl 1 rfl) ?_
  have hP9 := hP.sub (ws' := [(a0, .inr (11, [.ref a1, .ref a2, .int 2])), (a1, .inl (k0, 362, .inl (upd (upd (fun _ => 0) 0 4) 1 4)))]) [0, 1] rfl
  have hD9 := hD.sub (ws' := [(a0, .inr (11, [.ref a1, .ref a2, .int 2])), (a1, .inl (k0, 362, .inl (upd (upd (fun _ => 0) 0 4) 1 4)))]) [0, 1] (by decide) rfl
  have hK9 := hK.sub (tys' := [(k0, .int)]) [0] rfl
  exact W.iret (v := 1) hx hb hr (fun t ht hW => ⟨⟨1, (), rfl, rfl, by rw [ht]; exact hP9, va_K.moved hW.alike hK9, hD9⟩, hS.F ht⟩) hS.2.2 d_Rows_behindOperation_51
