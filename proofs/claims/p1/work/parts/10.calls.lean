set_option maxHeartbeats 4000000 in
set_option maxRecDepth 100000 in
theorem c112_Text_clear (l : Launch) (dC : Nat → ClassId) (dI : Nat → Nat → Nat) (sz : Nat) (a0 : Nat) (a1 : Nat) : Met l y_Text_clear w_Text_clear ({ frames := 0, cells := 0, slots := 0, locals := 0 }) (va_Pc [.ref a0] (fun U => U.heap.size = sz ∧ va_P (dC, dI) vcl [(a0, .inr (10, [.ref a1, .int 0]))] U.heap ∧ va_K (dC, dI) vcl [] U ∧ va_D (fun _ => True) [(a0, .inr (10, [.ref a1, .int 0]))])) (va_Qv (fun (_ : Unit) => True) (fun _ t => va_P (dC, dI) vcl [(a0, .inr (10, [.ref a1, .int 0]))] t.heap ∧ va_K (dC, dI) vcl [] t ∧ va_D (va_A [(a0, .inr (10, [.ref a1, .int 0]))] sz) [(a0, .inr (10, [.ref a1, .int 0]))]) (va_A [(a0, .inr (10, [.ref a1, .int 0]))] sz)) 0 0 (va_A [(a0, .inr (10, [.ref a1, .int 0]))] sz) := by
  refine Met.ofW (cc := b_Text_clear) (maxL := 1) (ret := none) (by decide) rfl ?_
  intro p e s m args below meth c s₁ B hml hv
  obtain ⟨rfl, hsz, hP, hK, hD0⟩ := hv
  have hx := B.exec
  have hb := B.bytes
  have hr := B.returns
  have hts := atoms_spec (ws := w_Text_clear) B.pre
  have hz : ∀ w ∈ wz, w.before _ s = true := fun w h => hts w (List.mem_cons_of_mem _ h)
  have hown : s.vm.findClass R_Text = some m.cls := findClass_of_methodNamed B.named
  have hlocks := B.notSynchronized
  subst hsz
  have hD := hD0.self (sz := s.heap.size)
  generalize hAe : va_A [(a0, .inr (10, [.ref a1, .int 0]))] s.heap.size = A at hD ⊢
  have hA : ∀ q : Nat, s.heap.size ≤ q → A q := fun q h => by rw [← hAe]; exact Or.inr h
  have hS : va_S A s.heap s.heap [] := va_S.rf
  have hP : va_P (dC, dI) vcl [(a0, .inr (10, [.ref a1, .int 0]))] s.heap := hP
  have hl := lv_entry ([.ref a0]) (n := 1) (Nat.le_of_ble_eq_true rfl)
  rw [lg_entry_eq]
  generalize (lg_sl ([.ref a0]) ++ List.replicate (1 - (lg_sl ([.ref a0])).length) Slot.unset).toArray = ls at hl ⊢
  have hl : lv_has ls 1 [(0, .ref a0)] := hl
  refine lv_aload_n hx hb d_Text_clear_0 rfl (lv_at hl 0 rfl) ?_
  refine lv_iconst (v := 0) hx hb d_Text_clear_1 (by decide) ?_
  refine va_put (D := (dC, dI)) (ci := 10) (v := .int 0) (ty := .int) (C := R_Text) (T := F_Text) (N := 2) hx hb hz zu_Text t_Text t_Text_ok n_Text hown hK hP hD hS 0 rfl rfl 1 (by decide) (hz (.fieldLink R_Text 19 "LayoutFront$Text" "length" "I") zm_116) (fun _ h9 => h9) rfl (by decide +kernel) rfl rfl (Nat.le_of_ble_eq_true rfl) d_Text_clear_2 (fun H locs hP hD hS => ?_)
  have hP : va_P (dC, dI) vcl [(a0, .inr (10, [.ref a1, .int 0]))] H := hP
  have hD : va_D A [(a0, .inr (10, [.ref a1, .int 0]))] := hD
  have hP9 := hP.sub (ws' := [(a0, .inr (10, [.ref a1, .int 0]))]) [0] rfl
  have hD9 := hD.sub (ws' := [(a0, .inr (10, [.ref a1, .int 0]))]) [0] (by decide) rfl
  have hK9 := hK.sub (tys' := []) [] rfl
  exact W.vret hx hb hr (fun t ht hW => ⟨⟨(), rfl, trivial, by rw [ht]; exact hP9, va_K.moved hW.alike hK9, hD9⟩, hS.F ht⟩) hS.2.2 d_Text_clear_5
set_option maxHeartbeats 4000000 in
set_option maxRecDepth 100000 in
theorem c113_LF_erase (l : Launch) (dC : Nat → ClassId) (dI : Nat → Nat → Nat) (sz : Nat) (a0 : Nat) (a1 : Nat) (a2 : Nat) (a3 : Nat) (a4 : Nat) (a5 : Nat) (a6 : Nat) (a7 : Nat) (a8 : Nat) : Met l y_LF_erase w_LF_erase ({ frames := 1, cells := 0, slots := 0, locals := 20 }) (va_Pc [.ref a0] (fun U => U.heap.size = sz ∧ va_P (dC, dI) vcl [(a0, .inr (0, [.ref a1, .ref a2, .ref a3, .ref a4, .ref a5, .ref a6, .ref a7, .int (-1)])), (a1, .inr (10, [.ref a8, .int 0]))] U.heap ∧ va_K (dC, dI) vcl [] U ∧ va_D (fun _ => True) [(a0, .inr (0, [.ref a1, .ref a2, .ref a3, .ref a4, .ref a5, .ref a6, .ref a7, .int (-1)])), (a1, .inr (10, [.ref a8, .int 0]))])) (va_Qi (fun (r : Int32) (_ : Unit) => r = 0) (fun _ t => va_P (dC, dI) vcl [(a0, .inr (0, [.ref a1, .ref a2, .ref a3, .ref a4, .ref a5, .ref a6, .ref a7, .int (-1)])), (a1, .inr (10, [.ref a8, .int 0]))] t.heap ∧ va_K (dC, dI) vcl [] t ∧ va_D (va_A [(a0, .inr (0, [.ref a1, .ref a2, .ref a3, .ref a4, .ref a5, .ref a6, .ref a7, .int (-1)])), (a1, .inr (10, [.ref a8, .int 0]))] sz) [(a0, .inr (0, [.ref a1, .ref a2, .ref a3, .ref a4, .ref a5, .ref a6, .ref a7, .int (-1)])), (a1, .inr (10, [.ref a8, .int 0]))]) (va_A [(a0, .inr (0, [.ref a1, .ref a2, .ref a3, .ref a4, .ref a5, .ref a6, .ref a7, .int (-1)])), (a1, .inr (10, [.ref a8, .int 0]))] sz)) 0 0 (va_A [(a0, .inr (0, [.ref a1, .ref a2, .ref a3, .ref a4, .ref a5, .ref a6, .ref a7, .int (-1)])), (a1, .inr (10, [.ref a8, .int 0]))] sz) := by
  refine Met.ofW (cc := b_LF_erase) (maxL := 2) (ret := (some .int)) (by decide) rfl ?_
  intro p e s m args below meth c s₁ B hml hv
  obtain ⟨rfl, hsz, hP, hK, hD0⟩ := hv
  have hx := B.exec
  have hb := B.bytes
  have hr := B.returns
  have hts := atoms_spec (ws := w_LF_erase) B.pre
  have hz : ∀ w ∈ wz, w.before _ s = true := fun w h => hts w (List.mem_cons_of_mem _ h)
  have hown : s.vm.findClass R_LF = some m.cls := findClass_of_methodNamed B.named
  have hlocks := B.notSynchronized
  subst hsz
  have hD := hD0.self (sz := s.heap.size)
  generalize hAe : va_A [(a0, .inr (0, [.ref a1, .ref a2, .ref a3, .ref a4, .ref a5, .ref a6, .ref a7, .int (-1)])), (a1, .inr (10, [.ref a8, .int 0]))] s.heap.size = A at hD ⊢
  have hA : ∀ q : Nat, s.heap.size ≤ q → A q := fun q h => by rw [← hAe]; exact Or.inr h
  have hS : va_S A s.heap s.heap [] := va_S.rf
  have hP : va_P (dC, dI) vcl [(a0, .inr (0, [.ref a1, .ref a2, .ref a3, .ref a4, .ref a5, .ref a6, .ref a7, .int (-1)])), (a1, .inr (10, [.ref a8, .int 0]))] s.heap := hP
  have hl := lv_entry ([.ref a0]) (n := 2) (Nat.le_of_ble_eq_true rfl)
  rw [lg_entry_eq]
  generalize (lg_sl ([.ref a0]) ++ List.replicate (2 - (lg_sl ([.ref a0])).length) Slot.unset).toArray = ls at hl ⊢
  have hl : lv_has ls 2 [(0, .ref a0)] := hl
  refine lv_aload_n hx hb d_LF_erase_0 rfl (lv_at hl 0 rfl) ?_
  refine va_get (D := (dC, dI)) (ci := 0) (v := .ref a1) (C := R_LF) (T := F_LF) (N := 8) hx hb hz zu_LF hown hK hP 0 rfl rfl 0 (by decide) (hz (.fieldLink R_LF 12 "LayoutFront" "text" "LLayoutFront$Text;") zm_81) (fun _ h9 => h9) rfl d_LF_erase_1 ?_
  have hPc := hP.sub (ws' := [(a1, .inr (10, [.ref a8, .int 0]))]) [1] rfl
  have hDc := hD.sub (ws' := [(a1, .inr (10, [.ref a8, .int 0]))]) [1] (by decide) rfl
  have hKc := hK.sub (tys' := []) [] rfl
  have hFc := va_free (wc := [(a1, .inr (10, [.ref a8, .int 0]))]) hD hS hA [1] rfl
  refine va_calli (va_runV (As := []) (rest := []) ⟨hx, hb, hml, hown, hz⟩ (c16_Text_length l dC dI s.heap.size a1 a8) (cwV 0 hz (zV zm_313 zm_126 zm_127 zm_78 zm_128) rfl rfl rfl (by decide +kernel) ⟨Nat.le_of_ble_eq_true rfl, Nat.le_of_ble_eq_true rfl⟩) ⟨fun a U g mk q => by obtain ⟨q0, q1, qP, qK, qD⟩ := q; exact ⟨q0, q1, qP, va_K.moved (u := U) (U := U.calling g mk a) (Vm.Alike.refl U.vm) qK, qD⟩, va_recv (q := (R_Text, F_Text, 2)) (q0 := 1) (ci := 10) hK hP rfl rfl, fun U hU hW => ⟨rfl, by rw [hU], by rw [hU]; exact hPc, va_K.moved hW.alike hKc, hDc.weaken (fun _ _ _ _ => trivial)⟩⟩ rfl rfl hl.1 rfl (lv_room (Nat.le_of_ble_eq_true rfl)) d_LF_erase_4 ⟨by decide, by decide⟩) hS (fun q _ h => hFc q h) hFc (fun r u t H1 locs ht hvm hw hB hz1 hk1 hS => ?_)
  obtain ⟨hP1, hK1, hD1⟩ := hB
  subst r
  rw [ht] at hP1
  obtain ⟨hP, hD⟩ := va_join (wr := [(a0, .inr (0, [.ref a1, .ref a2, .ref a3, .ref a4, .ref a5, .ref a6, .ref a7, .int (-1)]))]) (w1 := [(a1, .inr (10, [.ref a8, .int 0]))]) hP hD [1] [0] rfl rfl (by decide) (by decide) hk1 hFc hP1 hD1
  generalize H1 = H at hP hS ⊢
  have hP : va_P (dC, dI) vcl [(a0, .inr (0, [.ref a1, .ref a2, .ref a3, .ref a4, .ref a5, .ref a6, .ref a7, .int (-1)])), (a1, .inr (10, [.ref a8, .int 0]))] H := hP
  have hD : va_D A [(a0, .inr (0, [.ref a1, .ref a2, .ref a3, .ref a4, .ref a5, .ref a6, .ref a7, .int (-1)])), (a1, .inr (10, [.ref a8, .int 0]))] := hD
  refine lv_istore_n hx hb d_LF_erase_7 rfl hl (by decide) rfl (fun ls hl => ?_)
  have hl : lv_has ls 2 [(1, .int 0), (0, .ref a0)] := hl
  refine lv_aload_n hx hb d_LF_erase_8 rfl (lv_at hl 1 rfl) ?_
  refine va_get (D := (dC, dI)) (ci := 0) (v := .ref a1) (C := R_LF) (T := F_LF) (N := 8) hx hb hz zu_LF hown hK hP 0 rfl rfl 0 (by decide) (hz (.fieldLink R_LF 12 "LayoutFront" "text" "LLayoutFront$Text;") zm_81) (fun _ h9 => h9) rfl d_LF_erase_9 ?_
  have hPc := hP.sub (ws' := [(a1, .inr (10, [.ref a8, .int 0]))]) [1] rfl
  have hDc := hD.sub (ws' := [(a1, .inr (10, [.ref a8, .int 0]))]) [1] (by decide) rfl
  have hKc := hK.sub (tys' := []) [] rfl
  have hFc := va_free (wc := [(a1, .inr (10, [.ref a8, .int 0]))]) hD hS hA [1] rfl
  refine va_callv (va_runV (As := []) (rest := []) ⟨hx, hb, hml, hown, hz⟩ (c112_Text_clear l dC dI H.size a1 a8) (cwV 0 hz (zV zm_437 zm_438 zm_439 zm_78 zm_440) rfl rfl rfl (by decide +kernel) ⟨Nat.le_of_ble_eq_true rfl, Nat.le_of_ble_eq_true rfl⟩) ⟨fun a U g mk q => by obtain ⟨q0, q1, qP, qK, qD⟩ := q; exact ⟨q0, q1, qP, va_K.moved (u := U) (U := U.calling g mk a) (Vm.Alike.refl U.vm) qK, qD⟩, va_recv (q := (R_Text, F_Text, 2)) (q0 := 1) (ci := 10) hK hP rfl rfl, fun U hU hW => ⟨rfl, by rw [hU], by rw [hU]; exact hPc, va_K.moved hW.alike hKc, hDc.weaken (fun _ _ _ _ => trivial)⟩⟩ rfl rfl hl.1 rfl (lv_room (Nat.le_of_ble_eq_true rfl)) d_LF_erase_12 ⟨by decide, by decide⟩) hS (fun q _ h => hFc q h) hFc (fun u t H1 locs ht hvm hw hB hz1 hk1 hS => ?_)
  obtain ⟨hP1, hK1, hD1⟩ := hB
  rw [ht] at hP1
  obtain ⟨hP, hD⟩ := va_join (wr := [(a0, .inr (0, [.ref a1, .ref a2, .ref a3, .ref a4, .ref a5, .ref a6, .ref a7, .int (-1)]))]) (w1 := [(a1, .inr (10, [.ref a8, .int 0]))]) hP hD [1] [0] rfl rfl (by decide) (by decide) hk1 hFc hP1 hD1
  generalize H1 = H at hP hS ⊢
  have hP : va_P (dC, dI) vcl [(a0, .inr (0, [.ref a1, .ref a2, .ref a3, .ref a4, .ref a5, .ref a6, .ref a7, .int (-1)])), (a1, .inr (10, [.ref a8, .int 0]))] H := hP
  have hD : va_D A [(a0, .inr (0, [.ref a1, .ref a2, .ref a3, .ref a4, .ref a5, .ref a6, .ref a7, .int (-1)])), (a1, .inr (10, [.ref a8, .int 0]))] := hD
  refine lv_iload_n hx hb d_LF_erase_15 rfl (lv_at hl 0 rfl) ?_
  have hP9 := hP.sub (ws' := [(a0, .inr (0, [.ref a1, .ref a2, .ref a3, .ref a4, .ref a5, .ref a6, .ref a7, .int (-1)])), (a1, .inr (10, [.ref a8, .int 0]))]) [0, 1] rfl
  have hD9 := hD.sub (ws' := [(a0, .inr (0, [.ref a1, .ref a2, .ref a3, .ref a4, .ref a5, .ref a6, .ref a7, .int (-1)])), (a1, .inr (10, [.ref a8, .int 0]))]) [0, 1] (by decide) rfl
  have hK9 := hK.sub (tys' := []) [] rfl
  exact W.iret (v := 0) hx hb hr (fun t ht hW => ⟨⟨0, (), rfl, rfl, by rw [ht]; exact hP9, va_K.moved hW.alike hK9, hD9⟩, hS.F ht⟩) hS.2.2 d_LF_erase_16
set_option maxHeartbeats 4000000 in
set_option maxRecDepth 100000 in
theorem c114_LF_place (l : Launch) (dC : Nat → ClassId) (dI : Nat → Nat → Nat) (sz : Nat) (a0 : Nat) (a1 : Nat) (a2 : Nat) (a3 : Nat) (a4 : Nat) (a5 : Nat) (a6 : Nat) (a7 : Nat) : Met l y_LF_place w_LF_place ({ frames := 0, cells := 0, slots := 0, locals := 0 }) (va_Pc [.ref a0] (fun U => U.heap.size = sz ∧ va_P (dC, dI) vcl [(a0, .inr (0, [.ref a1, .ref a2, .ref a3, .ref a4, .ref a5, .ref a6, .ref a7, .int (-1)]))] U.heap ∧ va_K (dC, dI) vcl [] U ∧ va_D (fun _ => True) [(a0, .inr (0, [.ref a1, .ref a2, .ref a3, .ref a4, .ref a5, .ref a6, .ref a7, .int (-1)]))])) (va_Qi (fun (r : Int32) (_ : Unit) => r = (-1)) (fun _ t => va_P (dC, dI) vcl [(a0, .inr (0, [.ref a1, .ref a2, .ref a3, .ref a4, .ref a5, .ref a6, .ref a7, .int (-1)]))] t.heap ∧ va_K (dC, dI) vcl [] t ∧ va_D (va_A [(a0, .inr (0, [.ref a1, .ref a2, .ref a3, .ref a4, .ref a5, .ref a6, .ref a7, .int (-1)]))] sz) [(a0, .inr (0, [.ref a1, .ref a2, .ref a3, .ref a4, .ref a5, .ref a6, .ref a7, .int (-1)]))]) (va_A [(a0, .inr (0, [.ref a1, .ref a2, .ref a3, .ref a4, .ref a5, .ref a6, .ref a7, .int (-1)]))] sz)) 0 0 (va_A [(a0, .inr (0, [.ref a1, .ref a2, .ref a3, .ref a4, .ref a5, .ref a6, .ref a7, .int (-1)]))] sz) := by
  refine Met.ofW (cc := b_LF_place) (maxL := 1) (ret := (some .int)) (by decide) rfl ?_
  intro p e s m args below meth c s₁ B hml hv
  obtain ⟨rfl, hsz, hP, hK, hD0⟩ := hv
  have hx := B.exec
  have hb := B.bytes
  have hr := B.returns
  have hts := atoms_spec (ws := w_LF_place) B.pre
  have hz : ∀ w ∈ wz, w.before _ s = true := fun w h => hts w (List.mem_cons_of_mem _ h)
  have hown : s.vm.findClass R_LF = some m.cls := findClass_of_methodNamed B.named
  have hlocks := B.notSynchronized
  subst hsz
  have hD := hD0.self (sz := s.heap.size)
  generalize hAe : va_A [(a0, .inr (0, [.ref a1, .ref a2, .ref a3, .ref a4, .ref a5, .ref a6, .ref a7, .int (-1)]))] s.heap.size = A at hD ⊢
  have hA : ∀ q : Nat, s.heap.size ≤ q → A q := fun q h => by rw [← hAe]; exact Or.inr h
  have hS : va_S A s.heap s.heap [] := va_S.rf
  have hP : va_P (dC, dI) vcl [(a0, .inr (0, [.ref a1, .ref a2, .ref a3, .ref a4, .ref a5, .ref a6, .ref a7, .int (-1)]))] s.heap := hP
  have hl := lv_entry ([.ref a0]) (n := 1) (Nat.le_of_ble_eq_true rfl)
  rw [lg_entry_eq]
  generalize (lg_sl ([.ref a0]) ++ List.replicate (1 - (lg_sl ([.ref a0])).length) Slot.unset).toArray = ls at hl ⊢
  have hl : lv_has ls 1 [(0, .ref a0)] := hl
  refine lv_aload_n hx hb d_LF_place_0 rfl (lv_at hl 0 rfl) ?_
  refine va_get (D := (dC, dI)) (ci := 0) (v := .int (-1)) (C := R_LF) (T := F_LF) (N := 8) hx hb hz zu_LF hown hK hP 0 rfl rfl 7 (by decide) (hz (.fieldLink R_LF 57 "LayoutFront" "wrongPlace" "I") zm_110) (fun _ h9 => h9) rfl d_LF_place_1 ?_
  have hP9 := hP.sub (ws' := [(a0, .inr (0, [.ref a1, .ref a2, .ref a3, .ref a4, .ref a5, .ref a6, .ref a7, .int (-1)]))]) [0] rfl
  have hD9 := hD.sub (ws' := [(a0, .inr (0, [.ref a1, .ref a2, .ref a3, .ref a4, .ref a5, .ref a6, .ref a7, .int (-1)]))]) [0] (by decide) rfl
  have hK9 := hK.sub (tys' := []) [] rfl
  exact W.iret (v := (-1)) hx hb hr (fun t ht hW => ⟨⟨(-1), (), rfl, rfl, by rw [ht]; exact hP9, va_K.moved hW.alike hK9, hD9⟩, hS.F ht⟩) hS.2.2 d_LF_place_4
set_option maxHeartbeats 4000000 in
set_option maxRecDepth 100000 in
theorem c115_Model_erase (l : Launch) (dC : Nat → ClassId) (dI : Nat → Nat → Nat) (sz : Nat) (a0 : Nat) (a1 : Nat) (a2 : Nat) (a3 : Nat) (a4 : Nat) (a5 : Nat) (a6 : Nat) (a7 : Nat) (a8 : Nat) (a9 : Nat) (a10 : Nat) (a11 : Nat) (a12 : Nat) (a13 : Nat) (a14 : Nat) (a15 : Nat) (a16 : Nat) (a17 : Nat) (a18 : Nat) (a19 : Nat) (a20 : Nat) (a21 : Nat) (a22 : Nat) (a23 : Nat) (a24 : Nat) (a25 : Nat) (a26 : Nat) (a27 : Nat) : Met l y_Model_erase w_Model_erase ({ frames := 0, cells := 0, slots := 0, locals := 0 }) (va_Pc [.ref a0] (fun U => U.heap.size = sz ∧ va_P (dC, dI) vcl [(a0, .inr (1, [.int 0, .int 0, .ref a1, .int 0, .int (-1), .int 0, .int 0, .ref a2, .ref a3, .ref a4, .ref a5, .ref a6, .int 0, .int 0, .ref a7, .int 0, .int 0, .ref a8, .ref a9, .ref a10, .ref a11, .ref a12, .ref a13, .int 0, .ref a14, .ref a15, .int 0, .int 0, .int 0, .int 0, .int 0, .int 0, .ref a16, .ref a17, .ref a18, .int 0, .int 0, .int 0, .int 0, .int 0, .int 0, .ref a19, .ref a20, .ref a21, .ref a22, .ref a23, .ref a24, .ref a25, .ref a26, .ref a27]))] U.heap ∧ va_K (dC, dI) vcl [] U ∧ va_D (fun _ => True) [(a0, .inr (1, [.int 0, .int 0, .ref a1, .int 0, .int (-1), .int 0, .int 0, .ref a2, .ref a3, .ref a4, .ref a5, .ref a6, .int 0, .int 0, .ref a7, .int 0, .int 0, .ref a8, .ref a9, .ref a10, .ref a11, .ref a12, .ref a13, .int 0, .ref a14, .ref a15, .int 0, .int 0, .int 0, .int 0, .int 0, .int 0, .ref a16, .ref a17, .ref a18, .int 0, .int 0, .int 0, .int 0, .int 0, .int 0, .ref a19, .ref a20, .ref a21, .ref a22, .ref a23, .ref a24, .ref a25, .ref a26, .ref a27]))])) (va_Qi (fun (r : Int32) (_ : Unit) => r = 0) (fun _ t => va_P (dC, dI) vcl [(a0, .inr (1, [.int 0, .int 0, .ref a1, .int 0, .int (-1), .int 0, .int 0, .ref a2, .ref a3, .ref a4, .ref a5, .ref a6, .int 0, .int 0, .ref a7, .int 0, .int 0, .ref a8, .ref a9, .ref a10, .ref a11, .ref a12, .ref a13, .int 0, .ref a14, .ref a15, .int 0, .int 0, .int 0, .int 0, .int 0, .int 0, .ref a16, .ref a17, .ref a18, .int 0, .int 0, .int 0, .int 0, .int 0, .int 0, .ref a19, .ref a20, .ref a21, .ref a22, .ref a23, .ref a24, .ref a25, .ref a26, .ref a27]))] t.heap ∧ va_K (dC, dI) vcl [] t ∧ va_D (va_A [(a0, .inr (1, [.int 0, .int 0, .ref a1, .int 0, .int (-1), .int 0, .int 0, .ref a2, .ref a3, .ref a4, .ref a5, .ref a6, .int 0, .int 0, .ref a7, .int 0, .int 0, .ref a8, .ref a9, .ref a10, .ref a11, .ref a12, .ref a13, .int 0, .ref a14, .ref a15, .int 0, .int 0, .int 0, .int 0, .int 0, .int 0, .ref a16, .ref a17, .ref a18, .int 0, .int 0, .int 0, .int 0, .int 0, .int 0, .ref a19, .ref a20, .ref a21, .ref a22, .ref a23, .ref a24, .ref a25, .ref a26, .ref a27]))] sz) [(a0, .inr (1, [.int 0, .int 0, .ref a1, .int 0, .int (-1), .int 0, .int 0, .ref a2, .ref a3, .ref a4, .ref a5, .ref a6, .int 0, .int 0, .ref a7, .int 0, .int 0, .ref a8, .ref a9, .ref a10, .ref a11, .ref a12, .ref a13, .int 0, .ref a14, .ref a15, .int 0, .int 0, .int 0, .int 0, .int 0, .int 0, .ref a16, .ref a17, .ref a18, .int 0, .int 0, .int 0, .int 0, .int 0, .int 0, .ref a19, .ref a20, .ref a21, .ref a22, .ref a23, .ref a24, .ref a25, .ref a26, .ref a27]))]) (va_A [(a0, .inr (1, [.int 0, .int 0, .ref a1, .int 0, .int (-1), .int 0, .int 0, .ref a2, .ref a3, .ref a4, .ref a5, .ref a6, .int 0, .int 0, .ref a7, .int 0, .int 0, .ref a8, .ref a9, .ref a10, .ref a11, .ref a12, .ref a13, .int 0, .ref a14, .ref a15, .int 0, .int 0, .int 0, .int 0, .int 0, .int 0, .ref a16, .ref a17, .ref a18, .int 0, .int 0, .int 0, .int 0, .int 0, .int 0, .ref a19, .ref a20, .ref a21, .ref a22, .ref a23, .ref a24, .ref a25, .ref a26, .ref a27]))] sz)) 0 0 (va_A [(a0, .inr (1, [.int 0, .int 0, .ref a1, .int 0, .int (-1), .int 0, .int 0, .ref a2, .ref a3, .ref a4, .ref a5, .ref a6, .int 0, .int 0, .ref a7, .int 0, .int 0, .ref a8, .ref a9, .ref a10, .ref a11, .ref a12, .ref a13, .int 0, .ref a14, .ref a15, .int 0, .int 0, .int 0, .int 0, .int 0, .int 0, .ref a16, .ref a17, .ref a18, .int 0, .int 0, .int 0, .int 0, .int 0, .int 0, .ref a19, .ref a20, .ref a21, .ref a22, .ref a23, .ref a24, .ref a25, .ref a26, .ref a27]))] sz) := by
  refine Met.ofW (cc := b_Model_erase) (maxL := 2) (ret := (some .int)) (by decide) rfl ?_
  intro p e s m args below meth c s₁ B hml hv
  obtain ⟨rfl, hsz, hP, hK, hD0⟩ := hv
  have hx := B.exec
  have hb := B.bytes
  have hr := B.returns
  have hts := atoms_spec (ws := w_Model_erase) B.pre
  have hz : ∀ w ∈ wz, w.before _ s = true := fun w h => hts w (List.mem_cons_of_mem _ h)
  have hown : s.vm.findClass R_Model = some m.cls := findClass_of_methodNamed B.named
  have hlocks := B.notSynchronized
  subst hsz
  have hD := hD0.self (sz := s.heap.size)
  generalize hAe : va_A [(a0, .inr (1, [.int 0, .int 0, .ref a1, .int 0, .int (-1), .int 0, .int 0, .ref a2, .ref a3, .ref a4, .ref a5, .ref a6, .int 0, .int 0, .ref a7, .int 0, .int 0, .ref a8, .ref a9, .ref a10, .ref a11, .ref a12, .ref a13, .int 0, .ref a14, .ref a15, .int 0, .int 0, .int 0, .int 0, .int 0, .int 0, .ref a16, .ref a17, .ref a18, .int 0, .int 0, .int 0, .int 0, .int 0, .int 0, .ref a19, .ref a20, .ref a21, .ref a22, .ref a23, .ref a24, .ref a25, .ref a26, .ref a27]))] s.heap.size = A at hD ⊢
  have hA : ∀ q : Nat, s.heap.size ≤ q → A q := fun q h => by rw [← hAe]; exact Or.inr h
  have hS : va_S A s.heap s.heap [] := va_S.rf
  have hP : va_P (dC, dI) vcl [(a0, .inr (1, [.int 0, .int 0, .ref a1, .int 0, .int (-1), .int 0, .int 0, .ref a2, .ref a3, .ref a4, .ref a5, .ref a6, .int 0, .int 0, .ref a7, .int 0, .int 0, .ref a8, .ref a9, .ref a10, .ref a11, .ref a12, .ref a13, .int 0, .ref a14, .ref a15, .int 0, .int 0, .int 0, .int 0, .int 0, .int 0, .ref a16, .ref a17, .ref a18, .int 0, .int 0, .int 0, .int 0, .int 0, .int 0, .ref a19, .ref a20, .ref a21, .ref a22, .ref a23, .ref a24, .ref a25, .ref a26, .ref a27]))] s.heap := hP
  have hl := lv_entry ([.ref a0]) (n := 2) (Nat.le_of_ble_eq_true rfl)
  rw [lg_entry_eq]
  generalize (lg_sl ([.ref a0]) ++ List.replicate (2 - (lg_sl ([.ref a0])).length) Slot.unset).toArray = ls at hl ⊢
  have hl : lv_has ls 2 [(0, .ref a0)] := hl
  refine lv_aload_n hx hb d_Model_erase_0 rfl (lv_at hl 0 rfl) ?_
  refine lv_iconst (v := 0) hx hb d_Model_erase_1 (by decide) ?_
  refine va_put (D := (dC, dI)) (ci := 1) (v := .int 0) (ty := .int) (C := R_Model) (T := F_Model) (N := 50) hx hb hz zu_Model t_Model t_Model_ok n_Model hown hK hP hD hS 0 rfl rfl 0 (by decide) (hz (.fieldLink R_Model 97 "LayoutFrontModel" "thrown" "I") zm_415) (fun _ h9 => h9) rfl (by decide +kernel) rfl rfl (Nat.le_of_ble_eq_true rfl) d_Model_erase_2 (fun H locs hP hD hS => ?_)
  have hP : va_P (dC, dI) vcl [(a0, .inr (1, [.int 0, .int 0, .ref a1, .int 0, .int (-1), .int 0, .int 0, .ref a2, .ref a3, .ref a4, .ref a5, .ref a6, .int 0, .int 0, .ref a7, .int 0, .int 0, .ref a8, .ref a9, .ref a10, .ref a11, .ref a12, .ref a13, .int 0, .ref a14, .ref a15, .int 0, .int 0, .int 0, .int 0, .int 0, .int 0, .ref a16, .ref a17, .ref a18, .int 0, .int 0, .int 0, .int 0, .int 0, .int 0, .ref a19, .ref a20, .ref a21, .ref a22, .ref a23, .ref a24, .ref a25, .ref a26, .ref a27]))] H := hP
  have hD : va_D A [(a0, .inr (1, [.int 0, .int 0, .ref a1, .int 0, .int (-1), .int 0, .int 0, .ref a2, .ref a3, .ref a4, .ref a5, .ref a6, .int 0, .int 0, .ref a7, .int 0, .int 0, .ref a8, .ref a9, .ref a10, .ref a11, .ref a12, .ref a13, .int 0, .ref a14, .ref a15, .int 0, .int 0, .int 0, .int 0, .int 0, .int 0, .ref a16, .ref a17, .ref a18, .int 0, .int 0, .int 0, .int 0, .int 0, .int 0, .ref a19, .ref a20, .ref a21, .ref a22, .ref a23, .ref a24, .ref a25, .ref a26, .ref a27]))] := hD
  refine lv_aload_n hx hb d_Model_erase_5 rfl (lv_at hl 0 rfl) ?_
  refine va_get (D := (dC, dI)) (ci := 1) (v := .int 0) (C := R_Model) (T := F_Model) (N := 50) hx hb hz zu_Model hown hK hP 0 rfl rfl 1 (by decide) (hz (.fieldLink R_Model 110 "LayoutFrontModel" "length" "I") zm_367) (fun _ h9 => h9) rfl d_Model_erase_6 ?_
  refine lv_istore_n hx hb d_Model_erase_9 rfl hl (by decide) rfl (fun ls hl => ?_)
  have hl : lv_has ls 2 [(1, .int 0), (0, .ref a0)] := hl
  refine lv_aload_n hx hb d_Model_erase_10 rfl (lv_at hl 1 rfl) ?_
  refine lv_iconst (v := 0) hx hb d_Model_erase_11 (by decide) ?_
  refine va_put (D := (dC, dI)) (ci := 1) (v := .int 0) (ty := .int) (C := R_Model) (T := F_Model) (N := 50) hx hb hz zu_Model t_Model t_Model_ok n_Model hown hK hP hD hS 0 rfl rfl 1 (by decide) (hz (.fieldLink R_Model 110 "LayoutFrontModel" "length" "I") zm_367) (fun _ h9 => h9) rfl (by decide +kernel) rfl rfl (Nat.le_of_ble_eq_true rfl) d_Model_erase_12 (fun H locs hP hD hS => ?_)
  have hP : va_P (dC, dI) vcl [(a0, .inr (1, [.int 0, .int 0, .ref a1, .int 0, .int (-1), .int 0, .int 0, .ref a2, .ref a3, .ref a4, .ref a5, .ref a6, .int 0, .int 0, .ref a7, .int 0, .int 0, .ref a8, .ref a9, .ref a10, .ref a11, .ref a12, .ref a13, .int 0, .ref a14, .ref a15, .int 0, .int 0, .int 0, .int 0, .int 0, .int 0, .ref a16, .ref a17, .ref a18, .int 0, .int 0, .int 0, .int 0, .int 0, .int 0, .ref a19, .ref a20, .ref a21, .ref a22, .ref a23, .ref a24, .ref a25, .ref a26, .ref a27]))] H := hP
  have hD : va_D A [(a0, .inr (1, [.int 0, .int 0, .ref a1, .int 0, .int (-1), .int 0, .int 0, .ref a2, .ref a3, .ref a4, .ref a5, .ref a6, .int 0, .int 0, .ref a7, .int 0, .int 0, .ref a8, .ref a9, .ref a10, .ref a11, .ref a12, .ref a13, .int 0, .ref a14, .ref a15, .int 0, .int 0, .int 0, .int 0, .int 0, .int 0, .ref a16, .ref a17, .ref a18, .int 0, .int 0, .int 0, .int 0, .int 0, .int 0, .ref a19, .ref a20, .ref a21, .ref a22, .ref a23, .ref a24, .ref a25, .ref a26, .ref a27]))] := hD
  refine lv_iload_n hx hb d_Model_erase_15 rfl (lv_at hl 0 rfl) ?_
  have hP9 := hP.sub (ws' := [(a0, .inr (1, [.int 0, .int 0, .ref a1, .int 0, .int (-1), .int 0, .int 0, .ref a2, .ref a3, .ref a4, .ref a5, .ref a6, .int 0, .int 0, .ref a7, .int 0, .int 0, .ref a8, .ref a9, .ref a10, .ref a11, .ref a12, .ref a13, .int 0, .ref a14, .ref a15, .int 0, .int 0, .int 0, .int 0, .int 0, .int 0, .ref a16, .ref a17, .ref a18, .int 0, .int 0, .int 0, .int 0, .int 0, .int 0, .ref a19, .ref a20, .ref a21, .ref a22, .ref a23, .ref a24, .ref a25, .ref a26, .ref a27]))]) [0] rfl
  have hD9 := hD.sub (ws' := [(a0, .inr (1, [.int 0, .int 0, .ref a1, .int 0, .int (-1), .int 0, .int 0, .ref a2, .ref a3, .ref a4, .ref a5, .ref a6, .int 0, .int 0, .ref a7, .int 0, .int 0, .ref a8, .ref a9, .ref a10, .ref a11, .ref a12, .ref a13, .int 0, .ref a14, .ref a15, .int 0, .int 0, .int 0, .int 0, .int 0, .int 0, .ref a16, .ref a17, .ref a18, .int 0, .int 0, .int 0, .int 0, .int 0, .int 0, .ref a19, .ref a20, .ref a21, .ref a22, .ref a23, .ref a24, .ref a25, .ref a26, .ref a27]))]) [0] (by decide) rfl
  have hK9 := hK.sub (tys' := []) [] rfl
  exact W.iret (v := 0) hx hb hr (fun t ht hW => ⟨⟨0, (), rfl, rfl, by rw [ht]; exact hP9, va_K.moved hW.alike hK9, hD9⟩, hS.F ht⟩) hS.2.2 d_Model_erase_16
set_option maxHeartbeats 4000000 in
set_option maxRecDepth 100000 in
theorem c116_Model_place (l : Launch) (dC : Nat → ClassId) (dI : Nat → Nat → Nat) (sz : Nat) (a0 : Nat) (a1 : Nat) (a2 : Nat) (a3 : Nat) (a4 : Nat) (a5 : Nat) (a6 : Nat) (a7 : Nat) (a8 : Nat) (a9 : Nat) (a10 : Nat) (a11 : Nat) (a12 : Nat) (a13 : Nat) (a14 : Nat) (a15 : Nat) (a16 : Nat) (a17 : Nat) (a18 : Nat) (a19 : Nat) (a20 : Nat) (a21 : Nat) (a22 : Nat) (a23 : Nat) (a24 : Nat) (a25 : Nat) (a26 : Nat) (a27 : Nat) : Met l y_Model_place w_Model_place ({ frames := 0, cells := 0, slots := 0, locals := 0 }) (va_Pc [.ref a0] (fun U => U.heap.size = sz ∧ va_P (dC, dI) vcl [(a0, .inr (1, [.int 0, .int 0, .ref a1, .int 0, .int (-1), .int 0, .int 0, .ref a2, .ref a3, .ref a4, .ref a5, .ref a6, .int 0, .int 0, .ref a7, .int 0, .int 0, .ref a8, .ref a9, .ref a10, .ref a11, .ref a12, .ref a13, .int 0, .ref a14, .ref a15, .int 0, .int 0, .int 0, .int 0, .int 0, .int 0, .ref a16, .ref a17, .ref a18, .int 0, .int 0, .int 0, .int 0, .int 0, .int 0, .ref a19, .ref a20, .ref a21, .ref a22, .ref a23, .ref a24, .ref a25, .ref a26, .ref a27]))] U.heap ∧ va_K (dC, dI) vcl [] U ∧ va_D (fun _ => True) [(a0, .inr (1, [.int 0, .int 0, .ref a1, .int 0, .int (-1), .int 0, .int 0, .ref a2, .ref a3, .ref a4, .ref a5, .ref a6, .int 0, .int 0, .ref a7, .int 0, .int 0, .ref a8, .ref a9, .ref a10, .ref a11, .ref a12, .ref a13, .int 0, .ref a14, .ref a15, .int 0, .int 0, .int 0, .int 0, .int 0, .int 0, .ref a16, .ref a17, .ref a18, .int 0, .int 0, .int 0, .int 0, .int 0, .int 0, .ref a19, .ref a20, .ref a21, .ref a22, .ref a23, .ref a24, .ref a25, .ref a26, .ref a27]))])) (va_Qi (fun (r : Int32) (_ : Unit) => r = (-1)) (fun _ t => va_P (dC, dI) vcl [(a0, .inr (1, [.int 0, .int 0, .ref a1, .int 0, .int (-1), .int 0, .int 0, .ref a2, .ref a3, .ref a4, .ref a5, .ref a6, .int 0, .int 0, .ref a7, .int 0, .int 0, .ref a8, .ref a9, .ref a10, .ref a11, .ref a12, .ref a13, .int 0, .ref a14, .ref a15, .int 0, .int 0, .int 0, .int 0, .int 0, .int 0, .ref a16, .ref a17, .ref a18, .int 0, .int 0, .int 0, .int 0, .int 0, .int 0, .ref a19, .ref a20, .ref a21, .ref a22, .ref a23, .ref a24, .ref a25, .ref a26, .ref a27]))] t.heap ∧ va_K (dC, dI) vcl [] t ∧ va_D (va_A [(a0, .inr (1, [.int 0, .int 0, .ref a1, .int 0, .int (-1), .int 0, .int 0, .ref a2, .ref a3, .ref a4, .ref a5, .ref a6, .int 0, .int 0, .ref a7, .int 0, .int 0, .ref a8, .ref a9, .ref a10, .ref a11, .ref a12, .ref a13, .int 0, .ref a14, .ref a15, .int 0, .int 0, .int 0, .int 0, .int 0, .int 0, .ref a16, .ref a17, .ref a18, .int 0, .int 0, .int 0, .int 0, .int 0, .int 0, .ref a19, .ref a20, .ref a21, .ref a22, .ref a23, .ref a24, .ref a25, .ref a26, .ref a27]))] sz) [(a0, .inr (1, [.int 0, .int 0, .ref a1, .int 0, .int (-1), .int 0, .int 0, .ref a2, .ref a3, .ref a4, .ref a5, .ref a6, .int 0, .int 0, .ref a7, .int 0, .int 0, .ref a8, .ref a9, .ref a10, .ref a11, .ref a12, .ref a13, .int 0, .ref a14, .ref a15, .int 0, .int 0, .int 0, .int 0, .int 0, .int 0, .ref a16, .ref a17, .ref a18, .int 0, .int 0, .int 0, .int 0, .int 0, .int 0, .ref a19, .ref a20, .ref a21, .ref a22, .ref a23, .ref a24, .ref a25, .ref a26, .ref a27]))]) (va_A [(a0, .inr (1, [.int 0, .int 0, .ref a1, .int 0, .int (-1), .int 0, .int 0, .ref a2, .ref a3, .ref a4, .ref a5, .ref a6, .int 0, .int 0, .ref a7, .int 0, .int 0, .ref a8, .ref a9, .ref a10, .ref a11, .ref a12, .ref a13, .int 0, .ref a14, .ref a15, .int 0, .int 0, .int 0, .int 0, .int 0, .int 0, .ref a16, .ref a17, .ref a18, .int 0, .int 0, .int 0, .int 0, .int 0, .int 0, .ref a19, .ref a20, .ref a21, .ref a22, .ref a23, .ref a24, .ref a25, .ref a26, .ref a27]))] sz)) 0 0 (va_A [(a0, .inr (1, [.int 0, .int 0, .ref a1, .int 0, .int (-1), .int 0, .int 0, .ref a2, .ref a3, .ref a4, .ref a5, .ref a6, .int 0, .int 0, .ref a7, .int 0, .int 0, .ref a8, .ref a9, .ref a10, .ref a11, .ref a12, .ref a13, .int 0, .ref a14, .ref a15, .int 0, .int 0, .int 0, .int 0, .int 0, .int 0, .ref a16, .ref a17, .ref a18, .int 0, .int 0, .int 0, .int 0, .int 0, .int 0, .ref a19, .ref a20, .ref a21, .ref a22, .ref a23, .ref a24, .ref a25, .ref a26, .ref a27]))] sz) := by
  refine Met.ofW (cc := b_Model_place) (maxL := 1) (ret := (some .int)) (by decide) rfl ?_
  intro p e s m args below meth c s₁ B hml hv
  obtain ⟨rfl, hsz, hP, hK, hD0⟩ := hv
  have hx := B.exec
  have hb := B.bytes
  have hr := B.returns
  have hts := atoms_spec (ws := w_Model_place) B.pre
  have hz : ∀ w ∈ wz, w.before _ s = true := fun w h => hts w (List.mem_cons_of_mem _ h)
  have hown : s.vm.findClass R_Model = some m.cls := findClass_of_methodNamed B.named
  have hlocks := B.notSynchronized
  subst hsz
  have hD := hD0.self (sz := s.heap.size)
  generalize hAe : va_A [(a0, .inr (1, [.int 0, .int 0, .ref a1, .int 0, .int (-1), .int 0, .int 0, .ref a2, .ref a3, .ref a4, .ref a5, .ref a6, .int 0, .int 0, .ref a7, .int 0, .int 0, .ref a8, .ref a9, .ref a10, .ref a11, .ref a12, .ref a13, .int 0, .ref a14, .ref a15, .int 0, .int 0, .int 0, .int 0, .int 0, .int 0, .ref a16, .ref a17, .ref a18, .int 0, .int 0, .int 0, .int 0, .int 0, .int 0, .ref a19, .ref a20, .ref a21, .ref a22, .ref a23, .ref a24, .ref a25, .ref a26, .ref a27]))] s.heap.size = A at hD ⊢
  have hA : ∀ q : Nat, s.heap.size ≤ q → A q := fun q h => by rw [← hAe]; exact Or.inr h
  have hS : va_S A s.heap s.heap [] := va_S.rf
  have hP : va_P (dC, dI) vcl [(a0, .inr (1, [.int 0, .int 0, .ref a1, .int 0, .int (-1), .int 0, .int 0, .ref a2, .ref a3, .ref a4, .ref a5, .ref a6, .int 0, .int 0, .ref a7, .int 0, .int 0, .ref a8, .ref a9, .ref a10, .ref a11, .ref a12, .ref a13, .int 0, .ref a14, .ref a15, .int 0, .int 0, .int 0, .int 0, .int 0, .int 0, .ref a16, .ref a17, .ref a18, .int 0, .int 0, .int 0, .int 0, .int 0, .int 0, .ref a19, .ref a20, .ref a21, .ref a22, .ref a23, .ref a24, .ref a25, .ref a26, .ref a27]))] s.heap := hP
  have hl := lv_entry ([.ref a0]) (n := 1) (Nat.le_of_ble_eq_true rfl)
  rw [lg_entry_eq]
  generalize (lg_sl ([.ref a0]) ++ List.replicate (1 - (lg_sl ([.ref a0])).length) Slot.unset).toArray = ls at hl ⊢
  have hl : lv_has ls 1 [(0, .ref a0)] := hl
  refine lv_aload_n hx hb d_Model_place_0 rfl (lv_at hl 0 rfl) ?_
  refine lv_iconst (v := 0) hx hb d_Model_place_1 (by decide) ?_
  refine va_put (D := (dC, dI)) (ci := 1) (v := .int 0) (ty := .int) (C := R_Model) (T := F_Model) (N := 50) hx hb hz zu_Model t_Model t_Model_ok n_Model hown hK hP hD hS 0 rfl rfl 0 (by decide) (hz (.fieldLink R_Model 97 "LayoutFrontModel" "thrown" "I") zm_415) (fun _ h9 => h9) rfl (by decide +kernel) rfl rfl (Nat.le_of_ble_eq_true rfl) d_Model_place_2 (fun H locs hP hD hS => ?_)
  have hP : va_P (dC, dI) vcl [(a0, .inr (1, [.int 0, .int 0, .ref a1, .int 0, .int (-1), .int 0, .int 0, .ref a2, .ref a3, .ref a4, .ref a5, .ref a6, .int 0, .int 0, .ref a7, .int 0, .int 0, .ref a8, .ref a9, .ref a10, .ref a11, .ref a12, .ref a13, .int 0, .ref a14, .ref a15, .int 0, .int 0, .int 0, .int 0, .int 0, .int 0, .ref a16, .ref a17, .ref a18, .int 0, .int 0, .int 0, .int 0, .int 0, .int 0, .ref a19, .ref a20, .ref a21, .ref a22, .ref a23, .ref a24, .ref a25, .ref a26, .ref a27]))] H := hP
  have hD : va_D A [(a0, .inr (1, [.int 0, .int 0, .ref a1, .int 0, .int (-1), .int 0, .int 0, .ref a2, .ref a3, .ref a4, .ref a5, .ref a6, .int 0, .int 0, .ref a7, .int 0, .int 0, .ref a8, .ref a9, .ref a10, .ref a11, .ref a12, .ref a13, .int 0, .ref a14, .ref a15, .int 0, .int 0, .int 0, .int 0, .int 0, .int 0, .ref a16, .ref a17, .ref a18, .int 0, .int 0, .int 0, .int 0, .int 0, .int 0, .ref a19, .ref a20, .ref a21, .ref a22, .ref a23, .ref a24, .ref a25, .ref a26, .ref a27]))] := hD
  refine lv_aload_n hx hb d_Model_place_5 rfl (lv_at hl 0 rfl) ?_
  refine va_get (D := (dC, dI)) (ci := 1) (v := .int (-1)) (C := R_Model) (T := F_Model) (N := 50) hx hb hz zu_Model hown hK hP 0 rfl rfl 4 (by decide) (hz (.fieldLink R_Model 13 "LayoutFrontModel" "place" "I") zm_338) (fun _ h9 => h9) rfl d_Model_place_6 ?_
  have hP9 := hP.sub (ws' := [(a0, .inr (1, [.int 0, .int 0, .ref a1, .int 0, .int (-1), .int 0, .int 0, .ref a2, .ref a3, .ref a4, .ref a5, .ref a6, .int 0, .int 0, .ref a7, .int 0, .int 0, .ref a8, .ref a9, .ref a10, .ref a11, .ref a12, .ref a13, .int 0, .ref a14, .ref a15, .int 0, .int 0, .int 0, .int 0, .int 0, .int 0, .ref a16, .ref a17, .ref a18, .int 0, .int 0, .int 0, .int 0, .int 0, .int 0, .ref a19, .ref a20, .ref a21, .ref a22, .ref a23, .ref a24, .ref a25, .ref a26, .ref a27]))]) [0] rfl
  have hD9 := hD.sub (ws' := [(a0, .inr (1, [.int 0, .int 0, .ref a1, .int 0, .int (-1), .int 0, .int 0, .ref a2, .ref a3, .ref a4, .ref a5, .ref a6, .int 0, .int 0, .ref a7, .int 0, .int 0, .ref a8, .ref a9, .ref a10, .ref a11, .ref a12, .ref a13, .int 0, .ref a14, .ref a15, .int 0, .int 0, .int 0, .int 0, .int 0, .int 0, .ref a16, .ref a17, .ref a18, .int 0, .int 0, .int 0, .int 0, .int 0, .int 0, .ref a19, .ref a20, .ref a21, .ref a22, .ref a23, .ref a24, .ref a25, .ref a26, .ref a27]))]) [0] (by decide) rfl
  have hK9 := hK.sub (tys' := []) [] rfl
  exact W.iret (v := (-1)) hx hb hr (fun t ht hW => ⟨⟨(-1), (), rfl, rfl, by rw [ht]; exact hP9, va_K.moved hW.alike hK9, hD9⟩, hS.F ht⟩) hS.2.2 d_Model_place_9
set_option maxHeartbeats 4000000 in
set_option maxRecDepth 100000 in
theorem c117_Law_read (l : Launch) (dC : Nat → ClassId) (dI : Nat → Nat → Nat) (sz : Nat) (a0 : Nat) (a1 : Nat) (a2 : Nat) (a3 : Nat) (a4 : Nat) (a5 : Nat) (a6 : Nat) (a7 : Nat) (a8 : Nat) (a9 : Nat) (a10 : Nat) (a11 : Nat) (a12 : Nat) (a13 : Nat) (a14 : Nat) (a15 : Nat) (a16 : Nat) (a17 : Nat) (a18 : Nat) (a19 : Nat) (a20 : Nat) (a21 : Nat) (a22 : Nat) (a23 : Nat) (a24 : Nat) (a25 : Nat) (a26 : Nat) (a27 : Nat) (a28 : Nat) (a29 : Nat) (a30 : Nat) (a31 : Nat) (a32 : Nat) (a33 : Nat) (a34 : Nat) (a35 : Nat) (a36 : Nat) (a37 : Nat) (a38 : Nat) (a39 : Nat) (k0 : ClassId) (k1 : ClassId) (k2 : ClassId) (k3 : ClassId) (k4 : ClassId) (k5 : ClassId) (k6 : ClassId) (k7 : ClassId) (k8 : ClassId) : Met l y_Law_read w_Law_read ({ frames := 7, cells := 0, slots := 0, locals := 161 }) (va_Pc [.ref a0, .ref a1] (fun U => U.heap.size = sz ∧ va_P (dC, dI) vcl [(a0, .inr (0, [.ref a2, .ref a21, .ref a3, .ref a6, .ref a11, .ref a17, .ref a20, .int (-1)])), (a2, .inr (10, [.ref a22, .int 0])), (a3, .inr (3, [.ref a4, .int 0, .int 0, .int 0, .int (-1), .int 0])), (a4, .inr (5, [.ref a5, .ref a23, .ref a24, .ref a25])), (a5, .inr (11, [.ref a26, .ref a27, .int 0])), (a6, .inr (2, [.ref a7, .ref a8, .int 0])), (a7, .inr (6, [.ref a28, .int 0, .int 0])), (a8, .inr (11, [.ref a9, .ref a10, .int 0])), (a9, .inl (k0, 362, .inl (fun _ => 0))), (a10, .inl (k1, 362, .inr (.inl (fun _ => 0)))), (a11, .inr (9, [.ref a12, .ref a29, .ref a13, .ref a14, .ref a15, .ref a16, .int 0, .int 0])), (a12, .inl (k2, 362, .inl (fun _ => 0))), (a13, .inl (k3, 362, .inl (fun _ => 0))), (a14, .inl (k4, 362, .inl (fun _ => 0))), (a15, .inr (8, [.ref a30, .ref a31, .ref a32, .int 0, .int 0, .int 0])), (a16, .inr (7, [.ref a33, .ref a34, .int 0, .int 0, .ref a35, .ref a36, .int 0, .ref a37, .ref a38, .ref a39, .int 0])), (a17, .inr (11, [.ref a18, .ref a19, .int 0])), (a18, .inl (k5, 542, .inl (fun _ => 0))), (a19, .inl (k6, 542, .inr (.inl (fun _ => 0)))), (a20, .inl (k7, 5, .inl (fun _ => 0))), (a1, .inl (k8, 1, .inr (.inl (fun _ => 0))))] U.heap ∧ va_K (dC, dI) vcl [(k0, .int), (k1, .long), (k2, .int), (k3, .int), (k4, .int), (k5, .int), (k6, .long), (k7, .int), (k8, .long)] U ∧ va_D (fun _ => True) [(a0, .inr (0, [.ref a2, .ref a21, .ref a3, .ref a6, .ref a11, .ref a17, .ref a20, .int (-1)])), (a2, .inr (10, [.ref a22, .int 0])), (a3, .inr (3, [.ref a4, .int 0, .int 0, .int 0, .int (-1), .int 0])), (a4, .inr (5, [.ref a5, .ref a23, .ref a24, .ref a25])), (a5, .inr (11, [.ref a26, .ref a27, .int 0])), (a6, .inr (2, [.ref a7, .ref a8, .int 0])), (a7, .inr (6, [.ref a28, .int 0, .int 0])), (a8, .inr (11, [.ref a9, .ref a10, .int 0])), (a9, .inl (k0, 362, .inl (fun _ => 0))), (a10, .inl (k1, 362, .inr (.inl (fun _ => 0)))), (a11, .inr (9, [.ref a12, .ref a29, .ref a13, .ref a14, .ref a15, .ref a16, .int 0, .int 0])), (a12, .inl (k2, 362, .inl (fun _ => 0))), (a13, .inl (k3, 362, .inl (fun _ => 0))), (a14, .inl (k4, 362, .inl (fun _ => 0))), (a15, .inr (8, [.ref a30, .ref a31, .ref a32, .int 0, .int 0, .int 0])), (a16, .inr (7, [.ref a33, .ref a34, .int 0, .int 0, .ref a35, .ref a36, .int 0, .ref a37, .ref a38, .ref a39, .int 0])), (a17, .inr (11, [.ref a18, .ref a19, .int 0])), (a18, .inl (k5, 542, .inl (fun _ => 0))), (a19, .inl (k6, 542, .inr (.inl (fun _ => 0)))), (a20, .inl (k7, 5, .inl (fun _ => 0))), (a1, .inl (k8, 1, .inr (.inl (fun _ => 0))))])) (va_Qi (fun (r : Int32) (_ : Unit) => r = 0) (fun _ t => va_P (dC, dI) vcl [(a0, .inr (0, [.ref a2, .ref a21, .ref a3, .ref a6, .ref a11, .ref a17, .ref a20, .int (-1)])), (a2, .inr (10, [.ref a22, .int 0])), (a3, .inr (3, [.ref a4, .int 0, .int 0, .int 1, .int (-1), .int 0])), (a4, .inr (5, [.ref a5, .ref a23, .ref a24, .ref a25])), (a5, .inr (11, [.ref a26, .ref a27, .int 0])), (a6, .inr (2, [.ref a7, .ref a8, .int 1])), (a7, .inr (6, [.ref a28, .int 0, .int 0])), (a8, .inr (11, [.ref a9, .ref a10, .int 2])), (a9, .inl (k0, 362, .inl (upd (upd (fun _ => 0) 0 4) 1 4))), (a10, .inl (k1, 362, .inr (.inl (vp_updL (vp_updL (fun _ => 0) 0 123) 1 125)))), (a11, .inr (9, [.ref a12, .ref a29, .ref a13, .ref a14, .ref a15, .ref a16, .int 0, .int 0])), (a12, .inl (k2, 362, .inl (upd (upd (fun _ => 0) 0 0) 1 1))), (a13, .inl (k3, 362, .inl (fun _ => 0))), (a14, .inl (k4, 362, .inl (fun _ => 0))), (a15, .inr (8, [.ref a30, .ref a31, .ref a32, .int 0, .int 0, .int 0])), (a16, .inr (7, [.ref a33, .ref a34, .int 0, .int 0, .ref a35, .ref a36, .int 0, .ref a37, .ref a38, .ref a39, .int 0])), (a17, .inr (11, [.ref a18, .ref a19, .int 2])), (a18, .inl (k5, 542, .inl (upd (upd (fun _ => 0) 0 4) 1 4))), (a19, .inl (k6, 542, .inr (.inl (vp_updL (vp_updL (fun _ => 0) 0 123) 1 125)))), (a20, .inl (k7, 5, .inl (upd (upd (upd (upd (upd (fun _ => 0) 0 0) 1 1) 2 0) 3 0) 4 0))), (a1, .inl (k8, 1, .inr (.inl (vp_updL (fun _ => 0) 0 2))))] t.heap ∧ va_K (dC, dI) vcl [(k0, .int), (k1, .long), (k2, .int), (k3, .int), (k4, .int), (k5, .int), (k6, .long), (k7, .int), (k8, .long)] t ∧ va_D (va_A [(a0, .inr (0, [.ref a2, .ref a21, .ref a3, .ref a6, .ref a11, .ref a17, .ref a20, .int (-1)])), (a2, .inr (10, [.ref a22, .int 0])), (a3, .inr (3, [.ref a4, .int 0, .int 0, .int 0, .int (-1), .int 0])), (a4, .inr (5, [.ref a5, .ref a23, .ref a24, .ref a25])), (a5, .inr (11, [.ref a26, .ref a27, .int 0])), (a6, .inr (2, [.ref a7, .ref a8, .int 0])), (a7, .inr (6, [.ref a28, .int 0, .int 0])), (a8, .inr (11, [.ref a9, .ref a10, .int 0])), (a9, .inl (k0, 362, .inl (fun _ => 0))), (a10, .inl (k1, 362, .inr (.inl (fun _ => 0)))), (a11, .inr (9, [.ref a12, .ref a29, .ref a13, .ref a14, .ref a15, .ref a16, .int 0, .int 0])), (a12, .inl (k2, 362, .inl (fun _ => 0))), (a13, .inl (k3, 362, .inl (fun _ => 0))), (a14, .inl (k4, 362, .inl (fun _ => 0))), (a15, .inr (8, [.ref a30, .ref a31, .ref a32, .int 0, .int 0, .int 0])), (a16, .inr (7, [.ref a33, .ref a34, .int 0, .int 0, .ref a35, .ref a36, .int 0, .ref a37, .ref a38, .ref a39, .int 0])), (a17, .inr (11, [.ref a18, .ref a19, .int 0])), (a18, .inl (k5, 542, .inl (fun _ => 0))), (a19, .inl (k6, 542, .inr (.inl (fun _ => 0)))), (a20, .inl (k7, 5, .inl (fun _ => 0))), (a1, .inl (k8, 1, .inr (.inl (fun _ => 0))))] sz) [(a0, .inr (0, [.ref a2, .ref a21, .ref a3, .ref a6, .ref a11, .ref a17, .ref a20, .int (-1)])), (a2, .inr (10, [.ref a22, .int 0])), (a3, .inr (3, [.ref a4, .int 0, .int 0, .int 1, .int (-1), .int 0])), (a4, .inr (5, [.ref a5, .ref a23, .ref a24, .ref a25])), (a5, .inr (11, [.ref a26, .ref a27, .int 0])), (a6, .inr (2, [.ref a7, .ref a8, .int 1])), (a7, .inr (6, [.ref a28, .int 0, .int 0])), (a8, .inr (11, [.ref a9, .ref a10, .int 2])), (a9, .inl (k0, 362, .inl (upd (upd (fun _ => 0) 0 4) 1 4))), (a10, .inl (k1, 362, .inr (.inl (vp_updL (vp_updL (fun _ => 0) 0 123) 1 125)))), (a11, .inr (9, [.ref a12, .ref a29, .ref a13, .ref a14, .ref a15, .ref a16, .int 0, .int 0])), (a12, .inl (k2, 362, .inl (upd (upd (fun _ => 0) 0 0) 1 1))), (a13, .inl (k3, 362, .inl (fun _ => 0))), (a14, .inl (k4, 362, .inl (fun _ => 0))), (a15, .inr (8, [.ref a30, .ref a31, .ref a32, .int 0, .int 0, .int 0])), (a16, .inr (7, [.ref a33, .ref a34, .int 0, .int 0, .ref a35, .ref a36, .int 0, .ref a37, .ref a38, .ref a39, .int 0])), (a17, .inr (11, [.ref a18, .ref a19, .int 2])), (a18, .inl (k5, 542, .inl (upd (upd (fun _ => 0) 0 4) 1 4))), (a19, .inl (k6, 542, .inr (.inl (vp_updL (vp_updL (fun _ => 0) 0 123) 1 125)))), (a20, .inl (k7, 5, .inl (upd (upd (upd (upd (upd (fun _ => 0) 0 0) 1 1) 2 0) 3 0) 4 0))), (a1, .inl (k8, 1, .inr (.inl (vp_updL (fun _ => 0) 0 2))))]) (va_A [(a0, .inr (0, [.ref a2, .ref a21, .ref a3, .ref a6, .ref a11, .ref a17, .ref a20, .int (-1)])), (a2, .inr (10, [.ref a22, .int 0])), (a3, .inr (3, [.ref a4, .int 0, .int 0, .int 0, .int (-1), .int 0])), (a4, .inr (5, [.ref a5, .ref a23, .ref a24, .ref a25])), (a5, .inr (11, [.ref a26, .ref a27, .int 0])), (a6, .inr (2, [.ref a7, .ref a8, .int 0])), (a7, .inr (6, [.ref a28, .int 0, .int 0])), (a8, .inr (11, [.ref a9, .ref a10, .int 0])), (a9, .inl (k0, 362, .inl (fun _ => 0))), (a10, .inl (k1, 362, .inr (.inl (fun _ => 0)))), (a11, .inr (9, [.ref a12, .ref a29, .ref a13, .ref a14, .ref a15, .ref a16, .int 0, .int 0])), (a12, .inl (k2, 362, .inl (fun _ => 0))), (a13, .inl (k3, 362, .inl (fun _ => 0))), (a14, .inl (k4, 362, .inl (fun _ => 0))), (a15, .inr (8, [.ref a30, .ref a31, .ref a32, .int 0, .int 0, .int 0])), (a16, .inr (7, [.ref a33, .ref a34, .int 0, .int 0, .ref a35, .ref a36, .int 0, .ref a37, .ref a38, .ref a39, .int 0])), (a17, .inr (11, [.ref a18, .ref a19, .int 0])), (a18, .inl (k5, 542, .inl (fun _ => 0))), (a19, .inl (k6, 542, .inr (.inl (fun _ => 0)))), (a20, .inl (k7, 5, .inl (fun _ => 0))), (a1, .inl (k8, 1, .inr (.inl (fun _ => 0))))] sz)) 0 0 (va_A [(a0, .inr (0, [.ref a2, .ref a21, .ref a3, .ref a6, .ref a11, .ref a17, .ref a20, .int (-1)])), (a2, .inr (10, [.ref a22, .int 0])), (a3, .inr (3, [.ref a4, .int 0, .int 0, .int 0, .int (-1), .int 0])), (a4, .inr (5, [.ref a5, .ref a23, .ref a24, .ref a25])), (a5, .inr (11, [.ref a26, .ref a27, .int 0])), (a6, .inr (2, [.ref a7, .ref a8, .int 0])), (a7, .inr (6, [.ref a28, .int 0, .int 0])), (a8, .inr (11, [.ref a9, .ref a10, .int 0])), (a9, .inl (k0, 362, .inl (fun _ => 0))), (a10, .inl (k1, 362, .inr (.inl (fun _ => 0)))), (a11, .inr (9, [.ref a12, .ref a29, .ref a13, .ref a14, .ref a15, .ref a16, .int 0, .int 0])), (a12, .inl (k2, 362, .inl (fun _ => 0))), (a13, .inl (k3, 362, .inl (fun _ => 0))), (a14, .inl (k4, 362, .inl (fun _ => 0))), (a15, .inr (8, [.ref a30, .ref a31, .ref a32, .int 0, .int 0, .int 0])), (a16, .inr (7, [.ref a33, .ref a34, .int 0, .int 0, .ref a35, .ref a36, .int 0, .ref a37, .ref a38, .ref a39, .int 0])), (a17, .inr (11, [.ref a18, .ref a19, .int 0])), (a18, .inl (k5, 542, .inl (fun _ => 0))), (a19, .inl (k6, 542, .inr (.inl (fun _ => 0)))), (a20, .inl (k7, 5, .inl (fun _ => 0))), (a1, .inl (k8, 1, .inr (.inl (fun _ => 0))))] sz) := by
  refine va_MetW (hh := [(0, 8, 11, 13), (0, 8, 14, 15)]) (cc := b_Law_read) (maxL := 3) (ret := (some .int)) (by decide) rfl ?_
  intro p e s m args below meth c s₁ B hml hv
  obtain ⟨rfl, hsz, hP, hK, hD0⟩ := hv
  have hx := B.exec
  have hb := B.bytes
  have hr := B.returns
  have hts := atoms_spec (ws := w_Law_read) B.pre
  have hz : ∀ w ∈ wz, w.before _ s = true := fun w h => hts w (List.mem_cons_of_mem _ h)
  have hown : s.vm.findClass R_Law = some m.cls := findClass_of_methodNamed B.named
  have hlocks := B.notSynchronized
  subst hsz
  have hD := hD0.self (sz := s.heap.size)
  generalize hAe : va_A [(a0, .inr (0, [.ref a2, .ref a21, .ref a3, .ref a6, .ref a11, .ref a17, .ref a20, .int (-1)])), (a2, .inr (10, [.ref a22, .int 0])), (a3, .inr (3, [.ref a4, .int 0, .int 0, .int 0, .int (-1), .int 0])), (a4, .inr (5, [.ref a5, .ref a23, .ref a24, .ref a25])), (a5, .inr (11, [.ref a26, .ref a27, .int 0])), (a6, .inr (2, [.ref a7, .ref a8, .int 0])), (a7, .inr (6, [.ref a28, .int 0, .int 0])), (a8, .inr (11, [.ref a9, .ref a10, .int 0])), (a9, .inl (k0, 362, .inl (fun _ => 0))), (a10, .inl (k1, 362, .inr (.inl (fun _ => 0)))), (a11, .inr (9, [.ref a12, .ref a29, .ref a13, .ref a14, .ref a15, .ref a16, .int 0, .int 0])), (a12, .inl (k2, 362, .inl (fun _ => 0))), (a13, .inl (k3, 362, .inl (fun _ => 0))), (a14, .inl (k4, 362, .inl (fun _ => 0))), (a15, .inr (8, [.ref a30, .ref a31, .ref a32, .int 0, .int 0, .int 0])), (a16, .inr (7, [.ref a33, .ref a34, .int 0, .int 0, .ref a35, .ref a36, .int 0, .ref a37, .ref a38, .ref a39, .int 0])), (a17, .inr (11, [.ref a18, .ref a19, .int 0])), (a18, .inl (k5, 542, .inl (fun _ => 0))), (a19, .inl (k6, 542, .inr (.inl (fun _ => 0)))), (a20, .inl (k7, 5, .inl (fun _ => 0))), (a1, .inl (k8, 1, .inr (.inl (fun _ => 0))))] s.heap.size = A at hD ⊢
  have hA : ∀ q : Nat, s.heap.size ≤ q → A q := fun q h => by rw [← hAe]; exact Or.inr h
  have hS : va_S A s.heap s.heap [] := va_S.rf
  have hP : va_P (dC, dI) vcl [(a0, .inr (0, [.ref a2, .ref a21, .ref a3, .ref a6, .ref a11, .ref a17, .ref a20, .int (-1)])), (a2, .inr (10, [.ref a22, .int 0])), (a3, .inr (3, [.ref a4, .int 0, .int 0, .int 0, .int (-1), .int 0])), (a4, .inr (5, [.ref a5, .ref a23, .ref a24, .ref a25])), (a5, .inr (11, [.ref a26, .ref a27, .int 0])), (a6, .inr (2, [.ref a7, .ref a8, .int 0])), (a7, .inr (6, [.ref a28, .int 0, .int 0])), (a8, .inr (11, [.ref a9, .ref a10, .int 0])), (a9, .inl (k0, 362, .inl (fun _ => 0))), (a10, .inl (k1, 362, .inr (.inl (fun _ => 0)))), (a11, .inr (9, [.ref a12, .ref a29, .ref a13, .ref a14, .ref a15, .ref a16, .int 0, .int 0])), (a12, .inl (k2, 362, .inl (fun _ => 0))), (a13, .inl (k3, 362, .inl (fun _ => 0))), (a14, .inl (k4, 362, .inl (fun _ => 0))), (a15, .inr (8, [.ref a30, .ref a31, .ref a32, .int 0, .int 0, .int 0])), (a16, .inr (7, [.ref a33, .ref a34, .int 0, .int 0, .ref a35, .ref a36, .int 0, .ref a37, .ref a38, .ref a39, .int 0])), (a17, .inr (11, [.ref a18, .ref a19, .int 0])), (a18, .inl (k5, 542, .inl (fun _ => 0))), (a19, .inl (k6, 542, .inr (.inl (fun _ => 0)))), (a20, .inl (k7, 5, .inl (fun _ => 0))), (a1, .inl (k8, 1, .inr (.inl (fun _ => 0))))] s.heap := hP
  have hl := lv_entry ([.ref a0, .ref a1]) (n := 3) (Nat.le_of_ble_eq_true rfl)
  rw [lg_entry_eq]
  generalize (lg_sl ([.ref a0, .ref a1]) ++ List.replicate (3 - (lg_sl ([.ref a0, .ref a1])).length) Slot.unset).toArray = ls at hl ⊢
  have hl : lv_has ls 3 [(0, .ref a0), (1, .ref a1)] := hl
  refine lv_aload_n hx hb d_Law_read_0 rfl (lv_at hl 1 rfl) ?_
  refine lv_iconst (v := 0) hx hb d_Law_read_1 (by decide) ?_
  refine lv_aload_n hx hb d_Law_read_2 rfl (lv_at hl 0 rfl) ?_
  have hPc := hP.sub (ws' := [(a0, .inr (0, [.ref a2, .ref a21, .ref a3, .ref a6, .ref a11, .ref a17, .ref a20, .int (-1)])), (a2, .inr (10, [.ref a22, .int 0])), (a3, .inr (3, [.ref a4, .int 0, .int 0, .int 0, .int (-1), .int 0])), (a4, .inr (5, [.ref a5, .ref a23, .ref a24, .ref a25])), (a5, .inr (11, [.ref a26, .ref a27, .int 0])), (a6, .inr (2, [.ref a7, .ref a8, .int 0])), (a7, .inr (6, [.ref a28, .int 0, .int 0])), (a8, .inr (11, [.ref a9, .ref a10, .int 0])), (a9, .inl (k0, 362, .inl (fun _ => 0))), (a10, .inl (k1, 362, .inr (.inl (fun _ => 0)))), (a11, .inr (9, [.ref a12, .ref a29, .ref a13, .ref a14, .ref a15, .ref a16, .int 0, .int 0])), (a12, .inl (k2, 362, .inl (fun _ => 0))), (a13, .inl (k3, 362, .inl (fun _ => 0))), (a14, .inl (k4, 362, .inl (fun _ => 0))), (a15, .inr (8, [.ref a30, .ref a31, .ref a32, .int 0, .int 0, .int 0])), (a16, .inr (7, [.ref a33, .ref a34, .int 0, .int 0, .ref a35, .ref a36, .int 0, .ref a37, .ref a38, .ref a39, .int 0])), (a17, .inr (11, [.ref a18, .ref a19, .int 0])), (a18, .inl (k5, 542, .inl (fun _ => 0))), (a19, .inl (k6, 542, .inr (.inl (fun _ => 0)))), (a20, .inl (k7, 5, .inl (fun _ => 0)))]) [0, 1, 2, 3, 4, 5, 6, 7, 8, 9, 10, 11, 12, 13, 14, 15, 16, 17, 18, 19] rfl
  have hDc := hD.sub (ws' := [(a0, .inr (0, [.ref a2, .ref a21, .ref a3, .ref a6, .ref a11, .ref a17, .ref a20, .int (-1)])), (a2, .inr (10, [.ref a22, .int 0])), (a3, .inr (3, [.ref a4, .int 0, .int 0, .int 0, .int (-1), .int 0])), (a4, .inr (5, [.ref a5, .ref a23, .ref a24, .ref a25])), (a5, .inr (11, [.ref a26, .ref a27, .int 0])), (a6, .inr (2, [.ref a7, .ref a8, .int 0])), (a7, .inr (6, [.ref a28, .int 0, .int 0])), (a8, .inr (11, [.ref a9, .ref a10, .int 0])), (a9, .inl (k0, 362, .inl (fun _ => 0))), (a10, .inl (k1, 362, .inr (.inl (fun _ => 0)))), (a11, .inr (9, [.ref a12, .ref a29, .ref a13, .ref a14, .ref a15, .ref a16, .int 0, .int 0])), (a12, .inl (k2, 362, .inl (fun _ => 0))), (a13, .inl (k3, 362, .inl (fun _ => 0))), (a14, .inl (k4, 362, .inl (fun _ => 0))), (a15, .inr (8, [.ref a30, .ref a31, .ref a32, .int 0, .int 0, .int 0])), (a16, .inr (7, [.ref a33, .ref a34, .int 0, .int 0, .ref a35, .ref a36, .int 0, .ref a37, .ref a38, .ref a39, .int 0])), (a17, .inr (11, [.ref a18, .ref a19, .int 0])), (a18, .inl (k5, 542, .inl (fun _ => 0))), (a19, .inl (k6, 542, .inr (.inl (fun _ => 0)))), (a20, .inl (k7, 5, .inl (fun _ => 0)))]) [0, 1, 2, 3, 4, 5, 6, 7, 8, 9, 10, 11, 12, 13, 14, 15, 16, 17, 18, 19] (by decide) rfl
  have hKc := hK.sub (tys' := [(k0, .int), (k1, .long), (k2, .int), (k3, .int), (k4, .int), (k5, .int), (k6, .long), (k7, .int)]) [0, 1, 2, 3, 4, 5, 6, 7] rfl
  have hFc := va_free (wc := [(a0, .inr (0, [.ref a2, .ref a21, .ref a3, .ref a6, .ref a11, .ref a17, .ref a20, .int (-1)])), (a2, .inr (10, [.ref a22, .int 0])), (a3, .inr (3, [.ref a4, .int 0, .int 0, .int 0, .int (-1), .int 0])), (a4, .inr (5, [.ref a5, .ref a23, .ref a24, .ref a25])), (a5, .inr (11, [.ref a26, .ref a27, .int 0])), (a6, .inr (2, [.ref a7, .ref a8, .int 0])), (a7, .inr (6, [.ref a28, .int 0, .int 0])), (a8, .inr (11, [.ref a9, .ref a10, .int 0])), (a9, .inl (k0, 362, .inl (fun _ => 0))), (a10, .inl (k1, 362, .inr (.inl (fun _ => 0)))), (a11, .inr (9, [.ref a12, .ref a29, .ref a13, .ref a14, .ref a15, .ref a16, .int 0, .int 0])), (a12, .inl (k2, 362, .inl (fun _ => 0))), (a13, .inl (k3, 362, .inl (fun _ => 0))), (a14, .inl (k4, 362, .inl (fun _ => 0))), (a15, .inr (8, [.ref a30, .ref a31, .ref a32, .int 0, .int 0, .int 0])), (a16, .inr (7, [.ref a33, .ref a34, .int 0, .int 0, .ref a35, .ref a36, .int 0, .ref a37, .ref a38, .ref a39, .int 0])), (a17, .inr (11, [.ref a18, .ref a19, .int 0])), (a18, .inl (k5, 542, .inl (fun _ => 0))), (a19, .inl (k6, 542, .inr (.inl (fun _ => 0)))), (a20, .inl (k7, 5, .inl (fun _ => 0)))]) hD hS hA [0, 1, 2, 3, 4, 5, 6, 7, 8, 9, 10, 11, 12, 13, 14, 15, 16, 17, 18, 19] rfl
  refine va_calli (va_runV (As := []) (rest := [.int 0, .ref a1]) ⟨hx, hb, hml, hown, hz⟩ (c91_LF_read l dC dI s.heap.size a0 a2 a3 a4 a5 a6 a7 a8 a9 a10 a11 a12 a13 a14 a15 a16 a17 a18 a19 a20 a21 a22 a23 a24 a25 a26 a27 a28 a29 a30 a31 a32 a33 a34 a35 a36 a37 a38 a39 k0 k1 k2 k3 k4 k5 k6 k7) (cwV 0 hz (zV zm_441 zm_442 zm_443 zm_333 zm_444) rfl rfl rfl (by decide +kernel) ⟨Nat.le_of_ble_eq_true rfl, Nat.le_of_ble_eq_true rfl⟩) ⟨fun a U g mk q => by obtain ⟨q0, q1, qP, qK, qD⟩ := q; exact ⟨q0, q1, qP, va_K.moved (u := U) (U := U.calling g mk a) (Vm.Alike.refl U.vm) qK, qD⟩, va_recv (q := (R_LF, F_LF, 8)) (q0 := 0) (ci := 0) hK hP rfl rfl, fun U hU hW => ⟨rfl, by rw [hU], by rw [hU]; exact hPc, va_K.moved hW.alike hKc, hDc.weaken (fun _ _ _ _ => trivial)⟩⟩ rfl rfl hl.1 rfl (lv_room (Nat.le_of_ble_eq_true rfl)) d_Law_read_3 ⟨by decide, by decide⟩) hS (fun q _ h => hFc q h) hFc (fun r u t H1 locs ht hvm hw hB hz1 hk1 hS => ?_)
  obtain ⟨hP1, hK1, hD1⟩ := hB
  subst r
  rw [ht] at hP1
  obtain ⟨hP, hD⟩ := va_join (wr := [(a1, .inl (k8, 1, .inr (.inl (fun _ => 0))))]) (w1 := [(a0, .inr (0, [.ref a2, .ref a21, .ref a3, .ref a6, .ref a11, .ref a17, .ref a20, .int (-1)])), (a2, .inr (10, [.ref a22, .int 0])), (a3, .inr (3, [.ref a4, .int 0, .int 0, .int 1, .int (-1), .int 0])), (a4, .inr (5, [.ref a5, .ref a23, .ref a24, .ref a25])), (a5, .inr (11, [.ref a26, .ref a27, .int 0])), (a6, .inr (2, [.ref a7, .ref a8, .int 1])), (a7, .inr (6, [.ref a28, .int 0, .int 0])), (a8, .inr (11, [.ref a9, .ref a10, .int 2])), (a9, .inl (k0, 362, .inl (upd (upd (fun _ => 0) 0 4) 1 4))), (a10, .inl (k1, 362, .inr (.inl (vp_updL (vp_updL (fun _ => 0) 0 123) 1 125)))), (a11, .inr (9, [.ref a12, .ref a29, .ref a13, .ref a14, .ref a15, .ref a16, .int 0, .int 0])), (a12, .inl (k2, 362, .inl (upd (upd (fun _ => 0) 0 0) 1 1))), (a13, .inl (k3, 362, .inl (fun _ => 0))), (a14, .inl (k4, 362, .inl (fun _ => 0))), (a15, .inr (8, [.ref a30, .ref a31, .ref a32, .int 0, .int 0, .int 0])), (a16, .inr (7, [.ref a33, .ref a34, .int 0, .int 0, .ref a35, .ref a36, .int 0, .ref a37, .ref a38, .ref a39, .int 0])), (a17, .inr (11, [.ref a18, .ref a19, .int 2])), (a18, .inl (k5, 542, .inl (upd (upd (fun _ => 0) 0 4) 1 4))), (a19, .inl (k6, 542, .inr (.inl (vp_updL (vp_updL (fun _ => 0) 0 123) 1 125)))), (a20, .inl (k7, 5, .inl (upd (upd (upd (upd (upd (fun _ => 0) 0 0) 1 1) 2 0) 3 0) 4 0)))]) hP hD [0, 1, 2, 3, 4, 5, 6, 7, 8, 9, 10, 11, 12, 13, 14, 15, 16, 17, 18, 19] [20] rfl rfl (by decide) (by decide) hk1 hFc hP1 hD1
  generalize H1 = H at hP hS ⊢
  have hP : va_P (dC, dI) vcl [(a1, .inl (k8, 1, .inr (.inl (fun _ => 0)))), (a0, .inr (0, [.ref a2, .ref a21, .ref a3, .ref a6, .ref a11, .ref a17, .ref a20, .int (-1)])), (a2, .inr (10, [.ref a22, .int 0])), (a3, .inr (3, [.ref a4, .int 0, .int 0, .int 1, .int (-1), .int 0])), (a4, .inr (5, [.ref a5, .ref a23, .ref a24, .ref a25])), (a5, .inr (11, [.ref a26, .ref a27, .int 0])), (a6, .inr (2, [.ref a7, .ref a8, .int 1])), (a7, .inr (6, [.ref a28, .int 0, .int 0])), (a8, .inr (11, [.ref a9, .ref a10, .int 2])), (a9, .inl (k0, 362, .inl (upd (upd (fun _ => 0) 0 4) 1 4))), (a10, .inl (k1, 362, .inr (.inl (vp_updL (vp_updL (fun _ => 0) 0 123) 1 125)))), (a11, .inr (9, [.ref a12, .ref a29, .ref a13, .ref a14, .ref a15, .ref a16, .int 0, .int 0])), (a12, .inl (k2, 362, .inl (upd (upd (fun _ => 0) 0 0) 1 1))), (a13, .inl (k3, 362, .inl (fun _ => 0))), (a14, .inl (k4, 362, .inl (fun _ => 0))), (a15, .inr (8, [.ref a30, .ref a31, .ref a32, .int 0, .int 0, .int 0])), (a16, .inr (7, [.ref a33, .ref a34, .int 0, .int 0, .ref a35, .ref a36, .int 0, .ref a37, .ref a38, .ref a39, .int 0])), (a17, .inr (11, [.ref a18, .ref a19, .int 2])), (a18, .inl (k5, 542, .inl (upd (upd (fun _ => 0) 0 4) 1 4))), (a19, .inl (k6, 542, .inr (.inl (vp_updL (vp_updL (fun _ => 0) 0 123) 1 125)))), (a20, .inl (k7, 5, .inl (upd (upd (upd (upd (upd (fun _ => 0) 0 0) 1 1) 2 0) 3 0) 4 0)))] H := hP
  have hD : va_D A [(a1, .inl (k8, 1, .inr (.inl (fun _ => 0)))), (a0, .inr (0, [.ref a2, .ref a21, .ref a3, .ref a6, .ref a11, .ref a17, .ref a20, .int (-1)])), (a2, .inr (10, [.ref a22, .int 0])), (a3, .inr (3, [.ref a4, .int 0, .int 0, .int 1, .int (-1), .int 0])), (a4, .inr (5, [.ref a5, .ref a23, .ref a24, .ref a25])), (a5, .inr (11, [.ref a26, .ref a27, .int 0])), (a6, .inr (2, [.ref a7, .ref a8, .int 1])), (a7, .inr (6, [.ref a28, .int 0, .int 0])), (a8, .inr (11, [.ref a9, .ref a10, .int 2])), (a9, .inl (k0, 362, .inl (upd (upd (fun _ => 0) 0 4) 1 4))), (a10, .inl (k1, 362, .inr (.inl (vp_updL (vp_updL (fun _ => 0) 0 123) 1 125)))), (a11, .inr (9, [.ref a12, .ref a29, .ref a13, .ref a14, .ref a15, .ref a16, .int 0, .int 0])), (a12, .inl (k2, 362, .inl (upd (upd (fun _ => 0) 0 0) 1 1))), (a13, .inl (k3, 362, .inl (fun _ => 0))), (a14, .inl (k4, 362, .inl (fun _ => 0))), (a15, .inr (8, [.ref a30, .ref a31, .ref a32, .int 0, .int 0, .int 0])), (a16, .inr (7, [.ref a33, .ref a34, .int 0, .int 0, .ref a35, .ref a36, .int 0, .ref a37, .ref a38, .ref a39, .int 0])), (a17, .inr (11, [.ref a18, .ref a19, .int 2])), (a18, .inl (k5, 542, .inl (upd (upd (fun _ => 0) 0 4) 1 4))), (a19, .inl (k6, 542, .inr (.inl (vp_updL (vp_updL (fun _ => 0) 0 123) 1 125)))), (a20, .inl (k7, 5, .inl (upd (upd (upd (upd (upd (fun _ => 0) 0 0) 1 1) 2 0) 3 0) 4 0)))] := hD
  refine lv_i2l (v := 2) hx hb d_Law_read_6 (by decide +kernel) ?_
  refine xr_last (j := 0) hx hb hK hP hD hS 0 8 rfl rfl (xr_in (by decide +kernel)) (by decide +kernel) d_Law_read_7 (fun H locs hP hD hS => ?_)
  have hP : va_P (dC, dI) vcl [(a1, .inl (k8, 1, .inr (.inl (vp_updL (fun _ => 0) 0 2)))), (a0, .inr (0, [.ref a2, .ref a21, .ref a3, .ref a6, .ref a11, .ref a17, .ref a20, .int (-1)])), (a2, .inr (10, [.ref a22, .int 0])), (a3, .inr (3, [.ref a4, .int 0, .int 0, .int 1, .int (-1), .int 0])), (a4, .inr (5, [.ref a5, .ref a23, .ref a24, .ref a25])), (a5, .inr (11, [.ref a26, .ref a27, .int 0])), (a6, .inr (2, [.ref a7, .ref a8, .int 1])), (a7, .inr (6, [.ref a28, .int 0, .int 0])), (a8, .inr (11, [.ref a9, .ref a10, .int 2])), (a9, .inl (k0, 362, .inl (upd (upd (fun _ => 0) 0 4) 1 4))), (a10, .inl (k1, 362, .inr (.inl (vp_updL (vp_updL (fun _ => 0) 0 123) 1 125)))), (a11, .inr (9, [.ref a12, .ref a29, .ref a13, .ref a14, .ref a15, .ref a16, .int 0, .int 0])), (a12, .inl (k2, 362, .inl (upd (upd (fun _ => 0) 0 0) 1 1))), (a13, .inl (k3, 362, .inl (fun _ => 0))), (a14, .inl (k4, 362, .inl (fun _ => 0))), (a15, .inr (8, [.ref a30, .ref a31, .ref a32, .int 0, .int 0, .int 0])), (a16, .inr (7, [.ref a33, .ref a34, .int 0, .int 0, .ref a35, .ref a36, .int 0, .ref a37, .ref a38, .ref a39, .int 0])), (a17, .inr (11, [.ref a18, .ref a19, .int 2])), (a18, .inl (k5, 542, .inl (upd (upd (fun _ => 0) 0 4) 1 4))), (a19, .inl (k6, 542, .inr (.inl (vp_updL (vp_updL (fun _ => 0) 0 123) 1 125)))), (a20, .inl (k7, 5, .inl (upd (upd (upd (upd (upd (fun _ => 0) 0 0) 1 1) 2 0) 3 0) 4 0)))] H := hP
  have hD : va_D A [(a1, .inl (k8, 1, .inr (.inl (vp_updL (fun _ => 0) 0 2)))), (a0, .inr (0, [.ref a2, .ref a21, .ref a3, .ref a6, .ref a11, .ref a17, .ref a20, .int (-1)])), (a2, .inr (10, [.ref a22, .int 0])), (a3, .inr (3, [.ref a4, .int 0, .int 0, .int 1, .int (-1), .int 0])), (a4, .inr (5, [.ref a5, .ref a23, .ref a24, .ref a25])), (a5, .inr (11, [.ref a26, .ref a27, .int 0])), (a6, .inr (2, [.ref a7, .ref a8, .int 1])), (a7, .inr (6, [.ref a28, .int 0, .int 0])), (a8, .inr (11, [.ref a9, .ref a10, .int 2])), (a9, .inl (k0, 362, .inl (upd (upd (fun _ => 0) 0 4) 1 4))), (a10, .inl (k1, 362, .inr (.inl (vp_updL (vp_updL (fun _ => 0) 0 123) 1 125)))), (a11, .inr (9, [.ref a12, .ref a29, .ref a13, .ref a14, .ref a15, .ref a16, .int 0, .int 0])), (a12, .inl (k2, 362, .inl (upd (upd (fun _ => 0) 0 0) 1 1))), (a13, .inl (k3, 362, .inl (fun _ => 0))), (a14, .inl (k4, 362, .inl (fun _ => 0))), (a15, .inr (8, [.ref a30, .ref a31, .ref a32, .int 0, .int 0, .int 0])), (a16, .inr (7, [.ref a33, .ref a34, .int 0, .int 0, .ref a35, .ref a36, .int 0, .ref a37, .ref a38, .ref a39, .int 0])), (a17, .inr (11, [.ref a18, .ref a19, .int 2])), (a18, .inl (k5, 542, .inl (upd (upd (fun _ => 0) 0 4) 1 4))), (a19, .inl (k6, 542, .inr (.inl (vp_updL (vp_updL (fun _ => 0) 0 123) 1 125)))), (a20, .inl (k7, 5, .inl (upd (upd (upd (upd (upd (fun _ => 0) 0 0) 1 1) 2 0) 3 0) 4 0)))] := hD
  refine lv_goto (tgt := 17) hx hb d_Law_read_8 (by decide) ?_
  refine lv_iconst (v := 0) hx hb d_Law_read_17 (by decide) ?_
  have hP9 := hP.sub (ws' := [(a0, .inr (0, [.ref a2, .ref a21, .ref a3, .ref a6, .ref a11, .ref a17, .ref a20, .int (-1)])), (a2, .inr (10, [.ref a22, .int 0])), (a3, .inr (3, [.ref a4, .int 0, .int 0, .int 1, .int (-1), .int 0])), (a4, .inr (5, [.ref a5, .ref a23, .ref a24, .ref a25])), (a5, .inr (11, [.ref a26, .ref a27, .int 0])), (a6, .inr (2, [.ref a7, .ref a8, .int 1])), (a7, .inr (6, [.ref a28, .int 0, .int 0])), (a8, .inr (11, [.ref a9, .ref a10, .int 2])), (a9, .inl (k0, 362, .inl (upd (upd (fun _ => 0) 0 4) 1 4))), (a10, .inl (k1, 362, .inr (.inl (vp_updL (vp_updL (fun _ => 0) 0 123) 1 125)))), (a11, .inr (9, [.ref a12, .ref a29, .ref a13, .ref a14, .ref a15, .ref a16, .int 0, .int 0])), (a12, .inl (k2, 362, .inl (upd (upd (fun _ => 0) 0 0) 1 1))), (a13, .inl (k3, 362, .inl (fun _ => 0))), (a14, .inl (k4, 362, .inl (fun _ => 0))), (a15, .inr (8, [.ref a30, .ref a31, .ref a32, .int 0, .int 0, .int 0])), (a16, .inr (7, [.ref a33, .ref a34, .int 0, .int 0, .ref a35, .ref a36, .int 0, .ref a37, .ref a38, .ref a39, .int 0])), (a17, .inr (11, [.ref a18, .ref a19, .int 2])), (a18, .inl (k5, 542, .inl (upd (upd (fun _ => 0) 0 4) 1 4))), (a19, .inl (k6, 542, .inr (.inl (vp_updL (vp_updL (fun _ => 0) 0 123) 1 125)))), (a20, .inl (k7, 5, .inl (upd (upd (upd (upd (upd (fun _ => 0) 0 0) 1 1) 2 0) 3 0) 4 0))), (a1, .inl (k8, 1, .inr (.inl (vp_updL (fun _ => 0) 0 2))))]) [1, 2, 3, 4, 5, 6, 7, 8, 9, 10, 11, 12, 13, 14, 15, 16, 17, 18, 19, 20, 0] rfl
  have hD9 := hD.sub (ws' := [(a0, .inr (0, [.ref a2, .ref a21, .ref a3, .ref a6, .ref a11, .ref a17, .ref a20, .int (-1)])), (a2, .inr (10, [.ref a22, .int 0])), (a3, .inr (3, [.ref a4, .int 0, .int 0, .int 1, .int (-1), .int 0])), (a4, .inr (5, [.ref a5, .ref a23, .ref a24, .ref a25])), (a5, .inr (11, [.ref a26, .ref a27, .int 0])), (a6, .inr (2, [.ref a7, .ref a8, .int 1])), (a7, .inr (6, [.ref a28, .int 0, .int 0])), (a8, .inr (11, [.ref a9, .ref a10, .int 2])), (a9, .inl (k0, 362, .inl (upd (upd (fun _ => 0) 0 4) 1 4))), (a10, .inl (k1, 362, .inr (.inl (vp_updL (vp_updL (fun _ => 0) 0 123) 1 125)))), (a11, .inr (9, [.ref a12, .ref a29, .ref a13, .ref a14, .ref a15, .ref a16, .int 0, .int 0])), (a12, .inl (k2, 362, .inl (upd (upd (fun _ => 0) 0 0) 1 1))), (a13, .inl (k3, 362, .inl (fun _ => 0))), (a14, .inl (k4, 362, .inl (fun _ => 0))), (a15, .inr (8, [.ref a30, .ref a31, .ref a32, .int 0, .int 0, .int 0])), (a16, .inr (7, [.ref a33, .ref a34, .int 0, .int 0, .ref a35, .ref a36, .int 0, .ref a37, .ref a38, .ref a39, .int 0])), (a17, .inr (11, [.ref a18, .ref a19, .int 2])), (a18, .inl (k5, 542, .inl (upd (upd (fun _ => 0) 0 4) 1 4))), (a19, .inl (k6, 542, .inr (.inl (vp_updL (vp_updL (fun _ => 0) 0 123) 1 125)))), (a20, .inl (k7, 5, .inl (upd (upd (upd (upd (upd (fun _ => 0) 0 0) 1 1) 2 0) 3 0) 4 0))), (a1, .inl (k8, 1, .inr (.inl (vp_updL (fun _ => 0) 0 2))))]) [1, 2, 3, 4, 5, 6, 7, 8, 9, 10, 11, 12, 13, 14, 15, 16, 17, 18, 19, 20, 0] (by decide) rfl
  have hK9 := hK.sub (tys' := [(k0, .int), (k1, .long), (k2, .int), (k3, .int), (k4, .int), (k5, .int), (k6, .long), (k7, .int), (k8, .long)]) [0, 1, 2, 3, 4, 5, 6, 7, 8] rfl
  exact W.iret (v := 0) hx hb hr (fun t ht hW => ⟨⟨0, (), rfl, rfl, by rw [ht]; exact hP9, va_K.moved hW.alike hK9, hD9⟩, hS.F ht⟩) hS.2.2 d_Law_read_18
set_option maxHeartbeats 4000000 in
set_option maxRecDepth 100000 in
theorem c118_LF_count (l : Launch) (dC : Nat → ClassId) (dI : Nat → Nat → Nat) (sz : Nat) (a0 : Nat) (a1 : Nat) (a2 : Nat) (a3 : Nat) (a4 : Nat) (a5 : Nat) (a6 : Nat) (a7 : Nat) (k0 : ClassId) : Met l y_LF_count w_LF_count ({ frames := 0, cells := 0, slots := 0, locals := 0 }) (va_Pc [.ref a0, .int 0] (fun U => U.heap.size = sz ∧ va_P (dC, dI) vcl [(a0, .inr (0, [.ref a2, .ref a3, .ref a4, .ref a5, .ref a6, .ref a7, .ref a1, .int (-1)])), (a1, .inl (k0, 5, .inl (fun _ => 0)))] U.heap ∧ va_K (dC, dI) vcl [(k0, .int)] U ∧ va_D (fun _ => True) [(a0, .inr (0, [.ref a2, .ref a3, .ref a4, .ref a5, .ref a6, .ref a7, .ref a1, .int (-1)])), (a1, .inl (k0, 5, .inl (fun _ => 0)))])) (va_Qi (fun (r : Int32) (_ : Unit) => r = 0) (fun _ t => va_P (dC, dI) vcl [(a0, .inr (0, [.ref a2, .ref a3, .ref a4, .ref a5, .ref a6, .ref a7, .ref a1, .int (-1)])), (a1, .inl (k0, 5, .inl (fun _ => 0)))] t.heap ∧ va_K (dC, dI) vcl [(k0, .int)] t ∧ va_D (va_A [(a0, .inr (0, [.ref a2, .ref a3, .ref a4, .ref a5, .ref a6, .ref a7, .ref a1, .int (-1)])), (a1, .inl (k0, 5, .inl (fun _ => 0)))] sz) [(a0, .inr (0, [.ref a2, .ref a3, .ref a4, .ref a5, .ref a6, .ref a7, .ref a1, .int (-1)])), (a1, .inl (k0, 5, .inl (fun _ => 0)))]) (va_A [(a0, .inr (0, [.ref a2, .ref a3, .ref a4, .ref a5, .ref a6, .ref a7, .ref a1, .int (-1)])), (a1, .inl (k0, 5, .inl (fun _ => 0)))] sz)) 0 0 (va_A [(a0, .inr (0, [.ref a2, .ref a3, .ref a4, .ref a5, .ref a6, .ref a7, .ref a1, .int (-1)])), (a1, .inl (k0, 5, .inl (fun _ => 0)))] sz) := by
  refine Met.ofW (cc := b_LF_count) (maxL := 2) (ret := (some .int)) (by decide) rfl ?_
  intro p e s m args below meth c s₁ B hml hv
  obtain ⟨rfl, hsz, hP, hK, hD0⟩ := hv
  have hx := B.exec
  have hb := B.bytes
  have hr := B.returns
  have hts := atoms_spec (ws := w_LF_count) B.pre
  have hz : ∀ w ∈ wz, w.before _ s = true := fun w h => hts w (List.mem_cons_of_mem _ h)
  have hown : s.vm.findClass R_LF = some m.cls := findClass_of_methodNamed B.named
  have hlocks := B.notSynchronized
  subst hsz
  have hD := hD0.self (sz := s.heap.size)
  generalize hAe : va_A [(a0, .inr (0, [.ref a2, .ref a3, .ref a4, .ref a5, .ref a6, .ref a7, .ref a1, .int (-1)])), (a1, .inl (k0, 5, .inl (fun _ => 0)))] s.heap.size = A at hD ⊢
  have hA : ∀ q : Nat, s.heap.size ≤ q → A q := fun q h => by rw [← hAe]; exact Or.inr h
  have hS : va_S A s.heap s.heap [] := va_S.rf
  have hP : va_P (dC, dI) vcl [(a0, .inr (0, [.ref a2, .ref a3, .ref a4, .ref a5, .ref a6, .ref a7, .ref a1, .int (-1)])), (a1, .inl (k0, 5, .inl (fun _ => 0)))] s.heap := hP
  have hl := lv_entry ([.ref a0, .int 0]) (n := 2) (Nat.le_of_ble_eq_true rfl)
  rw [lg_entry_eq]
  generalize (lg_sl ([.ref a0, .int 0]) ++ List.replicate (2 - (lg_sl ([.ref a0, .int 0])).length) Slot.unset).toArray = ls at hl ⊢
  have hl : lv_has ls 2 [(0, .ref a0), (1, .int 0)] := hl
  refine lv_iload_n hx hb d_LF_count_0 rfl (lv_at hl 1 rfl) ?_
  refine lv_if_lt (tgt := 9) hx hb d_LF_count_1 (by decide) (fun h => absurd h (by decide +kernel)) (fun _ => ?_)
  refine lv_iload_n hx hb d_LF_count_4 rfl (lv_at hl 1 rfl) ?_
  refine lv_iconst (v := 5) hx hb d_LF_count_5 (by decide) ?_
  refine lv_icmp_lt (tgt := 19) hx hb d_LF_count_6 (by decide) (fun _ => ?_) (fun h => (h (by decide +kernel)).elim)
  refine lv_aload_n hx hb d_LF_count_19 rfl (lv_at hl 0 rfl) ?_
  refine va_get (D := (dC, dI)) (ci := 0) (v := .ref a1) (C := R_LF) (T := F_LF) (N := 8) hx hb hz zu_LF hown hK hP 0 rfl rfl 6 (by decide) (hz (.fieldLink R_LF 53 "LayoutFront" "counts" "[I") zm_109) (fun _ h9 => h9) rfl d_LF_count_20 ?_
  refine lv_iload_n hx hb d_LF_count_23 rfl (lv_at hl 1 rfl) ?_
  refine xr_iald (v := 0) hx hb hK hP 1 0 rfl rfl (xr_in (by decide +kernel)) (by decide +kernel) d_LF_count_24 ?_
  have hP9 := hP.sub (ws' := [(a0, .inr (0, [.ref a2, .ref a3, .ref a4, .ref a5, .ref a6, .ref a7, .ref a1, .int (-1)])), (a1, .inl (k0, 5, .inl (fun _ => 0)))]) [0, 1] rfl
  have hD9 := hD.sub (ws' := [(a0, .inr (0, [.ref a2, .ref a3, .ref a4, .ref a5, .ref a6, .ref a7, .ref a1, .int (-1)])), (a1, .inl (k0, 5, .inl (fun _ => 0)))]) [0, 1] (by decide) rfl
  have hK9 := hK.sub (tys' := [(k0, .int)]) [0] rfl
  exact W.iret (v := 0) hx hb hr (fun t ht hW => ⟨⟨0, (), rfl, rfl, by rw [ht]; exact hP9, va_K.moved hW.alike hK9, hD9⟩, hS.F ht⟩) hS.2.2 d_LF_count_25
set_option maxHeartbeats 4000000 in
set_option maxRecDepth 100000 in
theorem c119_Law_count (l : Launch) (dC : Nat → ClassId) (dI : Nat → Nat → Nat) (sz : Nat) (a0 : Nat) (a1 : Nat) (a2 : Nat) (a3 : Nat) (a4 : Nat) (a5 : Nat) (a6 : Nat) (a7 : Nat) (a8 : Nat) (k0 : ClassId) (k1 : ClassId) : Met l y_Law_count w_Law_count ({ frames := 1, cells := 0, slots := 0, locals := 21 }) (va_Pc [.ref a0, .int 0, .ref a1] (fun U => U.heap.size = sz ∧ va_P (dC, dI) vcl [(a0, .inr (0, [.ref a3, .ref a4, .ref a5, .ref a6, .ref a7, .ref a8, .ref a2, .int (-1)])), (a2, .inl (k0, 5, .inl (fun _ => 0))), (a1, .inl (k1, 1, .inr (.inl (fun _ => 0))))] U.heap ∧ va_K (dC, dI) vcl [(k0, .int), (k1, .long)] U ∧ va_D (fun _ => True) [(a0, .inr (0, [.ref a3, .ref a4, .ref a5, .ref a6, .ref a7, .ref a8, .ref a2, .int (-1)])), (a2, .inl (k0, 5, .inl (fun _ => 0))), (a1, .inl (k1, 1, .inr (.inl (fun _ => 0))))])) (va_Qi (fun (r : Int32) (_ : Unit) => r = 0) (fun _ t => va_P (dC, dI) vcl [(a0, .inr (0, [.ref a3, .ref a4, .ref a5, .ref a6, .ref a7, .ref a8, .ref a2, .int (-1)])), (a2, .inl (k0, 5, .inl (fun _ => 0))), (a1, .inl (k1, 1, .inr (.inl (vp_updL (fun _ => 0) 0 0))))] t.heap ∧ va_K (dC, dI) vcl [(k0, .int), (k1, .long)] t ∧ va_D (va_A [(a0, .inr (0, [.ref a3, .ref a4, .ref a5, .ref a6, .ref a7, .ref a8, .ref a2, .int (-1)])), (a2, .inl (k0, 5, .inl (fun _ => 0))), (a1, .inl (k1, 1, .inr (.inl (fun _ => 0))))] sz) [(a0, .inr (0, [.ref a3, .ref a4, .ref a5, .ref a6, .ref a7, .ref a8, .ref a2, .int (-1)])), (a2, .inl (k0, 5, .inl (fun _ => 0))), (a1, .inl (k1, 1, .inr (.inl (vp_updL (fun _ => 0) 0 0))))]) (va_A [(a0, .inr (0, [.ref a3, .ref a4, .ref a5, .ref a6, .ref a7, .ref a8, .ref a2, .int (-1)])), (a2, .inl (k0, 5, .inl (fun _ => 0))), (a1, .inl (k1, 1, .inr (.inl (fun _ => 0))))] sz)) 0 0 (va_A [(a0, .inr (0, [.ref a3, .ref a4, .ref a5, .ref a6, .ref a7, .ref a8, .ref a2, .int (-1)])), (a2, .inl (k0, 5, .inl (fun _ => 0))), (a1, .inl (k1, 1, .inr (.inl (fun _ => 0))))] sz) := by
  refine va_MetW (hh := [(0, 9, 12, 29)]) (cc := b_Law_count) (maxL := 4) (ret := (some .int)) (by decide) rfl ?_
  intro p e s m args below meth c s₁ B hml hv
  obtain ⟨rfl, hsz, hP, hK, hD0⟩ := hv
  have hx := B.exec
  have hb := B.bytes
  have hr := B.returns
  have hts := atoms_spec (ws := w_Law_count) B.pre
  have hz : ∀ w ∈ wz, w.before _ s = true := fun w h => hts w (List.mem_cons_of_mem _ h)
  have hown : s.vm.findClass R_Law = some m.cls := findClass_of_methodNamed B.named
  have hlocks := B.notSynchronized
  subst hsz
  have hD := hD0.self (sz := s.heap.size)
  generalize hAe : va_A [(a0, .inr (0, [.ref a3, .ref a4, .ref a5, .ref a6, .ref a7, .ref a8, .ref a2, .int (-1)])), (a2, .inl (k0, 5, .inl (fun _ => 0))), (a1, .inl (k1, 1, .inr (.inl (fun _ => 0))))] s.heap.size = A at hD ⊢
  have hA : ∀ q : Nat, s.heap.size ≤ q → A q := fun q h => by rw [← hAe]; exact Or.inr h
  have hS : va_S A s.heap s.heap [] := va_S.rf
  have hP : va_P (dC, dI) vcl [(a0, .inr (0, [.ref a3, .ref a4, .ref a5, .ref a6, .ref a7, .ref a8, .ref a2, .int (-1)])), (a2, .inl (k0, 5, .inl (fun _ => 0))), (a1, .inl (k1, 1, .inr (.inl (fun _ => 0))))] s.heap := hP
  have hl := lv_entry ([.ref a0, .int 0, .ref a1]) (n := 4) (Nat.le_of_ble_eq_true rfl)
  rw [lg_entry_eq]
  generalize (lg_sl ([.ref a0, .int 0, .ref a1]) ++ List.replicate (4 - (lg_sl ([.ref a0, .int 0, .ref a1])).length) Slot.unset).toArray = ls at hl ⊢
  have hl : lv_has ls 4 [(0, .ref a0), (1, .int 0), (2, .ref a1)] := hl
  refine lv_aload_n hx hb d_Law_count_0 rfl (lv_at hl 2 rfl) ?_
  refine lv_iconst (v := 0) hx hb d_Law_count_1 (by decide) ?_
  refine lv_aload_n hx hb d_Law_count_2 rfl (lv_at hl 0 rfl) ?_
  refine lv_iload_n hx hb d_Law_count_3 rfl (lv_at hl 1 rfl) ?_
  have hPc := hP.sub (ws' := [(a0, .inr (0, [.ref a3, .ref a4, .ref a5, .ref a6, .ref a7, .ref a8, .ref a2, .int (-1)])), (a2, .inl (k0, 5, .inl (fun _ => 0)))]) [0, 1] rfl
  have hDc := hD.sub (ws' := [(a0, .inr (0, [.ref a3, .ref a4, .ref a5, .ref a6, .ref a7, .ref a8, .ref a2, .int (-1)])), (a2, .inl (k0, 5, .inl (fun _ => 0)))]) [0, 1] (by decide) rfl
  have hKc := hK.sub (tys' := [(k0, .int)]) [0] rfl
  have hFc := va_free (wc := [(a0, .inr (0, [.ref a3, .ref a4, .ref a5, .ref a6, .ref a7, .ref a8, .ref a2, .int (-1)])), (a2, .inl (k0, 5, .inl (fun _ => 0)))]) hD hS hA [0, 1] rfl
  refine va_calli (va_runV (As := [.int 0]) (rest := [.int 0, .ref a1]) ⟨hx, hb, hml, hown, hz⟩ (c118_LF_count l dC dI s.heap.size a0 a2 a3 a4 a5 a6 a7 a8 k0) (cwV 1 hz (zV zm_445 zm_446 zm_447 zm_333 zm_448) rfl rfl rfl (by decide +kernel) ⟨Nat.le_of_ble_eq_true rfl, Nat.le_of_ble_eq_true rfl⟩) ⟨fun a U g mk q => by obtain ⟨q0, q1, qP, qK, qD⟩ := q; exact ⟨q0, q1, qP, va_K.moved (u := U) (U := U.calling g mk a) (Vm.Alike.refl U.vm) qK, qD⟩, va_recv (q := (R_LF, F_LF, 8)) (q0 := 0) (ci := 0) hK hP rfl rfl, fun U hU hW => ⟨rfl, by rw [hU], by rw [hU]; exact hPc, va_K.moved hW.alike hKc, hDc.weaken (fun _ _ _ _ => trivial)⟩⟩ rfl rfl hl.1 rfl (lv_room (Nat.le_of_ble_eq_true rfl)) d_Law_count_4 ⟨by decide, by decide⟩) hS (fun q _ h => hFc q h) hFc (fun r u t H1 locs ht hvm hw hB hz1 hk1 hS => ?_)
  obtain ⟨hP1, hK1, hD1⟩ := hB
  subst r
  rw [ht] at hP1
  obtain ⟨hP, hD⟩ := va_join (wr := [(a1, .inl (k1, 1, .inr (.inl (fun _ => 0))))]) (w1 := [(a0, .inr (0, [.ref a3, .ref a4, .ref a5, .ref a6, .ref a7, .ref a8, .ref a2, .int (-1)])), (a2, .inl (k0, 5, .inl (fun _ => 0)))]) hP hD [0, 1] [2] rfl rfl (by decide) (by decide) hk1 hFc hP1 hD1
  generalize H1 = H at hP hS ⊢
  have hP : va_P (dC, dI) vcl [(a1, .inl (k1, 1, .inr (.inl (fun _ => 0)))), (a0, .inr (0, [.ref a3, .ref a4, .ref a5, .ref a6, .ref a7, .ref a8, .ref a2, .int (-1)])), (a2, .inl (k0, 5, .inl (fun _ => 0)))] H := hP
  have hD : va_D A [(a1, .inl (k1, 1, .inr (.inl (fun _ => 0)))), (a0, .inr (0, [.ref a3, .ref a4, .ref a5, .ref a6, .ref a7, .ref a8, .ref a2, .int (-1)])), (a2, .inl (k0, 5, .inl (fun _ => 0)))] := hD
  refine lv_i2l (v := 0) hx hb d_Law_count_7 (by decide +kernel) ?_
  refine xr_last (j := 0) hx hb hK hP hD hS 0 1 rfl rfl (xr_in (by decide +kernel)) (by decide +kernel) d_Law_count_8 (fun H locs hP hD hS => ?_)
  have hP : va_P (dC, dI) vcl [(a1, .inl (k1, 1, .inr (.inl (vp_updL (fun _ => 0) 0 0)))), (a0, .inr (0, [.ref a3, .ref a4, .ref a5, .ref a6, .ref a7, .ref a8, .ref a2, .int (-1)])), (a2, .inl (k0, 5, .inl (fun _ => 0)))] H := hP
  have hD : va_D A [(a1, .inl (k1, 1, .inr (.inl (vp_updL (fun _ => 0) 0 0)))), (a0, .inr (0, [.ref a3, .ref a4, .ref a5, .ref a6, .ref a7, .ref a8, .ref a2, .int (-1)])), (a2, .inl (k0, 5, .inl (fun _ => 0)))] := hD
  refine lv_goto (tgt := 15) hx hb d_Law_count_9 (by decide) ?_
  refine lv_iconst (v := 0) hx hb d_Law_count_15 (by decide) ?_
  have hP9 := hP.sub (ws' := [(a0, .inr (0, [.ref a3, .ref a4, .ref a5, .ref a6, .ref a7, .ref a8, .ref a2, .int (-1)])), (a2, .inl (k0, 5, .inl (fun _ => 0))), (a1, .inl (k1, 1, .inr (.inl (vp_updL (fun _ => 0) 0 0))))]) [1, 2, 0] rfl
  have hD9 := hD.sub (ws' := [(a0, .inr (0, [.ref a3, .ref a4, .ref a5, .ref a6, .ref a7, .ref a8, .ref a2, .int (-1)])), (a2, .inl (k0, 5, .inl (fun _ => 0))), (a1, .inl (k1, 1, .inr (.inl (vp_updL (fun _ => 0) 0 0))))]) [1, 2, 0] (by decide) rfl
  have hK9 := hK.sub (tys' := [(k0, .int), (k1, .long)]) [0, 1] rfl
  exact W.iret (v := 0) hx hb hr (fun t ht hW => ⟨⟨0, (), rfl, rfl, by rw [ht]; exact hP9, va_K.moved hW.alike hK9, hD9⟩, hS.F ht⟩) hS.2.2 d_Law_count_16
set_option maxHeartbeats 4000000 in
set_option maxRecDepth 100000 in
theorem c120_Model_within (l : Launch) (dC : Nat → ClassId) (dI : Nat → Nat → Nat) (sz : Nat) : Met l y_Model_within w_Model_within ({ frames := 0, cells := 0, slots := 0, locals := 0 }) (va_Pc [.int 0, .int 0, .int 4] (fun U => U.heap.size = sz ∧ va_P (dC, dI) vcl [] U.heap ∧ va_K (dC, dI) vcl [] U ∧ va_D (fun _ => True) [])) (va_Qi (fun (r : Int32) (_ : Unit) => r = 1) (fun _ t => va_P (dC, dI) vcl [] t.heap ∧ va_K (dC, dI) vcl [] t ∧ va_D (va_A [] sz) []) (va_A [] sz)) 0 0 (va_A [] sz) := by
  refine Met.ofW (cc := b_Model_within) (maxL := 3) (ret := (some .boolean)) (by decide) rfl ?_
  intro p e s m args below meth c s₁ B hml hv
  obtain ⟨rfl, hsz, hP, hK, hD0⟩ := hv
  have hx := B.exec
  have hb := B.bytes
  have hr := B.returns
  have hts := atoms_spec (ws := w_Model_within) B.pre
  have hz : ∀ w ∈ wz, w.before _ s = true := fun w h => hts w (List.mem_cons_of_mem _ h)
  have hown : s.vm.findClass R_Model = some m.cls := findClass_of_methodNamed B.named
  have hlocks := B.notSynchronized
  subst hsz
  have hD := hD0.self (sz := s.heap.size)
  generalize hAe : va_A [] s.heap.size = A at hD ⊢
  have hA : ∀ q : Nat, s.heap.size ≤ q → A q := fun q h => by rw [← hAe]; exact Or.inr h
  have hS : va_S A s.heap s.heap [] := va_S.rf
  have hP : va_P (dC, dI) vcl [] s.heap := hP
  have hl := lv_entry ([.int 0, .int 0, .int 4]) (n := 3) (Nat.le_of_ble_eq_true rfl)
  rw [lg_entry_eq]
  generalize (lg_sl ([.int 0, .int 0, .int 4]) ++ List.replicate (3 - (lg_sl ([.int 0, .int 0, .int 4])).length) Slot.unset).toArray = ls at hl ⊢
  have hl : lv_has ls 3 [(0, .int 0), (1, .int 0), (2, .int 4)] := hl
  refine lv_iload_n hx hb d_Model_within_0 rfl (lv_at hl 0 rfl) ?_
  refine lv_iload_n hx hb d_Model_within_1 rfl (lv_at hl 1 rfl) ?_
  refine lv_icmp_lt (tgt := 14) hx hb d_Model_within_2 (by decide) (fun h => absurd h (by decide +kernel)) (fun _ => ?_)
  refine lv_iload_n hx hb d_Model_within_5 rfl (lv_at hl 0 rfl) ?_
  refine lv_iload_n hx hb d_Model_within_6 rfl (lv_at hl 2 rfl) ?_
  refine lv_icmp_gt (tgt := 14) hx hb d_Model_within_7 (by decide) (fun h => absurd h (by decide +kernel)) (fun _ => ?_)
  refine lv_iconst (v := 1) hx hb d_Model_within_10 (by decide) ?_
  refine lv_goto (tgt := 15) hx hb d_Model_within_11 (by decide) ?_
  have hP9 := hP.sub (ws' := []) [] rfl
  have hD9 := hD.sub (ws' := []) [] (by decide) rfl
  have hK9 := hK.sub (tys' := []) [] rfl
  exact W.zret (v := 1) hx hb hr (by decide +kernel) (fun t ht hW => ⟨⟨1, (), rfl, rfl, by rw [ht]; exact hP9, va_K.moved hW.alike hK9, hD9⟩, hS.F ht⟩) hS.2.2 d_Model_within_15
set_option maxHeartbeats 4000000 in
set_option maxRecDepth 100000 in
theorem c121_Model_count (l : Launch) (dC : Nat → ClassId) (dI : Nat → Nat → Nat) (sz : Nat) (a0 : Nat) (a1 : Nat) (a2 : Nat) (a3 : Nat) (a4 : Nat) (a5 : Nat) (a6 : Nat) (a7 : Nat) (a8 : Nat) (a9 : Nat) (a10 : Nat) (a11 : Nat) (a12 : Nat) (a13 : Nat) (a14 : Nat) (a15 : Nat) (a16 : Nat) (a17 : Nat) (a18 : Nat) (a19 : Nat) (a20 : Nat) (a21 : Nat) (a22 : Nat) (a23 : Nat) (a24 : Nat) (a25 : Nat) (a26 : Nat) (a27 : Nat) : Met l y_Model_count w_Model_count ({ frames := 1, cells := 0, slots := 0, locals := 22 }) (va_Pc [.ref a0, .int 0] (fun U => U.heap.size = sz ∧ va_P (dC, dI) vcl [(a0, .inr (1, [.int 0, .int 0, .ref a1, .int 0, .int (-1), .int 0, .int 0, .ref a2, .ref a3, .ref a4, .ref a5, .ref a6, .int 0, .int 0, .ref a7, .int 0, .int 0, .ref a8, .ref a9, .ref a10, .ref a11, .ref a12, .ref a13, .int 0, .ref a14, .ref a15, .int 0, .int 0, .int 0, .int 0, .int 0, .int 0, .ref a16, .ref a17, .ref a18, .int 0, .int 0, .int 0, .int 0, .int 0, .int 0, .ref a19, .ref a20, .ref a21, .ref a22, .ref a23, .ref a24, .ref a25, .ref a26, .ref a27]))] U.heap ∧ va_K (dC, dI) vcl [] U ∧ va_D (fun _ => True) [(a0, .inr (1, [.int 0, .int 0, .ref a1, .int 0, .int (-1), .int 0, .int 0, .ref a2, .ref a3, .ref a4, .ref a5, .ref a6, .int 0, .int 0, .ref a7, .int 0, .int 0, .ref a8, .ref a9, .ref a10, .ref a11, .ref a12, .ref a13, .int 0, .ref a14, .ref a15, .int 0, .int 0, .int 0, .int 0, .int 0, .int 0, .ref a16, .ref a17, .ref a18, .int 0, .int 0, .int 0, .int 0, .int 0, .int 0, .ref a19, .ref a20, .ref a21, .ref a22, .ref a23, .ref a24, .ref a25, .ref a26, .ref a27]))])) (va_Qi (fun (r : Int32) (_ : Unit) => r = 0) (fun _ t => va_P (dC, dI) vcl [(a0, .inr (1, [.int 0, .int 0, .ref a1, .int 0, .int (-1), .int 0, .int 0, .ref a2, .ref a3, .ref a4, .ref a5, .ref a6, .int 0, .int 0, .ref a7, .int 0, .int 0, .ref a8, .ref a9, .ref a10, .ref a11, .ref a12, .ref a13, .int 0, .ref a14, .ref a15, .int 0, .int 0, .int 0, .int 0, .int 0, .int 0, .ref a16, .ref a17, .ref a18, .int 0, .int 0, .int 0, .int 0, .int 0, .int 0, .ref a19, .ref a20, .ref a21, .ref a22, .ref a23, .ref a24, .ref a25, .ref a26, .ref a27]))] t.heap ∧ va_K (dC, dI) vcl [] t ∧ va_D (va_A [(a0, .inr (1, [.int 0, .int 0, .ref a1, .int 0, .int (-1), .int 0, .int 0, .ref a2, .ref a3, .ref a4, .ref a5, .ref a6, .int 0, .int 0, .ref a7, .int 0, .int 0, .ref a8, .ref a9, .ref a10, .ref a11, .ref a12, .ref a13, .int 0, .ref a14, .ref a15, .int 0, .int 0, .int 0, .int 0, .int 0, .int 0, .ref a16, .ref a17, .ref a18, .int 0, .int 0, .int 0, .int 0, .int 0, .int 0, .ref a19, .ref a20, .ref a21, .ref a22, .ref a23, .ref a24, .ref a25, .ref a26, .ref a27]))] sz) [(a0, .inr (1, [.int 0, .int 0, .ref a1, .int 0, .int (-1), .int 0, .int 0, .ref a2, .ref a3, .ref a4, .ref a5, .ref a6, .int 0, .int 0, .ref a7, .int 0, .int 0, .ref a8, .ref a9, .ref a10, .ref a11, .ref a12, .ref a13, .int 0, .ref a14, .ref a15, .int 0, .int 0, .int 0, .int 0, .int 0, .int 0, .ref a16, .ref a17, .ref a18, .int 0, .int 0, .int 0, .int 0, .int 0, .int 0, .ref a19, .ref a20, .ref a21, .ref a22, .ref a23, .ref a24, .ref a25, .ref a26, .ref a27]))]) (va_A [(a0, .inr (1, [.int 0, .int 0, .ref a1, .int 0, .int (-1), .int 0, .int 0, .ref a2, .ref a3, .ref a4, .ref a5, .ref a6, .int 0, .int 0, .ref a7, .int 0, .int 0, .ref a8, .ref a9, .ref a10, .ref a11, .ref a12, .ref a13, .int 0, .ref a14, .ref a15, .int 0, .int 0, .int 0, .int 0, .int 0, .int 0, .ref a16, .ref a17, .ref a18, .int 0, .int 0, .int 0, .int 0, .int 0, .int 0, .ref a19, .ref a20, .ref a21, .ref a22, .ref a23, .ref a24, .ref a25, .ref a26, .ref a27]))] sz)) 0 0 (va_A [(a0, .inr (1, [.int 0, .int 0, .ref a1, .int 0, .int (-1), .int 0, .int 0, .ref a2, .ref a3, .ref a4, .ref a5, .ref a6, .int 0, .int 0, .ref a7, .int 0, .int 0, .ref a8, .ref a9, .ref a10, .ref a11, .ref a12, .ref a13, .int 0, .ref a14, .ref a15, .int 0, .int 0, .int 0, .int 0, .int 0, .int 0, .ref a16, .ref a17, .ref a18, .int 0, .int 0, .int 0, .int 0, .int 0, .int 0, .ref a19, .ref a20, .ref a21, .ref a22, .ref a23, .ref a24, .ref a25, .ref a26, .ref a27]))] sz) := by
  refine Met.ofW (cc := b_Model_count) (maxL := 2) (ret := (some .int)) (by decide) rfl ?_
  intro p e s m args below meth c s₁ B hml hv
  obtain ⟨rfl, hsz, hP, hK, hD0⟩ := hv
  have hx := B.exec
  have hb := B.bytes
  have hr := B.returns
  have hts := atoms_spec (ws := w_Model_count) B.pre
  have hz : ∀ w ∈ wz, w.before _ s = true := fun w h => hts w (List.mem_cons_of_mem _ h)
  have hown : s.vm.findClass R_Model = some m.cls := findClass_of_methodNamed B.named
  have hlocks := B.notSynchronized
  subst hsz
  have hD := hD0.self (sz := s.heap.size)
  generalize hAe : va_A [(a0, .inr (1, [.int 0, .int 0, .ref a1, .int 0, .int (-1), .int 0, .int 0, .ref a2, .ref a3, .ref a4, .ref a5, .ref a6, .int 0, .int 0, .ref a7, .int 0, .int 0, .ref a8, .ref a9, .ref a10, .ref a11, .ref a12, .ref a13, .int 0, .ref a14, .ref a15, .int 0, .int 0, .int 0, .int 0, .int 0, .int 0, .ref a16, .ref a17, .ref a18, .int 0, .int 0, .int 0, .int 0, .int 0, .int 0, .ref a19, .ref a20, .ref a21, .ref a22, .ref a23, .ref a24, .ref a25, .ref a26, .ref a27]))] s.heap.size = A at hD ⊢
  have hA : ∀ q : Nat, s.heap.size ≤ q → A q := fun q h => by rw [← hAe]; exact Or.inr h
  have hS : va_S A s.heap s.heap [] := va_S.rf
  have hP : va_P (dC, dI) vcl [(a0, .inr (1, [.int 0, .int 0, .ref a1, .int 0, .int (-1), .int 0, .int 0, .ref a2, .ref a3, .ref a4, .ref a5, .ref a6, .int 0, .int 0, .ref a7, .int 0, .int 0, .ref a8, .ref a9, .ref a10, .ref a11, .ref a12, .ref a13, .int 0, .ref a14, .ref a15, .int 0, .int 0, .int 0, .int 0, .int 0, .int 0, .ref a16, .ref a17, .ref a18, .int 0, .int 0, .int 0, .int 0, .int 0, .int 0, .ref a19, .ref a20, .ref a21, .ref a22, .ref a23, .ref a24, .ref a25, .ref a26, .ref a27]))] s.heap := hP
  have hl := lv_entry ([.ref a0, .int 0]) (n := 2) (Nat.le_of_ble_eq_true rfl)
  rw [lg_entry_eq]
  generalize (lg_sl ([.ref a0, .int 0]) ++ List.replicate (2 - (lg_sl ([.ref a0, .int 0])).length) Slot.unset).toArray = ls at hl ⊢
  have hl : lv_has ls 2 [(0, .ref a0), (1, .int 0)] := hl
  refine lv_aload_n hx hb d_Model_count_0 rfl (lv_at hl 0 rfl) ?_
  refine lv_iconst (v := 0) hx hb d_Model_count_1 (by decide) ?_
  refine va_put (D := (dC, dI)) (ci := 1) (v := .int 0) (ty := .int) (C := R_Model) (T := F_Model) (N := 50) hx hb hz zu_Model t_Model t_Model_ok n_Model hown hK hP hD hS 0 rfl rfl 0 (by decide) (hz (.fieldLink R_Model 97 "LayoutFrontModel" "thrown" "I") zm_415) (fun _ h9 => h9) rfl (by decide +kernel) rfl rfl (Nat.le_of_ble_eq_true rfl) d_Model_count_2 (fun H locs hP hD hS => ?_)
  have hP : va_P (dC, dI) vcl [(a0, .inr (1, [.int 0, .int 0, .ref a1, .int 0, .int (-1), .int 0, .int 0, .ref a2, .ref a3, .ref a4, .ref a5, .ref a6, .int 0, .int 0, .ref a7, .int 0, .int 0, .ref a8, .ref a9, .ref a10, .ref a11, .ref a12, .ref a13, .int 0, .ref a14, .ref a15, .int 0, .int 0, .int 0, .int 0, .int 0, .int 0, .ref a16, .ref a17, .ref a18, .int 0, .int 0, .int 0, .int 0, .int 0, .int 0, .ref a19, .ref a20, .ref a21, .ref a22, .ref a23, .ref a24, .ref a25, .ref a26, .ref a27]))] H := hP
  have hD : va_D A [(a0, .inr (1, [.int 0, .int 0, .ref a1, .int 0, .int (-1), .int 0, .int 0, .ref a2, .ref a3, .ref a4, .ref a5, .ref a6, .int 0, .int 0, .ref a7, .int 0, .int 0, .ref a8, .ref a9, .ref a10, .ref a11, .ref a12, .ref a13, .int 0, .ref a14, .ref a15, .int 0, .int 0, .int 0, .int 0, .int 0, .int 0, .ref a16, .ref a17, .ref a18, .int 0, .int 0, .int 0, .int 0, .int 0, .int 0, .ref a19, .ref a20, .ref a21, .ref a22, .ref a23, .ref a24, .ref a25, .ref a26, .ref a27]))] := hD
  refine lv_iload_n hx hb d_Model_count_5 rfl (lv_at hl 1 rfl) ?_
  refine lv_iconst (v := 0) hx hb d_Model_count_6 (by decide) ?_
  refine lv_iconst (v := 4) hx hb d_Model_count_7 (by decide) ?_
  have hPc := hP.sub (ws' := []) [] rfl
  have hDc := hD.sub (ws' := []) [] (by decide) rfl
  have hKc := hK.sub (tys' := []) [] rfl
  have hFc := va_free (wc := []) hD hS hA [] rfl
  refine va_calli (va_runS (As := [.int 0, .int 0, .int 4]) (rest := []) ⟨hx, hb, hml, hown, hz⟩ (c120_Model_within l dC dI H.size) (cwS 3 hz (zS zm_449 zm_450 zm_374 zm_451) rfl rfl rfl (by decide +kernel) ⟨Nat.le_of_ble_eq_true rfl, Nat.le_of_ble_eq_true rfl⟩) ⟨fun a U g mk q => by obtain ⟨q0, q1, qP, qK, qD⟩ := q; exact ⟨q0, q1, qP, va_K.moved (u := U) (U := U.calling g mk a) (Vm.Alike.refl U.vm) qK, qD⟩, fun U hU hW => ⟨rfl, by rw [hU], by rw [hU]; exact hPc, va_K.moved hW.alike hKc, hDc.weaken (fun _ _ _ _ => trivial)⟩⟩ rfl rfl hl.1 rfl (lv_room (Nat.le_of_ble_eq_true rfl)) d_Model_count_8 ⟨by decide, by decide⟩) hS (fun q _ h => hFc q h) hFc (fun r u t H1 locs ht hvm hw hB hz1 hk1 hS => ?_)
  obtain ⟨hP1, hK1, hD1⟩ := hB
  subst r
  rw [ht] at hP1
  obtain ⟨hP, hD⟩ := va_join (wr := [(a0, .inr (1, [.int 0, .int 0, .ref a1, .int 0, .int (-1), .int 0, .int 0, .ref a2, .ref a3, .ref a4, .ref a5, .ref a6, .int 0, .int 0, .ref a7, .int 0, .int 0, .ref a8, .ref a9, .ref a10, .ref a11, .ref a12, .ref a13, .int 0, .ref a14, .ref a15, .int 0, .int 0, .int 0, .int 0, .int 0, .int 0, .ref a16, .ref a17, .ref a18, .int 0, .int 0, .int 0, .int 0, .int 0, .int 0, .ref a19, .ref a20, .ref a21, .ref a22, .ref a23, .ref a24, .ref a25, .ref a26, .ref a27]))]) (w1 := []) hP hD [] [0] rfl rfl (by decide) (by decide) hk1 hFc hP1 hD1
  generalize H1 = H at hP hS ⊢
  have hP : va_P (dC, dI) vcl [(a0, .inr (1, [.int 0, .int 0, .ref a1, .int 0, .int (-1), .int 0, .int 0, .ref a2, .ref a3, .ref a4, .ref a5, .ref a6, .int 0, .int 0, .ref a7, .int 0, .int 0, .ref a8, .ref a9, .ref a10, .ref a11, .ref a12, .ref a13, .int 0, .ref a14, .ref a15, .int 0, .int 0, .int 0, .int 0, .int 0, .int 0, .ref a16, .ref a17, .ref a18, .int 0, .int 0, .int 0, .int 0, .int 0, .int 0, .ref a19, .ref a20, .ref a21, .ref a22, .ref a23, .ref a24, .ref a25, .ref a26, .ref a27]))] H := hP
  have hD : va_D A [(a0, .inr (1, [.int 0, .int 0, .ref a1, .int 0, .int (-1), .int 0, .int 0, .ref a2, .ref a3, .ref a4, .ref a5, .ref a6, .int 0, .int 0, .ref a7, .int 0, .int 0, .ref a8, .ref a9, .ref a10, .ref a11, .ref a12, .ref a13, .int 0, .ref a14, .ref a15, .int 0, .int 0, .int 0, .int 0, .int 0, .int 0, .ref a16, .ref a17, .ref a18, .int 0, .int 0, .int 0, .int 0, .int 0, .int 0, .ref a19, .ref a20, .ref a21, .ref a22, .ref a23, .ref a24, .ref a25, .ref a26, .ref a27]))] := hD
  refine lv_if_ne (tgt := 20) hx hb d_Model_count_11 (by decide) (fun _ => ?_) (fun h => absurd h (by decide +kernel))
  refine lv_iload_n hx hb d_Model_count_20 rfl (lv_at hl 1 rfl) ?_
  refine lv_iconst (v := 3) hx hb d_Model_count_21 (by decide) ?_
  refine lv_icmp_ge (tgt := 53) hx hb d_Model_count_22 (by decide) (fun h => absurd h (by decide +kernel)) (fun _ => ?_)
  refine lv_iload_n hx hb d_Model_count_25 rfl (lv_at hl 1 rfl) ?_
  refine lv_if_ne (tgt := 36) hx hb d_Model_count_26 (by decide) (fun h => (h (by decide +kernel)).elim) (fun _ => ?_)
  refine lv_aload_n hx hb d_Model_count_29 rfl (lv_at hl 0 rfl) ?_
  refine va_get (D := (dC, dI)) (ci := 1) (v := .int 0) (C := R_Model) (T := F_Model) (N := 50) hx hb hz zu_Model hown hK hP 0 rfl rfl 26 (by decide) (hz (.fieldLink R_Model 368 "LayoutFrontModel" "told" "I") zm_432) (fun _ h9 => h9) rfl d_Model_count_30 ?_
  refine lv_goto (tgt := 52) hx hb d_Model_count_33 (by decide) ?_
  have hP9 := hP.sub (ws' := [(a0, .inr (1, [.int 0, .int 0, .ref a1, .int 0, .int (-1), .int 0, .int 0, .ref a2, .ref a3, .ref a4, .ref a5, .ref a6, .int 0, .int 0, .ref a7, .int 0, .int 0, .ref a8, .ref a9, .ref a10, .ref a11, .ref a12, .ref a13, .int 0, .ref a14, .ref a15, .int 0, .int 0, .int 0, .int 0, .int 0, .int 0, .ref a16, .ref a17, .ref a18, .int 0, .int 0, .int 0, .int 0, .int 0, .int 0, .ref a19, .ref a20, .ref a21, .ref a22, .ref a23, .ref a24, .ref a25, .ref a26, .ref a27]))]) [0] rfl
  have hD9 := hD.sub (ws' := [(a0, .inr (1, [.int 0, .int 0, .ref a1, .int 0, .int (-1), .int 0, .int 0, .ref a2, .ref a3, .ref a4, .ref a5, .ref a6, .int 0, .int 0, .ref a7, .int 0, .int 0, .ref a8, .ref a9, .ref a10, .ref a11, .ref a12, .ref a13, .int 0, .ref a14, .ref a15, .int 0, .int 0, .int 0, .int 0, .int 0, .int 0, .ref a16, .ref a17, .ref a18, .int 0, .int 0, .int 0, .int 0, .int 0, .int 0, .ref a19, .ref a20, .ref a21, .ref a22, .ref a23, .ref a24, .ref a25, .ref a26, .ref a27]))]) [0] (by decide) rfl
  have hK9 := hK.sub (tys' := []) [] rfl
  exact W.iret (v := 0) hx hb hr (fun t ht hW => ⟨⟨0, (), rfl, rfl, by rw [ht]; exact hP9, va_K.moved hW.alike hK9, hD9⟩, hS.F ht⟩) hS.2.2 d_Model_count_52
set_option maxHeartbeats 4000000 in
set_option maxRecDepth 100000 in
theorem c122_LF_count (l : Launch) (dC : Nat → ClassId) (dI : Nat → Nat → Nat) (sz : Nat) (a0 : Nat) (a1 : Nat) (a2 : Nat) (a3 : Nat) (a4 : Nat) (a5 : Nat) (a6 : Nat) (a7 : Nat) (k0 : ClassId) : Met l y_LF_count w_LF_count ({ frames := 0, cells := 0, slots := 0, locals := 0 }) (va_Pc [.ref a0, .int 1] (fun U => U.heap.size = sz ∧ va_P (dC, dI) vcl [(a0, .inr (0, [.ref a2, .ref a3, .ref a4, .ref a5, .ref a6, .ref a7, .ref a1, .int (-1)])), (a1, .inl (k0, 5, .inl (fun _ => 0)))] U.heap ∧ va_K (dC, dI) vcl [(k0, .int)] U ∧ va_D (fun _ => True) [(a0, .inr (0, [.ref a2, .ref a3, .ref a4, .ref a5, .ref a6, .ref a7, .ref a1, .int (-1)])), (a1, .inl (k0, 5, .inl (fun _ => 0)))])) (va_Qi (fun (r : Int32) (_ : Unit) => r = 0) (fun _ t => va_P (dC, dI) vcl [(a0, .inr (0, [.ref a2, .ref a3, .ref a4, .ref a5, .ref a6, .ref a7, .ref a1, .int (-1)])), (a1, .inl (k0, 5, .inl (fun _ => 0)))] t.heap ∧ va_K (dC, dI) vcl [(k0, .int)] t ∧ va_D (va_A [(a0, .inr (0, [.ref a2, .ref a3, .ref a4, .ref a5, .ref a6, .ref a7, .ref a1, .int (-1)])), (a1, .inl (k0, 5, .inl (fun _ => 0)))] sz) [(a0, .inr (0, [.ref a2, .ref a3, .ref a4, .ref a5, .ref a6, .ref a7, .ref a1, .int (-1)])), (a1, .inl (k0, 5, .inl (fun _ => 0)))]) (va_A [(a0, .inr (0, [.ref a2, .ref a3, .ref a4, .ref a5, .ref a6, .ref a7, .ref a1, .int (-1)])), (a1, .inl (k0, 5, .inl (fun _ => 0)))] sz)) 0 0 (va_A [(a0, .inr (0, [.ref a2, .ref a3, .ref a4, .ref a5, .ref a6, .ref a7, .ref a1, .int (-1)])), (a1, .inl (k0, 5, .inl (fun _ => 0)))] sz) := by
  refine Met.ofW (cc := b_LF_count) (maxL := 2) (ret := (some .int)) (by decide) rfl ?_
  intro p e s m args below meth c s₁ B hml hv
  obtain ⟨rfl, hsz, hP, hK, hD0⟩ := hv
  have hx := B.exec
  have hb := B.bytes
  have hr := B.returns
  have hts := atoms_spec (ws := w_LF_count) B.pre
  have hz : ∀ w ∈ wz, w.before _ s = true := fun w h => hts w (List.mem_cons_of_mem _ h)
  have hown : s.vm.findClass R_LF = some m.cls := findClass_of_methodNamed B.named
  have hlocks := B.notSynchronized
  subst hsz
  have hD := hD0.self (sz := s.heap.size)
  generalize hAe : va_A [(a0, .inr (0, [.ref a2, .ref a3, .ref a4, .ref a5, .ref a6, .ref a7, .ref a1, .int (-1)])), (a1, .inl (k0, 5, .inl (fun _ => 0)))] s.heap.size = A at hD ⊢
  have hA : ∀ q : Nat, s.heap.size ≤ q → A q := fun q h => by rw [← hAe]; exact Or.inr h
  have hS : va_S A s.heap s.heap [] := va_S.rf
  have hP : va_P (dC, dI) vcl [(a0, .inr (0, [.ref a2, .ref a3, .ref a4, .ref a5, .ref a6, .ref a7, .ref a1, .int (-1)])), (a1, .inl (k0, 5, .inl (fun _ => 0)))] s.heap := hP
  have hl := lv_entry ([.ref a0, .int 1]) (n := 2) (Nat.le_of_ble_eq_true rfl)
  rw [lg_entry_eq]
  generalize (lg_sl ([.ref a0, .int 1]) ++ List.replicate (2 - (lg_sl ([.ref a0, .int 1])).length) Slot.unset).toArray = ls at hl ⊢
  have hl : lv_has ls 2 [(0, .ref a0), (1, .int 1)] := hl
  refine lv_iload_n hx hb d_LF_count_0 rfl (lv_at hl 1 rfl) ?_
  refine lv_if_lt (tgt := 9) hx hb d_LF_count_1 (by decide) (fun h => absurd h (by decide +kernel)) (fun _ => ?_)
  refine lv_iload_n hx hb d_LF_count_4 rfl (lv_at hl 1 rfl) ?_
  refine lv_iconst (v := 5) hx hb d_LF_count_5 (by decide) ?_
  refine lv_icmp_lt (tgt := 19) hx hb d_LF_count_6 (by decide) (fun _ => ?_) (fun h => (h (by decide +kernel)).elim)
  refine lv_aload_n hx hb d_LF_count_19 rfl (lv_at hl 0 rfl) ?_
  refine va_get (D := (dC, dI)) (ci := 0) (v := .ref a1) (C := R_LF) (T := F_LF) (N := 8) hx hb hz zu_LF hown hK hP 0 rfl rfl 6 (by decide) (hz (.fieldLink R_LF 53 "LayoutFront" "counts" "[I") zm_109) (fun _ h9 => h9) rfl d_LF_count_20 ?_
  refine lv_iload_n hx hb d_LF_count_23 rfl (lv_at hl 1 rfl) ?_
  refine xr_iald (v := 0) hx hb hK hP 1 0 rfl rfl (xr_in (by decide +kernel)) (by decide +kernel) d_LF_count_24 ?_
  have hP9 := hP.sub (ws' := [(a0, .inr (0, [.ref a2, .ref a3, .ref a4, .ref a5, .ref a6, .ref a7, .ref a1, .int (-1)])), (a1, .inl (k0, 5, .inl (fun _ => 0)))]) [0, 1] rfl
  have hD9 := hD.sub (ws' := [(a0, .inr (0, [.ref a2, .ref a3, .ref a4, .ref a5, .ref a6, .ref a7, .ref a1, .int (-1)])), (a1, .inl (k0, 5, .inl (fun _ => 0)))]) [0, 1] (by decide) rfl
  have hK9 := hK.sub (tys' := [(k0, .int)]) [0] rfl
  exact W.iret (v := 0) hx hb hr (fun t ht hW => ⟨⟨0, (), rfl, rfl, by rw [ht]; exact hP9, va_K.moved hW.alike hK9, hD9⟩, hS.F ht⟩) hS.2.2 d_LF_count_25
set_option maxHeartbeats 4000000 in
set_option maxRecDepth 100000 in
theorem c123_Law_count (l : Launch) (dC : Nat → ClassId) (dI : Nat → Nat → Nat) (sz : Nat) (a0 : Nat) (a1 : Nat) (a2 : Nat) (a3 : Nat) (a4 : Nat) (a5 : Nat) (a6 : Nat) (a7 : Nat) (a8 : Nat) (k0 : ClassId) (k1 : ClassId) : Met l y_Law_count w_Law_count ({ frames := 1, cells := 0, slots := 0, locals := 21 }) (va_Pc [.ref a0, .int 1, .ref a1] (fun U => U.heap.size = sz ∧ va_P (dC, dI) vcl [(a0, .inr (0, [.ref a3, .ref a4, .ref a5, .ref a6, .ref a7, .ref a8, .ref a2, .int (-1)])), (a2, .inl (k0, 5, .inl (fun _ => 0))), (a1, .inl (k1, 1, .inr (.inl (fun _ => 0))))] U.heap ∧ va_K (dC, dI) vcl [(k0, .int), (k1, .long)] U ∧ va_D (fun _ => True) [(a0, .inr (0, [.ref a3, .ref a4, .ref a5, .ref a6, .ref a7, .ref a8, .ref a2, .int (-1)])), (a2, .inl (k0, 5, .inl (fun _ => 0))), (a1, .inl (k1, 1, .inr (.inl (fun _ => 0))))])) (va_Qi (fun (r : Int32) (_ : Unit) => r = 0) (fun _ t => va_P (dC, dI) vcl [(a0, .inr (0, [.ref a3, .ref a4, .ref a5, .ref a6, .ref a7, .ref a8, .ref a2, .int (-1)])), (a2, .inl (k0, 5, .inl (fun _ => 0))), (a1, .inl (k1, 1, .inr (.inl (vp_updL (fun _ => 0) 0 0))))] t.heap ∧ va_K (dC, dI) vcl [(k0, .int), (k1, .long)] t ∧ va_D (va_A [(a0, .inr (0, [.ref a3, .ref a4, .ref a5, .ref a6, .ref a7, .ref a8, .ref a2, .int (-1)])), (a2, .inl (k0, 5, .inl (fun _ => 0))), (a1, .inl (k1, 1, .inr (.inl (fun _ => 0))))] sz) [(a0, .inr (0, [.ref a3, .ref a4, .ref a5, .ref a6, .ref a7, .ref a8, .ref a2, .int (-1)])), (a2, .inl (k0, 5, .inl (fun _ => 0))), (a1, .inl (k1, 1, .inr (.inl (vp_updL (fun _ => 0) 0 0))))]) (va_A [(a0, .inr (0, [.ref a3, .ref a4, .ref a5, .ref a6, .ref a7, .ref a8, .ref a2, .int (-1)])), (a2, .inl (k0, 5, .inl (fun _ => 0))), (a1, .inl (k1, 1, .inr (.inl (fun _ => 0))))] sz)) 0 0 (va_A [(a0, .inr (0, [.ref a3, .ref a4, .ref a5, .ref a6, .ref a7, .ref a8, .ref a2, .int (-1)])), (a2, .inl (k0, 5, .inl (fun _ => 0))), (a1, .inl (k1, 1, .inr (.inl (fun _ => 0))))] sz) := by
  refine va_MetW (hh := [(0, 9, 12, 29)]) (cc := b_Law_count) (maxL := 4) (ret := (some .int)) (by decide) rfl ?_
  intro p e s m args below meth c s₁ B hml hv
  obtain ⟨rfl, hsz, hP, hK, hD0⟩ := hv
  have hx := B.exec
  have hb := B.bytes
  have hr := B.returns
  have hts := atoms_spec (ws := w_Law_count) B.pre
  have hz : ∀ w ∈ wz, w.before _ s = true := fun w h => hts w (List.mem_cons_of_mem _ h)
  have hown : s.vm.findClass R_Law = some m.cls := findClass_of_methodNamed B.named
  have hlocks := B.notSynchronized
  subst hsz
  have hD := hD0.self (sz := s.heap.size)
  generalize hAe : va_A [(a0, .inr (0, [.ref a3, .ref a4, .ref a5, .ref a6, .ref a7, .ref a8, .ref a2, .int (-1)])), (a2, .inl (k0, 5, .inl (fun _ => 0))), (a1, .inl (k1, 1, .inr (.inl (fun _ => 0))))] s.heap.size = A at hD ⊢
  have hA : ∀ q : Nat, s.heap.size ≤ q → A q := fun q h => by rw [← hAe]; exact Or.inr h
  have hS : va_S A s.heap s.heap [] := va_S.rf
  have hP : va_P (dC, dI) vcl [(a0, .inr (0, [.ref a3, .ref a4, .ref a5, .ref a6, .ref a7, .ref a8, .ref a2, .int (-1)])), (a2, .inl (k0, 5, .inl (fun _ => 0))), (a1, .inl (k1, 1, .inr (.inl (fun _ => 0))))] s.heap := hP
  have hl := lv_entry ([.ref a0, .int 1, .ref a1]) (n := 4) (Nat.le_of_ble_eq_true rfl)
  rw [lg_entry_eq]
  generalize (lg_sl ([.ref a0, .int 1, .ref a1]) ++ List.replicate (4 - (lg_sl ([.ref a0, .int 1, .ref a1])).length) Slot.unset).toArray = ls at hl ⊢
  have hl : lv_has ls 4 [(0, .ref a0), (1, .int 1), (2, .ref a1)] := hl
  refine lv_aload_n hx hb d_Law_count_0 rfl (lv_at hl 2 rfl) ?_
  refine lv_iconst (v := 0) hx hb d_Law_count_1 (by decide) ?_
  refine lv_aload_n hx hb d_Law_count_2 rfl (lv_at hl 0 rfl) ?_
  refine lv_iload_n hx hb d_Law_count_3 rfl (lv_at hl 1 rfl) ?_
  have hPc := hP.sub (ws' := [(a0, .inr (0, [.ref a3, .ref a4, .ref a5, .ref a6, .ref a7, .ref a8, .ref a2, .int (-1)])), (a2, .inl (k0, 5, .inl (fun _ => 0)))]) [0, 1] rfl
  have hDc := hD.sub (ws' := [(a0, .inr (0, [.ref a3, .ref a4, .ref a5, .ref a6, .ref a7, .ref a8, .ref a2, .int (-1)])), (a2, .inl (k0, 5, .inl (fun _ => 0)))]) [0, 1] (by decide) rfl
  have hKc := hK.sub (tys' := [(k0, .int)]) [0] rfl
  have hFc := va_free (wc := [(a0, .inr (0, [.ref a3, .ref a4, .ref a5, .ref a6, .ref a7, .ref a8, .ref a2, .int (-1)])), (a2, .inl (k0, 5, .inl (fun _ => 0)))]) hD hS hA [0, 1] rfl
  refine va_calli (va_runV (As := [.int 1]) (rest := [.int 0, .ref a1]) ⟨hx, hb, hml, hown, hz⟩ (c122_LF_count l dC dI s.heap.size a0 a2 a3 a4 a5 a6 a7 a8 k0) (cwV 1 hz (zV zm_445 zm_446 zm_447 zm_333 zm_448) rfl rfl rfl (by decide +kernel) ⟨Nat.le_of_ble_eq_true rfl, Nat.le_of_ble_eq_true rfl⟩) ⟨fun a U g mk q => by obtain ⟨q0, q1, qP, qK, qD⟩ := q; exact ⟨q0, q1, qP, va_K.moved (u := U) (U := U.calling g mk a) (Vm.Alike.refl U.vm) qK, qD⟩, va_recv (q := (R_LF, F_LF, 8)) (q0 := 0) (ci := 0) hK hP rfl rfl, fun U hU hW => ⟨rfl, by rw [hU], by rw [hU]; exact hPc, va_K.moved hW.alike hKc, hDc.weaken (fun _ _ _ _ => trivial)⟩⟩ rfl rfl hl.1 rfl (lv_room (Nat.le_of_ble_eq_true rfl)) d_Law_count_4 ⟨by decide, by decide⟩) hS (fun q _ h => hFc q h) hFc (fun r u t H1 locs ht hvm hw hB hz1 hk1 hS => ?_)
  obtain ⟨hP1, hK1, hD1⟩ := hB
  subst r
  rw [ht] at hP1
  obtain ⟨hP, hD⟩ := va_join (wr := [(a1, .inl (k1, 1, .inr (.inl (fun _ => 0))))]) (w1 := [(a0, .inr (0, [.ref a3, .ref a4, .ref a5, .ref a6, .ref a7, .ref a8, .ref a2, .int (-1)])), (a2, .inl (k0, 5, .inl (fun _ => 0)))]) hP hD [0, 1] [2] rfl rfl (by decide) (by decide) hk1 hFc hP1 hD1
  generalize H1 = H at hP hS ⊢
  have hP : va_P (dC, dI) vcl [(a1, .inl (k1, 1, .inr (.inl (fun _ => 0)))), (a0, .inr (0, [.ref a3, .ref a4, .ref a5, .ref a6, .ref a7, .ref a8, .ref a2, .int (-1)])), (a2, .inl (k0, 5, .inl (fun _ => 0)))] H := hP
  have hD : va_D A [(a1, .inl (k1, 1, .inr (.inl (fun _ => 0)))), (a0, .inr (0, [.ref a3, .ref a4, .ref a5, .ref a6, .ref a7, .ref a8, .ref a2, .int (-1)])), (a2, .inl (k0, 5, .inl (fun _ => 0)))] := hD
  refine lv_i2l (v := 0) hx hb d_Law_count_7 (by decide +kernel) ?_
  refine xr_last (j := 0) hx hb hK hP hD hS 0 1 rfl rfl (xr_in (by decide +kernel)) (by decide +kernel) d_Law_count_8 (fun H locs hP hD hS => ?_)
  have hP : va_P (dC, dI) vcl [(a1, .inl (k1, 1, .inr (.inl (vp_updL (fun _ => 0) 0 0)))), (a0, .inr (0, [.ref a3, .ref a4, .ref a5, .ref a6, .ref a7, .ref a8, .ref a2, .int (-1)])), (a2, .inl (k0, 5, .inl (fun _ => 0)))] H := hP
  have hD : va_D A [(a1, .inl (k1, 1, .inr (.inl (vp_updL (fun _ => 0) 0 0)))), (a0, .inr (0, [.ref a3, .ref a4, .ref a5, .ref a6, .ref a7, .ref a8, .ref a2, .int (-1)])), (a2, .inl (k0, 5, .inl (fun _ => 0)))] := hD
  refine lv_goto (tgt := 15) hx hb d_Law_count_9 (by decide) ?_
  refine lv_iconst (v := 0) hx hb d_Law_count_15 (by decide) ?_
  have hP9 := hP.sub (ws' := [(a0, .inr (0, [.ref a3, .ref a4, .ref a5, .ref a6, .ref a7, .ref a8, .ref a2, .int (-1)])), (a2, .inl (k0, 5, .inl (fun _ => 0))), (a1, .inl (k1, 1, .inr (.inl (vp_updL (fun _ => 0) 0 0))))]) [1, 2, 0] rfl
  have hD9 := hD.sub (ws' := [(a0, .inr (0, [.ref a3, .ref a4, .ref a5, .ref a6, .ref a7, .ref a8, .ref a2, .int (-1)])), (a2, .inl (k0, 5, .inl (fun _ => 0))), (a1, .inl (k1, 1, .inr (.inl (vp_updL (fun _ => 0) 0 0))))]) [1, 2, 0] (by decide) rfl
  have hK9 := hK.sub (tys' := [(k0, .int), (k1, .long)]) [0, 1] rfl
  exact W.iret (v := 0) hx hb hr (fun t ht hW => ⟨⟨0, (), rfl, rfl, by rw [ht]; exact hP9, va_K.moved hW.alike hK9, hD9⟩, hS.F ht⟩) hS.2.2 d_Law_count_16
set_option maxHeartbeats 4000000 in
set_option maxRecDepth 100000 in
theorem c124_Model_within (l : Launch) (dC : Nat → ClassId) (dI : Nat → Nat → Nat) (sz : Nat) : Met l y_Model_within w_Model_within ({ frames := 0, cells := 0, slots := 0, locals := 0 }) (va_Pc [.int 1, .int 0, .int 4] (fun U => U.heap.size = sz ∧ va_P (dC, dI) vcl [] U.heap ∧ va_K (dC, dI) vcl [] U ∧ va_D (fun _ => True) [])) (va_Qi (fun (r : Int32) (_ : Unit) => r = 1) (fun _ t => va_P (dC, dI) vcl [] t.heap ∧ va_K (dC, dI) vcl [] t ∧ va_D (va_A [] sz) []) (va_A [] sz)) 0 0 (va_A [] sz) := by
  refine Met.ofW (cc := b_Model_within) (maxL := 3) (ret := (some .boolean)) (by decide) rfl ?_
  intro p e s m args below meth c s₁ B hml hv
  obtain ⟨rfl, hsz, hP, hK, hD0⟩ := hv
  have hx := B.exec
  have hb := B.bytes
  have hr := B.returns
  have hts := atoms_spec (ws := w_Model_within) B.pre
  have hz : ∀ w ∈ wz, w.before _ s = true := fun w h => hts w (List.mem_cons_of_mem _ h)
  have hown : s.vm.findClass R_Model = some m.cls := findClass_of_methodNamed B.named
  have hlocks := B.notSynchronized
  subst hsz
  have hD := hD0.self (sz := s.heap.size)
  generalize hAe : va_A [] s.heap.size = A at hD ⊢
  have hA : ∀ q : Nat, s.heap.size ≤ q → A q := fun q h => by rw [← hAe]; exact Or.inr h
  have hS : va_S A s.heap s.heap [] := va_S.rf
  have hP : va_P (dC, dI) vcl [] s.heap := hP
  have hl := lv_entry ([.int 1, .int 0, .int 4]) (n := 3) (Nat.le_of_ble_eq_true rfl)
  rw [lg_entry_eq]
  generalize (lg_sl ([.int 1, .int 0, .int 4]) ++ List.replicate (3 - (lg_sl ([.int 1, .int 0, .int 4])).length) Slot.unset).toArray = ls at hl ⊢
  have hl : lv_has ls 3 [(0, .int 1), (1, .int 0), (2, .int 4)] := hl
  refine lv_iload_n hx hb d_Model_within_0 rfl (lv_at hl 0 rfl) ?_
  refine lv_iload_n hx hb d_Model_within_1 rfl (lv_at hl 1 rfl) ?_
  refine lv_icmp_lt (tgt := 14) hx hb d_Model_within_2 (by decide) (fun h => absurd h (by decide +kernel)) (fun _ => ?_)
  refine lv_iload_n hx hb d_Model_within_5 rfl (lv_at hl 0 rfl) ?_
  refine lv_iload_n hx hb d_Model_within_6 rfl (lv_at hl 2 rfl) ?_
  refine lv_icmp_gt (tgt := 14) hx hb d_Model_within_7 (by decide) (fun h => absurd h (by decide +kernel)) (fun _ => ?_)
  refine lv_iconst (v := 1) hx hb d_Model_within_10 (by decide) ?_
  refine lv_goto (tgt := 15) hx hb d_Model_within_11 (by decide) ?_
  have hP9 := hP.sub (ws' := []) [] rfl
  have hD9 := hD.sub (ws' := []) [] (by decide) rfl
  have hK9 := hK.sub (tys' := []) [] rfl
  exact W.zret (v := 1) hx hb hr (by decide +kernel) (fun t ht hW => ⟨⟨1, (), rfl, rfl, by rw [ht]; exact hP9, va_K.moved hW.alike hK9, hD9⟩, hS.F ht⟩) hS.2.2 d_Model_within_15
set_option maxHeartbeats 4000000 in
set_option maxRecDepth 100000 in
theorem c125_Model_count (l : Launch) (dC : Nat → ClassId) (dI : Nat → Nat → Nat) (sz : Nat) (a0 : Nat) (a1 : Nat) (a2 : Nat) (a3 : Nat) (a4 : Nat) (a5 : Nat) (a6 : Nat) (a7 : Nat) (a8 : Nat) (a9 : Nat) (a10 : Nat) (a11 : Nat) (a12 : Nat) (a13 : Nat) (a14 : Nat) (a15 : Nat) (a16 : Nat) (a17 : Nat) (a18 : Nat) (a19 : Nat) (a20 : Nat) (a21 : Nat) (a22 : Nat) (a23 : Nat) (a24 : Nat) (a25 : Nat) (a26 : Nat) (a27 : Nat) : Met l y_Model_count w_Model_count ({ frames := 1, cells := 0, slots := 0, locals := 22 }) (va_Pc [.ref a0, .int 1] (fun U => U.heap.size = sz ∧ va_P (dC, dI) vcl [(a0, .inr (1, [.int 0, .int 0, .ref a1, .int 0, .int (-1), .int 0, .int 0, .ref a2, .ref a3, .ref a4, .ref a5, .ref a6, .int 0, .int 0, .ref a7, .int 0, .int 0, .ref a8, .ref a9, .ref a10, .ref a11, .ref a12, .ref a13, .int 0, .ref a14, .ref a15, .int 0, .int 0, .int 0, .int 0, .int 0, .int 0, .ref a16, .ref a17, .ref a18, .int 0, .int 0, .int 0, .int 0, .int 0, .int 0, .ref a19, .ref a20, .ref a21, .ref a22, .ref a23, .ref a24, .ref a25, .ref a26, .ref a27]))] U.heap ∧ va_K (dC, dI) vcl [] U ∧ va_D (fun _ => True) [(a0, .inr (1, [.int 0, .int 0, .ref a1, .int 0, .int (-1), .int 0, .int 0, .ref a2, .ref a3, .ref a4, .ref a5, .ref a6, .int 0, .int 0, .ref a7, .int 0, .int 0, .ref a8, .ref a9, .ref a10, .ref a11, .ref a12, .ref a13, .int 0, .ref a14, .ref a15, .int 0, .int 0, .int 0, .int 0, .int 0, .int 0, .ref a16, .ref a17, .ref a18, .int 0, .int 0, .int 0, .int 0, .int 0, .int 0, .ref a19, .ref a20, .ref a21, .ref a22, .ref a23, .ref a24, .ref a25, .ref a26, .ref a27]))])) (va_Qi (fun (r : Int32) (_ : Unit) => r = 0) (fun _ t => va_P (dC, dI) vcl [(a0, .inr (1, [.int 0, .int 0, .ref a1, .int 0, .int (-1), .int 0, .int 0, .ref a2, .ref a3, .ref a4, .ref a5, .ref a6, .int 0, .int 0, .ref a7, .int 0, .int 0, .ref a8, .ref a9, .ref a10, .ref a11, .ref a12, .ref a13, .int 0, .ref a14, .ref a15, .int 0, .int 0, .int 0, .int 0, .int 0, .int 0, .ref a16, .ref a17, .ref a18, .int 0, .int 0, .int 0, .int 0, .int 0, .int 0, .ref a19, .ref a20, .ref a21, .ref a22, .ref a23, .ref a24, .ref a25, .ref a26, .ref a27]))] t.heap ∧ va_K (dC, dI) vcl [] t ∧ va_D (va_A [(a0, .inr (1, [.int 0, .int 0, .ref a1, .int 0, .int (-1), .int 0, .int 0, .ref a2, .ref a3, .ref a4, .ref a5, .ref a6, .int 0, .int 0, .ref a7, .int 0, .int 0, .ref a8, .ref a9, .ref a10, .ref a11, .ref a12, .ref a13, .int 0, .ref a14, .ref a15, .int 0, .int 0, .int 0, .int 0, .int 0, .int 0, .ref a16, .ref a17, .ref a18, .int 0, .int 0, .int 0, .int 0, .int 0, .int 0, .ref a19, .ref a20, .ref a21, .ref a22, .ref a23, .ref a24, .ref a25, .ref a26, .ref a27]))] sz) [(a0, .inr (1, [.int 0, .int 0, .ref a1, .int 0, .int (-1), .int 0, .int 0, .ref a2, .ref a3, .ref a4, .ref a5, .ref a6, .int 0, .int 0, .ref a7, .int 0, .int 0, .ref a8, .ref a9, .ref a10, .ref a11, .ref a12, .ref a13, .int 0, .ref a14, .ref a15, .int 0, .int 0, .int 0, .int 0, .int 0, .int 0, .ref a16, .ref a17, .ref a18, .int 0, .int 0, .int 0, .int 0, .int 0, .int 0, .ref a19, .ref a20, .ref a21, .ref a22, .ref a23, .ref a24, .ref a25, .ref a26, .ref a27]))]) (va_A [(a0, .inr (1, [.int 0, .int 0, .ref a1, .int 0, .int (-1), .int 0, .int 0, .ref a2, .ref a3, .ref a4, .ref a5, .ref a6, .int 0, .int 0, .ref a7, .int 0, .int 0, .ref a8, .ref a9, .ref a10, .ref a11, .ref a12, .ref a13, .int 0, .ref a14, .ref a15, .int 0, .int 0, .int 0, .int 0, .int 0, .int 0, .ref a16, .ref a17, .ref a18, .int 0, .int 0, .int 0, .int 0, .int 0, .int 0, .ref a19, .ref a20, .ref a21, .ref a22, .ref a23, .ref a24, .ref a25, .ref a26, .ref a27]))] sz)) 0 0 (va_A [(a0, .inr (1, [.int 0, .int 0, .ref a1, .int 0, .int (-1), .int 0, .int 0, .ref a2, .ref a3, .ref a4, .ref a5, .ref a6, .int 0, .int 0, .ref a7, .int 0, .int 0, .ref a8, .ref a9, .ref a10, .ref a11, .ref a12, .ref a13, .int 0, .ref a14, .ref a15, .int 0, .int 0, .int 0, .int 0, .int 0, .int 0, .ref a16, .ref a17, .ref a18, .int 0, .int 0, .int 0, .int 0, .int 0, .int 0, .ref a19, .ref a20, .ref a21, .ref a22, .ref a23, .ref a24, .ref a25, .ref a26, .ref a27]))] sz) := by
  refine Met.ofW (cc := b_Model_count) (maxL := 2) (ret := (some .int)) (by decide) rfl ?_
  intro p e s m args below meth c s₁ B hml hv
  obtain ⟨rfl, hsz, hP, hK, hD0⟩ := hv
  have hx := B.exec
  have hb := B.bytes
  have hr := B.returns
  have hts := atoms_spec (ws := w_Model_count) B.pre
  have hz : ∀ w ∈ wz, w.before _ s = true := fun w h => hts w (List.mem_cons_of_mem _ h)
  have hown : s.vm.findClass R_Model = some m.cls := findClass_of_methodNamed B.named
  have hlocks := B.notSynchronized
  subst hsz
  have hD := hD0.self (sz := s.heap.size)
  generalize hAe : va_A [(a0, .inr (1, [.int 0, .int 0, .ref a1, .int 0, .int (-1), .int 0, .int 0, .ref a2, .ref a3, .ref a4, .ref a5, .ref a6, .int 0, .int 0, .ref a7, .int 0, .int 0, .ref a8, .ref a9, .ref a10, .ref a11, .ref a12, .ref a13, .int 0, .ref a14, .ref a15, .int 0, .int 0, .int 0, .int 0, .int 0, .int 0, .ref a16, .ref a17, .ref a18, .int 0, .int 0, .int 0, .int 0, .int 0, .int 0, .ref a19, .ref a20, .ref a21, .ref a22, .ref a23, .ref a24, .ref a25, .ref a26, .ref a27]))] s.heap.size = A at hD ⊢
  have hA : ∀ q : Nat, s.heap.size ≤ q → A q := fun q h => by rw [← hAe]; exact Or.inr h
  have hS : va_S A s.heap s.heap [] := va_S.rf
  have hP : va_P (dC, dI) vcl [(a0, .inr (1, [.int 0, .int 0, .ref a1, .int 0, .int (-1), .int 0, .int 0, .ref a2, .ref a3, .ref a4, .ref a5, .ref a6, .int 0, .int 0, .ref a7, .int 0, .int 0, .ref a8, .ref a9, .ref a10, .ref a11, .ref a12, .ref a13, .int 0, .ref a14, .ref a15, .int 0, .int 0, .int 0, .int 0, .int 0, .int 0, .ref a16, .ref a17, .ref a18, .int 0, .int 0, .int 0, .int 0, .int 0, .int 0, .ref a19, .ref a20, .ref a21, .ref a22, .ref a23, .ref a24, .ref a25, .ref a26, .ref a27]))] s.heap := hP
  have hl := lv_entry ([.ref a0, .int 1]) (n := 2) (Nat.le_of_ble_eq_true rfl)
  rw [lg_entry_eq]
  generalize (lg_sl ([.ref a0, .int 1]) ++ List.replicate (2 - (lg_sl ([.ref a0, .int 1])).length) Slot.unset).toArray = ls at hl ⊢
  have hl : lv_has ls 2 [(0, .ref a0), (1, .int 1)] := hl
  refine lv_aload_n hx hb d_Model_count_0 rfl (lv_at hl 0 rfl) ?_
  refine lv_iconst (v := 0) hx hb d_Model_count_1 (by decide) ?_
  refine va_put (D := (dC, dI)) (ci := 1) (v := .int 0) (ty := .int) (C := R_Model) (T := F_Model) (N := 50) hx hb hz zu_Model t_Model t_Model_ok n_Model hown hK hP hD hS 0 rfl rfl 0 (by decide) (hz (.fieldLink R_Model 97 "LayoutFrontModel" "thrown" "I") zm_415) (fun _ h9 => h9) rfl (by decide +kernel) rfl rfl (Nat.le_of_ble_eq_true rfl) d_Model_count_2 (fun H locs hP hD hS => ?_)
  have hP : va_P (dC, dI) vcl [(a0, .inr (1, [.int 0, .int 0, .ref a1, .int 0, .int (-1), .int 0, .int 0, .ref a2, .ref a3, .ref a4, .ref a5, .ref a6, .int 0, .int 0, .ref a7, .int 0, .int 0, .ref a8, .ref a9, .ref a10, .ref a11, .ref a12, .ref a13, .int 0, .ref a14, .ref a15, .int 0, .int 0, .int 0, .int 0, .int 0, .int 0, .ref a16, .ref a17, .ref a18, .int 0, .int 0, .int 0, .int 0, .int 0, .int 0, .ref a19, .ref a20, .ref a21, .ref a22, .ref a23, .ref a24, .ref a25, .ref a26, .ref a27]))] H := hP
  have hD : va_D A [(a0, .inr (1, [.int 0, .int 0, .ref a1, .int 0, .int (-1), .int 0, .int 0, .ref a2, .ref a3, .ref a4, .ref a5, .ref a6, .int 0, .int 0, .ref a7, .int 0, .int 0, .ref a8, .ref a9, .ref a10, .ref a11, .ref a12, .ref a13, .int 0, .ref a14, .ref a15, .int 0, .int 0, .int 0, .int 0, .int 0, .int 0, .ref a16, .ref a17, .ref a18, .int 0, .int 0, .int 0, .int 0, .int 0, .int 0, .ref a19, .ref a20, .ref a21, .ref a22, .ref a23, .ref a24, .ref a25, .ref a26, .ref a27]))] := hD
  refine lv_iload_n hx hb d_Model_count_5 rfl (lv_at hl 1 rfl) ?_
  refine lv_iconst (v := 0) hx hb d_Model_count_6 (by decide) ?_
  refine lv_iconst (v := 4) hx hb d_Model_count_7 (by decide) ?_
  have hPc := hP.sub (ws' := []) [] rfl
  have hDc := hD.sub (ws' := []) [] (by decide) rfl
  have hKc := hK.sub (tys' := []) [] rfl
  have hFc := va_free (wc := []) hD hS hA [] rfl
  refine va_calli (va_runS (As := [.int 1, .int 0, .int 4]) (rest := []) ⟨hx, hb, hml, hown, hz⟩ (c124_Model_within l dC dI H.size) (cwS 3 hz (zS zm_449 zm_450 zm_374 zm_451) rfl rfl rfl (by decide +kernel) ⟨Nat.le_of_ble_eq_true rfl, Nat.le_of_ble_eq_true rfl⟩) ⟨fun a U g mk q => by obtain ⟨q0, q1, qP, qK, qD⟩ := q; exact ⟨q0, q1, qP, va_K.moved (u := U) (U := U.calling g mk a) (Vm.Alike.refl U.vm) qK, qD⟩, fun U hU hW => ⟨rfl, by rw [hU], by rw [hU]; exact hPc, va_K.moved hW.alike hKc, hDc.weaken (fun _ _ _ _ => trivial)⟩⟩ rfl rfl hl.1 rfl (lv_room (Nat.le_of_ble_eq_true rfl)) d_Model_count_8 ⟨by decide, by decide⟩) hS (fun q _ h => hFc q h) hFc (fun r u t H1 locs ht hvm hw hB hz1 hk1 hS => ?_)
  obtain ⟨hP1, hK1, hD1⟩ := hB
  subst r
  rw [ht] at hP1
  obtain ⟨hP, hD⟩ := va_join (wr := [(a0, .inr (1, [.int 0, .int 0, .ref a1, .int 0, .int (-1), .int 0, .int 0, .ref a2, .ref a3, .ref a4, .ref a5, .ref a6, .int 0, .int 0, .ref a7, .int 0, .int 0, .ref a8, .ref a9, .ref a10, .ref a11, .ref a12, .ref a13, .int 0, .ref a14, .ref a15, .int 0, .int 0, .int 0, .int 0, .int 0, .int 0, .ref a16, .ref a17, .ref a18, .int 0, .int 0, .int 0, .int 0, .int 0, .int 0, .ref a19, .ref a20, .ref a21, .ref a22, .ref a23, .ref a24, .ref a25, .ref a26, .ref a27]))]) (w1 := []) hP hD [] [0] rfl rfl (by decide) (by decide) hk1 hFc hP1 hD1
  generalize H1 = H at hP hS ⊢
  have hP : va_P (dC, dI) vcl [(a0, .inr (1, [.int 0, .int 0, .ref a1, .int 0, .int (-1), .int 0, .int 0, .ref a2, .ref a3, .ref a4, .ref a5, .ref a6, .int 0, .int 0, .ref a7, .int 0, .int 0, .ref a8, .ref a9, .ref a10, .ref a11, .ref a12, .ref a13, .int 0, .ref a14, .ref a15, .int 0, .int 0, .int 0, .int 0, .int 0, .int 0, .ref a16, .ref a17, .ref a18, .int 0, .int 0, .int 0, .int 0, .int 0, .int 0, .ref a19, .ref a20, .ref a21, .ref a22, .ref a23, .ref a24, .ref a25, .ref a26, .ref a27]))] H := hP
  have hD : va_D A [(a0, .inr (1, [.int 0, .int 0, .ref a1, .int 0, .int (-1), .int 0, .int 0, .ref a2, .ref a3, .ref a4, .ref a5, .ref a6, .int 0, .int 0, .ref a7, .int 0, .int 0, .ref a8, .ref a9, .ref a10, .ref a11, .ref a12, .ref a13, .int 0, .ref a14, .ref a15, .int 0, .int 0, .int 0, .int 0, .int 0, .int 0, .ref a16, .ref a17, .ref a18, .int 0, .int 0, .int 0, .int 0, .int 0, .int 0, .ref a19, .ref a20, .ref a21, .ref a22, .ref a23, .ref a24, .ref a25, .ref a26, .ref a27]))] := hD
  refine lv_if_ne (tgt := 20) hx hb d_Model_count_11 (by decide) (fun _ => ?_) (fun h => absurd h (by decide +kernel))
  refine lv_iload_n hx hb d_Model_count_20 rfl (lv_at hl 1 rfl) ?_
  refine lv_iconst (v := 3) hx hb d_Model_count_21 (by decide) ?_
  refine lv_icmp_ge (tgt := 53) hx hb d_Model_count_22 (by decide) (fun h => absurd h (by decide +kernel)) (fun _ => ?_)
  refine lv_iload_n hx hb d_Model_count_25 rfl (lv_at hl 1 rfl) ?_
  refine lv_if_ne (tgt := 36) hx hb d_Model_count_26 (by decide) (fun _ => ?_) (fun h => absurd h (by decide +kernel))
  refine lv_iload_n hx hb d_Model_count_36 rfl (lv_at hl 1 rfl) ?_
  refine lv_iconst (v := 1) hx hb d_Model_count_37 (by decide) ?_
  refine lv_icmp_ne (tgt := 48) hx hb d_Model_count_38 (by decide) (fun h => (h (by decide +kernel)).elim) (fun _ => ?_)
  refine lv_aload_n hx hb d_Model_count_41 rfl (lv_at hl 0 rfl) ?_
  refine va_get (D := (dC, dI)) (ci := 1) (v := .int 0) (C := R_Model) (T := F_Model) (N := 50) hx hb hz zu_Model hown hK hP 0 rfl rfl 27 (by decide) (hz (.fieldLink R_Model 371 "LayoutFrontModel" "toldBlocks" "I") zm_433) (fun _ h9 => h9) rfl d_Model_count_42 ?_
  refine lv_goto (tgt := 52) hx hb d_Model_count_45 (by decide) ?_
  have hP9 := hP.sub (ws' := [(a0, .inr (1, [.int 0, .int 0, .ref a1, .int 0, .int (-1), .int 0, .int 0, .ref a2, .ref a3, .ref a4, .ref a5, .ref a6, .int 0, .int 0, .ref a7, .int 0, .int 0, .ref a8, .ref a9, .ref a10, .ref a11, .ref a12, .ref a13, .int 0, .ref a14, .ref a15, .int 0, .int 0, .int 0, .int 0, .int 0, .int 0, .ref a16, .ref a17, .ref a18, .int 0, .int 0, .int 0, .int 0, .int 0, .int 0, .ref a19, .ref a20, .ref a21, .ref a22, .ref a23, .ref a24, .ref a25, .ref a26, .ref a27]))]) [0] rfl
  have hD9 := hD.sub (ws' := [(a0, .inr (1, [.int 0, .int 0, .ref a1, .int 0, .int (-1), .int 0, .int 0, .ref a2, .ref a3, .ref a4, .ref a5, .ref a6, .int 0, .int 0, .ref a7, .int 0, .int 0, .ref a8, .ref a9, .ref a10, .ref a11, .ref a12, .ref a13, .int 0, .ref a14, .ref a15, .int 0, .int 0, .int 0, .int 0, .int 0, .int 0, .ref a16, .ref a17, .ref a18, .int 0, .int 0, .int 0, .int 0, .int 0, .int 0, .ref a19, .ref a20, .ref a21, .ref a22, .ref a23, .ref a24, .ref a25, .ref a26, .ref a27]))]) [0] (by decide) rfl
  have hK9 := hK.sub (tys' := []) [] rfl
  exact W.iret (v := 0) hx hb hr (fun t ht hW => ⟨⟨0, (), rfl, rfl, by rw [ht]; exact hP9, va_K.moved hW.alike hK9, hD9⟩, hS.F ht⟩) hS.2.2 d_Model_count_52
set_option maxHeartbeats 4000000 in
set_option maxRecDepth 100000 in
theorem c126_LF_count (l : Launch) (dC : Nat → ClassId) (dI : Nat → Nat → Nat) (sz : Nat) (a0 : Nat) (a1 : Nat) (a2 : Nat) (a3 : Nat) (a4 : Nat) (a5 : Nat) (a6 : Nat) (a7 : Nat) (k0 : ClassId) : Met l y_LF_count w_LF_count ({ frames := 0, cells := 0, slots := 0, locals := 0 }) (va_Pc [.ref a0, .int 2] (fun U => U.heap.size = sz ∧ va_P (dC, dI) vcl [(a0, .inr (0, [.ref a2, .ref a3, .ref a4, .ref a5, .ref a6, .ref a7, .ref a1, .int (-1)])), (a1, .inl (k0, 5, .inl (fun _ => 0)))] U.heap ∧ va_K (dC, dI) vcl [(k0, .int)] U ∧ va_D (fun _ => True) [(a0, .inr (0, [.ref a2, .ref a3, .ref a4, .ref a5, .ref a6, .ref a7, .ref a1, .int (-1)])), (a1, .inl (k0, 5, .inl (fun _ => 0)))])) (va_Qi (fun (r : Int32) (_ : Unit) => r = 0) (fun _ t => va_P (dC, dI) vcl [(a0, .inr (0, [.ref a2, .ref a3, .ref a4, .ref a5, .ref a6, .ref a7, .ref a1, .int (-1)])), (a1, .inl (k0, 5, .inl (fun _ => 0)))] t.heap ∧ va_K (dC, dI) vcl [(k0, .int)] t ∧ va_D (va_A [(a0, .inr (0, [.ref a2, .ref a3, .ref a4, .ref a5, .ref a6, .ref a7, .ref a1, .int (-1)])), (a1, .inl (k0, 5, .inl (fun _ => 0)))] sz) [(a0, .inr (0, [.ref a2, .ref a3, .ref a4, .ref a5, .ref a6, .ref a7, .ref a1, .int (-1)])), (a1, .inl (k0, 5, .inl (fun _ => 0)))]) (va_A [(a0, .inr (0, [.ref a2, .ref a3, .ref a4, .ref a5, .ref a6, .ref a7, .ref a1, .int (-1)])), (a1, .inl (k0, 5, .inl (fun _ => 0)))] sz)) 0 0 (va_A [(a0, .inr (0, [.ref a2, .ref a3, .ref a4, .ref a5, .ref a6, .ref a7, .ref a1, .int (-1)])), (a1, .inl (k0, 5, .inl (fun _ => 0)))] sz) := by
  refine Met.ofW (cc := b_LF_count) (maxL := 2) (ret := (some .int)) (by decide) rfl ?_
  intro p e s m args below meth c s₁ B hml hv
  obtain ⟨rfl, hsz, hP, hK, hD0⟩ := hv
  have hx := B.exec
  have hb := B.bytes
  have hr := B.returns
  have hts := atoms_spec (ws := w_LF_count) B.pre
  have hz : ∀ w ∈ wz, w.before _ s = true := fun w h => hts w (List.mem_cons_of_mem _ h)
  have hown : s.vm.findClass R_LF = some m.cls := findClass_of_methodNamed B.named
  have hlocks := B.notSynchronized
  subst hsz
  have hD := hD0.self (sz := s.heap.size)
  generalize hAe : va_A [(a0, .inr (0, [.ref a2, .ref a3, .ref a4, .ref a5, .ref a6, .ref a7, .ref a1, .int (-1)])), (a1, .inl (k0, 5, .inl (fun _ => 0)))] s.heap.size = A at hD ⊢
  have hA : ∀ q : Nat, s.heap.size ≤ q → A q := fun q h => by rw [← hAe]; exact Or.inr h
  have hS : va_S A s.heap s.heap [] := va_S.rf
  have hP : va_P (dC, dI) vcl [(a0, .inr (0, [.ref a2, .ref a3, .ref a4, .ref a5, .ref a6, .ref a7, .ref a1, .int (-1)])), (a1, .inl (k0, 5, .inl (fun _ => 0)))] s.heap := hP
  have hl := lv_entry ([.ref a0, .int 2]) (n := 2) (Nat.le_of_ble_eq_true rfl)
  rw [lg_entry_eq]
  generalize (lg_sl ([.ref a0, .int 2]) ++ List.replicate (2 - (lg_sl ([.ref a0, .int 2])).length) Slot.unset).toArray = ls at hl ⊢
  have hl : lv_has ls 2 [(0, .ref a0), (1, .int 2)] := hl
  refine lv_iload_n hx hb d_LF_count_0 rfl (lv_at hl 1 rfl) ?_
  refine lv_if_lt (tgt := 9) hx hb d_LF_count_1 (by decide) (fun h => absurd h (by decide +kernel)) (fun _ => ?_)
  refine lv_iload_n hx hb d_LF_count_4 rfl (lv_at hl 1 rfl) ?_
  refine lv_iconst (v := 5) hx hb d_LF_count_5 (by decide) ?_
  refine lv_icmp_lt (tgt := 19) hx hb d_LF_count_6 (by decide) (fun _ => ?_) (fun h => (h (by decide +kernel)).elim)
  refine lv_aload_n hx hb d_LF_count_19 rfl (lv_at hl 0 rfl) ?_
  refine va_get (D := (dC, dI)) (ci := 0) (v := .ref a1) (C := R_LF) (T := F_LF) (N := 8) hx hb hz zu_LF hown hK hP 0 rfl rfl 6 (by decide) (hz (.fieldLink R_LF 53 "LayoutFront" "counts" "[I") zm_109) (fun _ h9 => h9) rfl d_LF_count_20 ?_
  refine lv_iload_n hx hb d_LF_count_23 rfl (lv_at hl 1 rfl) ?_
  refine xr_iald (v := 0) hx hb hK hP 1 0 rfl rfl (xr_in (by decide +kernel)) (by decide +kernel) d_LF_count_24 ?_
  have hP9 := hP.sub (ws' := [(a0, .inr (0, [.ref a2, .ref a3, .ref a4, .ref a5, .ref a6, .ref a7, .ref a1, .int (-1)])), (a1, .inl (k0, 5, .inl (fun _ => 0)))]) [0, 1] rfl
  have hD9 := hD.sub (ws' := [(a0, .inr (0, [.ref a2, .ref a3, .ref a4, .ref a5, .ref a6, .ref a7, .ref a1, .int (-1)])), (a1, .inl (k0, 5, .inl (fun _ => 0)))]) [0, 1] (by decide) rfl
  have hK9 := hK.sub (tys' := [(k0, .int)]) [0] rfl
  exact W.iret (v := 0) hx hb hr (fun t ht hW => ⟨⟨0, (), rfl, rfl, by rw [ht]; exact hP9, va_K.moved hW.alike hK9, hD9⟩, hS.F ht⟩) hS.2.2 d_LF_count_25
set_option maxHeartbeats 4000000 in
set_option maxRecDepth 100000 in
theorem c127_Law_count (l : Launch) (dC : Nat → ClassId) (dI : Nat → Nat → Nat) (sz : Nat) (a0 : Nat) (a1 : Nat) (a2 : Nat) (a3 : Nat) (a4 : Nat) (a5 : Nat) (a6 : Nat) (a7 : Nat) (a8 : Nat) (k0 : ClassId) (k1 : ClassId) : Met l y_Law_count w_Law_count ({ frames := 1, cells := 0, slots := 0, locals := 21 }) (va_Pc [.ref a0, .int 2, .ref a1] (fun U => U.heap.size = sz ∧ va_P (dC, dI) vcl [(a0, .inr (0, [.ref a3, .ref a4, .ref a5, .ref a6, .ref a7, .ref a8, .ref a2, .int (-1)])), (a2, .inl (k0, 5, .inl (fun _ => 0))), (a1, .inl (k1, 1, .inr (.inl (fun _ => 0))))] U.heap ∧ va_K (dC, dI) vcl [(k0, .int), (k1, .long)] U ∧ va_D (fun _ => True) [(a0, .inr (0, [.ref a3, .ref a4, .ref a5, .ref a6, .ref a7, .ref a8, .ref a2, .int (-1)])), (a2, .inl (k0, 5, .inl (fun _ => 0))), (a1, .inl (k1, 1, .inr (.inl (fun _ => 0))))])) (va_Qi (fun (r : Int32) (_ : Unit) => r = 0) (fun _ t => va_P (dC, dI) vcl [(a0, .inr (0, [.ref a3, .ref a4, .ref a5, .ref a6, .ref a7, .ref a8, .ref a2, .int (-1)])), (a2, .inl (k0, 5, .inl (fun _ => 0))), (a1, .inl (k1, 1, .inr (.inl (vp_updL (fun _ => 0) 0 0))))] t.heap ∧ va_K (dC, dI) vcl [(k0, .int), (k1, .long)] t ∧ va_D (va_A [(a0, .inr (0, [.ref a3, .ref a4, .ref a5, .ref a6, .ref a7, .ref a8, .ref a2, .int (-1)])), (a2, .inl (k0, 5, .inl (fun _ => 0))), (a1, .inl (k1, 1, .inr (.inl (fun _ => 0))))] sz) [(a0, .inr (0, [.ref a3, .ref a4, .ref a5, .ref a6, .ref a7, .ref a8, .ref a2, .int (-1)])), (a2, .inl (k0, 5, .inl (fun _ => 0))), (a1, .inl (k1, 1, .inr (.inl (vp_updL (fun _ => 0) 0 0))))]) (va_A [(a0, .inr (0, [.ref a3, .ref a4, .ref a5, .ref a6, .ref a7, .ref a8, .ref a2, .int (-1)])), (a2, .inl (k0, 5, .inl (fun _ => 0))), (a1, .inl (k1, 1, .inr (.inl (fun _ => 0))))] sz)) 0 0 (va_A [(a0, .inr (0, [.ref a3, .ref a4, .ref a5, .ref a6, .ref a7, .ref a8, .ref a2, .int (-1)])), (a2, .inl (k0, 5, .inl (fun _ => 0))), (a1, .inl (k1, 1, .inr (.inl (fun _ => 0))))] sz) := by
  refine va_MetW (hh := [(0, 9, 12, 29)]) (cc := b_Law_count) (maxL := 4) (ret := (some .int)) (by decide) rfl ?_
  intro p e s m args below meth c s₁ B hml hv
  obtain ⟨rfl, hsz, hP, hK, hD0⟩ := hv
  have hx := B.exec
  have hb := B.bytes
  have hr := B.returns
  have hts := atoms_spec (ws := w_Law_count) B.pre
  have hz : ∀ w ∈ wz, w.before _ s = true := fun w h => hts w (List.mem_cons_of_mem _ h)
  have hown : s.vm.findClass R_Law = some m.cls := findClass_of_methodNamed B.named
  have hlocks := B.notSynchronized
  subst hsz
  have hD := hD0.self (sz := s.heap.size)
  generalize hAe : va_A [(a0, .inr (0, [.ref a3, .ref a4, .ref a5, .ref a6, .ref a7, .ref a8, .ref a2, .int (-1)])), (a2, .inl (k0, 5, .inl (fun _ => 0))), (a1, .inl (k1, 1, .inr (.inl (fun _ => 0))))] s.heap.size = A at hD ⊢
  have hA : ∀ q : Nat, s.heap.size ≤ q → A q := fun q h => by rw [← hAe]; exact Or.inr h
  have hS : va_S A s.heap s.heap [] := va_S.rf
  have hP : va_P (dC, dI) vcl [(a0, .inr (0, [.ref a3, .ref a4, .ref a5, .ref a6, .ref a7, .ref a8, .ref a2, .int (-1)])), (a2, .inl (k0, 5, .inl (fun _ => 0))), (a1, .inl (k1, 1, .inr (.inl (fun _ => 0))))] s.heap := hP
  have hl := lv_entry ([.ref a0, .int 2, .ref a1]) (n := 4) (Nat.le_of_ble_eq_true rfl)
  rw [lg_entry_eq]
  generalize (lg_sl ([.ref a0, .int 2, .ref a1]) ++ List.replicate (4 - (lg_sl ([.ref a0, .int 2, .ref a1])).length) Slot.unset).toArray = ls at hl ⊢
  have hl : lv_has ls 4 [(0, .ref a0), (1, .int 2), (2, .ref a1)] := hl
  refine lv_aload_n hx hb d_Law_count_0 rfl (lv_at hl 2 rfl) ?_
  refine lv_iconst (v := 0) hx hb d_Law_count_1 (by decide) ?_
  refine lv_aload_n hx hb d_Law_count_2 rfl (lv_at hl 0 rfl) ?_
  refine lv_iload_n hx hb d_Law_count_3 rfl (lv_at hl 1 rfl) ?_
  have hPc := hP.sub (ws' := [(a0, .inr (0, [.ref a3, .ref a4, .ref a5, .ref a6, .ref a7, .ref a8, .ref a2, .int (-1)])), (a2, .inl (k0, 5, .inl (fun _ => 0)))]) [0, 1] rfl
  have hDc := hD.sub (ws' := [(a0, .inr (0, [.ref a3, .ref a4, .ref a5, .ref a6, .ref a7, .ref a8, .ref a2, .int (-1)])), (a2, .inl (k0, 5, .inl (fun _ => 0)))]) [0, 1] (by decide) rfl
  have hKc := hK.sub (tys' := [(k0, .int)]) [0] rfl
  have hFc := va_free (wc := [(a0, .inr (0, [.ref a3, .ref a4, .ref a5, .ref a6, .ref a7, .ref a8, .ref a2, .int (-1)])), (a2, .inl (k0, 5, .inl (fun _ => 0)))]) hD hS hA [0, 1] rfl
  refine va_calli (va_runV (As := [.int 2]) (rest := [.int 0, .ref a1]) ⟨hx, hb, hml, hown, hz⟩ (c126_LF_count l dC dI s.heap.size a0 a2 a3 a4 a5 a6 a7 a8 k0) (cwV 1 hz (zV zm_445 zm_446 zm_447 zm_333 zm_448) rfl rfl rfl (by decide +kernel) ⟨Nat.le_of_ble_eq_true rfl, Nat.le_of_ble_eq_true rfl⟩) ⟨fun a U g mk q => by obtain ⟨q0, q1, qP, qK, qD⟩ := q; exact ⟨q0, q1, qP, va_K.moved (u := U) (U := U.calling g mk a) (Vm.Alike.refl U.vm) qK, qD⟩, va_recv (q := (R_LF, F_LF, 8)) (q0 := 0) (ci := 0) hK hP rfl rfl, fun U hU hW => ⟨rfl, by rw [hU], by rw [hU]; exact hPc, va_K.moved hW.alike hKc, hDc.weaken (fun _ _ _ _ => trivial)⟩⟩ rfl rfl hl.1 rfl (lv_room (Nat.le_of_ble_eq_true rfl)) d_Law_count_4 ⟨by decide, by decide⟩) hS (fun q _ h => hFc q h) hFc (fun r u t H1 locs ht hvm hw hB hz1 hk1 hS => ?_)
  obtain ⟨hP1, hK1, hD1⟩ := hB
  subst r
  rw [ht] at hP1
  obtain ⟨hP, hD⟩ := va_join (wr := [(a1, .inl (k1, 1, .inr (.inl (fun _ => 0))))]) (w1 := [(a0, .inr (0, [.ref a3, .ref a4, .ref a5, .ref a6, .ref a7, .ref a8, .ref a2, .int (-1)])), (a2, .inl (k0, 5, .inl (fun _ => 0)))]) hP hD [0, 1] [2] rfl rfl (by decide) (by decide) hk1 hFc hP1 hD1
  generalize H1 = H at hP hS ⊢
  have hP : va_P (dC, dI) vcl [(a1, .inl (k1, 1, .inr (.inl (fun _ => 0)))), (a0, .inr (0, [.ref a3, .ref a4, .ref a5, .ref a6, .ref a7, .ref a8, .ref a2, .int (-1)])), (a2, .inl (k0, 5, .inl (fun _ => 0)))] H := hP
  have hD : va_D A [(a1, .inl (k1, 1, .inr (.inl (fun _ => 0)))), (a0, .inr (0, [.ref a3, .ref a4, .ref a5, .ref a6, .ref a7, .ref a8, .ref a2, .int (-1)])), (a2, .inl (k0, 5, .inl (fun _ => 0)))] := hD
  refine lv_i2l (v := 0) hx hb d_Law_count_7 (by decide +kernel) ?_
  refine xr_last (j := 0) hx hb hK hP hD hS 0 1 rfl rfl (xr_in (by decide +kernel)) (by decide +kernel) d_Law_count_8 (fun H locs hP hD hS => ?_)
  have hP : va_P (dC, dI) vcl [(a1, .inl (k1, 1, .inr (.inl (vp_updL (fun _ => 0) 0 0)))), (a0, .inr (0, [.ref a3, .ref a4, .ref a5, .ref a6, .ref a7, .ref a8, .ref a2, .int (-1)])), (a2, .inl (k0, 5, .inl (fun _ => 0)))] H := hP
  have hD : va_D A [(a1, .inl (k1, 1, .inr (.inl (vp_updL (fun _ => 0) 0 0)))), (a0, .inr (0, [.ref a3, .ref a4, .ref a5, .ref a6, .ref a7, .ref a8, .ref a2, .int (-1)])), (a2, .inl (k0, 5, .inl (fun _ => 0)))] := hD
  refine lv_goto (tgt := 15) hx hb d_Law_count_9 (by decide) ?_
  refine lv_iconst (v := 0) hx hb d_Law_count_15 (by decide) ?_
  have hP9 := hP.sub (ws' := [(a0, .inr (0, [.ref a3, .ref a4, .ref a5, .ref a6, .ref a7, .ref a8, .ref a2, .int (-1)])), (a2, .inl (k0, 5, .inl (fun _ => 0))), (a1, .inl (k1, 1, .inr (.inl (vp_updL (fun _ => 0) 0 0))))]) [1, 2, 0] rfl
  have hD9 := hD.sub (ws' := [(a0, .inr (0, [.ref a3, .ref a4, .ref a5, .ref a6, .ref a7, .ref a8, .ref a2, .int (-1)])), (a2, .inl (k0, 5, .inl (fun _ => 0))), (a1, .inl (k1, 1, .inr (.inl (vp_updL (fun _ => 0) 0 0))))]) [1, 2, 0] (by decide) rfl
  have hK9 := hK.sub (tys' := [(k0, .int), (k1, .long)]) [0, 1] rfl
  exact W.iret (v := 0) hx hb hr (fun t ht hW => ⟨⟨0, (), rfl, rfl, by rw [ht]; exact hP9, va_K.moved hW.alike hK9, hD9⟩, hS.F ht⟩) hS.2.2 d_Law_count_16
set_option maxHeartbeats 4000000 in
set_option maxRecDepth 100000 in
theorem c128_Model_within (l : Launch) (dC : Nat → ClassId) (dI : Nat → Nat → Nat) (sz : Nat) : Met l y_Model_within w_Model_within ({ frames := 0, cells := 0, slots := 0, locals := 0 }) (va_Pc [.int 2, .int 0, .int 4] (fun U => U.heap.size = sz ∧ va_P (dC, dI) vcl [] U.heap ∧ va_K (dC, dI) vcl [] U ∧ va_D (fun _ => True) [])) (va_Qi (fun (r : Int32) (_ : Unit) => r = 1) (fun _ t => va_P (dC, dI) vcl [] t.heap ∧ va_K (dC, dI) vcl [] t ∧ va_D (va_A [] sz) []) (va_A [] sz)) 0 0 (va_A [] sz) := by
  refine Met.ofW (cc := b_Model_within) (maxL := 3) (ret := (some .boolean)) (by decide) rfl ?_
  intro p e s m args below meth c s₁ B hml hv
  obtain ⟨rfl, hsz, hP, hK, hD0⟩ := hv
  have hx := B.exec
  have hb := B.bytes
  have hr := B.returns
  have hts := atoms_spec (ws := w_Model_within) B.pre
  have hz : ∀ w ∈ wz, w.before _ s = true := fun w h => hts w (List.mem_cons_of_mem _ h)
  have hown : s.vm.findClass R_Model = some m.cls := findClass_of_methodNamed B.named
  have hlocks := B.notSynchronized
  subst hsz
  have hD := hD0.self (sz := s.heap.size)
  generalize hAe : va_A [] s.heap.size = A at hD ⊢
  have hA : ∀ q : Nat, s.heap.size ≤ q → A q := fun q h => by rw [← hAe]; exact Or.inr h
  have hS : va_S A s.heap s.heap [] := va_S.rf
  have hP : va_P (dC, dI) vcl [] s.heap := hP
  have hl := lv_entry ([.int 2, .int 0, .int 4]) (n := 3) (Nat.le_of_ble_eq_true rfl)
  rw [lg_entry_eq]
  generalize (lg_sl ([.int 2, .int 0, .int 4]) ++ List.replicate (3 - (lg_sl ([.int 2, .int 0, .int 4])).length) Slot.unset).toArray = ls at hl ⊢
  have hl : lv_has ls 3 [(0, .int 2), (1, .int 0), (2, .int 4)] := hl
  refine lv_iload_n hx hb d_Model_within_0 rfl (lv_at hl 0 rfl) ?_
  refine lv_iload_n hx hb d_Model_within_1 rfl (lv_at hl 1 rfl) ?_
  refine lv_icmp_lt (tgt := 14) hx hb d_Model_within_2 (by decide) (fun h => absurd h (by decide +kernel)) (fun _ => ?_)
  refine lv_iload_n hx hb d_Model_within_5 rfl (lv_at hl 0 rfl) ?_
  refine lv_iload_n hx hb d_Model_within_6 rfl (lv_at hl 2 rfl) ?_
  refine lv_icmp_gt (tgt := 14) hx hb d_Model_within_7 (by decide) (fun h => absurd h (by decide +kernel)) (fun _ => ?_)
  refine lv_iconst (v := 1) hx hb d_Model_within_10 (by decide) ?_
  refine lv_goto (tgt := 15) hx hb d_Model_within_11 (by decide) ?_
  have hP9 := hP.sub (ws' := []) [] rfl
  have hD9 := hD.sub (ws' := []) [] (by decide) rfl
  have hK9 := hK.sub (tys' := []) [] rfl
  exact W.zret (v := 1) hx hb hr (by decide +kernel) (fun t ht hW => ⟨⟨1, (), rfl, rfl, by rw [ht]; exact hP9, va_K.moved hW.alike hK9, hD9⟩, hS.F ht⟩) hS.2.2 d_Model_within_15
set_option maxHeartbeats 4000000 in
set_option maxRecDepth 100000 in
theorem c129_Model_count (l : Launch) (dC : Nat → ClassId) (dI : Nat → Nat → Nat) (sz : Nat) (a0 : Nat) (a1 : Nat) (a2 : Nat) (a3 : Nat) (a4 : Nat) (a5 : Nat) (a6 : Nat) (a7 : Nat) (a8 : Nat) (a9 : Nat) (a10 : Nat) (a11 : Nat) (a12 : Nat) (a13 : Nat) (a14 : Nat) (a15 : Nat) (a16 : Nat) (a17 : Nat) (a18 : Nat) (a19 : Nat) (a20 : Nat) (a21 : Nat) (a22 : Nat) (a23 : Nat) (a24 : Nat) (a25 : Nat) (a26 : Nat) (a27 : Nat) : Met l y_Model_count w_Model_count ({ frames := 1, cells := 0, slots := 0, locals := 22 }) (va_Pc [.ref a0, .int 2] (fun U => U.heap.size = sz ∧ va_P (dC, dI) vcl [(a0, .inr (1, [.int 0, .int 0, .ref a1, .int 0, .int (-1), .int 0, .int 0, .ref a2, .ref a3, .ref a4, .ref a5, .ref a6, .int 0, .int 0, .ref a7, .int 0, .int 0, .ref a8, .ref a9, .ref a10, .ref a11, .ref a12, .ref a13, .int 0, .ref a14, .ref a15, .int 0, .int 0, .int 0, .int 0, .int 0, .int 0, .ref a16, .ref a17, .ref a18, .int 0, .int 0, .int 0, .int 0, .int 0, .int 0, .ref a19, .ref a20, .ref a21, .ref a22, .ref a23, .ref a24, .ref a25, .ref a26, .ref a27]))] U.heap ∧ va_K (dC, dI) vcl [] U ∧ va_D (fun _ => True) [(a0, .inr (1, [.int 0, .int 0, .ref a1, .int 0, .int (-1), .int 0, .int 0, .ref a2, .ref a3, .ref a4, .ref a5, .ref a6, .int 0, .int 0, .ref a7, .int 0, .int 0, .ref a8, .ref a9, .ref a10, .ref a11, .ref a12, .ref a13, .int 0, .ref a14, .ref a15, .int 0, .int 0, .int 0, .int 0, .int 0, .int 0, .ref a16, .ref a17, .ref a18, .int 0, .int 0, .int 0, .int 0, .int 0, .int 0, .ref a19, .ref a20, .ref a21, .ref a22, .ref a23, .ref a24, .ref a25, .ref a26, .ref a27]))])) (va_Qi (fun (r : Int32) (_ : Unit) => r = 0) (fun _ t => va_P (dC, dI) vcl [(a0, .inr (1, [.int 0, .int 0, .ref a1, .int 0, .int (-1), .int 0, .int 0, .ref a2, .ref a3, .ref a4, .ref a5, .ref a6, .int 0, .int 0, .ref a7, .int 0, .int 0, .ref a8, .ref a9, .ref a10, .ref a11, .ref a12, .ref a13, .int 0, .ref a14, .ref a15, .int 0, .int 0, .int 0, .int 0, .int 0, .int 0, .ref a16, .ref a17, .ref a18, .int 0, .int 0, .int 0, .int 0, .int 0, .int 0, .ref a19, .ref a20, .ref a21, .ref a22, .ref a23, .ref a24, .ref a25, .ref a26, .ref a27]))] t.heap ∧ va_K (dC, dI) vcl [] t ∧ va_D (va_A [(a0, .inr (1, [.int 0, .int 0, .ref a1, .int 0, .int (-1), .int 0, .int 0, .ref a2, .ref a3, .ref a4, .ref a5, .ref a6, .int 0, .int 0, .ref a7, .int 0, .int 0, .ref a8, .ref a9, .ref a10, .ref a11, .ref a12, .ref a13, .int 0, .ref a14, .ref a15, .int 0, .int 0, .int 0, .int 0, .int 0, .int 0, .ref a16, .ref a17, .ref a18, .int 0, .int 0, .int 0, .int 0, .int 0, .int 0, .ref a19, .ref a20, .ref a21, .ref a22, .ref a23, .ref a24, .ref a25, .ref a26, .ref a27]))] sz) [(a0, .inr (1, [.int 0, .int 0, .ref a1, .int 0, .int (-1), .int 0, .int 0, .ref a2, .ref a3, .ref a4, .ref a5, .ref a6, .int 0, .int 0, .ref a7, .int 0, .int 0, .ref a8, .ref a9, .ref a10, .ref a11, .ref a12, .ref a13, .int 0, .ref a14, .ref a15, .int 0, .int 0, .int 0, .int 0, .int 0, .int 0, .ref a16, .ref a17, .ref a18, .int 0, .int 0, .int 0, .int 0, .int 0, .int 0, .ref a19, .ref a20, .ref a21, .ref a22, .ref a23, .ref a24, .ref a25, .ref a26, .ref a27]))]) (va_A [(a0, .inr (1, [.int 0, .int 0, .ref a1, .int 0, .int (-1), .int 0, .int 0, .ref a2, .ref a3, .ref a4, .ref a5, .ref a6, .int 0, .int 0, .ref a7, .int 0, .int 0, .ref a8, .ref a9, .ref a10, .ref a11, .ref a12, .ref a13, .int 0, .ref a14, .ref a15, .int 0, .int 0, .int 0, .int 0, .int 0, .int 0, .ref a16, .ref a17, .ref a18, .int 0, .int 0, .int 0, .int 0, .int 0, .int 0, .ref a19, .ref a20, .ref a21, .ref a22, .ref a23, .ref a24, .ref a25, .ref a26, .ref a27]))] sz)) 0 0 (va_A [(a0, .inr (1, [.int 0, .int 0, .ref a1, .int 0, .int (-1), .int 0, .int 0, .ref a2, .ref a3, .ref a4, .ref a5, .ref a6, .int 0, .int 0, .ref a7, .int 0, .int 0, .ref a8, .ref a9, .ref a10, .ref a11, .ref a12, .ref a13, .int 0, .ref a14, .ref a15, .int 0, .int 0, .int 0, .int 0, .int 0, .int 0, .ref a16, .ref a17, .ref a18, .int 0, .int 0, .int 0, .int 0, .int 0, .int 0, .ref a19, .ref a20, .ref a21, .ref a22, .ref a23, .ref a24, .ref a25, .ref a26, .ref a27]))] sz) := by
  refine Met.ofW (cc := b_Model_count) (maxL := 2) (ret := (some .int)) (by decide) rfl ?_
  intro p e s m args below meth c s₁ B hml hv
  obtain ⟨rfl, hsz, hP, hK, hD0⟩ := hv
  have hx := B.exec
  have hb := B.bytes
  have hr := B.returns
  have hts := atoms_spec (ws := w_Model_count) B.pre
  have hz : ∀ w ∈ wz, w.before _ s = true := fun w h => hts w (List.mem_cons_of_mem _ h)
  have hown : s.vm.findClass R_Model = some m.cls := findClass_of_methodNamed B.named
  have hlocks := B.notSynchronized
  subst hsz
  have hD := hD0.self (sz := s.heap.size)
  generalize hAe : va_A [(a0, .inr (1, [.int 0, .int 0, .ref a1, .int 0, .int (-1), .int 0, .int 0, .ref a2, .ref a3, .ref a4, .ref a5, .ref a6, .int 0, .int 0, .ref a7, .int 0, .int 0, .ref a8, .ref a9, .ref a10, .ref a11, .ref a12, .ref a13, .int 0, .ref a14, .ref a15, .int 0, .int 0, .int 0, .int 0, .int 0, .int 0, .ref a16, .ref a17, .ref a18, .int 0, .int 0, .int 0, .int 0, .int 0, .int 0, .ref a19, .ref a20, .ref a21, .ref a22, .ref a23, .ref a24, .ref a25, .ref a26, .ref a27]))] s.heap.size = A at hD ⊢
  have hA : ∀ q : Nat, s.heap.size ≤ q → A q := fun q h => by rw [← hAe]; exact Or.inr h
  have hS : va_S A s.heap s.heap [] := va_S.rf
  have hP : va_P (dC, dI) vcl [(a0, .inr (1, [.int 0, .int 0, .ref a1, .int 0, .int (-1), .int 0, .int 0, .ref a2, .ref a3, .ref a4, .ref a5, .ref a6, .int 0, .int 0, .ref a7, .int 0, .int 0, .ref a8, .ref a9, .ref a10, .ref a11, .ref a12, .ref a13, .int 0, .ref a14, .ref a15, .int 0, .int 0, .int 0, .int 0, .int 0, .int 0, .ref a16, .ref a17, .ref a18, .int 0, .int 0, .int 0, .int 0, .int 0, .int 0, .ref a19, .ref a20, .ref a21, .ref a22, .ref a23, .ref a24, .ref a25, .ref a26, .ref a27]))] s.heap := hP
  have hl := lv_entry ([.ref a0, .int 2]) (n := 2) (Nat.le_of_ble_eq_true rfl)
  rw [lg_entry_eq]
  generalize (lg_sl ([.ref a0, .int 2]) ++ List.replicate (2 - (lg_sl ([.ref a0, .int 2])).length) Slot.unset).toArray = ls at hl ⊢
  have hl : lv_has ls 2 [(0, .ref a0), (1, .int 2)] := hl
  refine lv_aload_n hx hb d_Model_count_0 rfl (lv_at hl 0 rfl) ?_
  refine lv_iconst (v := 0) hx hb d_Model_count_1 (by decide) ?_
  refine va_put (D := (dC, dI)) (ci := 1) (v := .int 0) (ty := .int) (C := R_Model) (T := F_Model) (N := 50) hx hb hz zu_Model t_Model t_Model_ok n_Model hown hK hP hD hS 0 rfl rfl 0 (by decide) (hz (.fieldLink R_Model 97 "LayoutFrontModel" "thrown" "I") zm_415) (fun _ h9 => h9) rfl (by decide +kernel) rfl rfl (Nat.le_of_ble_eq_true rfl) d_Model_count_2 (fun H locs hP hD hS => ?_)
  have hP : va_P (dC, dI) vcl [(a0, .inr (1, [.int 0, .int 0, .ref a1, .int 0, .int (-1), .int 0, .int 0, .ref a2, .ref a3, .ref a4, .ref a5, .ref a6, .int 0, .int 0, .ref a7, .int 0, .int 0, .ref a8, .ref a9, .ref a10, .ref a11, .ref a12, .ref a13, .int 0, .ref a14, .ref a15, .int 0, .int 0, .int 0, .int 0, .int 0, .int 0, .ref a16, .ref a17, .ref a18, .int 0, .int 0, .int 0, .int 0, .int 0, .int 0, .ref a19, .ref a20, .ref a21, .ref a22, .ref a23, .ref a24, .ref a25, .ref a26, .ref a27]))] H := hP
  have hD : va_D A [(a0, .inr (1, [.int 0, .int 0, .ref a1, .int 0, .int (-1), .int 0, .int 0, .ref a2, .ref a3, .ref a4, .ref a5, .ref a6, .int 0, .int 0, .ref a7, .int 0, .int 0, .ref a8, .ref a9, .ref a10, .ref a11, .ref a12, .ref a13, .int 0, .ref a14, .ref a15, .int 0, .int 0, .int 0, .int 0, .int 0, .int 0, .ref a16, .ref a17, .ref a18, .int 0, .int 0, .int 0, .int 0, .int 0, .int 0, .ref a19, .ref a20, .ref a21, .ref a22, .ref a23, .ref a24, .ref a25, .ref a26, .ref a27]))] := hD
  refine lv_iload_n hx hb d_Model_count_5 rfl (lv_at hl 1 rfl) ?_
  refine lv_iconst (v := 0) hx hb d_Model_count_6 (by decide) ?_
  refine lv_iconst (v := 4) hx hb d_Model_count_7 (by decide) ?_
  have hPc := hP.sub (ws' := []) [] rfl
  have hDc := hD.sub (ws' := []) [] (by decide) rfl
  have hKc := hK.sub (tys' := []) [] rfl
  have hFc := va_free (wc := []) hD hS hA [] rfl
  refine va_calli (va_runS (As := [.int 2, .int 0, .int 4]) (rest := []) ⟨hx, hb, hml, hown, hz⟩ (c128_Model_within l dC dI H.size) (cwS 3 hz (zS zm_449 zm_450 zm_374 zm_451) rfl rfl rfl (by decide +kernel) ⟨Nat.le_of_ble_eq_true rfl, Nat.le_of_ble_eq_true rfl⟩) ⟨fun a U g mk q => by obtain ⟨q0, q1, qP, qK, qD⟩ := q; exact ⟨q0, q1, qP, va_K.moved (u := U) (U := U.calling g mk a) (Vm.Alike.refl U.vm) qK, qD⟩, fun U hU hW => ⟨rfl, by rw [hU], by rw [hU]; exact hPc, va_K.moved hW.alike hKc, hDc.weaken (fun _ _ _ _ => trivial)⟩⟩ rfl rfl hl.1 rfl (lv_room (Nat.le_of_ble_eq_true rfl)) d_Model_count_8 ⟨by decide, by decide⟩) hS (fun q _ h => hFc q h) hFc (fun r u t H1 locs ht hvm hw hB hz1 hk1 hS => ?_)
  obtain ⟨hP1, hK1, hD1⟩ := hB
  subst r
  rw [ht] at hP1
  obtain ⟨hP, hD⟩ := va_join (wr := [(a0, .inr (1, [.int 0, .int 0, .ref a1, .int 0, .int (-1), .int 0, .int 0, .ref a2, .ref a3, .ref a4, .ref a5, .ref a6, .int 0, .int 0, .ref a7, .int 0, .int 0, .ref a8, .ref a9, .ref a10, .ref a11, .ref a12, .ref a13, .int 0, .ref a14, .ref a15, .int 0, .int 0, .int 0, .int 0, .int 0, .int 0, .ref a16, .ref a17, .ref a18, .int 0, .int 0, .int 0, .int 0, .int 0, .int 0, .ref a19, .ref a20, .ref a21, .ref a22, .ref a23, .ref a24, .ref a25, .ref a26, .ref a27]))]) (w1 := []) hP hD [] [0] rfl rfl (by decide) (by decide) hk1 hFc hP1 hD1
  generalize H1 = H at hP hS ⊢
  have hP : va_P (dC, dI) vcl [(a0, .inr (1, [.int 0, .int 0, .ref a1, .int 0, .int (-1), .int 0, .int 0, .ref a2, .ref a3, .ref a4, .ref a5, .ref a6, .int 0, .int 0, .ref a7, .int 0, .int 0, .ref a8, .ref a9, .ref a10, .ref a11, .ref a12, .ref a13, .int 0, .ref a14, .ref a15, .int 0, .int 0, .int 0, .int 0, .int 0, .int 0, .ref a16, .ref a17, .ref a18, .int 0, .int 0, .int 0, .int 0, .int 0, .int 0, .ref a19, .ref a20, .ref a21, .ref a22, .ref a23, .ref a24, .ref a25, .ref a26, .ref a27]))] H := hP
  have hD : va_D A [(a0, .inr (1, [.int 0, .int 0, .ref a1, .int 0, .int (-1), .int 0, .int 0, .ref a2, .ref a3, .ref a4, .ref a5, .ref a6, .int 0, .int 0, .ref a7, .int 0, .int 0, .ref a8, .ref a9, .ref a10, .ref a11, .ref a12, .ref a13, .int 0, .ref a14, .ref a15, .int 0, .int 0, .int 0, .int 0, .int 0, .int 0, .ref a16, .ref a17, .ref a18, .int 0, .int 0, .int 0, .int 0, .int 0, .int 0, .ref a19, .ref a20, .ref a21, .ref a22, .ref a23, .ref a24, .ref a25, .ref a26, .ref a27]))] := hD
  refine lv_if_ne (tgt := 20) hx hb d_Model_count_11 (by decide) (fun _ => ?_) (fun h => absurd h (by decide +kernel))
  refine lv_iload_n hx hb d_Model_count_20 rfl (lv_at hl 1 rfl) ?_
  refine lv_iconst (v := 3) hx hb d_Model_count_21 (by decide) ?_
  refine lv_icmp_ge (tgt := 53) hx hb d_Model_count_22 (by decide) (fun h => absurd h (by decide +kernel)) (fun _ => ?_)
  refine lv_iload_n hx hb d_Model_count_25 rfl (lv_at hl 1 rfl) ?_
  refine lv_if_ne (tgt := 36) hx hb d_Model_count_26 (by decide) (fun _ => ?_) (fun h => absurd h (by decide +kernel))
  refine lv_iload_n hx hb d_Model_count_36 rfl (lv_at hl 1 rfl) ?_
  refine lv_iconst (v := 1) hx hb d_Model_count_37 (by decide) ?_
  refine lv_icmp_ne (tgt := 48) hx hb d_Model_count_38 (by decide) (fun _ => ?_) (fun h => absurd h (by decide +kernel))
  refine lv_aload_n hx hb d_Model_count_48 rfl (lv_at hl 0 rfl) ?_
  refine va_get (D := (dC, dI)) (ci := 1) (v := .int 0) (C := R_Model) (T := F_Model) (N := 50) hx hb hz zu_Model hown hK hP 0 rfl rfl 28 (by decide) (hz (.fieldLink R_Model 374 "LayoutFrontModel" "toldRows" "I") zm_434) (fun _ h9 => h9) rfl d_Model_count_49 ?_
  have hP9 := hP.sub (ws' := [(a0, .inr (1, [.int 0, .int 0, .ref a1, .int 0, .int (-1), .int 0, .int 0, .ref a2, .ref a3, .ref a4, .ref a5, .ref a6, .int 0, .int 0, .ref a7, .int 0, .int 0, .ref a8, .ref a9, .ref a10, .ref a11, .ref a12, .ref a13, .int 0, .ref a14, .ref a15, .int 0, .int 0, .int 0, .int 0, .int 0, .int 0, .ref a16, .ref a17, .ref a18, .int 0, .int 0, .int 0, .int 0, .int 0, .int 0, .ref a19, .ref a20, .ref a21, .ref a22, .ref a23, .ref a24, .ref a25, .ref a26, .ref a27]))]) [0] rfl
  have hD9 := hD.sub (ws' := [(a0, .inr (1, [.int 0, .int 0, .ref a1, .int 0, .int (-1), .int 0, .int 0, .ref a2, .ref a3, .ref a4, .ref a5, .ref a6, .int 0, .int 0, .ref a7, .int 0, .int 0, .ref a8, .ref a9, .ref a10, .ref a11, .ref a12, .ref a13, .int 0, .ref a14, .ref a15, .int 0, .int 0, .int 0, .int 0, .int 0, .int 0, .ref a16, .ref a17, .ref a18, .int 0, .int 0, .int 0, .int 0, .int 0, .int 0, .ref a19, .ref a20, .ref a21, .ref a22, .ref a23, .ref a24, .ref a25, .ref a26, .ref a27]))]) [0] (by decide) rfl
  have hK9 := hK.sub (tys' := []) [] rfl
  exact W.iret (v := 0) hx hb hr (fun t ht hW => ⟨⟨0, (), rfl, rfl, by rw [ht]; exact hP9, va_K.moved hW.alike hK9, hD9⟩, hS.F ht⟩) hS.2.2 d_Model_count_52
set_option maxHeartbeats 4000000 in
set_option maxRecDepth 100000 in
theorem c130_LF_count (l : Launch) (dC : Nat → ClassId) (dI : Nat → Nat → Nat) (sz : Nat) (a0 : Nat) (a1 : Nat) (a2 : Nat) (a3 : Nat) (a4 : Nat) (a5 : Nat) (a6 : Nat) (a7 : Nat) (k0 : ClassId) : Met l y_LF_count w_LF_count ({ frames := 0, cells := 0, slots := 0, locals := 0 }) (va_Pc [.ref a0, .int 3] (fun U => U.heap.size = sz ∧ va_P (dC, dI) vcl [(a0, .inr (0, [.ref a2, .ref a3, .ref a4, .ref a5, .ref a6, .ref a7, .ref a1, .int (-1)])), (a1, .inl (k0, 5, .inl (fun _ => 0)))] U.heap ∧ va_K (dC, dI) vcl [(k0, .int)] U ∧ va_D (fun _ => True) [(a0, .inr (0, [.ref a2, .ref a3, .ref a4, .ref a5, .ref a6, .ref a7, .ref a1, .int (-1)])), (a1, .inl (k0, 5, .inl (fun _ => 0)))])) (va_Qi (fun (r : Int32) (_ : Unit) => r = 0) (fun _ t => va_P (dC, dI) vcl [(a0, .inr (0, [.ref a2, .ref a3, .ref a4, .ref a5, .ref a6, .ref a7, .ref a1, .int (-1)])), (a1, .inl (k0, 5, .inl (fun _ => 0)))] t.heap ∧ va_K (dC, dI) vcl [(k0, .int)] t ∧ va_D (va_A [(a0, .inr (0, [.ref a2, .ref a3, .ref a4, .ref a5, .ref a6, .ref a7, .ref a1, .int (-1)])), (a1, .inl (k0, 5, .inl (fun _ => 0)))] sz) [(a0, .inr (0, [.ref a2, .ref a3, .ref a4, .ref a5, .ref a6, .ref a7, .ref a1, .int (-1)])), (a1, .inl (k0, 5, .inl (fun _ => 0)))]) (va_A [(a0, .inr (0, [.ref a2, .ref a3, .ref a4, .ref a5, .ref a6, .ref a7, .ref a1, .int (-1)])), (a1, .inl (k0, 5, .inl (fun _ => 0)))] sz)) 0 0 (va_A [(a0, .inr (0, [.ref a2, .ref a3, .ref a4, .ref a5, .ref a6, .ref a7, .ref a1, .int (-1)])), (a1, .inl (k0, 5, .inl (fun _ => 0)))] sz) := by
  refine Met.ofW (cc := b_LF_count) (maxL := 2) (ret := (some .int)) (by decide) rfl ?_
  intro p e s m args below meth c s₁ B hml hv
  obtain ⟨rfl, hsz, hP, hK, hD0⟩ := hv
  have hx := B.exec
  have hb := B.bytes
  have hr := B.returns
  have hts := atoms_spec (ws := w_LF_count) B.pre
  have hz : ∀ w ∈ wz, w.before _ s = true := fun w h => hts w (List.mem_cons_of_mem _ h)
  have hown : s.vm.findClass R_LF = some m.cls := findClass_of_methodNamed B.named
  have hlocks := B.notSynchronized
  subst hsz
  have hD := hD0.self (sz := s.heap.size)
  generalize hAe : va_A [(a0, .inr (0, [.ref a2, .ref a3, .ref a4, .ref a5, .ref a6, .ref a7, .ref a1, .int (-1)])), (a1, .inl (k0, 5, .inl (fun _ => 0)))] s.heap.size = A at hD ⊢
  have hA : ∀ q : Nat, s.heap.size ≤ q → A q := fun q h => by rw [← hAe]; exact Or.inr h
  have hS : va_S A s.heap s.heap [] := va_S.rf
  have hP : va_P (dC, dI) vcl [(a0, .inr (0, [.ref a2, .ref a3, .ref a4, .ref a5, .ref a6, .ref a7, .ref a1, .int (-1)])), (a1, .inl (k0, 5, .inl (fun _ => 0)))] s.heap := hP
  have hl := lv_entry ([.ref a0, .int 3]) (n := 2) (Nat.le_of_ble_eq_true rfl)
  rw [lg_entry_eq]
  generalize (lg_sl ([.ref a0, .int 3]) ++ List.replicate (2 - (lg_sl ([.ref a0, .int 3])).length) Slot.unset).toArray = ls at hl ⊢
  have hl : lv_has ls 2 [(0, .ref a0), (1, .int 3)] := hl
  refine lv_iload_n hx hb d_LF_count_0 rfl (lv_at hl 1 rfl) ?_
  refine lv_if_lt (tgt := 9) hx hb d_LF_count_1 (by decide) (fun h => absurd h (by decide +kernel)) (fun _ => ?_)
  refine lv_iload_n hx hb d_LF_count_4 rfl (lv_at hl 1 rfl) ?_
  refine lv_iconst (v := 5) hx hb d_LF_count_5 (by decide) ?_
  refine lv_icmp_lt (tgt := 19) hx hb d_LF_count_6 (by decide) (fun _ => ?_) (fun h => (h (by decide +kernel)).elim)
  refine lv_aload_n hx hb d_LF_count_19 rfl (lv_at hl 0 rfl) ?_
  refine va_get (D := (dC, dI)) (ci := 0) (v := .ref a1) (C := R_LF) (T := F_LF) (N := 8) hx hb hz zu_LF hown hK hP 0 rfl rfl 6 (by decide) (hz (.fieldLink R_LF 53 "LayoutFront" "counts" "[I") zm_109) (fun _ h9 => h9) rfl d_LF_count_20 ?_
  refine lv_iload_n hx hb d_LF_count_23 rfl (lv_at hl 1 rfl) ?_
  refine xr_iald (v := 0) hx hb hK hP 1 0 rfl rfl (xr_in (by decide +kernel)) (by decide +kernel) d_LF_count_24 ?_
  have hP9 := hP.sub (ws' := [(a0, .inr (0, [.ref a2, .ref a3, .ref a4, .ref a5, .ref a6, .ref a7, .ref a1, .int (-1)])), (a1, .inl (k0, 5, .inl (fun _ => 0)))]) [0, 1] rfl
  have hD9 := hD.sub (ws' := [(a0, .inr (0, [.ref a2, .ref a3, .ref a4, .ref a5, .ref a6, .ref a7, .ref a1, .int (-1)])), (a1, .inl (k0, 5, .inl (fun _ => 0)))]) [0, 1] (by decide) rfl
  have hK9 := hK.sub (tys' := [(k0, .int)]) [0] rfl
  exact W.iret (v := 0) hx hb hr (fun t ht hW => ⟨⟨0, (), rfl, rfl, by rw [ht]; exact hP9, va_K.moved hW.alike hK9, hD9⟩, hS.F ht⟩) hS.2.2 d_LF_count_25
set_option maxHeartbeats 4000000 in
set_option maxRecDepth 100000 in
theorem c131_Law_count (l : Launch) (dC : Nat → ClassId) (dI : Nat → Nat → Nat) (sz : Nat) (a0 : Nat) (a1 : Nat) (a2 : Nat) (a3 : Nat) (a4 : Nat) (a5 : Nat) (a6 : Nat) (a7 : Nat) (a8 : Nat) (k0 : ClassId) (k1 : ClassId) : Met l y_Law_count w_Law_count ({ frames := 1, cells := 0, slots := 0, locals := 21 }) (va_Pc [.ref a0, .int 3, .ref a1] (fun U => U.heap.size = sz ∧ va_P (dC, dI) vcl [(a0, .inr (0, [.ref a3, .ref a4, .ref a5, .ref a6, .ref a7, .ref a8, .ref a2, .int (-1)])), (a2, .inl (k0, 5, .inl (fun _ => 0))), (a1, .inl (k1, 1, .inr (.inl (fun _ => 0))))] U.heap ∧ va_K (dC, dI) vcl [(k0, .int), (k1, .long)] U ∧ va_D (fun _ => True) [(a0, .inr (0, [.ref a3, .ref a4, .ref a5, .ref a6, .ref a7, .ref a8, .ref a2, .int (-1)])), (a2, .inl (k0, 5, .inl (fun _ => 0))), (a1, .inl (k1, 1, .inr (.inl (fun _ => 0))))])) (va_Qi (fun (r : Int32) (_ : Unit) => r = 0) (fun _ t => va_P (dC, dI) vcl [(a0, .inr (0, [.ref a3, .ref a4, .ref a5, .ref a6, .ref a7, .ref a8, .ref a2, .int (-1)])), (a2, .inl (k0, 5, .inl (fun _ => 0))), (a1, .inl (k1, 1, .inr (.inl (vp_updL (fun _ => 0) 0 0))))] t.heap ∧ va_K (dC, dI) vcl [(k0, .int), (k1, .long)] t ∧ va_D (va_A [(a0, .inr (0, [.ref a3, .ref a4, .ref a5, .ref a6, .ref a7, .ref a8, .ref a2, .int (-1)])), (a2, .inl (k0, 5, .inl (fun _ => 0))), (a1, .inl (k1, 1, .inr (.inl (fun _ => 0))))] sz) [(a0, .inr (0, [.ref a3, .ref a4, .ref a5, .ref a6, .ref a7, .ref a8, .ref a2, .int (-1)])), (a2, .inl (k0, 5, .inl (fun _ => 0))), (a1, .inl (k1, 1, .inr (.inl (vp_updL (fun _ => 0) 0 0))))]) (va_A [(a0, .inr (0, [.ref a3, .ref a4, .ref a5, .ref a6, .ref a7, .ref a8, .ref a2, .int (-1)])), (a2, .inl (k0, 5, .inl (fun _ => 0))), (a1, .inl (k1, 1, .inr (.inl (fun _ => 0))))] sz)) 0 0 (va_A [(a0, .inr (0, [.ref a3, .ref a4, .ref a5, .ref a6, .ref a7, .ref a8, .ref a2, .int (-1)])), (a2, .inl (k0, 5, .inl (fun _ => 0))), (a1, .inl (k1, 1, .inr (.inl (fun _ => 0))))] sz) := by
  refine va_MetW (hh := [(0, 9, 12, 29)]) (cc := b_Law_count) (maxL := 4) (ret := (some .int)) (by decide) rfl ?_
  intro p e s m args below meth c s₁ B hml hv
  obtain ⟨rfl, hsz, hP, hK, hD0⟩ := hv
  have hx := B.exec
  have hb := B.bytes
  have hr := B.returns
  have hts := atoms_spec (ws := w_Law_count) B.pre
  have hz : ∀ w ∈ wz, w.before _ s = true := fun w h => hts w (List.mem_cons_of_mem _ h)
  have hown : s.vm.findClass R_Law = some m.cls := findClass_of_methodNamed B.named
  have hlocks := B.notSynchronized
  subst hsz
  have hD := hD0.self (sz := s.heap.size)
  generalize hAe : va_A [(a0, .inr (0, [.ref a3, .ref a4, .ref a5, .ref a6, .ref a7, .ref a8, .ref a2, .int (-1)])), (a2, .inl (k0, 5, .inl (fun _ => 0))), (a1, .inl (k1, 1, .inr (.inl (fun _ => 0))))] s.heap.size = A at hD ⊢
  have hA : ∀ q : Nat, s.heap.size ≤ q → A q := fun q h => by rw [← hAe]; exact Or.inr h
  have hS : va_S A s.heap s.heap [] := va_S.rf
  have hP : va_P (dC, dI) vcl [(a0, .inr (0, [.ref a3, .ref a4, .ref a5, .ref a6, .ref a7, .ref a8, .ref a2, .int (-1)])), (a2, .inl (k0, 5, .inl (fun _ => 0))), (a1, .inl (k1, 1, .inr (.inl (fun _ => 0))))] s.heap := hP
  have hl := lv_entry ([.ref a0, .int 3, .ref a1]) (n := 4) (Nat.le_of_ble_eq_true rfl)
  rw [lg_entry_eq]
  generalize (lg_sl ([.ref a0, .int 3, .ref a1]) ++ List.replicate (4 - (lg_sl ([.ref a0, .int 3, .ref a1])).length) Slot.unset).toArray = ls at hl ⊢
  have hl : lv_has ls 4 [(0, .ref a0), (1, .int 3), (2, .ref a1)] := hl
  refine lv_aload_n hx hb d_Law_count_0 rfl (lv_at hl 2 rfl) ?_
  refine lv_iconst (v := 0) hx hb d_Law_count_1 (by decide) ?_
  refine lv_aload_n hx hb d_Law_count_2 rfl (lv_at hl 0 rfl) ?_
  refine lv_iload_n hx hb d_Law_count_3 rfl (lv_at hl 1 rfl) ?_
  have hPc := hP.sub (ws' := [(a0, .inr (0, [.ref a3, .ref a4, .ref a5, .ref a6, .ref a7, .ref a8, .ref a2, .int (-1)])), (a2, .inl (k0, 5, .inl (fun _ => 0)))]) [0, 1] rfl
  have hDc := hD.sub (ws' := [(a0, .inr (0, [.ref a3, .ref a4, .ref a5, .ref a6, .ref a7, .ref a8, .ref a2, .int (-1)])), (a2, .inl (k0, 5, .inl (fun _ => 0)))]) [0, 1] (by decide) rfl
  have hKc := hK.sub (tys' := [(k0, .int)]) [0] rfl
  have hFc := va_free (wc := [(a0, .inr (0, [.ref a3, .ref a4, .ref a5, .ref a6, .ref a7, .ref a8, .ref a2, .int (-1)])), (a2, .inl (k0, 5, .inl (fun _ => 0)))]) hD hS hA [0, 1] rfl
  refine va_calli (va_runV (As := [.int 3]) (rest := [.int 0, .ref a1]) ⟨hx, hb, hml, hown, hz⟩ (c130_LF_count l dC dI s.heap.size a0 a2 a3 a4 a5 a6 a7 a8 k0) (cwV 1 hz (zV zm_445 zm_446 zm_447 zm_333 zm_448) rfl rfl rfl (by decide +kernel) ⟨Nat.le_of_ble_eq_true rfl, Nat.le_of_ble_eq_true rfl⟩) ⟨fun a U g mk q => by obtain ⟨q0, q1, qP, qK, qD⟩ := q; exact ⟨q0, q1, qP, va_K.moved (u := U) (U := U.calling g mk a) (Vm.Alike.refl U.vm) qK, qD⟩, va_recv (q := (R_LF, F_LF, 8)) (q0 := 0) (ci := 0) hK hP rfl rfl, fun U hU hW => ⟨rfl, by rw [hU], by rw [hU]; exact hPc, va_K.moved hW.alike hKc, hDc.weaken (fun _ _ _ _ => trivial)⟩⟩ rfl rfl hl.1 rfl (lv_room (Nat.le_of_ble_eq_true rfl)) d_Law_count_4 ⟨by decide, by decide⟩) hS (fun q _ h => hFc q h) hFc (fun r u t H1 locs ht hvm hw hB hz1 hk1 hS => ?_)
  obtain ⟨hP1, hK1, hD1⟩ := hB
  subst r
  rw [ht] at hP1
  obtain ⟨hP, hD⟩ := va_join (wr := [(a1, .inl (k1, 1, .inr (.inl (fun _ => 0))))]) (w1 := [(a0, .inr (0, [.ref a3, .ref a4, .ref a5, .ref a6, .ref a7, .ref a8, .ref a2, .int (-1)])), (a2, .inl (k0, 5, .inl (fun _ => 0)))]) hP hD [0, 1] [2] rfl rfl (by decide) (by decide) hk1 hFc hP1 hD1
  generalize H1 = H at hP hS ⊢
  have hP : va_P (dC, dI) vcl [(a1, .inl (k1, 1, .inr (.inl (fun _ => 0)))), (a0, .inr (0, [.ref a3, .ref a4, .ref a5, .ref a6, .ref a7, .ref a8, .ref a2, .int (-1)])), (a2, .inl (k0, 5, .inl (fun _ => 0)))] H := hP
  have hD : va_D A [(a1, .inl (k1, 1, .inr (.inl (fun _ => 0)))), (a0, .inr (0, [.ref a3, .ref a4, .ref a5, .ref a6, .ref a7, .ref a8, .ref a2, .int (-1)])), (a2, .inl (k0, 5, .inl (fun _ => 0)))] := hD
  refine lv_i2l (v := 0) hx hb d_Law_count_7 (by decide +kernel) ?_
  refine xr_last (j := 0) hx hb hK hP hD hS 0 1 rfl rfl (xr_in (by decide +kernel)) (by decide +kernel) d_Law_count_8 (fun H locs hP hD hS => ?_)
  have hP : va_P (dC, dI) vcl [(a1, .inl (k1, 1, .inr (.inl (vp_updL (fun _ => 0) 0 0)))), (a0, .inr (0, [.ref a3, .ref a4, .ref a5, .ref a6, .ref a7, .ref a8, .ref a2, .int (-1)])), (a2, .inl (k0, 5, .inl (fun _ => 0)))] H := hP
  have hD : va_D A [(a1, .inl (k1, 1, .inr (.inl (vp_updL (fun _ => 0) 0 0)))), (a0, .inr (0, [.ref a3, .ref a4, .ref a5, .ref a6, .ref a7, .ref a8, .ref a2, .int (-1)])), (a2, .inl (k0, 5, .inl (fun _ => 0)))] := hD
  refine lv_goto (tgt := 15) hx hb d_Law_count_9 (by decide) ?_
  refine lv_iconst (v := 0) hx hb d_Law_count_15 (by decide) ?_
  have hP9 := hP.sub (ws' := [(a0, .inr (0, [.ref a3, .ref a4, .ref a5, .ref a6, .ref a7, .ref a8, .ref a2, .int (-1)])), (a2, .inl (k0, 5, .inl (fun _ => 0))), (a1, .inl (k1, 1, .inr (.inl (vp_updL (fun _ => 0) 0 0))))]) [1, 2, 0] rfl
  have hD9 := hD.sub (ws' := [(a0, .inr (0, [.ref a3, .ref a4, .ref a5, .ref a6, .ref a7, .ref a8, .ref a2, .int (-1)])), (a2, .inl (k0, 5, .inl (fun _ => 0))), (a1, .inl (k1, 1, .inr (.inl (vp_updL (fun _ => 0) 0 0))))]) [1, 2, 0] (by decide) rfl
  have hK9 := hK.sub (tys' := [(k0, .int), (k1, .long)]) [0, 1] rfl
  exact W.iret (v := 0) hx hb hr (fun t ht hW => ⟨⟨0, (), rfl, rfl, by rw [ht]; exact hP9, va_K.moved hW.alike hK9, hD9⟩, hS.F ht⟩) hS.2.2 d_Law_count_16
set_option maxHeartbeats 4000000 in
set_option maxRecDepth 100000 in
theorem c132_Model_within (l : Launch) (dC : Nat → ClassId) (dI : Nat → Nat → Nat) (sz : Nat) : Met l y_Model_within w_Model_within ({ frames := 0, cells := 0, slots := 0, locals := 0 }) (va_Pc [.int 3, .int 0, .int 4] (fun U => U.heap.size = sz ∧ va_P (dC, dI) vcl [] U.heap ∧ va_K (dC, dI) vcl [] U ∧ va_D (fun _ => True) [])) (va_Qi (fun (r : Int32) (_ : Unit) => r = 1) (fun _ t => va_P (dC, dI) vcl [] t.heap ∧ va_K (dC, dI) vcl [] t ∧ va_D (va_A [] sz) []) (va_A [] sz)) 0 0 (va_A [] sz) := by
  refine Met.ofW (cc := b_Model_within) (maxL := 3) (ret := (some .boolean)) (by decide) rfl ?_
  intro p e s m args below meth c s₁ B hml hv
  obtain ⟨rfl, hsz, hP, hK, hD0⟩ := hv
  have hx := B.exec
  have hb := B.bytes
  have hr := B.returns
  have hts := atoms_spec (ws := w_Model_within) B.pre
  have hz : ∀ w ∈ wz, w.before _ s = true := fun w h => hts w (List.mem_cons_of_mem _ h)
  have hown : s.vm.findClass R_Model = some m.cls := findClass_of_methodNamed B.named
  have hlocks := B.notSynchronized
  subst hsz
  have hD := hD0.self (sz := s.heap.size)
  generalize hAe : va_A [] s.heap.size = A at hD ⊢
  have hA : ∀ q : Nat, s.heap.size ≤ q → A q := fun q h => by rw [← hAe]; exact Or.inr h
  have hS : va_S A s.heap s.heap [] := va_S.rf
  have hP : va_P (dC, dI) vcl [] s.heap := hP
  have hl := lv_entry ([.int 3, .int 0, .int 4]) (n := 3) (Nat.le_of_ble_eq_true rfl)
  rw [lg_entry_eq]
  generalize (lg_sl ([.int 3, .int 0, .int 4]) ++ List.replicate (3 - (lg_sl ([.int 3, .int 0, .int 4])).length) Slot.unset).toArray = ls at hl ⊢
  have hl : lv_has ls 3 [(0, .int 3), (1, .int 0), (2, .int 4)] := hl
  refine lv_iload_n hx hb d_Model_within_0 rfl (lv_at hl 0 rfl) ?_
  refine lv_iload_n hx hb d_Model_within_1 rfl (lv_at hl 1 rfl) ?_
  refine lv_icmp_lt (tgt := 14) hx hb d_Model_within_2 (by decide) (fun h => absurd h (by decide +kernel)) (fun _ => ?_)
  refine lv_iload_n hx hb d_Model_within_5 rfl (lv_at hl 0 rfl) ?_
  refine lv_iload_n hx hb d_Model_within_6 rfl (lv_at hl 2 rfl) ?_
  refine lv_icmp_gt (tgt := 14) hx hb d_Model_within_7 (by decide) (fun h => absurd h (by decide +kernel)) (fun _ => ?_)
  refine lv_iconst (v := 1) hx hb d_Model_within_10 (by decide) ?_
  refine lv_goto (tgt := 15) hx hb d_Model_within_11 (by decide) ?_
  have hP9 := hP.sub (ws' := []) [] rfl
  have hD9 := hD.sub (ws' := []) [] (by decide) rfl
  have hK9 := hK.sub (tys' := []) [] rfl
  exact W.zret (v := 1) hx hb hr (by decide +kernel) (fun t ht hW => ⟨⟨1, (), rfl, rfl, by rw [ht]; exact hP9, va_K.moved hW.alike hK9, hD9⟩, hS.F ht⟩) hS.2.2 d_Model_within_15
set_option maxHeartbeats 4000000 in
set_option maxRecDepth 100000 in
theorem c133_Model_count (l : Launch) (dC : Nat → ClassId) (dI : Nat → Nat → Nat) (sz : Nat) (a0 : Nat) (a1 : Nat) (a2 : Nat) (a3 : Nat) (a4 : Nat) (a5 : Nat) (a6 : Nat) (a7 : Nat) (a8 : Nat) (a9 : Nat) (a10 : Nat) (a11 : Nat) (a12 : Nat) (a13 : Nat) (a14 : Nat) (a15 : Nat) (a16 : Nat) (a17 : Nat) (a18 : Nat) (a19 : Nat) (a20 : Nat) (a21 : Nat) (a22 : Nat) (a23 : Nat) (a24 : Nat) (a25 : Nat) (a26 : Nat) (a27 : Nat) : Met l y_Model_count w_Model_count ({ frames := 1, cells := 0, slots := 0, locals := 22 }) (va_Pc [.ref a0, .int 3] (fun U => U.heap.size = sz ∧ va_P (dC, dI) vcl [(a0, .inr (1, [.int 0, .int 0, .ref a1, .int 0, .int (-1), .int 0, .int 0, .ref a2, .ref a3, .ref a4, .ref a5, .ref a6, .int 0, .int 0, .ref a7, .int 0, .int 0, .ref a8, .ref a9, .ref a10, .ref a11, .ref a12, .ref a13, .int 0, .ref a14, .ref a15, .int 0, .int 0, .int 0, .int 0, .int 0, .int 0, .ref a16, .ref a17, .ref a18, .int 0, .int 0, .int 0, .int 0, .int 0, .int 0, .ref a19, .ref a20, .ref a21, .ref a22, .ref a23, .ref a24, .ref a25, .ref a26, .ref a27]))] U.heap ∧ va_K (dC, dI) vcl [] U ∧ va_D (fun _ => True) [(a0, .inr (1, [.int 0, .int 0, .ref a1, .int 0, .int (-1), .int 0, .int 0, .ref a2, .ref a3, .ref a4, .ref a5, .ref a6, .int 0, .int 0, .ref a7, .int 0, .int 0, .ref a8, .ref a9, .ref a10, .ref a11, .ref a12, .ref a13, .int 0, .ref a14, .ref a15, .int 0, .int 0, .int 0, .int 0, .int 0, .int 0, .ref a16, .ref a17, .ref a18, .int 0, .int 0, .int 0, .int 0, .int 0, .int 0, .ref a19, .ref a20, .ref a21, .ref a22, .ref a23, .ref a24, .ref a25, .ref a26, .ref a27]))])) (va_Qi (fun (r : Int32) (_ : Unit) => r = 0) (fun _ t => va_P (dC, dI) vcl [(a0, .inr (1, [.int 0, .int 0, .ref a1, .int 0, .int (-1), .int 0, .int 0, .ref a2, .ref a3, .ref a4, .ref a5, .ref a6, .int 0, .int 0, .ref a7, .int 0, .int 0, .ref a8, .ref a9, .ref a10, .ref a11, .ref a12, .ref a13, .int 0, .ref a14, .ref a15, .int 0, .int 0, .int 0, .int 0, .int 0, .int 0, .ref a16, .ref a17, .ref a18, .int 0, .int 0, .int 0, .int 0, .int 0, .int 0, .ref a19, .ref a20, .ref a21, .ref a22, .ref a23, .ref a24, .ref a25, .ref a26, .ref a27]))] t.heap ∧ va_K (dC, dI) vcl [] t ∧ va_D (va_A [(a0, .inr (1, [.int 0, .int 0, .ref a1, .int 0, .int (-1), .int 0, .int 0, .ref a2, .ref a3, .ref a4, .ref a5, .ref a6, .int 0, .int 0, .ref a7, .int 0, .int 0, .ref a8, .ref a9, .ref a10, .ref a11, .ref a12, .ref a13, .int 0, .ref a14, .ref a15, .int 0, .int 0, .int 0, .int 0, .int 0, .int 0, .ref a16, .ref a17, .ref a18, .int 0, .int 0, .int 0, .int 0, .int 0, .int 0, .ref a19, .ref a20, .ref a21, .ref a22, .ref a23, .ref a24, .ref a25, .ref a26, .ref a27]))] sz) [(a0, .inr (1, [.int 0, .int 0, .ref a1, .int 0, .int (-1), .int 0, .int 0, .ref a2, .ref a3, .ref a4, .ref a5, .ref a6, .int 0, .int 0, .ref a7, .int 0, .int 0, .ref a8, .ref a9, .ref a10, .ref a11, .ref a12, .ref a13, .int 0, .ref a14, .ref a15, .int 0, .int 0, .int 0, .int 0, .int 0, .int 0, .ref a16, .ref a17, .ref a18, .int 0, .int 0, .int 0, .int 0, .int 0, .int 0, .ref a19, .ref a20, .ref a21, .ref a22, .ref a23, .ref a24, .ref a25, .ref a26, .ref a27]))]) (va_A [(a0, .inr (1, [.int 0, .int 0, .ref a1, .int 0, .int (-1), .int 0, .int 0, .ref a2, .ref a3, .ref a4, .ref a5, .ref a6, .int 0, .int 0, .ref a7, .int 0, .int 0, .ref a8, .ref a9, .ref a10, .ref a11, .ref a12, .ref a13, .int 0, .ref a14, .ref a15, .int 0, .int 0, .int 0, .int 0, .int 0, .int 0, .ref a16, .ref a17, .ref a18, .int 0, .int 0, .int 0, .int 0, .int 0, .int 0, .ref a19, .ref a20, .ref a21, .ref a22, .ref a23, .ref a24, .ref a25, .ref a26, .ref a27]))] sz)) 0 0 (va_A [(a0, .inr (1, [.int 0, .int 0, .ref a1, .int 0, .int (-1), .int 0, .int 0, .ref a2, .ref a3, .ref a4, .ref a5, .ref a6, .int 0, .int 0, .ref a7, .int 0, .int 0, .ref a8, .ref a9, .ref a10, .ref a11, .ref a12, .ref a13, .int 0, .ref a14, .ref a15, .int 0, .int 0, .int 0, .int 0, .int 0, .int 0, .ref a16, .ref a17, .ref a18, .int 0, .int 0, .int 0, .int 0, .int 0, .int 0, .ref a19, .ref a20, .ref a21, .ref a22, .ref a23, .ref a24, .ref a25, .ref a26, .ref a27]))] sz) := by
  refine Met.ofW (cc := b_Model_count) (maxL := 2) (ret := (some .int)) (by decide) rfl ?_
  intro p e s m args below meth c s₁ B hml hv
  obtain ⟨rfl, hsz, hP, hK, hD0⟩ := hv
  have hx := B.exec
  have hb := B.bytes
  have hr := B.returns
  have hts := atoms_spec (ws := w_Model_count) B.pre
  have hz : ∀ w ∈ wz, w.before _ s = true := fun w h => hts w (List.mem_cons_of_mem _ h)
  have hown : s.vm.findClass R_Model = some m.cls := findClass_of_methodNamed B.named
  have hlocks := B.notSynchronized
  subst hsz
  have hD := hD0.self (sz := s.heap.size)
  generalize hAe : va_A [(a0, .inr (1, [.int 0, .int 0, .ref a1, .int 0, .int (-1), .int 0, .int 0, .ref a2, .ref a3, .ref a4, .ref a5, .ref a6, .int 0, .int 0, .ref a7, .int 0, .int 0, .ref a8, .ref a9, .ref a10, .ref a11, .ref a12, .ref a13, .int 0, .ref a14, .ref a15, .int 0, .int 0, .int 0, .int 0, .int 0, .int 0, .ref a16, .ref a17, .ref a18, .int 0, .int 0, .int 0, .int 0, .int 0, .int 0, .ref a19, .ref a20, .ref a21, .ref a22, .ref a23, .ref a24, .ref a25, .ref a26, .ref a27]))] s.heap.size = A at hD ⊢
  have hA : ∀ q : Nat, s.heap.size ≤ q → A q := fun q h => by rw [← hAe]; exact Or.inr h
  have hS : va_S A s.heap s.heap [] := va_S.rf
  have hP : va_P (dC, dI) vcl [(a0, .inr (1, [.int 0, .int 0, .ref a1, .int 0, .int (-1), .int 0, .int 0, .ref a2, .ref a3, .ref a4, .ref a5, .ref a6, .int 0, .int 0, .ref a7, .int 0, .int 0, .ref a8, .ref a9, .ref a10, .ref a11, .ref a12, .ref a13, .int 0, .ref a14, .ref a15, .int 0, .int 0, .int 0, .int 0, .int 0, .int 0, .ref a16, .ref a17, .ref a18, .int 0, .int 0, .int 0, .int 0, .int 0, .int 0, .ref a19, .ref a20, .ref a21, .ref a22, .ref a23, .ref a24, .ref a25, .ref a26, .ref a27]))] s.heap := hP
  have hl := lv_entry ([.ref a0, .int 3]) (n := 2) (Nat.le_of_ble_eq_true rfl)
  rw [lg_entry_eq]
  generalize (lg_sl ([.ref a0, .int 3]) ++ List.replicate (2 - (lg_sl ([.ref a0, .int 3])).length) Slot.unset).toArray = ls at hl ⊢
  have hl : lv_has ls 2 [(0, .ref a0), (1, .int 3)] := hl
  refine lv_aload_n hx hb d_Model_count_0 rfl (lv_at hl 0 rfl) ?_
  refine lv_iconst (v := 0) hx hb d_Model_count_1 (by decide) ?_
  refine va_put (D := (dC, dI)) (ci := 1) (v := .int 0) (ty := .int) (C := R_Model) (T := F_Model) (N := 50) hx hb hz zu_Model t_Model t_Model_ok n_Model hown hK hP hD hS 0 rfl rfl 0 (by decide) (hz (.fieldLink R_Model 97 "LayoutFrontModel" "thrown" "I") zm_415) (fun _ h9 => h9) rfl (by decide +kernel) rfl rfl (Nat.le_of_ble_eq_true rfl) d_Model_count_2 (fun H locs hP hD hS => ?_)
  have hP : va_P (dC, dI) vcl [(a0, .inr (1, [.int 0, .int 0, .ref a1, .int 0, .int (-1), .int 0, .int 0, .ref a2, .ref a3, .ref a4, .ref a5, .ref a6, .int 0, .int 0, .ref a7, .int 0, .int 0, .ref a8, .ref a9, .ref a10, .ref a11, .ref a12, .ref a13, .int 0, .ref a14, .ref a15, .int 0, .int 0, .int 0, .int 0, .int 0, .int 0, .ref a16, .ref a17, .ref a18, .int 0, .int 0, .int 0, .int 0, .int 0, .int 0, .ref a19, .ref a20, .ref a21, .ref a22, .ref a23, .ref a24, .ref a25, .ref a26, .ref a27]))] H := hP
  have hD : va_D A [(a0, .inr (1, [.int 0, .int 0, .ref a1, .int 0, .int (-1), .int 0, .int 0, .ref a2, .ref a3, .ref a4, .ref a5, .ref a6, .int 0, .int 0, .ref a7, .int 0, .int 0, .ref a8, .ref a9, .ref a10, .ref a11, .ref a12, .ref a13, .int 0, .ref a14, .ref a15, .int 0, .int 0, .int 0, .int 0, .int 0, .int 0, .ref a16, .ref a17, .ref a18, .int 0, .int 0, .int 0, .int 0, .int 0, .int 0, .ref a19, .ref a20, .ref a21, .ref a22, .ref a23, .ref a24, .ref a25, .ref a26, .ref a27]))] := hD
  refine lv_iload_n hx hb d_Model_count_5 rfl (lv_at hl 1 rfl) ?_
  refine lv_iconst (v := 0) hx hb d_Model_count_6 (by decide) ?_
  refine lv_iconst (v := 4) hx hb d_Model_count_7 (by decide) ?_
  have hPc := hP.sub (ws' := []) [] rfl
  have hDc := hD.sub (ws' := []) [] (by decide) rfl
  have hKc := hK.sub (tys' := []) [] rfl
  have hFc := va_free (wc := []) hD hS hA [] rfl
  refine va_calli (va_runS (As := [.int 3, .int 0, .int 4]) (rest := []) ⟨hx, hb, hml, hown, hz⟩ (c132_Model_within l dC dI H.size) (cwS 3 hz (zS zm_449 zm_450 zm_374 zm_451) rfl rfl rfl (by decide +kernel) ⟨Nat.le_of_ble_eq_true rfl, Nat.le_of_ble_eq_true rfl⟩) ⟨fun a U g mk q => by obtain ⟨q0, q1, qP, qK, qD⟩ := q; exact ⟨q0, q1, qP, va_K.moved (u := U) (U := U.calling g mk a) (Vm.Alike.refl U.vm) qK, qD⟩, fun U hU hW => ⟨rfl, by rw [hU], by rw [hU]; exact hPc, va_K.moved hW.alike hKc, hDc.weaken (fun _ _ _ _ => trivial)⟩⟩ rfl rfl hl.1 rfl (lv_room (Nat.le_of_ble_eq_true rfl)) d_Model_count_8 ⟨by decide, by decide⟩) hS (fun q _ h => hFc q h) hFc (fun r u t H1 locs ht hvm hw hB hz1 hk1 hS => ?_)
  obtain ⟨hP1, hK1, hD1⟩ := hB
  subst r
  rw [ht] at hP1
  obtain ⟨hP, hD⟩ := va_join (wr := [(a0, .inr (1, [.int 0, .int 0, .ref a1, .int 0, .int (-1), .int 0, .int 0, .ref a2, .ref a3, .ref a4, .ref a5, .ref a6, .int 0, .int 0, .ref a7, .int 0, .int 0, .ref a8, .ref a9, .ref a10, .ref a11, .ref a12, .ref a13, .int 0, .ref a14, .ref a15, .int 0, .int 0, .int 0, .int 0, .int 0, .int 0, .ref a16, .ref a17, .ref a18, .int 0, .int 0, .int 0, .int 0, .int 0, .int 0, .ref a19, .ref a20, .ref a21, .ref a22, .ref a23, .ref a24, .ref a25, .ref a26, .ref a27]))]) (w1 := []) hP hD [] [0] rfl rfl (by decide) (by decide) hk1 hFc hP1 hD1
  generalize H1 = H at hP hS ⊢
  have hP : va_P (dC, dI) vcl [(a0, .inr (1, [.int 0, .int 0, .ref a1, .int 0, .int (-1), .int 0, .int 0, .ref a2, .ref a3, .ref a4, .ref a5, .ref a6, .int 0, .int 0, .ref a7, .int 0, .int 0, .ref a8, .ref a9, .ref a10, .ref a11, .ref a12, .ref a13, .int 0, .ref a14, .ref a15, .int 0, .int 0, .int 0, .int 0, .int 0, .int 0, .ref a16, .ref a17, .ref a18, .int 0, .int 0, .int 0, .int 0, .int 0, .int 0, .ref a19, .ref a20, .ref a21, .ref a22, .ref a23, .ref a24, .ref a25, .ref a26, .ref a27]))] H := hP
  have hD : va_D A [(a0, .inr (1, [.int 0, .int 0, .ref a1, .int 0, .int (-1), .int 0, .int 0, .ref a2, .ref a3, .ref a4, .ref a5, .ref a6, .int 0, .int 0, .ref a7, .int 0, .int 0, .ref a8, .ref a9, .ref a10, .ref a11, .ref a12, .ref a13, .int 0, .ref a14, .ref a15, .int 0, .int 0, .int 0, .int 0, .int 0, .int 0, .ref a16, .ref a17, .ref a18, .int 0, .int 0, .int 0, .int 0, .int 0, .int 0, .ref a19, .ref a20, .ref a21, .ref a22, .ref a23, .ref a24, .ref a25, .ref a26, .ref a27]))] := hD
  refine lv_if_ne (tgt := 20) hx hb d_Model_count_11 (by decide) (fun _ => ?_) (fun h => absurd h (by decide +kernel))
  refine lv_iload_n hx hb d_Model_count_20 rfl (lv_at hl 1 rfl) ?_
  refine lv_iconst (v := 3) hx hb d_Model_count_21 (by decide) ?_
  refine lv_icmp_ge (tgt := 53) hx hb d_Model_count_22 (by decide) (fun _ => ?_) (fun h => (h (by decide +kernel)).elim)
  refine lv_iload_n hx hb d_Model_count_53 rfl (lv_at hl 1 rfl) ?_
  refine lv_iconst (v := 3) hx hb d_Model_count_54 (by decide) ?_
  refine lv_icmp_ne (tgt := 65) hx hb d_Model_count_55 (by decide) (fun h => (h (by decide +kernel)).elim) (fun _ => ?_)
  refine lv_aload_n hx hb d_Model_count_58 rfl (lv_at hl 0 rfl) ?_
  refine va_get (D := (dC, dI)) (ci := 1) (v := .int 0) (C := R_Model) (T := F_Model) (N := 50) hx hb hz zu_Model hown hK hP 0 rfl rfl 29 (by decide) (hz (.fieldLink R_Model 377 "LayoutFrontModel" "toldConflicts" "I") zm_435) (fun _ h9 => h9) rfl d_Model_count_59 ?_
  refine lv_goto (tgt := 69) hx hb d_Model_count_62 (by decide) ?_
  have hP9 := hP.sub (ws' := [(a0, .inr (1, [.int 0, .int 0, .ref a1, .int 0, .int (-1), .int 0, .int 0, .ref a2, .ref a3, .ref a4, .ref a5, .ref a6, .int 0, .int 0, .ref a7, .int 0, .int 0, .ref a8, .ref a9, .ref a10, .ref a11, .ref a12, .ref a13, .int 0, .ref a14, .ref a15, .int 0, .int 0, .int 0, .int 0, .int 0, .int 0, .ref a16, .ref a17, .ref a18, .int 0, .int 0, .int 0, .int 0, .int 0, .int 0, .ref a19, .ref a20, .ref a21, .ref a22, .ref a23, .ref a24, .ref a25, .ref a26, .ref a27]))]) [0] rfl
  have hD9 := hD.sub (ws' := [(a0, .inr (1, [.int 0, .int 0, .ref a1, .int 0, .int (-1), .int 0, .int 0, .ref a2, .ref a3, .ref a4, .ref a5, .ref a6, .int 0, .int 0, .ref a7, .int 0, .int 0, .ref a8, .ref a9, .ref a10, .ref a11, .ref a12, .ref a13, .int 0, .ref a14, .ref a15, .int 0, .int 0, .int 0, .int 0, .int 0, .int 0, .ref a16, .ref a17, .ref a18, .int 0, .int 0, .int 0, .int 0, .int 0, .int 0, .ref a19, .ref a20, .ref a21, .ref a22, .ref a23, .ref a24, .ref a25, .ref a26, .ref a27]))]) [0] (by decide) rfl
  have hK9 := hK.sub (tys' := []) [] rfl
  exact W.iret (v := 0) hx hb hr (fun t ht hW => ⟨⟨0, (), rfl, rfl, by rw [ht]; exact hP9, va_K.moved hW.alike hK9, hD9⟩, hS.F ht⟩) hS.2.2 d_Model_count_69
set_option maxHeartbeats 4000000 in
set_option maxRecDepth 100000 in
theorem c134_LF_count (l : Launch) (dC : Nat → ClassId) (dI : Nat → Nat → Nat) (sz : Nat) (a0 : Nat) (a1 : Nat) (a2 : Nat) (a3 : Nat) (a4 : Nat) (a5 : Nat) (a6 : Nat) (a7 : Nat) (k0 : ClassId) : Met l y_LF_count w_LF_count ({ frames := 0, cells := 0, slots := 0, locals := 0 }) (va_Pc [.ref a0, .int 4] (fun U => U.heap.size = sz ∧ va_P (dC, dI) vcl [(a0, .inr (0, [.ref a2, .ref a3, .ref a4, .ref a5, .ref a6, .ref a7, .ref a1, .int (-1)])), (a1, .inl (k0, 5, .inl (fun _ => 0)))] U.heap ∧ va_K (dC, dI) vcl [(k0, .int)] U ∧ va_D (fun _ => True) [(a0, .inr (0, [.ref a2, .ref a3, .ref a4, .ref a5, .ref a6, .ref a7, .ref a1, .int (-1)])), (a1, .inl (k0, 5, .inl (fun _ => 0)))])) (va_Qi (fun (r : Int32) (_ : Unit) => r = 0) (fun _ t => va_P (dC, dI) vcl [(a0, .inr (0, [.ref a2, .ref a3, .ref a4, .ref a5, .ref a6, .ref a7, .ref a1, .int (-1)])), (a1, .inl (k0, 5, .inl (fun _ => 0)))] t.heap ∧ va_K (dC, dI) vcl [(k0, .int)] t ∧ va_D (va_A [(a0, .inr (0, [.ref a2, .ref a3, .ref a4, .ref a5, .ref a6, .ref a7, .ref a1, .int (-1)])), (a1, .inl (k0, 5, .inl (fun _ => 0)))] sz) [(a0, .inr (0, [.ref a2, .ref a3, .ref a4, .ref a5, .ref a6, .ref a7, .ref a1, .int (-1)])), (a1, .inl (k0, 5, .inl (fun _ => 0)))]) (va_A [(a0, .inr (0, [.ref a2, .ref a3, .ref a4, .ref a5, .ref a6, .ref a7, .ref a1, .int (-1)])), (a1, .inl (k0, 5, .inl (fun _ => 0)))] sz)) 0 0 (va_A [(a0, .inr (0, [.ref a2, .ref a3, .ref a4, .ref a5, .ref a6, .ref a7, .ref a1, .int (-1)])), (a1, .inl (k0, 5, .inl (fun _ => 0)))] sz) := by
  refine Met.ofW (cc := b_LF_count) (maxL := 2) (ret := (some .int)) (by decide) rfl ?_
  intro p e s m args below meth c s₁ B hml hv
  obtain ⟨rfl, hsz, hP, hK, hD0⟩ := hv
  have hx := B.exec
  have hb := B.bytes
  have hr := B.returns
  have hts := atoms_spec (ws := w_LF_count) B.pre
  have hz : ∀ w ∈ wz, w.before _ s = true := fun w h => hts w (List.mem_cons_of_mem _ h)
  have hown : s.vm.findClass R_LF = some m.cls := findClass_of_methodNamed B.named
  have hlocks := B.notSynchronized
  subst hsz
  have hD := hD0.self (sz := s.heap.size)
  generalize hAe : va_A [(a0, .inr (0, [.ref a2, .ref a3, .ref a4, .ref a5, .ref a6, .ref a7, .ref a1, .int (-1)])), (a1, .inl (k0, 5, .inl (fun _ => 0)))] s.heap.size = A at hD ⊢
  have hA : ∀ q : Nat, s.heap.size ≤ q → A q := fun q h => by rw [← hAe]; exact Or.inr h
  have hS : va_S A s.heap s.heap [] := va_S.rf
  have hP : va_P (dC, dI) vcl [(a0, .inr (0, [.ref a2, .ref a3, .ref a4, .ref a5, .ref a6, .ref a7, .ref a1, .int (-1)])), (a1, .inl (k0, 5, .inl (fun _ => 0)))] s.heap := hP
  have hl := lv_entry ([.ref a0, .int 4]) (n := 2) (Nat.le_of_ble_eq_true rfl)
  rw [lg_entry_eq]
  generalize (lg_sl ([.ref a0, .int 4]) ++ List.replicate (2 - (lg_sl ([.ref a0, .int 4])).length) Slot.unset).toArray = ls at hl ⊢
  have hl : lv_has ls 2 [(0, .ref a0), (1, .int 4)] := hl
  refine lv_iload_n hx hb d_LF_count_0 rfl (lv_at hl 1 rfl) ?_
  refine lv_if_lt (tgt := 9) hx hb d_LF_count_1 (by decide) (fun h => absurd h (by decide +kernel)) (fun _ => ?_)
  refine lv_iload_n hx hb d_LF_count_4 rfl (lv_at hl 1 rfl) ?_
  refine lv_iconst (v := 5) hx hb d_LF_count_5 (by decide) ?_
  refine lv_icmp_lt (tgt := 19) hx hb d_LF_count_6 (by decide) (fun _ => ?_) (fun h => (h (by decide +kernel)).elim)
  refine lv_aload_n hx hb d_LF_count_19 rfl (lv_at hl 0 rfl) ?_
  refine va_get (D := (dC, dI)) (ci := 0) (v := .ref a1) (C := R_LF) (T := F_LF) (N := 8) hx hb hz zu_LF hown hK hP 0 rfl rfl 6 (by decide) (hz (.fieldLink R_LF 53 "LayoutFront" "counts" "[I") zm_109) (fun _ h9 => h9) rfl d_LF_count_20 ?_
  refine lv_iload_n hx hb d_LF_count_23 rfl (lv_at hl 1 rfl) ?_
  refine xr_iald (v := 0) hx hb hK hP 1 0 rfl rfl (xr_in (by decide +kernel)) (by decide +kernel) d_LF_count_24 ?_
  have hP9 := hP.sub (ws' := [(a0, .inr (0, [.ref a2, .ref a3, .ref a4, .ref a5, .ref a6, .ref a7, .ref a1, .int (-1)])), (a1, .inl (k0, 5, .inl (fun _ => 0)))]) [0, 1] rfl
  have hD9 := hD.sub (ws' := [(a0, .inr (0, [.ref a2, .ref a3, .ref a4, .ref a5, .ref a6, .ref a7, .ref a1, .int (-1)])), (a1, .inl (k0, 5, .inl (fun _ => 0)))]) [0, 1] (by decide) rfl
  have hK9 := hK.sub (tys' := [(k0, .int)]) [0] rfl
  exact W.iret (v := 0) hx hb hr (fun t ht hW => ⟨⟨0, (), rfl, rfl, by rw [ht]; exact hP9, va_K.moved hW.alike hK9, hD9⟩, hS.F ht⟩) hS.2.2 d_LF_count_25
set_option maxHeartbeats 4000000 in
set_option maxRecDepth 100000 in
theorem c135_Law_count (l : Launch) (dC : Nat → ClassId) (dI : Nat → Nat → Nat) (sz : Nat) (a0 : Nat) (a1 : Nat) (a2 : Nat) (a3 : Nat) (a4 : Nat) (a5 : Nat) (a6 : Nat) (a7 : Nat) (a8 : Nat) (k0 : ClassId) (k1 : ClassId) : Met l y_Law_count w_Law_count ({ frames := 1, cells := 0, slots := 0, locals := 21 }) (va_Pc [.ref a0, .int 4, .ref a1] (fun U => U.heap.size = sz ∧ va_P (dC, dI) vcl [(a0, .inr (0, [.ref a3, .ref a4, .ref a5, .ref a6, .ref a7, .ref a8, .ref a2, .int (-1)])), (a2, .inl (k0, 5, .inl (fun _ => 0))), (a1, .inl (k1, 1, .inr (.inl (fun _ => 0))))] U.heap ∧ va_K (dC, dI) vcl [(k0, .int), (k1, .long)] U ∧ va_D (fun _ => True) [(a0, .inr (0, [.ref a3, .ref a4, .ref a5, .ref a6, .ref a7, .ref a8, .ref a2, .int (-1)])), (a2, .inl (k0, 5, .inl (fun _ => 0))), (a1, .inl (k1, 1, .inr (.inl (fun _ => 0))))])) (va_Qi (fun (r : Int32) (_ : Unit) => r = 0) (fun _ t => va_P (dC, dI) vcl [(a0, .inr (0, [.ref a3, .ref a4, .ref a5, .ref a6, .ref a7, .ref a8, .ref a2, .int (-1)])), (a2, .inl (k0, 5, .inl (fun _ => 0))), (a1, .inl (k1, 1, .inr (.inl (vp_updL (fun _ => 0) 0 0))))] t.heap ∧ va_K (dC, dI) vcl [(k0, .int), (k1, .long)] t ∧ va_D (va_A [(a0, .inr (0, [.ref a3, .ref a4, .ref a5, .ref a6, .ref a7, .ref a8, .ref a2, .int (-1)])), (a2, .inl (k0, 5, .inl (fun _ => 0))), (a1, .inl (k1, 1, .inr (.inl (fun _ => 0))))] sz) [(a0, .inr (0, [.ref a3, .ref a4, .ref a5, .ref a6, .ref a7, .ref a8, .ref a2, .int (-1)])), (a2, .inl (k0, 5, .inl (fun _ => 0))), (a1, .inl (k1, 1, .inr (.inl (vp_updL (fun _ => 0) 0 0))))]) (va_A [(a0, .inr (0, [.ref a3, .ref a4, .ref a5, .ref a6, .ref a7, .ref a8, .ref a2, .int (-1)])), (a2, .inl (k0, 5, .inl (fun _ => 0))), (a1, .inl (k1, 1, .inr (.inl (fun _ => 0))))] sz)) 0 0 (va_A [(a0, .inr (0, [.ref a3, .ref a4, .ref a5, .ref a6, .ref a7, .ref a8, .ref a2, .int (-1)])), (a2, .inl (k0, 5, .inl (fun _ => 0))), (a1, .inl (k1, 1, .inr (.inl (fun _ => 0))))] sz) := by
  refine va_MetW (hh := [(0, 9, 12, 29)]) (cc := b_Law_count) (maxL := 4) (ret := (some .int)) (by decide) rfl ?_
  intro p e s m args below meth c s₁ B hml hv
  obtain ⟨rfl, hsz, hP, hK, hD0⟩ := hv
  have hx := B.exec
  have hb := B.bytes
  have hr := B.returns
  have hts := atoms_spec (ws := w_Law_count) B.pre
  have hz : ∀ w ∈ wz, w.before _ s = true := fun w h => hts w (List.mem_cons_of_mem _ h)
  have hown : s.vm.findClass R_Law = some m.cls := findClass_of_methodNamed B.named
  have hlocks := B.notSynchronized
  subst hsz
  have hD := hD0.self (sz := s.heap.size)
  generalize hAe : va_A [(a0, .inr (0, [.ref a3, .ref a4, .ref a5, .ref a6, .ref a7, .ref a8, .ref a2, .int (-1)])), (a2, .inl (k0, 5, .inl (fun _ => 0))), (a1, .inl (k1, 1, .inr (.inl (fun _ => 0))))] s.heap.size = A at hD ⊢
  have hA : ∀ q : Nat, s.heap.size ≤ q → A q := fun q h => by rw [← hAe]; exact Or.inr h
  have hS : va_S A s.heap s.heap [] := va_S.rf
  have hP : va_P (dC, dI) vcl [(a0, .inr (0, [.ref a3, .ref a4, .ref a5, .ref a6, .ref a7, .ref a8, .ref a2, .int (-1)])), (a2, .inl (k0, 5, .inl (fun _ => 0))), (a1, .inl (k1, 1, .inr (.inl (fun _ => 0))))] s.heap := hP
  have hl := lv_entry ([.ref a0, .int 4, .ref a1]) (n := 4) (Nat.le_of_ble_eq_true rfl)
  rw [lg_entry_eq]
  generalize (lg_sl ([.ref a0, .int 4, .ref a1]) ++ List.replicate (4 - (lg_sl ([.ref a0, .int 4, .ref a1])).length) Slot.unset).toArray = ls at hl ⊢
  have hl : lv_has ls 4 [(0, .ref a0), (1, .int 4), (2, .ref a1)] := hl
  refine lv_aload_n hx hb d_Law_count_0 rfl (lv_at hl 2 rfl) ?_
  refine lv_iconst (v := 0) hx hb d_Law_count_1 (by decide) ?_
  refine lv_aload_n hx hb d_Law_count_2 rfl (lv_at hl 0 rfl) ?_
  refine lv_iload_n hx hb d_Law_count_3 rfl (lv_at hl 1 rfl) ?_
  have hPc := hP.sub (ws' := [(a0, .inr (0, [.ref a3, .ref a4, .ref a5, .ref a6, .ref a7, .ref a8, .ref a2, .int (-1)])), (a2, .inl (k0, 5, .inl (fun _ => 0)))]) [0, 1] rfl
  have hDc := hD.sub (ws' := [(a0, .inr (0, [.ref a3, .ref a4, .ref a5, .ref a6, .ref a7, .ref a8, .ref a2, .int (-1)])), (a2, .inl (k0, 5, .inl (fun _ => 0)))]) [0, 1] (by decide) rfl
  have hKc := hK.sub (tys' := [(k0, .int)]) [0] rfl
  have hFc := va_free (wc := [(a0, .inr (0, [.ref a3, .ref a4, .ref a5, .ref a6, .ref a7, .ref a8, .ref a2, .int (-1)])), (a2, .inl (k0, 5, .inl (fun _ => 0)))]) hD hS hA [0, 1] rfl
  refine va_calli (va_runV (As := [.int 4]) (rest := [.int 0, .ref a1]) ⟨hx, hb, hml, hown, hz⟩ (c134_LF_count l dC dI s.heap.size a0 a2 a3 a4 a5 a6 a7 a8 k0) (cwV 1 hz (zV zm_445 zm_446 zm_447 zm_333 zm_448) rfl rfl rfl (by decide +kernel) ⟨Nat.le_of_ble_eq_true rfl, Nat.le_of_ble_eq_true rfl⟩) ⟨fun a U g mk q => by obtain ⟨q0, q1, qP, qK, qD⟩ := q; exact ⟨q0, q1, qP, va_K.moved (u := U) (U := U.calling g mk a) (Vm.Alike.refl U.vm) qK, qD⟩, va_recv (q := (R_LF, F_LF, 8)) (q0 := 0) (ci := 0) hK hP rfl rfl, fun U hU hW => ⟨rfl, by rw [hU], by rw [hU]; exact hPc, va_K.moved hW.alike hKc, hDc.weaken (fun _ _ _ _ => trivial)⟩⟩ rfl rfl hl.1 rfl (lv_room (Nat.le_of_ble_eq_true rfl)) d_Law_count_4 ⟨by decide, by decide⟩) hS (fun q _ h => hFc q h) hFc (fun r u t H1 locs ht hvm hw hB hz1 hk1 hS => ?_)
  obtain ⟨hP1, hK1, hD1⟩ := hB
  subst r
  rw [ht] at hP1
  obtain ⟨hP, hD⟩ := va_join (wr := [(a1, .inl (k1, 1, .inr (.inl (fun _ => 0))))]) (w1 := [(a0, .inr (0, [.ref a3, .ref a4, .ref a5, .ref a6, .ref a7, .ref a8, .ref a2, .int (-1)])), (a2, .inl (k0, 5, .inl (fun _ => 0)))]) hP hD [0, 1] [2] rfl rfl (by decide) (by decide) hk1 hFc hP1 hD1
  generalize H1 = H at hP hS ⊢
  have hP : va_P (dC, dI) vcl [(a1, .inl (k1, 1, .inr (.inl (fun _ => 0)))), (a0, .inr (0, [.ref a3, .ref a4, .ref a5, .ref a6, .ref a7, .ref a8, .ref a2, .int (-1)])), (a2, .inl (k0, 5, .inl (fun _ => 0)))] H := hP
  have hD : va_D A [(a1, .inl (k1, 1, .inr (.inl (fun _ => 0)))), (a0, .inr (0, [.ref a3, .ref a4, .ref a5, .ref a6, .ref a7, .ref a8, .ref a2, .int (-1)])), (a2, .inl (k0, 5, .inl (fun _ => 0)))] := hD
  refine lv_i2l (v := 0) hx hb d_Law_count_7 (by decide +kernel) ?_
  refine xr_last (j := 0) hx hb hK hP hD hS 0 1 rfl rfl (xr_in (by decide +kernel)) (by decide +kernel) d_Law_count_8 (fun H locs hP hD hS => ?_)
  have hP : va_P (dC, dI) vcl [(a1, .inl (k1, 1, .inr (.inl (vp_updL (fun _ => 0) 0 0)))), (a0, .inr (0, [.ref a3, .ref a4, .ref a5, .ref a6, .ref a7, .ref a8, .ref a2, .int (-1)])), (a2, .inl (k0, 5, .inl (fun _ => 0)))] H := hP
  have hD : va_D A [(a1, .inl (k1, 1, .inr (.inl (vp_updL (fun _ => 0) 0 0)))), (a0, .inr (0, [.ref a3, .ref a4, .ref a5, .ref a6, .ref a7, .ref a8, .ref a2, .int (-1)])), (a2, .inl (k0, 5, .inl (fun _ => 0)))] := hD
  refine lv_goto (tgt := 15) hx hb d_Law_count_9 (by decide) ?_
  refine lv_iconst (v := 0) hx hb d_Law_count_15 (by decide) ?_
  have hP9 := hP.sub (ws' := [(a0, .inr (0, [.ref a3, .ref a4, .ref a5, .ref a6, .ref a7, .ref a8, .ref a2, .int (-1)])), (a2, .inl (k0, 5, .inl (fun _ => 0))), (a1, .inl (k1, 1, .inr (.inl (vp_updL (fun _ => 0) 0 0))))]) [1, 2, 0] rfl
  have hD9 := hD.sub (ws' := [(a0, .inr (0, [.ref a3, .ref a4, .ref a5, .ref a6, .ref a7, .ref a8, .ref a2, .int (-1)])), (a2, .inl (k0, 5, .inl (fun _ => 0))), (a1, .inl (k1, 1, .inr (.inl (vp_updL (fun _ => 0) 0 0))))]) [1, 2, 0] (by decide) rfl
  have hK9 := hK.sub (tys' := [(k0, .int), (k1, .long)]) [0, 1] rfl
  exact W.iret (v := 0) hx hb hr (fun t ht hW => ⟨⟨0, (), rfl, rfl, by rw [ht]; exact hP9, va_K.moved hW.alike hK9, hD9⟩, hS.F ht⟩) hS.2.2 d_Law_count_16
set_option maxHeartbeats 4000000 in
set_option maxRecDepth 100000 in
theorem c136_Model_within (l : Launch) (dC : Nat → ClassId) (dI : Nat → Nat → Nat) (sz : Nat) : Met l y_Model_within w_Model_within ({ frames := 0, cells := 0, slots := 0, locals := 0 }) (va_Pc [.int 4, .int 0, .int 4] (fun U => U.heap.size = sz ∧ va_P (dC, dI) vcl [] U.heap ∧ va_K (dC, dI) vcl [] U ∧ va_D (fun _ => True) [])) (va_Qi (fun (r : Int32) (_ : Unit) => r = 1) (fun _ t => va_P (dC, dI) vcl [] t.heap ∧ va_K (dC, dI) vcl [] t ∧ va_D (va_A [] sz) []) (va_A [] sz)) 0 0 (va_A [] sz) := by
  refine Met.ofW (cc := b_Model_within) (maxL := 3) (ret := (some .boolean)) (by decide) rfl ?_
  intro p e s m args below meth c s₁ B hml hv
  obtain ⟨rfl, hsz, hP, hK, hD0⟩ := hv
  have hx := B.exec
  have hb := B.bytes
  have hr := B.returns
  have hts := atoms_spec (ws := w_Model_within) B.pre
  have hz : ∀ w ∈ wz, w.before _ s = true := fun w h => hts w (List.mem_cons_of_mem _ h)
  have hown : s.vm.findClass R_Model = some m.cls := findClass_of_methodNamed B.named
  have hlocks := B.notSynchronized
  subst hsz
  have hD := hD0.self (sz := s.heap.size)
  generalize hAe : va_A [] s.heap.size = A at hD ⊢
  have hA : ∀ q : Nat, s.heap.size ≤ q → A q := fun q h => by rw [← hAe]; exact Or.inr h
  have hS : va_S A s.heap s.heap [] := va_S.rf
  have hP : va_P (dC, dI) vcl [] s.heap := hP
  have hl := lv_entry ([.int 4, .int 0, .int 4]) (n := 3) (Nat.le_of_ble_eq_true rfl)
  rw [lg_entry_eq]
  generalize (lg_sl ([.int 4, .int 0, .int 4]) ++ List.replicate (3 - (lg_sl ([.int 4, .int 0, .int 4])).length) Slot.unset).toArray = ls at hl ⊢
  have hl : lv_has ls 3 [(0, .int 4), (1, .int 0), (2, .int 4)] := hl
  refine lv_iload_n hx hb d_Model_within_0 rfl (lv_at hl 0 rfl) ?_
  refine lv_iload_n hx hb d_Model_within_1 rfl (lv_at hl 1 rfl) ?_
  refine lv_icmp_lt (tgt := 14) hx hb d_Model_within_2 (by decide) (fun h => absurd h (by decide +kernel)) (fun _ => ?_)
  refine lv_iload_n hx hb d_Model_within_5 rfl (lv_at hl 0 rfl) ?_
  refine lv_iload_n hx hb d_Model_within_6 rfl (lv_at hl 2 rfl) ?_
  refine lv_icmp_gt (tgt := 14) hx hb d_Model_within_7 (by decide) (fun h => absurd h (by decide +kernel)) (fun _ => ?_)
  refine lv_iconst (v := 1) hx hb d_Model_within_10 (by decide) ?_
  refine lv_goto (tgt := 15) hx hb d_Model_within_11 (by decide) ?_
  have hP9 := hP.sub (ws' := []) [] rfl
  have hD9 := hD.sub (ws' := []) [] (by decide) rfl
  have hK9 := hK.sub (tys' := []) [] rfl
  exact W.zret (v := 1) hx hb hr (by decide +kernel) (fun t ht hW => ⟨⟨1, (), rfl, rfl, by rw [ht]; exact hP9, va_K.moved hW.alike hK9, hD9⟩, hS.F ht⟩) hS.2.2 d_Model_within_15
set_option maxHeartbeats 4000000 in
set_option maxRecDepth 100000 in
theorem c137_Model_count (l : Launch) (dC : Nat → ClassId) (dI : Nat → Nat → Nat) (sz : Nat) (a0 : Nat) (a1 : Nat) (a2 : Nat) (a3 : Nat) (a4 : Nat) (a5 : Nat) (a6 : Nat) (a7 : Nat) (a8 : Nat) (a9 : Nat) (a10 : Nat) (a11 : Nat) (a12 : Nat) (a13 : Nat) (a14 : Nat) (a15 : Nat) (a16 : Nat) (a17 : Nat) (a18 : Nat) (a19 : Nat) (a20 : Nat) (a21 : Nat) (a22 : Nat) (a23 : Nat) (a24 : Nat) (a25 : Nat) (a26 : Nat) (a27 : Nat) : Met l y_Model_count w_Model_count ({ frames := 1, cells := 0, slots := 0, locals := 22 }) (va_Pc [.ref a0, .int 4] (fun U => U.heap.size = sz ∧ va_P (dC, dI) vcl [(a0, .inr (1, [.int 0, .int 0, .ref a1, .int 0, .int (-1), .int 0, .int 0, .ref a2, .ref a3, .ref a4, .ref a5, .ref a6, .int 0, .int 0, .ref a7, .int 0, .int 0, .ref a8, .ref a9, .ref a10, .ref a11, .ref a12, .ref a13, .int 0, .ref a14, .ref a15, .int 0, .int 0, .int 0, .int 0, .int 0, .int 0, .ref a16, .ref a17, .ref a18, .int 0, .int 0, .int 0, .int 0, .int 0, .int 0, .ref a19, .ref a20, .ref a21, .ref a22, .ref a23, .ref a24, .ref a25, .ref a26, .ref a27]))] U.heap ∧ va_K (dC, dI) vcl [] U ∧ va_D (fun _ => True) [(a0, .inr (1, [.int 0, .int 0, .ref a1, .int 0, .int (-1), .int 0, .int 0, .ref a2, .ref a3, .ref a4, .ref a5, .ref a6, .int 0, .int 0, .ref a7, .int 0, .int 0, .ref a8, .ref a9, .ref a10, .ref a11, .ref a12, .ref a13, .int 0, .ref a14, .ref a15, .int 0, .int 0, .int 0, .int 0, .int 0, .int 0, .ref a16, .ref a17, .ref a18, .int 0, .int 0, .int 0, .int 0, .int 0, .int 0, .ref a19, .ref a20, .ref a21, .ref a22, .ref a23, .ref a24, .ref a25, .ref a26, .ref a27]))])) (va_Qi (fun (r : Int32) (_ : Unit) => r = 0) (fun _ t => va_P (dC, dI) vcl [(a0, .inr (1, [.int 0, .int 0, .ref a1, .int 0, .int (-1), .int 0, .int 0, .ref a2, .ref a3, .ref a4, .ref a5, .ref a6, .int 0, .int 0, .ref a7, .int 0, .int 0, .ref a8, .ref a9, .ref a10, .ref a11, .ref a12, .ref a13, .int 0, .ref a14, .ref a15, .int 0, .int 0, .int 0, .int 0, .int 0, .int 0, .ref a16, .ref a17, .ref a18, .int 0, .int 0, .int 0, .int 0, .int 0, .int 0, .ref a19, .ref a20, .ref a21, .ref a22, .ref a23, .ref a24, .ref a25, .ref a26, .ref a27]))] t.heap ∧ va_K (dC, dI) vcl [] t ∧ va_D (va_A [(a0, .inr (1, [.int 0, .int 0, .ref a1, .int 0, .int (-1), .int 0, .int 0, .ref a2, .ref a3, .ref a4, .ref a5, .ref a6, .int 0, .int 0, .ref a7, .int 0, .int 0, .ref a8, .ref a9, .ref a10, .ref a11, .ref a12, .ref a13, .int 0, .ref a14, .ref a15, .int 0, .int 0, .int 0, .int 0, .int 0, .int 0, .ref a16, .ref a17, .ref a18, .int 0, .int 0, .int 0, .int 0, .int 0, .int 0, .ref a19, .ref a20, .ref a21, .ref a22, .ref a23, .ref a24, .ref a25, .ref a26, .ref a27]))] sz) [(a0, .inr (1, [.int 0, .int 0, .ref a1, .int 0, .int (-1), .int 0, .int 0, .ref a2, .ref a3, .ref a4, .ref a5, .ref a6, .int 0, .int 0, .ref a7, .int 0, .int 0, .ref a8, .ref a9, .ref a10, .ref a11, .ref a12, .ref a13, .int 0, .ref a14, .ref a15, .int 0, .int 0, .int 0, .int 0, .int 0, .int 0, .ref a16, .ref a17, .ref a18, .int 0, .int 0, .int 0, .int 0, .int 0, .int 0, .ref a19, .ref a20, .ref a21, .ref a22, .ref a23, .ref a24, .ref a25, .ref a26, .ref a27]))]) (va_A [(a0, .inr (1, [.int 0, .int 0, .ref a1, .int 0, .int (-1), .int 0, .int 0, .ref a2, .ref a3, .ref a4, .ref a5, .ref a6, .int 0, .int 0, .ref a7, .int 0, .int 0, .ref a8, .ref a9, .ref a10, .ref a11, .ref a12, .ref a13, .int 0, .ref a14, .ref a15, .int 0, .int 0, .int 0, .int 0, .int 0, .int 0, .ref a16, .ref a17, .ref a18, .int 0, .int 0, .int 0, .int 0, .int 0, .int 0, .ref a19, .ref a20, .ref a21, .ref a22, .ref a23, .ref a24, .ref a25, .ref a26, .ref a27]))] sz)) 0 0 (va_A [(a0, .inr (1, [.int 0, .int 0, .ref a1, .int 0, .int (-1), .int 0, .int 0, .ref a2, .ref a3, .ref a4, .ref a5, .ref a6, .int 0, .int 0, .ref a7, .int 0, .int 0, .ref a8, .ref a9, .ref a10, .ref a11, .ref a12, .ref a13, .int 0, .ref a14, .ref a15, .int 0, .int 0, .int 0, .int 0, .int 0, .int 0, .ref a16, .ref a17, .ref a18, .int 0, .int 0, .int 0, .int 0, .int 0, .int 0, .ref a19, .ref a20, .ref a21, .ref a22, .ref a23, .ref a24, .ref a25, .ref a26, .ref a27]))] sz) := by
  refine Met.ofW (cc := b_Model_count) (maxL := 2) (ret := (some .int)) (by decide) rfl ?_
  intro p e s m args below meth c s₁ B hml hv
  obtain ⟨rfl, hsz, hP, hK, hD0⟩ := hv
  have hx := B.exec
  have hb := B.bytes
  have hr := B.returns
  have hts := atoms_spec (ws := w_Model_count) B.pre
  have hz : ∀ w ∈ wz, w.before _ s = true := fun w h => hts w (List.mem_cons_of_mem _ h)
  have hown : s.vm.findClass R_Model = some m.cls := findClass_of_methodNamed B.named
  have hlocks := B.notSynchronized
  subst hsz
  have hD := hD0.self (sz := s.heap.size)
  generalize hAe : va_A [(a0, .inr (1, [.int 0, .int 0, .ref a1, .int 0, .int (-1), .int 0, .int 0, .ref a2, .ref a3, .ref a4, .ref a5, .ref a6, .int 0, .int 0, .ref a7, .int 0, .int 0, .ref a8, .ref a9, .ref a10, .ref a11, .ref a12, .ref a13, .int 0, .ref a14, .ref a15, .int 0, .int 0, .int 0, .int 0, .int 0, .int 0, .ref a16, .ref a17, .ref a18, .int 0, .int 0, .int 0, .int 0, .int 0, .int 0, .ref a19, .ref a20, .ref a21, .ref a22, .ref a23, .ref a24, .ref a25, .ref a26, .ref a27]))] s.heap.size = A at hD ⊢
  have hA : ∀ q : Nat, s.heap.size ≤ q → A q := fun q h => by rw [← hAe]; exact Or.inr h
  have hS : va_S A s.heap s.heap [] := va_S.rf
  have hP : va_P (dC, dI) vcl [(a0, .inr (1, [.int 0, .int 0, .ref a1, .int 0, .int (-1), .int 0, .int 0, .ref a2, .ref a3, .ref a4, .ref a5, .ref a6, .int 0, .int 0, .ref a7, .int 0, .int 0, .ref a8, .ref a9, .ref a10, .ref a11, .ref a12, .ref a13, .int 0, .ref a14, .ref a15, .int 0, .int 0, .int 0, .int 0, .int 0, .int 0, .ref a16, .ref a17, .ref a18, .int 0, .int 0, .int 0, .int 0, .int 0, .int 0, .ref a19, .ref a20, .ref a21, .ref a22, .ref a23, .ref a24, .ref a25, .ref a26, .ref a27]))] s.heap := hP
  have hl := lv_entry ([.ref a0, .int 4]) (n := 2) (Nat.le_of_ble_eq_true rfl)
  rw [lg_entry_eq]
  generalize (lg_sl ([.ref a0, .int 4]) ++ List.replicate (2 - (lg_sl ([.ref a0, .int 4])).length) Slot.unset).toArray = ls at hl ⊢
  have hl : lv_has ls 2 [(0, .ref a0), (1, .int 4)] := hl
  refine lv_aload_n hx hb d_Model_count_0 rfl (lv_at hl 0 rfl) ?_
  refine lv_iconst (v := 0) hx hb d_Model_count_1 (by decide) ?_
  refine va_put (D := (dC, dI)) (ci := 1) (v := .int 0) (ty := .int) (C := R_Model) (T := F_Model) (N := 50) hx hb hz zu_Model t_Model t_Model_ok n_Model hown hK hP hD hS 0 rfl rfl 0 (by decide) (hz (.fieldLink R_Model 97 "LayoutFrontModel" "thrown" "I") zm_415) (fun _ h9 => h9) rfl (by decide +kernel) rfl rfl (Nat.le_of_ble_eq_true rfl) d_Model_count_2 (fun H locs hP hD hS => ?_)
  have hP : va_P (dC, dI) vcl [(a0, .inr (1, [.int 0, .int 0, .ref a1, .int 0, .int (-1), .int 0, .int 0, .ref a2, .ref a3, .ref a4, .ref a5, .ref a6, .int 0, .int 0, .ref a7, .int 0, .int 0, .ref a8, .ref a9, .ref a10, .ref a11, .ref a12, .ref a13, .int 0, .ref a14, .ref a15, .int 0, .int 0, .int 0, .int 0, .int 0, .int 0, .ref a16, .ref a17, .ref a18, .int 0, .int 0, .int 0, .int 0, .int 0, .int 0, .ref a19, .ref a20, .ref a21, .ref a22, .ref a23, .ref a24, .ref a25, .ref a26, .ref a27]))] H := hP
  have hD : va_D A [(a0, .inr (1, [.int 0, .int 0, .ref a1, .int 0, .int (-1), .int 0, .int 0, .ref a2, .ref a3, .ref a4, .ref a5, .ref a6, .int 0, .int 0, .ref a7, .int 0, .int 0, .ref a8, .ref a9, .ref a10, .ref a11, .ref a12, .ref a13, .int 0, .ref a14, .ref a15, .int 0, .int 0, .int 0, .int 0, .int 0, .int 0, .ref a16, .ref a17, .ref a18, .int 0, .int 0, .int 0, .int 0, .int 0, .int 0, .ref a19, .ref a20, .ref a21, .ref a22, .ref a23, .ref a24, .ref a25, .ref a26, .ref a27]))] := hD
  refine lv_iload_n hx hb d_Model_count_5 rfl (lv_at hl 1 rfl) ?_
  refine lv_iconst (v := 0) hx hb d_Model_count_6 (by decide) ?_
  refine lv_iconst (v := 4) hx hb d_Model_count_7 (by decide) ?_
  have hPc := hP.sub (ws' := []) [] rfl
  have hDc := hD.sub (ws' := []) [] (by decide) rfl
  have hKc := hK.sub (tys' := []) [] rfl
  have hFc := va_free (wc := []) hD hS hA [] rfl
  refine va_calli (va_runS (As := [.int 4, .int 0, .int 4]) (rest := []) ⟨hx, hb, hml, hown, hz⟩ (c136_Model_within l dC dI H.size) (cwS 3 hz (zS zm_449 zm_450 zm_374 zm_451) rfl rfl rfl (by decide +kernel) ⟨Nat.le_of_ble_eq_true rfl, Nat.le_of_ble_eq_true rfl⟩) ⟨fun a U g mk q => by obtain ⟨q0, q1, qP, qK, qD⟩ := q; exact ⟨q0, q1, qP, va_K.moved (u := U) (U := U.calling g mk a) (Vm.Alike.refl U.vm) qK, qD⟩, fun U hU hW => ⟨rfl, by rw [hU], by rw [hU]; exact hPc, va_K.moved hW.alike hKc, hDc.weaken (fun _ _ _ _ => trivial)⟩⟩ rfl rfl hl.1 rfl (lv_room (Nat.le_of_ble_eq_true rfl)) d_Model_count_8 ⟨by decide, by decide⟩) hS (fun q _ h => hFc q h) hFc (fun r u t H1 locs ht hvm hw hB hz1 hk1 hS => ?_)
  obtain ⟨hP1, hK1, hD1⟩ := hB
  subst r
  rw [ht] at hP1
  obtain ⟨hP, hD⟩ := va_join (wr := [(a0, .inr (1, [.int 0, .int 0, .ref a1, .int 0, .int (-1), .int 0, .int 0, .ref a2, .ref a3, .ref a4, .ref a5, .ref a6, .int 0, .int 0, .ref a7, .int 0, .int 0, .ref a8, .ref a9, .ref a10, .ref a11, .ref a12, .ref a13, .int 0, .ref a14, .ref a15, .int 0, .int 0, .int 0, .int 0, .int 0, .int 0, .ref a16, .ref a17, .ref a18, .int 0, .int 0, .int 0, .int 0, .int 0, .int 0, .ref a19, .ref a20, .ref a21, .ref a22, .ref a23, .ref a24, .ref a25, .ref a26, .ref a27]))]) (w1 := []) hP hD [] [0] rfl rfl (by decide) (by decide) hk1 hFc hP1 hD1
  generalize H1 = H at hP hS ⊢
  have hP : va_P (dC, dI) vcl [(a0, .inr (1, [.int 0, .int 0, .ref a1, .int 0, .int (-1), .int 0, .int 0, .ref a2, .ref a3, .ref a4, .ref a5, .ref a6, .int 0, .int 0, .ref a7, .int 0, .int 0, .ref a8, .ref a9, .ref a10, .ref a11, .ref a12, .ref a13, .int 0, .ref a14, .ref a15, .int 0, .int 0, .int 0, .int 0, .int 0, .int 0, .ref a16, .ref a17, .ref a18, .int 0, .int 0, .int 0, .int 0, .int 0, .int 0, .ref a19, .ref a20, .ref a21, .ref a22, .ref a23, .ref a24, .ref a25, .ref a26, .ref a27]))] H := hP
  have hD : va_D A [(a0, .inr (1, [.int 0, .int 0, .ref a1, .int 0, .int (-1), .int 0, .int 0, .ref a2, .ref a3, .ref a4, .ref a5, .ref a6, .int 0, .int 0, .ref a7, .int 0, .int 0, .ref a8, .ref a9, .ref a10, .ref a11, .ref a12, .ref a13, .int 0, .ref a14, .ref a15, .int 0, .int 0, .int 0, .int 0, .int 0, .int 0, .ref a16, .ref a17, .ref a18, .int 0, .int 0, .int 0, .int 0, .int 0, .int 0, .ref a19, .ref a20, .ref a21, .ref a22, .ref a23, .ref a24, .ref a25, .ref a26, .ref a27]))] := hD
  refine lv_if_ne (tgt := 20) hx hb d_Model_count_11 (by decide) (fun _ => ?_) (fun h => absurd h (by decide +kernel))
  refine lv_iload_n hx hb d_Model_count_20 rfl (lv_at hl 1 rfl) ?_
  refine lv_iconst (v := 3) hx hb d_Model_count_21 (by decide) ?_
  refine lv_icmp_ge (tgt := 53) hx hb d_Model_count_22 (by decide) (fun _ => ?_) (fun h => (h (by decide +kernel)).elim)
  refine lv_iload_n hx hb d_Model_count_53 rfl (lv_at hl 1 rfl) ?_
  refine lv_iconst (v := 3) hx hb d_Model_count_54 (by decide) ?_
  refine lv_icmp_ne (tgt := 65) hx hb d_Model_count_55 (by decide) (fun _ => ?_) (fun h => absurd h (by decide +kernel))
  refine lv_aload_n hx hb d_Model_count_65 rfl (lv_at hl 0 rfl) ?_
  refine va_get (D := (dC, dI)) (ci := 1) (v := .int 0) (C := R_Model) (T := F_Model) (N := 50) hx hb hz zu_Model hown hK hP 0 rfl rfl 30 (by decide) (hz (.fieldLink R_Model 380 "LayoutFrontModel" "toldHighest" "I") zm_436) (fun _ h9 => h9) rfl d_Model_count_66 ?_
  have hP9 := hP.sub (ws' := [(a0, .inr (1, [.int 0, .int 0, .ref a1, .int 0, .int (-1), .int 0, .int 0, .ref a2, .ref a3, .ref a4, .ref a5, .ref a6, .int 0, .int 0, .ref a7, .int 0, .int 0, .ref a8, .ref a9, .ref a10, .ref a11, .ref a12, .ref a13, .int 0, .ref a14, .ref a15, .int 0, .int 0, .int 0, .int 0, .int 0, .int 0, .ref a16, .ref a17, .ref a18, .int 0, .int 0, .int 0, .int 0, .int 0, .int 0, .ref a19, .ref a20, .ref a21, .ref a22, .ref a23, .ref a24, .ref a25, .ref a26, .ref a27]))]) [0] rfl
  have hD9 := hD.sub (ws' := [(a0, .inr (1, [.int 0, .int 0, .ref a1, .int 0, .int (-1), .int 0, .int 0, .ref a2, .ref a3, .ref a4, .ref a5, .ref a6, .int 0, .int 0, .ref a7, .int 0, .int 0, .ref a8, .ref a9, .ref a10, .ref a11, .ref a12, .ref a13, .int 0, .ref a14, .ref a15, .int 0, .int 0, .int 0, .int 0, .int 0, .int 0, .ref a16, .ref a17, .ref a18, .int 0, .int 0, .int 0, .int 0, .int 0, .int 0, .ref a19, .ref a20, .ref a21, .ref a22, .ref a23, .ref a24, .ref a25, .ref a26, .ref a27]))]) [0] (by decide) rfl
  have hK9 := hK.sub (tys' := []) [] rfl
  exact W.iret (v := 0) hx hb hr (fun t ht hW => ⟨⟨0, (), rfl, rfl, by rw [ht]; exact hP9, va_K.moved hW.alike hK9, hD9⟩, hS.F ht⟩) hS.2.2 d_Model_count_69
set_option maxHeartbeats 4000000 in
set_option maxRecDepth 100000 in
theorem c138_Model_within (l : Launch) (dC : Nat → ClassId) (dI : Nat → Nat → Nat) (sz : Nat) (ix : Int32) (gi : ix < 0) : Met l y_Model_within w_Model_within ({ frames := 0, cells := 0, slots := 0, locals := 0 }) (va_Pc [.int ix, .int 0, .int (-1)] (fun U => U.heap.size = sz ∧ va_P (dC, dI) vcl [] U.heap ∧ va_K (dC, dI) vcl [] U ∧ va_D (fun _ => True) [])) (va_Qi (fun (r : Int32) (_ : Unit) => r = 0) (fun _ t => va_P (dC, dI) vcl [] t.heap ∧ va_K (dC, dI) vcl [] t ∧ va_D (va_A [] sz) []) (va_A [] sz)) 0 0 (va_A [] sz) := by
  refine Met.ofW (cc := b_Model_within) (maxL := 3) (ret := (some .boolean)) (by decide) rfl ?_
  intro p e s m args below meth c s₁ B hml hv
  obtain ⟨rfl, hsz, hP, hK, hD0⟩ := hv
  have hx := B.exec
  have hb := B.bytes
  have hr := B.returns
  have hts := atoms_spec (ws := w_Model_within) B.pre
  have hz : ∀ w ∈ wz, w.before _ s = true := fun w h => hts w (List.mem_cons_of_mem _ h)
  have hown : s.vm.findClass R_Model = some m.cls := findClass_of_methodNamed B.named
  have hlocks := B.notSynchronized
  subst hsz
  have hD := hD0.self (sz := s.heap.size)
  generalize hAe : va_A [] s.heap.size = A at hD ⊢
  have hA : ∀ q : Nat, s.heap.size ≤ q → A q := fun q h => by rw [← hAe]; exact Or.inr h
  have hS : va_S A s.heap s.heap [] := va_S.rf
  have hP : va_P (dC, dI) vcl [] s.heap := hP
  have hl := lv_entry ([.int ix, .int 0, .int (-1)]) (n := 3) (Nat.le_of_ble_eq_true rfl)
  rw [lg_entry_eq]
  generalize (lg_sl ([.int ix, .int 0, .int (-1)]) ++ List.replicate (3 - (lg_sl ([.int ix, .int 0, .int (-1)])).length) Slot.unset).toArray = ls at hl ⊢
  have hl : lv_has ls 3 [(0, .int ix), (1, .int 0), (2, .int (-1))] := hl
  refine lv_iload_n hx hb d_Model_within_0 rfl (lv_at hl 0 rfl) ?_
  refine lv_iload_n hx hb d_Model_within_1 rfl (lv_at hl 1 rfl) ?_
  refine lv_icmp_lt (tgt := 14) hx hb d_Model_within_2 (by decide) (fun _ => ?_) (fun h => (h gi).elim)
  refine lv_iconst (v := 0) hx hb d_Model_within_14 (by decide) ?_
  have hP9 := hP.sub (ws' := []) [] rfl
  have hD9 := hD.sub (ws' := []) [] (by decide) rfl
  have hK9 := hK.sub (tys' := []) [] rfl
  exact W.zret (v := 0) hx hb hr (by decide +kernel) (fun t ht hW => ⟨⟨0, (), rfl, rfl, by rw [ht]; exact hP9, va_K.moved hW.alike hK9, hD9⟩, hS.F ht⟩) hS.2.2 d_Model_within_15
set_option maxHeartbeats 4000000 in
set_option maxRecDepth 100000 in
theorem c139_Model_fail (l : Launch) (dC : Nat → ClassId) (dI : Nat → Nat → Nat) (sz : Nat) (a0 : Nat) (a1 : Nat) (a2 : Nat) (a3 : Nat) (a4 : Nat) (a5 : Nat) (a6 : Nat) (a7 : Nat) (a8 : Nat) (a9 : Nat) (a10 : Nat) (a11 : Nat) (a12 : Nat) (a13 : Nat) (a14 : Nat) (a15 : Nat) (a16 : Nat) (a17 : Nat) (a18 : Nat) (a19 : Nat) (a20 : Nat) (a21 : Nat) (a22 : Nat) (a23 : Nat) (a24 : Nat) (a25 : Nat) (a26 : Nat) (a27 : Nat) : Met l y_Model_fail w_Model_fail ({ frames := 0, cells := 0, slots := 0, locals := 0 }) (va_Pc [.ref a0, .int 1] (fun U => U.heap.size = sz ∧ va_P (dC, dI) vcl [(a0, .inr (1, [.int 0, .int 0, .ref a1, .int 0, .int (-1), .int 0, .int 0, .ref a2, .ref a3, .ref a4, .ref a5, .ref a6, .int 0, .int 0, .ref a7, .int 0, .int 0, .ref a8, .ref a9, .ref a10, .ref a11, .ref a12, .ref a13, .int 0, .ref a14, .ref a15, .int 0, .int 0, .int 0, .int 0, .int 0, .int 0, .ref a16, .ref a17, .ref a18, .int 0, .int 0, .int 0, .int 0, .int 0, .int 0, .ref a19, .ref a20, .ref a21, .ref a22, .ref a23, .ref a24, .ref a25, .ref a26, .ref a27]))] U.heap ∧ va_K (dC, dI) vcl [] U ∧ va_D (fun _ => True) [(a0, .inr (1, [.int 0, .int 0, .ref a1, .int 0, .int (-1), .int 0, .int 0, .ref a2, .ref a3, .ref a4, .ref a5, .ref a6, .int 0, .int 0, .ref a7, .int 0, .int 0, .ref a8, .ref a9, .ref a10, .ref a11, .ref a12, .ref a13, .int 0, .ref a14, .ref a15, .int 0, .int 0, .int 0, .int 0, .int 0, .int 0, .ref a16, .ref a17, .ref a18, .int 0, .int 0, .int 0, .int 0, .int 0, .int 0, .ref a19, .ref a20, .ref a21, .ref a22, .ref a23, .ref a24, .ref a25, .ref a26, .ref a27]))])) (va_Qi (fun (r : Int32) (_ : Unit) => r = 0) (fun _ t => va_P (dC, dI) vcl [(a0, .inr (1, [.int 1, .int 0, .ref a1, .int 0, .int (-1), .int 0, .int 0, .ref a2, .ref a3, .ref a4, .ref a5, .ref a6, .int 0, .int 0, .ref a7, .int 0, .int 0, .ref a8, .ref a9, .ref a10, .ref a11, .ref a12, .ref a13, .int 0, .ref a14, .ref a15, .int 0, .int 0, .int 0, .int 0, .int 0, .int 0, .ref a16, .ref a17, .ref a18, .int 0, .int 0, .int 0, .int 0, .int 0, .int 0, .ref a19, .ref a20, .ref a21, .ref a22, .ref a23, .ref a24, .ref a25, .ref a26, .ref a27]))] t.heap ∧ va_K (dC, dI) vcl [] t ∧ va_D (va_A [(a0, .inr (1, [.int 0, .int 0, .ref a1, .int 0, .int (-1), .int 0, .int 0, .ref a2, .ref a3, .ref a4, .ref a5, .ref a6, .int 0, .int 0, .ref a7, .int 0, .int 0, .ref a8, .ref a9, .ref a10, .ref a11, .ref a12, .ref a13, .int 0, .ref a14, .ref a15, .int 0, .int 0, .int 0, .int 0, .int 0, .int 0, .ref a16, .ref a17, .ref a18, .int 0, .int 0, .int 0, .int 0, .int 0, .int 0, .ref a19, .ref a20, .ref a21, .ref a22, .ref a23, .ref a24, .ref a25, .ref a26, .ref a27]))] sz) [(a0, .inr (1, [.int 1, .int 0, .ref a1, .int 0, .int (-1), .int 0, .int 0, .ref a2, .ref a3, .ref a4, .ref a5, .ref a6, .int 0, .int 0, .ref a7, .int 0, .int 0, .ref a8, .ref a9, .ref a10, .ref a11, .ref a12, .ref a13, .int 0, .ref a14, .ref a15, .int 0, .int 0, .int 0, .int 0, .int 0, .int 0, .ref a16, .ref a17, .ref a18, .int 0, .int 0, .int 0, .int 0, .int 0, .int 0, .ref a19, .ref a20, .ref a21, .ref a22, .ref a23, .ref a24, .ref a25, .ref a26, .ref a27]))]) (va_A [(a0, .inr (1, [.int 0, .int 0, .ref a1, .int 0, .int (-1), .int 0, .int 0, .ref a2, .ref a3, .ref a4, .ref a5, .ref a6, .int 0, .int 0, .ref a7, .int 0, .int 0, .ref a8, .ref a9, .ref a10, .ref a11, .ref a12, .ref a13, .int 0, .ref a14, .ref a15, .int 0, .int 0, .int 0, .int 0, .int 0, .int 0, .ref a16, .ref a17, .ref a18, .int 0, .int 0, .int 0, .int 0, .int 0, .int 0, .ref a19, .ref a20, .ref a21, .ref a22, .ref a23, .ref a24, .ref a25, .ref a26, .ref a27]))] sz)) 0 0 (va_A [(a0, .inr (1, [.int 0, .int 0, .ref a1, .int 0, .int (-1), .int 0, .int 0, .ref a2, .ref a3, .ref a4, .ref a5, .ref a6, .int 0, .int 0, .ref a7, .int 0, .int 0, .ref a8, .ref a9, .ref a10, .ref a11, .ref a12, .ref a13, .int 0, .ref a14, .ref a15, .int 0, .int 0, .int 0, .int 0, .int 0, .int 0, .ref a16, .ref a17, .ref a18, .int 0, .int 0, .int 0, .int 0, .int 0, .int 0, .ref a19, .ref a20, .ref a21, .ref a22, .ref a23, .ref a24, .ref a25, .ref a26, .ref a27]))] sz) := by
  refine Met.ofW (cc := b_Model_fail) (maxL := 2) (ret := (some .int)) (by decide) rfl ?_
  intro p e s m args below meth c s₁ B hml hv
  obtain ⟨rfl, hsz, hP, hK, hD0⟩ := hv
  have hx := B.exec
  have hb := B.bytes
  have hr := B.returns
  have hts := atoms_spec (ws := w_Model_fail) B.pre
  have hz : ∀ w ∈ wz, w.before _ s = true := fun w h => hts w (List.mem_cons_of_mem _ h)
  have hown : s.vm.findClass R_Model = some m.cls := findClass_of_methodNamed B.named
  have hlocks := B.notSynchronized
  subst hsz
  have hD := hD0.self (sz := s.heap.size)
  generalize hAe : va_A [(a0, .inr (1, [.int 0, .int 0, .ref a1, .int 0, .int (-1), .int 0, .int 0, .ref a2, .ref a3, .ref a4, .ref a5, .ref a6, .int 0, .int 0, .ref a7, .int 0, .int 0, .ref a8, .ref a9, .ref a10, .ref a11, .ref a12, .ref a13, .int 0, .ref a14, .ref a15, .int 0, .int 0, .int 0, .int 0, .int 0, .int 0, .ref a16, .ref a17, .ref a18, .int 0, .int 0, .int 0, .int 0, .int 0, .int 0, .ref a19, .ref a20, .ref a21, .ref a22, .ref a23, .ref a24, .ref a25, .ref a26, .ref a27]))] s.heap.size = A at hD ⊢
  have hA : ∀ q : Nat, s.heap.size ≤ q → A q := fun q h => by rw [← hAe]; exact Or.inr h
  have hS : va_S A s.heap s.heap [] := va_S.rf
  have hP : va_P (dC, dI) vcl [(a0, .inr (1, [.int 0, .int 0, .ref a1, .int 0, .int (-1), .int 0, .int 0, .ref a2, .ref a3, .ref a4, .ref a5, .ref a6, .int 0, .int 0, .ref a7, .int 0, .int 0, .ref a8, .ref a9, .ref a10, .ref a11, .ref a12, .ref a13, .int 0, .ref a14, .ref a15, .int 0, .int 0, .int 0, .int 0, .int 0, .int 0, .ref a16, .ref a17, .ref a18, .int 0, .int 0, .int 0, .int 0, .int 0, .int 0, .ref a19, .ref a20, .ref a21, .ref a22, .ref a23, .ref a24, .ref a25, .ref a26, .ref a27]))] s.heap := hP
  have hl := lv_entry ([.ref a0, .int 1]) (n := 2) (Nat.le_of_ble_eq_true rfl)
  rw [lg_entry_eq]
  generalize (lg_sl ([.ref a0, .int 1]) ++ List.replicate (2 - (lg_sl ([.ref a0, .int 1])).length) Slot.unset).toArray = ls at hl ⊢
  have hl : lv_has ls 2 [(0, .ref a0), (1, .int 1)] := hl
  refine lv_aload_n hx hb d_Model_fail_0 rfl (lv_at hl 0 rfl) ?_
  refine lv_iload_n hx hb d_Model_fail_1 rfl (lv_at hl 1 rfl) ?_
  refine va_put (D := (dC, dI)) (ci := 1) (v := .int 1) (ty := .int) (C := R_Model) (T := F_Model) (N := 50) hx hb hz zu_Model t_Model t_Model_ok n_Model hown hK hP hD hS 0 rfl rfl 0 (by decide) (hz (.fieldLink R_Model 97 "LayoutFrontModel" "thrown" "I") zm_415) (fun _ h9 => h9) rfl (by decide +kernel) rfl rfl (Nat.le_of_ble_eq_true rfl) d_Model_fail_2 (fun H locs hP hD hS => ?_)
  have hP : va_P (dC, dI) vcl [(a0, .inr (1, [.int 1, .int 0, .ref a1, .int 0, .int (-1), .int 0, .int 0, .ref a2, .ref a3, .ref a4, .ref a5, .ref a6, .int 0, .int 0, .ref a7, .int 0, .int 0, .ref a8, .ref a9, .ref a10, .ref a11, .ref a12, .ref a13, .int 0, .ref a14, .ref a15, .int 0, .int 0, .int 0, .int 0, .int 0, .int 0, .ref a16, .ref a17, .ref a18, .int 0, .int 0, .int 0, .int 0, .int 0, .int 0, .ref a19, .ref a20, .ref a21, .ref a22, .ref a23, .ref a24, .ref a25, .ref a26, .ref a27]))] H := hP
  have hD : va_D A [(a0, .inr (1, [.int 1, .int 0, .ref a1, .int 0, .int (-1), .int 0, .int 0, .ref a2, .ref a3, .ref a4, .ref a5, .ref a6, .int 0, .int 0, .ref a7, .int 0, .int 0, .ref a8, .ref a9, .ref a10, .ref a11, .ref a12, .ref a13, .int 0, .ref a14, .ref a15, .int 0, .int 0, .int 0, .int 0, .int 0, .int 0, .ref a16, .ref a17, .ref a18, .int 0, .int 0, .int 0, .int 0, .int 0, .int 0, .ref a19, .ref a20, .ref a21, .ref a22, .ref a23, .ref a24, .ref a25, .ref a26, .ref a27]))] := hD
  refine lv_iconst (v := 0) hx hb d_Model_fail_5 (by decide) ?_
  have hP9 := hP.sub (ws' := [(a0, .inr (1, [.int 1, .int 0, .ref a1, .int 0, .int (-1), .int 0, .int 0, .ref a2, .ref a3, .ref a4, .ref a5, .ref a6, .int 0, .int 0, .ref a7, .int 0, .int 0, .ref a8, .ref a9, .ref a10, .ref a11, .ref a12, .ref a13, .int 0, .ref a14, .ref a15, .int 0, .int 0, .int 0, .int 0, .int 0, .int 0, .ref a16, .ref a17, .ref a18, .int 0, .int 0, .int 0, .int 0, .int 0, .int 0, .ref a19, .ref a20, .ref a21, .ref a22, .ref a23, .ref a24, .ref a25, .ref a26, .ref a27]))]) [0] rfl
  have hD9 := hD.sub (ws' := [(a0, .inr (1, [.int 1, .int 0, .ref a1, .int 0, .int (-1), .int 0, .int 0, .ref a2, .ref a3, .ref a4, .ref a5, .ref a6, .int 0, .int 0, .ref a7, .int 0, .int 0, .ref a8, .ref a9, .ref a10, .ref a11, .ref a12, .ref a13, .int 0, .ref a14, .ref a15, .int 0, .int 0, .int 0, .int 0, .int 0, .int 0, .ref a16, .ref a17, .ref a18, .int 0, .int 0, .int 0, .int 0, .int 0, .int 0, .ref a19, .ref a20, .ref a21, .ref a22, .ref a23, .ref a24, .ref a25, .ref a26, .ref a27]))]) [0] (by decide) rfl
  have hK9 := hK.sub (tys' := []) [] rfl
  exact W.iret (v := 0) hx hb hr (fun t ht hW => ⟨⟨0, (), rfl, rfl, by rw [ht]; exact hP9, va_K.moved hW.alike hK9, hD9⟩, hS.F ht⟩) hS.2.2 d_Model_fail_6
set_option maxHeartbeats 4000000 in
set_option maxRecDepth 100000 in
theorem c140_Model_kind (l : Launch) (dC : Nat → ClassId) (dI : Nat → Nat → Nat) (sz : Nat) (a0 : Nat) (a1 : Nat) (a2 : Nat) (a3 : Nat) (a4 : Nat) (a5 : Nat) (a6 : Nat) (a7 : Nat) (a8 : Nat) (a9 : Nat) (a10 : Nat) (a11 : Nat) (a12 : Nat) (a13 : Nat) (a14 : Nat) (a15 : Nat) (a16 : Nat) (a17 : Nat) (a18 : Nat) (a19 : Nat) (a20 : Nat) (a21 : Nat) (a22 : Nat) (a23 : Nat) (a24 : Nat) (a25 : Nat) (a26 : Nat) (a27 : Nat) (ix : Int32) (gi : ix < 0) : Met l y_Model_kind w_Model_kind ({ frames := 1, cells := 0, slots := 0, locals := 22 }) (va_Pc [.ref a0, .int ix] (fun U => U.heap.size = sz ∧ va_P (dC, dI) vcl [(a0, .inr (1, [.int 0, .int 0, .ref a1, .int 0, .int (-1), .int 0, .int 0, .ref a2, .ref a3, .ref a4, .ref a5, .ref a6, .int 0, .int 0, .ref a7, .int 0, .int 0, .ref a8, .ref a9, .ref a10, .ref a11, .ref a12, .ref a13, .int 0, .ref a14, .ref a15, .int 0, .int 0, .int 0, .int 0, .int 0, .int 0, .ref a16, .ref a17, .ref a18, .int 0, .int 0, .int 0, .int 0, .int 0, .int 0, .ref a19, .ref a20, .ref a21, .ref a22, .ref a23, .ref a24, .ref a25, .ref a26, .ref a27]))] U.heap ∧ va_K (dC, dI) vcl [] U ∧ va_D (fun _ => True) [(a0, .inr (1, [.int 0, .int 0, .ref a1, .int 0, .int (-1), .int 0, .int 0, .ref a2, .ref a3, .ref a4, .ref a5, .ref a6, .int 0, .int 0, .ref a7, .int 0, .int 0, .ref a8, .ref a9, .ref a10, .ref a11, .ref a12, .ref a13, .int 0, .ref a14, .ref a15, .int 0, .int 0, .int 0, .int 0, .int 0, .int 0, .ref a16, .ref a17, .ref a18, .int 0, .int 0, .int 0, .int 0, .int 0, .int 0, .ref a19, .ref a20, .ref a21, .ref a22, .ref a23, .ref a24, .ref a25, .ref a26, .ref a27]))])) (va_Qi (fun (r : Int32) (_ : Unit) => r = 0) (fun _ t => va_P (dC, dI) vcl [(a0, .inr (1, [.int 1, .int 0, .ref a1, .int 0, .int (-1), .int 0, .int 0, .ref a2, .ref a3, .ref a4, .ref a5, .ref a6, .int 0, .int 0, .ref a7, .int 0, .int 0, .ref a8, .ref a9, .ref a10, .ref a11, .ref a12, .ref a13, .int 0, .ref a14, .ref a15, .int 0, .int 0, .int 0, .int 0, .int 0, .int 0, .ref a16, .ref a17, .ref a18, .int 0, .int 0, .int 0, .int 0, .int 0, .int 0, .ref a19, .ref a20, .ref a21, .ref a22, .ref a23, .ref a24, .ref a25, .ref a26, .ref a27]))] t.heap ∧ va_K (dC, dI) vcl [] t ∧ va_D (va_A [(a0, .inr (1, [.int 0, .int 0, .ref a1, .int 0, .int (-1), .int 0, .int 0, .ref a2, .ref a3, .ref a4, .ref a5, .ref a6, .int 0, .int 0, .ref a7, .int 0, .int 0, .ref a8, .ref a9, .ref a10, .ref a11, .ref a12, .ref a13, .int 0, .ref a14, .ref a15, .int 0, .int 0, .int 0, .int 0, .int 0, .int 0, .ref a16, .ref a17, .ref a18, .int 0, .int 0, .int 0, .int 0, .int 0, .int 0, .ref a19, .ref a20, .ref a21, .ref a22, .ref a23, .ref a24, .ref a25, .ref a26, .ref a27]))] sz) [(a0, .inr (1, [.int 1, .int 0, .ref a1, .int 0, .int (-1), .int 0, .int 0, .ref a2, .ref a3, .ref a4, .ref a5, .ref a6, .int 0, .int 0, .ref a7, .int 0, .int 0, .ref a8, .ref a9, .ref a10, .ref a11, .ref a12, .ref a13, .int 0, .ref a14, .ref a15, .int 0, .int 0, .int 0, .int 0, .int 0, .int 0, .ref a16, .ref a17, .ref a18, .int 0, .int 0, .int 0, .int 0, .int 0, .int 0, .ref a19, .ref a20, .ref a21, .ref a22, .ref a23, .ref a24, .ref a25, .ref a26, .ref a27]))]) (va_A [(a0, .inr (1, [.int 0, .int 0, .ref a1, .int 0, .int (-1), .int 0, .int 0, .ref a2, .ref a3, .ref a4, .ref a5, .ref a6, .int 0, .int 0, .ref a7, .int 0, .int 0, .ref a8, .ref a9, .ref a10, .ref a11, .ref a12, .ref a13, .int 0, .ref a14, .ref a15, .int 0, .int 0, .int 0, .int 0, .int 0, .int 0, .ref a16, .ref a17, .ref a18, .int 0, .int 0, .int 0, .int 0, .int 0, .int 0, .ref a19, .ref a20, .ref a21, .ref a22, .ref a23, .ref a24, .ref a25, .ref a26, .ref a27]))] sz)) 0 0 (va_A [(a0, .inr (1, [.int 0, .int 0, .ref a1, .int 0, .int (-1), .int 0, .int 0, .ref a2, .ref a3, .ref a4, .ref a5, .ref a6, .int 0, .int 0, .ref a7, .int 0, .int 0, .ref a8, .ref a9, .ref a10, .ref a11, .ref a12, .ref a13, .int 0, .ref a14, .ref a15, .int 0, .int 0, .int 0, .int 0, .int 0, .int 0, .ref a16, .ref a17, .ref a18, .int 0, .int 0, .int 0, .int 0, .int 0, .int 0, .ref a19, .ref a20, .ref a21, .ref a22, .ref a23, .ref a24, .ref a25, .ref a26, .ref a27]))] sz) := by
  refine Met.ofW (cc := b_Model_kind) (maxL := 2) (ret := (some .int)) (by decide) rfl ?_
  intro p e s m args below meth c s₁ B hml hv
  obtain ⟨rfl, hsz, hP, hK, hD0⟩ := hv
  have hx := B.exec
  have hb := B.bytes
  have hr := B.returns
  have hts := atoms_spec (ws := w_Model_kind) B.pre
  have hz : ∀ w ∈ wz, w.before _ s = true := fun w h => hts w (List.mem_cons_of_mem _ h)
  have hown : s.vm.findClass R_Model = some m.cls := findClass_of_methodNamed B.named
  have hlocks := B.notSynchronized
  subst hsz
  have hD := hD0.self (sz := s.heap.size)
  generalize hAe : va_A [(a0, .inr (1, [.int 0, .int 0, .ref a1, .int 0, .int (-1), .int 0, .int 0, .ref a2, .ref a3, .ref a4, .ref a5, .ref a6, .int 0, .int 0, .ref a7, .int 0, .int 0, .ref a8, .ref a9, .ref a10, .ref a11, .ref a12, .ref a13, .int 0, .ref a14, .ref a15, .int 0, .int 0, .int 0, .int 0, .int 0, .int 0, .ref a16, .ref a17, .ref a18, .int 0, .int 0, .int 0, .int 0, .int 0, .int 0, .ref a19, .ref a20, .ref a21, .ref a22, .ref a23, .ref a24, .ref a25, .ref a26, .ref a27]))] s.heap.size = A at hD ⊢
  have hA : ∀ q : Nat, s.heap.size ≤ q → A q := fun q h => by rw [← hAe]; exact Or.inr h
  have hS : va_S A s.heap s.heap [] := va_S.rf
  have hP : va_P (dC, dI) vcl [(a0, .inr (1, [.int 0, .int 0, .ref a1, .int 0, .int (-1), .int 0, .int 0, .ref a2, .ref a3, .ref a4, .ref a5, .ref a6, .int 0, .int 0, .ref a7, .int 0, .int 0, .ref a8, .ref a9, .ref a10, .ref a11, .ref a12, .ref a13, .int 0, .ref a14, .ref a15, .int 0, .int 0, .int 0, .int 0, .int 0, .int 0, .ref a16, .ref a17, .ref a18, .int 0, .int 0, .int 0, .int 0, .int 0, .int 0, .ref a19, .ref a20, .ref a21, .ref a22, .ref a23, .ref a24, .ref a25, .ref a26, .ref a27]))] s.heap := hP
  have hl := lv_entry ([.ref a0, .int ix]) (n := 2) (Nat.le_of_ble_eq_true rfl)
  rw [lg_entry_eq]
  generalize (lg_sl ([.ref a0, .int ix]) ++ List.replicate (2 - (lg_sl ([.ref a0, .int ix])).length) Slot.unset).toArray = ls at hl ⊢
  have hl : lv_has ls 2 [(0, .ref a0), (1, .int ix)] := hl
  refine lv_aload_n hx hb d_Model_kind_0 rfl (lv_at hl 0 rfl) ?_
  refine lv_iconst (v := 0) hx hb d_Model_kind_1 (by decide) ?_
  refine va_put (D := (dC, dI)) (ci := 1) (v := .int 0) (ty := .int) (C := R_Model) (T := F_Model) (N := 50) hx hb hz zu_Model t_Model t_Model_ok n_Model hown hK hP hD hS 0 rfl rfl 0 (by decide) (hz (.fieldLink R_Model 97 "LayoutFrontModel" "thrown" "I") zm_415) (fun _ h9 => h9) rfl (by decide +kernel) rfl rfl (Nat.le_of_ble_eq_true rfl) d_Model_kind_2 (fun H locs hP hD hS => ?_)
  have hP : va_P (dC, dI) vcl [(a0, .inr (1, [.int 0, .int 0, .ref a1, .int 0, .int (-1), .int 0, .int 0, .ref a2, .ref a3, .ref a4, .ref a5, .ref a6, .int 0, .int 0, .ref a7, .int 0, .int 0, .ref a8, .ref a9, .ref a10, .ref a11, .ref a12, .ref a13, .int 0, .ref a14, .ref a15, .int 0, .int 0, .int 0, .int 0, .int 0, .int 0, .ref a16, .ref a17, .ref a18, .int 0, .int 0, .int 0, .int 0, .int 0, .int 0, .ref a19, .ref a20, .ref a21, .ref a22, .ref a23, .ref a24, .ref a25, .ref a26, .ref a27]))] H := hP
  have hD : va_D A [(a0, .inr (1, [.int 0, .int 0, .ref a1, .int 0, .int (-1), .int 0, .int 0, .ref a2, .ref a3, .ref a4, .ref a5, .ref a6, .int 0, .int 0, .ref a7, .int 0, .int 0, .ref a8, .ref a9, .ref a10, .ref a11, .ref a12, .ref a13, .int 0, .ref a14, .ref a15, .int 0, .int 0, .int 0, .int 0, .int 0, .int 0, .ref a16, .ref a17, .ref a18, .int 0, .int 0, .int 0, .int 0, .int 0, .int 0, .ref a19, .ref a20, .ref a21, .ref a22, .ref a23, .ref a24, .ref a25, .ref a26, .ref a27]))] := hD
  refine lv_iload_n hx hb d_Model_kind_5 rfl (lv_at hl 1 rfl) ?_
  refine lv_iconst (v := 0) hx hb d_Model_kind_6 (by decide) ?_
  refine lv_aload_n hx hb d_Model_kind_7 rfl (lv_at hl 0 rfl) ?_
  refine va_get (D := (dC, dI)) (ci := 1) (v := .int 0) (C := R_Model) (T := F_Model) (N := 50) hx hb hz zu_Model hown hK hP 0 rfl rfl 23 (by decide) (hz (.fieldLink R_Model 353 "LayoutFrontModel" "all" "I") zm_414) (fun _ h9 => h9) rfl d_Model_kind_8 ?_
  refine lv_iconst (v := 1) hx hb d_Model_kind_11 (by decide) ?_
  refine xr_isub (v := (-1)) hx hb d_Model_kind_12 (by decide +kernel) ?_
  have hPc := hP.sub (ws' := []) [] rfl
  have hDc := hD.sub (ws' := []) [] (by decide) rfl
  have hKc := hK.sub (tys' := []) [] rfl
  have hFc := va_free (wc := []) hD hS hA [] rfl
  refine va_calli (va_runS (As := [.int ix, .int 0, .int (-1)]) (rest := []) ⟨hx, hb, hml, hown, hz⟩ (c138_Model_within l dC dI H.size ix gi) (cwS 3 hz (zS zm_449 zm_450 zm_374 zm_451) rfl rfl rfl (by decide +kernel) ⟨Nat.le_of_ble_eq_true rfl, Nat.le_of_ble_eq_true rfl⟩) ⟨fun a U g mk q => by obtain ⟨q0, q1, qP, qK, qD⟩ := q; exact ⟨q0, q1, qP, va_K.moved (u := U) (U := U.calling g mk a) (Vm.Alike.refl U.vm) qK, qD⟩, fun U hU hW => ⟨rfl, by rw [hU], by rw [hU]; exact hPc, va_K.moved hW.alike hKc, hDc.weaken (fun _ _ _ _ => trivial)⟩⟩ rfl rfl hl.1 rfl (lv_room (Nat.le_of_ble_eq_true rfl)) d_Model_kind_13 ⟨by decide, by decide⟩) hS (fun q _ h => hFc q h) hFc (fun r u t H1 locs ht hvm hw hB hz1 hk1 hS => ?_)
  obtain ⟨hP1, hK1, hD1⟩ := hB
  subst r
  rw [ht] at hP1
  obtain ⟨hP, hD⟩ := va_join (wr := [(a0, .inr (1, [.int 0, .int 0, .ref a1, .int 0, .int (-1), .int 0, .int 0, .ref a2, .ref a3, .ref a4, .ref a5, .ref a6, .int 0, .int 0, .ref a7, .int 0, .int 0, .ref a8, .ref a9, .ref a10, .ref a11, .ref a12, .ref a13, .int 0, .ref a14, .ref a15, .int 0, .int 0, .int 0, .int 0, .int 0, .int 0, .ref a16, .ref a17, .ref a18, .int 0, .int 0, .int 0, .int 0, .int 0, .int 0, .ref a19, .ref a20, .ref a21, .ref a22, .ref a23, .ref a24, .ref a25, .ref a26, .ref a27]))]) (w1 := []) hP hD [] [0] rfl rfl (by decide) (by decide) hk1 hFc hP1 hD1
  generalize H1 = H at hP hS ⊢
  have hP : va_P (dC, dI) vcl [(a0, .inr (1, [.int 0, .int 0, .ref a1, .int 0, .int (-1), .int 0, .int 0, .ref a2, .ref a3, .ref a4, .ref a5, .ref a6, .int 0, .int 0, .ref a7, .int 0, .int 0, .ref a8, .ref a9, .ref a10, .ref a11, .ref a12, .ref a13, .int 0, .ref a14, .ref a15, .int 0, .int 0, .int 0, .int 0, .int 0, .int 0, .ref a16, .ref a17, .ref a18, .int 0, .int 0, .int 0, .int 0, .int 0, .int 0, .ref a19, .ref a20, .ref a21, .ref a22, .ref a23, .ref a24, .ref a25, .ref a26, .ref a27]))] H := hP
  have hD : va_D A [(a0, .inr (1, [.int 0, .int 0, .ref a1, .int 0, .int (-1), .int 0, .int 0, .ref a2, .ref a3, .ref a4, .ref a5, .ref a6, .int 0, .int 0, .ref a7, .int 0, .int 0, .ref a8, .ref a9, .ref a10, .ref a11, .ref a12, .ref a13, .int 0, .ref a14, .ref a15, .int 0, .int 0, .int 0, .int 0, .int 0, .int 0, .ref a16, .ref a17, .ref a18, .int 0, .int 0, .int 0, .int 0, .int 0, .int 0, .ref a19, .ref a20, .ref a21, .ref a22, .ref a23, .ref a24, .ref a25, .ref a26, .ref a27]))] := hD
  refine lv_if_eq (tgt := 28) hx hb d_Model_kind_16 (by decide) (fun _ => ?_) (fun h => (h (by decide +kernel)).elim)
  refine lv_aload_n hx hb d_Model_kind_28 rfl (lv_at hl 0 rfl) ?_
  refine lv_iconst (v := 1) hx hb d_Model_kind_29 (by decide) ?_
  have hPc := hP.sub (ws' := [(a0, .inr (1, [.int 0, .int 0, .ref a1, .int 0, .int (-1), .int 0, .int 0, .ref a2, .ref a3, .ref a4, .ref a5, .ref a6, .int 0, .int 0, .ref a7, .int 0, .int 0, .ref a8, .ref a9, .ref a10, .ref a11, .ref a12, .ref a13, .int 0, .ref a14, .ref a15, .int 0, .int 0, .int 0, .int 0, .int 0, .int 0, .ref a16, .ref a17, .ref a18, .int 0, .int 0, .int 0, .int 0, .int 0, .int 0, .ref a19, .ref a20, .ref a21, .ref a22, .ref a23, .ref a24, .ref a25, .ref a26, .ref a27]))]) [0] rfl
  have hDc := hD.sub (ws' := [(a0, .inr (1, [.int 0, .int 0, .ref a1, .int 0, .int (-1), .int 0, .int 0, .ref a2, .ref a3, .ref a4, .ref a5, .ref a6, .int 0, .int 0, .ref a7, .int 0, .int 0, .ref a8, .ref a9, .ref a10, .ref a11, .ref a12, .ref a13, .int 0, .ref a14, .ref a15, .int 0, .int 0, .int 0, .int 0, .int 0, .int 0, .ref a16, .ref a17, .ref a18, .int 0, .int 0, .int 0, .int 0, .int 0, .int 0, .ref a19, .ref a20, .ref a21, .ref a22, .ref a23, .ref a24, .ref a25, .ref a26, .ref a27]))]) [0] (by decide) rfl
  have hKc := hK.sub (tys' := []) [] rfl
  have hFc := va_free (wc := [(a0, .inr (1, [.int 0, .int 0, .ref a1, .int 0, .int (-1), .int 0, .int 0, .ref a2, .ref a3, .ref a4, .ref a5, .ref a6, .int 0, .int 0, .ref a7, .int 0, .int 0, .ref a8, .ref a9, .ref a10, .ref a11, .ref a12, .ref a13, .int 0, .ref a14, .ref a15, .int 0, .int 0, .int 0, .int 0, .int 0, .int 0, .ref a16, .ref a17, .ref a18, .int 0, .int 0, .int 0, .int 0, .int 0, .int 0, .ref a19, .ref a20, .ref a21, .ref a22, .ref a23, .ref a24, .ref a25, .ref a26, .ref a27]))]) hD hS hA [0] rfl
  refine va_calli (va_runV (As := [.int 1]) (rest := []) ⟨hx, hb, hml, hown, hz⟩ (c139_Model_fail l dC dI H.size a0 a1 a2 a3 a4 a5 a6 a7 a8 a9 a10 a11 a12 a13 a14 a15 a16 a17 a18 a19 a20 a21 a22 a23 a24 a25 a26 a27) (cwV 1 hz (zV zm_452 zm_453 zm_454 zm_374 zm_455) rfl rfl rfl (by decide +kernel) ⟨Nat.le_of_ble_eq_true rfl, Nat.le_of_ble_eq_true rfl⟩) ⟨fun a U g mk q => by obtain ⟨q0, q1, qP, qK, qD⟩ := q; exact ⟨q0, q1, qP, va_K.moved (u := U) (U := U.calling g mk a) (Vm.Alike.refl U.vm) qK, qD⟩, va_recv (q := (R_Model, F_Model, 50)) (q0 := 0) (ci := 1) hK hP rfl rfl, fun U hU hW => ⟨rfl, by rw [hU], by rw [hU]; exact hPc, va_K.moved hW.alike hKc, hDc.weaken (fun _ _ _ _ => trivial)⟩⟩ rfl rfl hl.1 rfl (lv_room (Nat.le_of_ble_eq_true rfl)) d_Model_kind_30 ⟨by decide, by decide⟩) hS (fun q _ h => hFc q h) hFc (fun r u t H1 locs ht hvm hw hB hz1 hk1 hS => ?_)
  obtain ⟨hP1, hK1, hD1⟩ := hB
  subst r
  rw [ht] at hP1
  obtain ⟨hP, hD⟩ := va_join (wr := []) (w1 := [(a0, .inr (1, [.int 1, .int 0, .ref a1, .int 0, .int (-1), .int 0, .int 0, .ref a2, .ref a3, .ref a4, .ref a5, .ref a6, .int 0, .int 0, .ref a7, .int 0, .int 0, .ref a8, .ref a9, .ref a10, .ref a11, .ref a12, .ref a13, .int 0, .ref a14, .ref a15, .int 0, .int 0, .int 0, .int 0, .int 0, .int 0, .ref a16, .ref a17, .ref a18, .int 0, .int 0, .int 0, .int 0, .int 0, .int 0, .ref a19, .ref a20, .ref a21, .ref a22, .ref a23, .ref a24, .ref a25, .ref a26, .ref a27]))]) hP hD [0] [] rfl rfl (by decide) (by decide) hk1 hFc hP1 hD1
  generalize H1 = H at hP hS ⊢
  have hP : va_P (dC, dI) vcl [(a0, .inr (1, [.int 1, .int 0, .ref a1, .int 0, .int (-1), .int 0, .int 0, .ref a2, .ref a3, .ref a4, .ref a5, .ref a6, .int 0, .int 0, .ref a7, .int 0, .int 0, .ref a8, .ref a9, .ref a10, .ref a11, .ref a12, .ref a13, .int 0, .ref a14, .ref a15, .int 0, .int 0, .int 0, .int 0, .int 0, .int 0, .ref a16, .ref a17, .ref a18, .int 0, .int 0, .int 0, .int 0, .int 0, .int 0, .ref a19, .ref a20, .ref a21, .ref a22, .ref a23, .ref a24, .ref a25, .ref a26, .ref a27]))] H := hP
  have hD : va_D A [(a0, .inr (1, [.int 1, .int 0, .ref a1, .int 0, .int (-1), .int 0, .int 0, .ref a2, .ref a3, .ref a4, .ref a5, .ref a6, .int 0, .int 0, .ref a7, .int 0, .int 0, .ref a8, .ref a9, .ref a10, .ref a11, .ref a12, .ref a13, .int 0, .ref a14, .ref a15, .int 0, .int 0, .int 0, .int 0, .int 0, .int 0, .ref a16, .ref a17, .ref a18, .int 0, .int 0, .int 0, .int 0, .int 0, .int 0, .ref a19, .ref a20, .ref a21, .ref a22, .ref a23, .ref a24, .ref a25, .ref a26, .ref a27]))] := hD
  have hP9 := hP.sub (ws' := [(a0, .inr (1, [.int 1, .int 0, .ref a1, .int 0, .int (-1), .int 0, .int 0, .ref a2, .ref a3, .ref a4, .ref a5, .ref a6, .int 0, .int 0, .ref a7, .int 0, .int 0, .ref a8, .ref a9, .ref a10, .ref a11, .ref a12, .ref a13, .int 0, .ref a14, .ref a15, .int 0, .int 0, .int 0, .int 0, .int 0, .int 0, .ref a16, .ref a17, .ref a18, .int 0, .int 0, .int 0, .int 0, .int 0, .int 0, .ref a19, .ref a20, .ref a21, .ref a22, .ref a23, .ref a24, .ref a25, .ref a26, .ref a27]))]) [0] rfl
  have hD9 := hD.sub (ws' := [(a0, .inr (1, [.int 1, .int 0, .ref a1, .int 0, .int (-1), .int 0, .int 0, .ref a2, .ref a3, .ref a4, .ref a5, .ref a6, .int 0, .int 0, .ref a7, .int 0, .int 0, .ref a8, .ref a9, .ref a10, .ref a11, .ref a12, .ref a13, .int 0, .ref a14, .ref a15, .int 0, .int 0, .int 0, .int 0, .int 0, .int 0, .ref a16, .ref a17, .ref a18, .int 0, .int 0, .int 0, .int 0, .int 0, .int 0, .ref a19, .ref a20, .ref a21, .ref a22, .ref a23, .ref a24, .ref a25, .ref a26, .ref a27]))]) [0] (by decide) rfl
  have hK9 := hK.sub (tys' := []) [] rfl
  exact W.iret (v := 0) hx hb hr (fun t ht hW => ⟨⟨0, (), rfl, rfl, by rw [ht]; exact hP9, va_K.moved hW.alike hK9, hD9⟩, hS.F ht⟩) hS.2.2 d_Model_kind_33
set_option maxHeartbeats 4000000 in
set_option maxRecDepth 100000 in
theorem c141_Model_token (l : Launch) (dC : Nat → ClassId) (dI : Nat → Nat → Nat) (sz : Nat) (a0 : Nat) (a1 : Nat) (a2 : Nat) (a3 : Nat) (a4 : Nat) (a5 : Nat) (a6 : Nat) (a7 : Nat) (a8 : Nat) (a9 : Nat) (a10 : Nat) (a11 : Nat) (a12 : Nat) (a13 : Nat) (a14 : Nat) (a15 : Nat) (a16 : Nat) (a17 : Nat) (a18 : Nat) (a19 : Nat) (a20 : Nat) (a21 : Nat) (a22 : Nat) (a23 : Nat) (a24 : Nat) (a25 : Nat) (a26 : Nat) (a27 : Nat) (ix : Int32) (gi : ix < 0) : Met l y_Model_token w_Model_token ({ frames := 1, cells := 0, slots := 0, locals := 22 }) (va_Pc [.ref a0, .int ix] (fun U => U.heap.size = sz ∧ va_P (dC, dI) vcl [(a0, .inr (1, [.int 0, .int 0, .ref a1, .int 0, .int (-1), .int 0, .int 0, .ref a2, .ref a3, .ref a4, .ref a5, .ref a6, .int 0, .int 0, .ref a7, .int 0, .int 0, .ref a8, .ref a9, .ref a10, .ref a11, .ref a12, .ref a13, .int 0, .ref a14, .ref a15, .int 0, .int 0, .int 0, .int 0, .int 0, .int 0, .ref a16, .ref a17, .ref a18, .int 0, .int 0, .int 0, .int 0, .int 0, .int 0, .ref a19, .ref a20, .ref a21, .ref a22, .ref a23, .ref a24, .ref a25, .ref a26, .ref a27]))] U.heap ∧ va_K (dC, dI) vcl [] U ∧ va_D (fun _ => True) [(a0, .inr (1, [.int 0, .int 0, .ref a1, .int 0, .int (-1), .int 0, .int 0, .ref a2, .ref a3, .ref a4, .ref a5, .ref a6, .int 0, .int 0, .ref a7, .int 0, .int 0, .ref a8, .ref a9, .ref a10, .ref a11, .ref a12, .ref a13, .int 0, .ref a14, .ref a15, .int 0, .int 0, .int 0, .int 0, .int 0, .int 0, .ref a16, .ref a17, .ref a18, .int 0, .int 0, .int 0, .int 0, .int 0, .int 0, .ref a19, .ref a20, .ref a21, .ref a22, .ref a23, .ref a24, .ref a25, .ref a26, .ref a27]))])) (va_Ql (fun (r : Int64) (_ : Unit) => r = 0) (fun _ t => va_P (dC, dI) vcl [(a0, .inr (1, [.int 1, .int 0, .ref a1, .int 0, .int (-1), .int 0, .int 0, .ref a2, .ref a3, .ref a4, .ref a5, .ref a6, .int 0, .int 0, .ref a7, .int 0, .int 0, .ref a8, .ref a9, .ref a10, .ref a11, .ref a12, .ref a13, .int 0, .ref a14, .ref a15, .int 0, .int 0, .int 0, .int 0, .int 0, .int 0, .ref a16, .ref a17, .ref a18, .int 0, .int 0, .int 0, .int 0, .int 0, .int 0, .ref a19, .ref a20, .ref a21, .ref a22, .ref a23, .ref a24, .ref a25, .ref a26, .ref a27]))] t.heap ∧ va_K (dC, dI) vcl [] t ∧ va_D (va_A [(a0, .inr (1, [.int 0, .int 0, .ref a1, .int 0, .int (-1), .int 0, .int 0, .ref a2, .ref a3, .ref a4, .ref a5, .ref a6, .int 0, .int 0, .ref a7, .int 0, .int 0, .ref a8, .ref a9, .ref a10, .ref a11, .ref a12, .ref a13, .int 0, .ref a14, .ref a15, .int 0, .int 0, .int 0, .int 0, .int 0, .int 0, .ref a16, .ref a17, .ref a18, .int 0, .int 0, .int 0, .int 0, .int 0, .int 0, .ref a19, .ref a20, .ref a21, .ref a22, .ref a23, .ref a24, .ref a25, .ref a26, .ref a27]))] sz) [(a0, .inr (1, [.int 1, .int 0, .ref a1, .int 0, .int (-1), .int 0, .int 0, .ref a2, .ref a3, .ref a4, .ref a5, .ref a6, .int 0, .int 0, .ref a7, .int 0, .int 0, .ref a8, .ref a9, .ref a10, .ref a11, .ref a12, .ref a13, .int 0, .ref a14, .ref a15, .int 0, .int 0, .int 0, .int 0, .int 0, .int 0, .ref a16, .ref a17, .ref a18, .int 0, .int 0, .int 0, .int 0, .int 0, .int 0, .ref a19, .ref a20, .ref a21, .ref a22, .ref a23, .ref a24, .ref a25, .ref a26, .ref a27]))]) (va_A [(a0, .inr (1, [.int 0, .int 0, .ref a1, .int 0, .int (-1), .int 0, .int 0, .ref a2, .ref a3, .ref a4, .ref a5, .ref a6, .int 0, .int 0, .ref a7, .int 0, .int 0, .ref a8, .ref a9, .ref a10, .ref a11, .ref a12, .ref a13, .int 0, .ref a14, .ref a15, .int 0, .int 0, .int 0, .int 0, .int 0, .int 0, .ref a16, .ref a17, .ref a18, .int 0, .int 0, .int 0, .int 0, .int 0, .int 0, .ref a19, .ref a20, .ref a21, .ref a22, .ref a23, .ref a24, .ref a25, .ref a26, .ref a27]))] sz)) 0 0 (va_A [(a0, .inr (1, [.int 0, .int 0, .ref a1, .int 0, .int (-1), .int 0, .int 0, .ref a2, .ref a3, .ref a4, .ref a5, .ref a6, .int 0, .int 0, .ref a7, .int 0, .int 0, .ref a8, .ref a9, .ref a10, .ref a11, .ref a12, .ref a13, .int 0, .ref a14, .ref a15, .int 0, .int 0, .int 0, .int 0, .int 0, .int 0, .ref a16, .ref a17, .ref a18, .int 0, .int 0, .int 0, .int 0, .int 0, .int 0, .ref a19, .ref a20, .ref a21, .ref a22, .ref a23, .ref a24, .ref a25, .ref a26, .ref a27]))] sz) := by
  refine Met.ofW (cc := b_Model_token) (maxL := 2) (ret := (some .long)) (by decide) rfl ?_
  intro p e s m args below meth c s₁ B hml hv
  obtain ⟨rfl, hsz, hP, hK, hD0⟩ := hv
  have hx := B.exec
  have hb := B.bytes
  have hr := B.returns
  have hts := atoms_spec (ws := w_Model_token) B.pre
  have hz : ∀ w ∈ wz, w.before _ s = true := fun w h => hts w (List.mem_cons_of_mem _ h)
  have hown : s.vm.findClass R_Model = some m.cls := findClass_of_methodNamed B.named
  have hlocks := B.notSynchronized
  subst hsz
  have hD := hD0.self (sz := s.heap.size)
  generalize hAe : va_A [(a0, .inr (1, [.int 0, .int 0, .ref a1, .int 0, .int (-1), .int 0, .int 0, .ref a2, .ref a3, .ref a4, .ref a5, .ref a6, .int 0, .int 0, .ref a7, .int 0, .int 0, .ref a8, .ref a9, .ref a10, .ref a11, .ref a12, .ref a13, .int 0, .ref a14, .ref a15, .int 0, .int 0, .int 0, .int 0, .int 0, .int 0, .ref a16, .ref a17, .ref a18, .int 0, .int 0, .int 0, .int 0, .int 0, .int 0, .ref a19, .ref a20, .ref a21, .ref a22, .ref a23, .ref a24, .ref a25, .ref a26, .ref a27]))] s.heap.size = A at hD ⊢
  have hA : ∀ q : Nat, s.heap.size ≤ q → A q := fun q h => by rw [← hAe]; exact Or.inr h
  have hS : va_S A s.heap s.heap [] := va_S.rf
  have hP : va_P (dC, dI) vcl [(a0, .inr (1, [.int 0, .int 0, .ref a1, .int 0, .int (-1), .int 0, .int 0, .ref a2, .ref a3, .ref a4, .ref a5, .ref a6, .int 0, .int 0, .ref a7, .int 0, .int 0, .ref a8, .ref a9, .ref a10, .ref a11, .ref a12, .ref a13, .int 0, .ref a14, .ref a15, .int 0, .int 0, .int 0, .int 0, .int 0, .int 0, .ref a16, .ref a17, .ref a18, .int 0, .int 0, .int 0, .int 0, .int 0, .int 0, .ref a19, .ref a20, .ref a21, .ref a22, .ref a23, .ref a24, .ref a25, .ref a26, .ref a27]))] s.heap := hP
  have hl := lv_entry ([.ref a0, .int ix]) (n := 2) (Nat.le_of_ble_eq_true rfl)
  rw [lg_entry_eq]
  generalize (lg_sl ([.ref a0, .int ix]) ++ List.replicate (2 - (lg_sl ([.ref a0, .int ix])).length) Slot.unset).toArray = ls at hl ⊢
  have hl : lv_has ls 2 [(0, .ref a0), (1, .int ix)] := hl
  refine lv_aload_n hx hb d_Model_token_0 rfl (lv_at hl 0 rfl) ?_
  refine lv_iconst (v := 0) hx hb d_Model_token_1 (by decide) ?_
  refine va_put (D := (dC, dI)) (ci := 1) (v := .int 0) (ty := .int) (C := R_Model) (T := F_Model) (N := 50) hx hb hz zu_Model t_Model t_Model_ok n_Model hown hK hP hD hS 0 rfl rfl 0 (by decide) (hz (.fieldLink R_Model 97 "LayoutFrontModel" "thrown" "I") zm_415) (fun _ h9 => h9) rfl (by decide +kernel) rfl rfl (Nat.le_of_ble_eq_true rfl) d_Model_token_2 (fun H locs hP hD hS => ?_)
  have hP : va_P (dC, dI) vcl [(a0, .inr (1, [.int 0, .int 0, .ref a1, .int 0, .int (-1), .int 0, .int 0, .ref a2, .ref a3, .ref a4, .ref a5, .ref a6, .int 0, .int 0, .ref a7, .int 0, .int 0, .ref a8, .ref a9, .ref a10, .ref a11, .ref a12, .ref a13, .int 0, .ref a14, .ref a15, .int 0, .int 0, .int 0, .int 0, .int 0, .int 0, .ref a16, .ref a17, .ref a18, .int 0, .int 0, .int 0, .int 0, .int 0, .int 0, .ref a19, .ref a20, .ref a21, .ref a22, .ref a23, .ref a24, .ref a25, .ref a26, .ref a27]))] H := hP
  have hD : va_D A [(a0, .inr (1, [.int 0, .int 0, .ref a1, .int 0, .int (-1), .int 0, .int 0, .ref a2, .ref a3, .ref a4, .ref a5, .ref a6, .int 0, .int 0, .ref a7, .int 0, .int 0, .ref a8, .ref a9, .ref a10, .ref a11, .ref a12, .ref a13, .int 0, .ref a14, .ref a15, .int 0, .int 0, .int 0, .int 0, .int 0, .int 0, .ref a16, .ref a17, .ref a18, .int 0, .int 0, .int 0, .int 0, .int 0, .int 0, .ref a19, .ref a20, .ref a21, .ref a22, .ref a23, .ref a24, .ref a25, .ref a26, .ref a27]))] := hD
  refine lv_iload_n hx hb d_Model_token_5 rfl (lv_at hl 1 rfl) ?_
  refine lv_iconst (v := 0) hx hb d_Model_token_6 (by decide) ?_
  refine lv_aload_n hx hb d_Model_token_7 rfl (lv_at hl 0 rfl) ?_
  refine va_get (D := (dC, dI)) (ci := 1) (v := .int 0) (C := R_Model) (T := F_Model) (N := 50) hx hb hz zu_Model hown hK hP 0 rfl rfl 23 (by decide) (hz (.fieldLink R_Model 353 "LayoutFrontModel" "all" "I") zm_414) (fun _ h9 => h9) rfl d_Model_token_8 ?_
  refine lv_iconst (v := 1) hx hb d_Model_token_11 (by decide) ?_
  refine xr_isub (v := (-1)) hx hb d_Model_token_12 (by decide +kernel) ?_
  have hPc := hP.sub (ws' := []) [] rfl
  have hDc := hD.sub (ws' := []) [] (by decide) rfl
  have hKc := hK.sub (tys' := []) [] rfl
  have hFc := va_free (wc := []) hD hS hA [] rfl
  refine va_calli (va_runS (As := [.int ix, .int 0, .int (-1)]) (rest := []) ⟨hx, hb, hml, hown, hz⟩ (c138_Model_within l dC dI H.size ix gi) (cwS 3 hz (zS zm_449 zm_450 zm_374 zm_451) rfl rfl rfl (by decide +kernel) ⟨Nat.le_of_ble_eq_true rfl, Nat.le_of_ble_eq_true rfl⟩) ⟨fun a U g mk q => by obtain ⟨q0, q1, qP, qK, qD⟩ := q; exact ⟨q0, q1, qP, va_K.moved (u := U) (U := U.calling g mk a) (Vm.Alike.refl U.vm) qK, qD⟩, fun U hU hW => ⟨rfl, by rw [hU], by rw [hU]; exact hPc, va_K.moved hW.alike hKc, hDc.weaken (fun _ _ _ _ => trivial)⟩⟩ rfl rfl hl.1 rfl (lv_room (Nat.le_of_ble_eq_true rfl)) d_Model_token_13 ⟨by decide, by decide⟩) hS (fun q _ h => hFc q h) hFc (fun r u t H1 locs ht hvm hw hB hz1 hk1 hS => ?_)
  obtain ⟨hP1, hK1, hD1⟩ := hB
  subst r
  rw [ht] at hP1
  obtain ⟨hP, hD⟩ := va_join (wr := [(a0, .inr (1, [.int 0, .int 0, .ref a1, .int 0, .int (-1), .int 0, .int 0, .ref a2, .ref a3, .ref a4, .ref a5, .ref a6, .int 0, .int 0, .ref a7, .int 0, .int 0, .ref a8, .ref a9, .ref a10, .ref a11, .ref a12, .ref a13, .int 0, .ref a14, .ref a15, .int 0, .int 0, .int 0, .int 0, .int 0, .int 0, .ref a16, .ref a17, .ref a18, .int 0, .int 0, .int 0, .int 0, .int 0, .int 0, .ref a19, .ref a20, .ref a21, .ref a22, .ref a23, .ref a24, .ref a25, .ref a26, .ref a27]))]) (w1 := []) hP hD [] [0] rfl rfl (by decide) (by decide) hk1 hFc hP1 hD1
  generalize H1 = H at hP hS ⊢
  have hP : va_P (dC, dI) vcl [(a0, .inr (1, [.int 0, .int 0, .ref a1, .int 0, .int (-1), .int 0, .int 0, .ref a2, .ref a3, .ref a4, .ref a5, .ref a6, .int 0, .int 0, .ref a7, .int 0, .int 0, .ref a8, .ref a9, .ref a10, .ref a11, .ref a12, .ref a13, .int 0, .ref a14, .ref a15, .int 0, .int 0, .int 0, .int 0, .int 0, .int 0, .ref a16, .ref a17, .ref a18, .int 0, .int 0, .int 0, .int 0, .int 0, .int 0, .ref a19, .ref a20, .ref a21, .ref a22, .ref a23, .ref a24, .ref a25, .ref a26, .ref a27]))] H := hP
  have hD : va_D A [(a0, .inr (1, [.int 0, .int 0, .ref a1, .int 0, .int (-1), .int 0, .int 0, .ref a2, .ref a3, .ref a4, .ref a5, .ref a6, .int 0, .int 0, .ref a7, .int 0, .int 0, .ref a8, .ref a9, .ref a10, .ref a11, .ref a12, .ref a13, .int 0, .ref a14, .ref a15, .int 0, .int 0, .int 0, .int 0, .int 0, .int 0, .ref a16, .ref a17, .ref a18, .int 0, .int 0, .int 0, .int 0, .int 0, .int 0, .ref a19, .ref a20, .ref a21, .ref a22, .ref a23, .ref a24, .ref a25, .ref a26, .ref a27]))] := hD
  refine lv_if_eq (tgt := 28) hx hb d_Model_token_16 (by decide) (fun _ => ?_) (fun h => (h (by decide +kernel)).elim)
  refine lv_aload_n hx hb d_Model_token_28 rfl (lv_at hl 0 rfl) ?_
  refine lv_iconst (v := 1) hx hb d_Model_token_29 (by decide) ?_
  have hPc := hP.sub (ws' := [(a0, .inr (1, [.int 0, .int 0, .ref a1, .int 0, .int (-1), .int 0, .int 0, .ref a2, .ref a3, .ref a4, .ref a5, .ref a6, .int 0, .int 0, .ref a7, .int 0, .int 0, .ref a8, .ref a9, .ref a10, .ref a11, .ref a12, .ref a13, .int 0, .ref a14, .ref a15, .int 0, .int 0, .int 0, .int 0, .int 0, .int 0, .ref a16, .ref a17, .ref a18, .int 0, .int 0, .int 0, .int 0, .int 0, .int 0, .ref a19, .ref a20, .ref a21, .ref a22, .ref a23, .ref a24, .ref a25, .ref a26, .ref a27]))]) [0] rfl
  have hDc := hD.sub (ws' := [(a0, .inr (1, [.int 0, .int 0, .ref a1, .int 0, .int (-1), .int 0, .int 0, .ref a2, .ref a3, .ref a4, .ref a5, .ref a6, .int 0, .int 0, .ref a7, .int 0, .int 0, .ref a8, .ref a9, .ref a10, .ref a11, .ref a12, .ref a13, .int 0, .ref a14, .ref a15, .int 0, .int 0, .int 0, .int 0, .int 0, .int 0, .ref a16, .ref a17, .ref a18, .int 0, .int 0, .int 0, .int 0, .int 0, .int 0, .ref a19, .ref a20, .ref a21, .ref a22, .ref a23, .ref a24, .ref a25, .ref a26, .ref a27]))]) [0] (by decide) rfl
  have hKc := hK.sub (tys' := []) [] rfl
  have hFc := va_free (wc := [(a0, .inr (1, [.int 0, .int 0, .ref a1, .int 0, .int (-1), .int 0, .int 0, .ref a2, .ref a3, .ref a4, .ref a5, .ref a6, .int 0, .int 0, .ref a7, .int 0, .int 0, .ref a8, .ref a9, .ref a10, .ref a11, .ref a12, .ref a13, .int 0, .ref a14, .ref a15, .int 0, .int 0, .int 0, .int 0, .int 0, .int 0, .ref a16, .ref a17, .ref a18, .int 0, .int 0, .int 0, .int 0, .int 0, .int 0, .ref a19, .ref a20, .ref a21, .ref a22, .ref a23, .ref a24, .ref a25, .ref a26, .ref a27]))]) hD hS hA [0] rfl
  refine va_calli (va_runV (As := [.int 1]) (rest := []) ⟨hx, hb, hml, hown, hz⟩ (c139_Model_fail l dC dI H.size a0 a1 a2 a3 a4 a5 a6 a7 a8 a9 a10 a11 a12 a13 a14 a15 a16 a17 a18 a19 a20 a21 a22 a23 a24 a25 a26 a27) (cwV 1 hz (zV zm_452 zm_453 zm_454 zm_374 zm_455) rfl rfl rfl (by decide +kernel) ⟨Nat.le_of_ble_eq_true rfl, Nat.le_of_ble_eq_true rfl⟩) ⟨fun a U g mk q => by obtain ⟨q0, q1, qP, qK, qD⟩ := q; exact ⟨q0, q1, qP, va_K.moved (u := U) (U := U.calling g mk a) (Vm.Alike.refl U.vm) qK, qD⟩, va_recv (q := (R_Model, F_Model, 50)) (q0 := 0) (ci := 1) hK hP rfl rfl, fun U hU hW => ⟨rfl, by rw [hU], by rw [hU]; exact hPc, va_K.moved hW.alike hKc, hDc.weaken (fun _ _ _ _ => trivial)⟩⟩ rfl rfl hl.1 rfl (lv_room (Nat.le_of_ble_eq_true rfl)) d_Model_token_30 ⟨by decide, by decide⟩) hS (fun q _ h => hFc q h) hFc (fun r u t H1 locs ht hvm hw hB hz1 hk1 hS => ?_)
  obtain ⟨hP1, hK1, hD1⟩ := hB
  subst r
  rw [ht] at hP1
  obtain ⟨hP, hD⟩ := va_join (wr := []) (w1 := [(a0, .inr (1, [.int 1, .int 0, .ref a1, .int 0, .int (-1), .int 0, .int 0, .ref a2, .ref a3, .ref a4, .ref a5, .ref a6, .int 0, .int 0, .ref a7, .int 0, .int 0, .ref a8, .ref a9, .ref a10, .ref a11, .ref a12, .ref a13, .int 0, .ref a14, .ref a15, .int 0, .int 0, .int 0, .int 0, .int 0, .int 0, .ref a16, .ref a17, .ref a18, .int 0, .int 0, .int 0, .int 0, .int 0, .int 0, .ref a19, .ref a20, .ref a21, .ref a22, .ref a23, .ref a24, .ref a25, .ref a26, .ref a27]))]) hP hD [0] [] rfl rfl (by decide) (by decide) hk1 hFc hP1 hD1
  generalize H1 = H at hP hS ⊢
  have hP : va_P (dC, dI) vcl [(a0, .inr (1, [.int 1, .int 0, .ref a1, .int 0, .int (-1), .int 0, .int 0, .ref a2, .ref a3, .ref a4, .ref a5, .ref a6, .int 0, .int 0, .ref a7, .int 0, .int 0, .ref a8, .ref a9, .ref a10, .ref a11, .ref a12, .ref a13, .int 0, .ref a14, .ref a15, .int 0, .int 0, .int 0, .int 0, .int 0, .int 0, .ref a16, .ref a17, .ref a18, .int 0, .int 0, .int 0, .int 0, .int 0, .int 0, .ref a19, .ref a20, .ref a21, .ref a22, .ref a23, .ref a24, .ref a25, .ref a26, .ref a27]))] H := hP
  have hD : va_D A [(a0, .inr (1, [.int 1, .int 0, .ref a1, .int 0, .int (-1), .int 0, .int 0, .ref a2, .ref a3, .ref a4, .ref a5, .ref a6, .int 0, .int 0, .ref a7, .int 0, .int 0, .ref a8, .ref a9, .ref a10, .ref a11, .ref a12, .ref a13, .int 0, .ref a14, .ref a15, .int 0, .int 0, .int 0, .int 0, .int 0, .int 0, .ref a16, .ref a17, .ref a18, .int 0, .int 0, .int 0, .int 0, .int 0, .int 0, .ref a19, .ref a20, .ref a21, .ref a22, .ref a23, .ref a24, .ref a25, .ref a26, .ref a27]))] := hD
  refine lv_i2l (v := 0) hx hb d_Model_token_33 (by decide +kernel) ?_
  have hP9 := hP.sub (ws' := [(a0, .inr (1, [.int 1, .int 0, .ref a1, .int 0, .int (-1), .int 0, .int 0, .ref a2, .ref a3, .ref a4, .ref a5, .ref a6, .int 0, .int 0, .ref a7, .int 0, .int 0, .ref a8, .ref a9, .ref a10, .ref a11, .ref a12, .ref a13, .int 0, .ref a14, .ref a15, .int 0, .int 0, .int 0, .int 0, .int 0, .int 0, .ref a16, .ref a17, .ref a18, .int 0, .int 0, .int 0, .int 0, .int 0, .int 0, .ref a19, .ref a20, .ref a21, .ref a22, .ref a23, .ref a24, .ref a25, .ref a26, .ref a27]))]) [0] rfl
  have hD9 := hD.sub (ws' := [(a0, .inr (1, [.int 1, .int 0, .ref a1, .int 0, .int (-1), .int 0, .int 0, .ref a2, .ref a3, .ref a4, .ref a5, .ref a6, .int 0, .int 0, .ref a7, .int 0, .int 0, .ref a8, .ref a9, .ref a10, .ref a11, .ref a12, .ref a13, .int 0, .ref a14, .ref a15, .int 0, .int 0, .int 0, .int 0, .int 0, .int 0, .ref a16, .ref a17, .ref a18, .int 0, .int 0, .int 0, .int 0, .int 0, .int 0, .ref a19, .ref a20, .ref a21, .ref a22, .ref a23, .ref a24, .ref a25, .ref a26, .ref a27]))]) [0] (by decide) rfl
  have hK9 := hK.sub (tys' := []) [] rfl
  exact W.lret (v := 0) hx hb hr (fun t ht hW => ⟨⟨0, (), rfl, rfl, by rw [ht]; exact hP9, va_K.moved hW.alike hK9, hD9⟩, hS.F ht⟩) hS.2.2 d_Model_token_34
set_option maxHeartbeats 4000000 in
set_option maxRecDepth 100000 in
theorem c142_Model_within (l : Launch) (dC : Nat → ClassId) (dI : Nat → Nat → Nat) (sz : Nat) (ix : Int32) (gi : ¬ ix < 0) : Met l y_Model_within w_Model_within ({ frames := 0, cells := 0, slots := 0, locals := 0 }) (va_Pc [.int ix, .int 0, .int (-1)] (fun U => U.heap.size = sz ∧ va_P (dC, dI) vcl [] U.heap ∧ va_K (dC, dI) vcl [] U ∧ va_D (fun _ => True) [])) (va_Qi (fun (r : Int32) (_ : Unit) => r = 0) (fun _ t => va_P (dC, dI) vcl [] t.heap ∧ va_K (dC, dI) vcl [] t ∧ va_D (va_A [] sz) []) (va_A [] sz)) 0 0 (va_A [] sz) := by
  refine Met.ofW (cc := b_Model_within) (maxL := 3) (ret := (some .boolean)) (by decide) rfl ?_
  intro p e s m args below meth c s₁ B hml hv
  obtain ⟨rfl, hsz, hP, hK, hD0⟩ := hv
  have hx := B.exec
  have hb := B.bytes
  have hr := B.returns
  have hts := atoms_spec (ws := w_Model_within) B.pre
  have hz : ∀ w ∈ wz, w.before _ s = true := fun w h => hts w (List.mem_cons_of_mem _ h)
  have hown : s.vm.findClass R_Model = some m.cls := findClass_of_methodNamed B.named
  have hlocks := B.notSynchronized
  subst hsz
  have hD := hD0.self (sz := s.heap.size)
  generalize hAe : va_A [] s.heap.size = A at hD ⊢
  have hA : ∀ q : Nat, s.heap.size ≤ q → A q := fun q h => by rw [← hAe]; exact Or.inr h
  have hS : va_S A s.heap s.heap [] := va_S.rf
  have hP : va_P (dC, dI) vcl [] s.heap := hP
  have hl := lv_entry ([.int ix, .int 0, .int (-1)]) (n := 3) (Nat.le_of_ble_eq_true rfl)
  rw [lg_entry_eq]
  generalize (lg_sl ([.int ix, .int 0, .int (-1)]) ++ List.replicate (3 - (lg_sl ([.int ix, .int 0, .int (-1)])).length) Slot.unset).toArray = ls at hl ⊢
  have hl : lv_has ls 3 [(0, .int ix), (1, .int 0), (2, .int (-1))] := hl
  refine lv_iload_n hx hb d_Model_within_0 rfl (lv_at hl 0 rfl) ?_
  refine lv_iload_n hx hb d_Model_within_1 rfl (lv_at hl 1 rfl) ?_
  refine lv_icmp_lt (tgt := 14) hx hb d_Model_within_2 (by decide) (fun h => absurd h gi) (fun _ => ?_)
  refine lv_iload_n hx hb d_Model_within_5 rfl (lv_at hl 0 rfl) ?_
  refine lv_iload_n hx hb d_Model_within_6 rfl (lv_at hl 2 rfl) ?_
  refine lv_icmp_gt (tgt := 14) hx hb d_Model_within_7 (by decide) (fun _ => ?_) (fun h => (h (xr_m1 gi)).elim)
  refine lv_iconst (v := 0) hx hb d_Model_within_14 (by decide) ?_
  have hP9 := hP.sub (ws' := []) [] rfl
  have hD9 := hD.sub (ws' := []) [] (by decide) rfl
  have hK9 := hK.sub (tys' := []) [] rfl
  exact W.zret (v := 0) hx hb hr (by decide +kernel) (fun t ht hW => ⟨⟨0, (), rfl, rfl, by rw [ht]; exact hP9, va_K.moved hW.alike hK9, hD9⟩, hS.F ht⟩) hS.2.2 d_Model_within_15
set_option maxHeartbeats 4000000 in
set_option maxRecDepth 100000 in
theorem c143_Model_kind (l : Launch) (dC : Nat → ClassId) (dI : Nat → Nat → Nat) (sz : Nat) (a0 : Nat) (a1 : Nat) (a2 : Nat) (a3 : Nat) (a4 : Nat) (a5 : Nat) (a6 : Nat) (a7 : Nat) (a8 : Nat) (a9 : Nat) (a10 : Nat) (a11 : Nat) (a12 : Nat) (a13 : Nat) (a14 : Nat) (a15 : Nat) (a16 : Nat) (a17 : Nat) (a18 : Nat) (a19 : Nat) (a20 : Nat) (a21 : Nat) (a22 : Nat) (a23 : Nat) (a24 : Nat) (a25 : Nat) (a26 : Nat) (a27 : Nat) (ix : Int32) (gi : ¬ ix < 0) : Met l y_Model_kind w_Model_kind ({ frames := 1, cells := 0, slots := 0, locals := 22 }) (va_Pc [.ref a0, .int ix] (fun U => U.heap.size = sz ∧ va_P (dC, dI) vcl [(a0, .inr (1, [.int 0, .int 0, .ref a1, .int 0, .int (-1), .int 0, .int 0, .ref a2, .ref a3, .ref a4, .ref a5, .ref a6, .int 0, .int 0, .ref a7, .int 0, .int 0, .ref a8, .ref a9, .ref a10, .ref a11, .ref a12, .ref a13, .int 0, .ref a14, .ref a15, .int 0, .int 0, .int 0, .int 0, .int 0, .int 0, .ref a16, .ref a17, .ref a18, .int 0, .int 0, .int 0, .int 0, .int 0, .int 0, .ref a19, .ref a20, .ref a21, .ref a22, .ref a23, .ref a24, .ref a25, .ref a26, .ref a27]))] U.heap ∧ va_K (dC, dI) vcl [] U ∧ va_D (fun _ => True) [(a0, .inr (1, [.int 0, .int 0, .ref a1, .int 0, .int (-1), .int 0, .int 0, .ref a2, .ref a3, .ref a4, .ref a5, .ref a6, .int 0, .int 0, .ref a7, .int 0, .int 0, .ref a8, .ref a9, .ref a10, .ref a11, .ref a12, .ref a13, .int 0, .ref a14, .ref a15, .int 0, .int 0, .int 0, .int 0, .int 0, .int 0, .ref a16, .ref a17, .ref a18, .int 0, .int 0, .int 0, .int 0, .int 0, .int 0, .ref a19, .ref a20, .ref a21, .ref a22, .ref a23, .ref a24, .ref a25, .ref a26, .ref a27]))])) (va_Qi (fun (r : Int32) (_ : Unit) => r = 0) (fun _ t => va_P (dC, dI) vcl [(a0, .inr (1, [.int 1, .int 0, .ref a1, .int 0, .int (-1), .int 0, .int 0, .ref a2, .ref a3, .ref a4, .ref a5, .ref a6, .int 0, .int 0, .ref a7, .int 0, .int 0, .ref a8, .ref a9, .ref a10, .ref a11, .ref a12, .ref a13, .int 0, .ref a14, .ref a15, .int 0, .int 0, .int 0, .int 0, .int 0, .int 0, .ref a16, .ref a17, .ref a18, .int 0, .int 0, .int 0, .int 0, .int 0, .int 0, .ref a19, .ref a20, .ref a21, .ref a22, .ref a23, .ref a24, .ref a25, .ref a26, .ref a27]))] t.heap ∧ va_K (dC, dI) vcl [] t ∧ va_D (va_A [(a0, .inr (1, [.int 0, .int 0, .ref a1, .int 0, .int (-1), .int 0, .int 0, .ref a2, .ref a3, .ref a4, .ref a5, .ref a6, .int 0, .int 0, .ref a7, .int 0, .int 0, .ref a8, .ref a9, .ref a10, .ref a11, .ref a12, .ref a13, .int 0, .ref a14, .ref a15, .int 0, .int 0, .int 0, .int 0, .int 0, .int 0, .ref a16, .ref a17, .ref a18, .int 0, .int 0, .int 0, .int 0, .int 0, .int 0, .ref a19, .ref a20, .ref a21, .ref a22, .ref a23, .ref a24, .ref a25, .ref a26, .ref a27]))] sz) [(a0, .inr (1, [.int 1, .int 0, .ref a1, .int 0, .int (-1), .int 0, .int 0, .ref a2, .ref a3, .ref a4, .ref a5, .ref a6, .int 0, .int 0, .ref a7, .int 0, .int 0, .ref a8, .ref a9, .ref a10, .ref a11, .ref a12, .ref a13, .int 0, .ref a14, .ref a15, .int 0, .int 0, .int 0, .int 0, .int 0, .int 0, .ref a16, .ref a17, .ref a18, .int 0, .int 0, .int 0, .int 0, .int 0, .int 0, .ref a19, .ref a20, .ref a21, .ref a22, .ref a23, .ref a24, .ref a25, .ref a26, .ref a27]))]) (va_A [(a0, .inr (1, [.int 0, .int 0, .ref a1, .int 0, .int (-1), .int 0, .int 0, .ref a2, .ref a3, .ref a4, .ref a5, .ref a6, .int 0, .int 0, .ref a7, .int 0, .int 0, .ref a8, .ref a9, .ref a10, .ref a11, .ref a12, .ref a13, .int 0, .ref a14, .ref a15, .int 0, .int 0, .int 0, .int 0, .int 0, .int 0, .ref a16, .ref a17, .ref a18, .int 0, .int 0, .int 0, .int 0, .int 0, .int 0, .ref a19, .ref a20, .ref a21, .ref a22, .ref a23, .ref a24, .ref a25, .ref a26, .ref a27]))] sz)) 0 0 (va_A [(a0, .inr (1, [.int 0, .int 0, .ref a1, .int 0, .int (-1), .int 0, .int 0, .ref a2, .ref a3, .ref a4, .ref a5, .ref a6, .int 0, .int 0, .ref a7, .int 0, .int 0, .ref a8, .ref a9, .ref a10, .ref a11, .ref a12, .ref a13, .int 0, .ref a14, .ref a15, .int 0, .int 0, .int 0, .int 0, .int 0, .int 0, .ref a16, .ref a17, .ref a18, .int 0, .int 0, .int 0, .int 0, .int 0, .int 0, .ref a19, .ref a20, .ref a21, .ref a22, .ref a23, .ref a24, .ref a25, .ref a26, .ref a27]))] sz) := by
  refine Met.ofW (cc := b_Model_kind) (maxL := 2) (ret := (some .int)) (by decide) rfl ?_
  intro p e s m args below meth c s₁ B hml hv
  obtain ⟨rfl, hsz, hP, hK, hD0⟩ := hv
  have hx := B.exec
  have hb := B.bytes
  have hr := B.returns
  have hts := atoms_spec (ws := w_Model_kind) B.pre
  have hz : ∀ w ∈ wz, w.before _ s = true := fun w h => hts w (List.mem_cons_of_mem _ h)
  have hown : s.vm.findClass R_Model = some m.cls := findClass_of_methodNamed B.named
  have hlocks := B.notSynchronized
  subst hsz
  have hD := hD0.self (sz := s.heap.size)
  generalize hAe : va_A [(a0, .inr (1, [.int 0, .int 0, .ref a1, .int 0, .int (-1), .int 0, .int 0, .ref a2, .ref a3, .ref a4, .ref a5, .ref a6, .int 0, .int 0, .ref a7, .int 0, .int 0, .ref a8, .ref a9, .ref a10, .ref a11, .ref a12, .ref a13, .int 0, .ref a14, .ref a15, .int 0, .int 0, .int 0, .int 0, .int 0, .int 0, .ref a16, .ref a17, .ref a18, .int 0, .int 0, .int 0, .int 0, .int 0, .int 0, .ref a19, .ref a20, .ref a21, .ref a22, .ref a23, .ref a24, .ref a25, .ref a26, .ref a27]))] s.heap.size = A at hD ⊢
  have hA : ∀ q : Nat, s.heap.size ≤ q → A q := fun q h => by rw [← hAe]; exact Or.inr h
  have hS : va_S A s.heap s.heap [] := va_S.rf
  have hP : va_P (dC, dI) vcl [(a0, .inr (1, [.int 0, .int 0, .ref a1, .int 0, .int (-1), .int 0, .int 0, .ref a2, .ref a3, .ref a4, .ref a5, .ref a6, .int 0, .int 0, .ref a7, .int 0, .int 0, .ref a8, .ref a9, .ref a10, .ref a11, .ref a12, .ref a13, .int 0, .ref a14, .ref a15, .int 0, .int 0, .int 0, .int 0, .int 0, .int 0, .ref a16, .ref a17, .ref a18, .int 0, .int 0, .int 0, .int 0, .int 0, .int 0, .ref a19, .ref a20, .ref a21, .ref a22, .ref a23, .ref a24, .ref a25, .ref a26, .ref a27]))] s.heap := hP
  have hl := lv_entry ([.ref a0, .int ix]) (n := 2) (Nat.le_of_ble_eq_true rfl)
  rw [lg_entry_eq]
  generalize (lg_sl ([.ref a0, .int ix]) ++ List.replicate (2 - (lg_sl ([.ref a0, .int ix])).length) Slot.unset).toArray = ls at hl ⊢
  have hl : lv_has ls 2 [(0, .ref a0), (1, .int ix)] := hl
  refine lv_aload_n hx hb d_Model_kind_0 rfl (lv_at hl 0 rfl) ?_
  refine lv_iconst (v := 0) hx hb d_Model_kind_1 (by decide) ?_
  refine va_put (D := (dC, dI)) (ci := 1) (v := .int 0) (ty := .int) (C := R_Model) (T := F_Model) (N := 50) hx hb hz zu_Model t_Model t_Model_ok n_Model hown hK hP hD hS 0 rfl rfl 0 (by decide) (hz (.fieldLink R_Model 97 "LayoutFrontModel" "thrown" "I") zm_415) (fun _ h9 => h9) rfl (by decide +kernel) rfl rfl (Nat.le_of_ble_eq_true rfl) d_Model_kind_2 (fun H locs hP hD hS => ?_)
  have hP : va_P (dC, dI) vcl [(a0, .inr (1, [.int 0, .int 0, .ref a1, .int 0, .int (-1), .int 0, .int 0, .ref a2, .ref a3, .ref a4, .ref a5, .ref a6, .int 0, .int 0, .ref a7, .int 0, .int 0, .ref a8, .ref a9, .ref a10, .ref a11, .ref a12, .ref a13, .int 0, .ref a14, .ref a15, .int 0, .int 0, .int 0, .int 0, .int 0, .int 0, .ref a16, .ref a17, .ref a18, .int 0, .int 0, .int 0, .int 0, .int 0, .int 0, .ref a19, .ref a20, .ref a21, .ref a22, .ref a23, .ref a24, .ref a25, .ref a26, .ref a27]))] H := hP
  have hD : va_D A [(a0, .inr (1, [.int 0, .int 0, .ref a1, .int 0, .int (-1), .int 0, .int 0, .ref a2, .ref a3, .ref a4, .ref a5, .ref a6, .int 0, .int 0, .ref a7, .int 0, .int 0, .ref a8, .ref a9, .ref a10, .ref a11, .ref a12, .ref a13, .int 0, .ref a14, .ref a15, .int 0, .int 0, .int 0, .int 0, .int 0, .int 0, .ref a16, .ref a17, .ref a18, .int 0, .int 0, .int 0, .int 0, .int 0, .int 0, .ref a19, .ref a20, .ref a21, .ref a22, .ref a23, .ref a24, .ref a25, .ref a26, .ref a27]))] := hD
  refine lv_iload_n hx hb d_Model_kind_5 rfl (lv_at hl 1 rfl) ?_
  refine lv_iconst (v := 0) hx hb d_Model_kind_6 (by decide) ?_
  refine lv_aload_n hx hb d_Model_kind_7 rfl (lv_at hl 0 rfl) ?_
  refine va_get (D := (dC, dI)) (ci := 1) (v := .int 0) (C := R_Model) (T := F_Model) (N := 50) hx hb hz zu_Model hown hK hP 0 rfl rfl 23 (by decide) (hz (.fieldLink R_Model 353 "LayoutFrontModel" "all" "I") zm_414) (fun _ h9 => h9) rfl d_Model_kind_8 ?_
  refine lv_iconst (v := 1) hx hb d_Model_kind_11 (by decide) ?_
  refine xr_isub (v := (-1)) hx hb d_Model_kind_12 (by decide +kernel) ?_
  have hPc := hP.sub (ws' := []) [] rfl
  have hDc := hD.sub (ws' := []) [] (by decide) rfl
  have hKc := hK.sub (tys' := []) [] rfl
  have hFc := va_free (wc := []) hD hS hA [] rfl
  refine va_calli (va_runS (As := [.int ix, .int 0, .int (-1)]) (rest := []) ⟨hx, hb, hml, hown, hz⟩ (c142_Model_within l dC dI H.size ix gi) (cwS 3 hz (zS zm_449 zm_450 zm_374 zm_451) rfl rfl rfl (by decide +kernel) ⟨Nat.le_of_ble_eq_true rfl, Nat.le_of_ble_eq_true rfl⟩) ⟨fun a U g mk q => by obtain ⟨q0, q1, qP, qK, qD⟩ := q; exact ⟨q0, q1, qP, va_K.moved (u := U) (U := U.calling g mk a) (Vm.Alike.refl U.vm) qK, qD⟩, fun U hU hW => ⟨rfl, by rw [hU], by rw [hU]; exact hPc, va_K.moved hW.alike hKc, hDc.weaken (fun _ _ _ _ => trivial)⟩⟩ rfl rfl hl.1 rfl (lv_room (Nat.le_of_ble_eq_true rfl)) d_Model_kind_13 ⟨by decide, by decide⟩) hS (fun q _ h => hFc q h) hFc (fun r u t H1 locs ht hvm hw hB hz1 hk1 hS => ?_)
  obtain ⟨hP1, hK1, hD1⟩ := hB
  subst r
  rw [ht] at hP1
  obtain ⟨hP, hD⟩ := va_join (wr := [(a0, .inr (1, [.int 0, .int 0, .ref a1, .int 0, .int (-1), .int 0, .int 0, .ref a2, .ref a3, .ref a4, .ref a5, .ref a6, .int 0, .int 0, .ref a7, .int 0, .int 0, .ref a8, .ref a9, .ref a10, .ref a11, .ref a12, .ref a13, .int 0, .ref a14, .ref a15, .int 0, .int 0, .int 0, .int 0, .int 0, .int 0, .ref a16, .ref a17, .ref a18, .int 0, .int 0, .int 0, .int 0, .int 0, .int 0, .ref a19, .ref a20, .ref a21, .ref a22, .ref a23, .ref a24, .ref a25, .ref a26, .ref a27]))]) (w1 := []) hP hD [] [0] rfl rfl (by decide) (by decide) hk1 hFc hP1 hD1
  generalize H1 = H at hP hS ⊢
  have hP : va_P (dC, dI) vcl [(a0, .inr (1, [.int 0, .int 0, .ref a1, .int 0, .int (-1), .int 0, .int 0, .ref a2, .ref a3, .ref a4, .ref a5, .ref a6, .int 0, .int 0, .ref a7, .int 0, .int 0, .ref a8, .ref a9, .ref a10, .ref a11, .ref a12, .ref a13, .int 0, .ref a14, .ref a15, .int 0, .int 0, .int 0, .int 0, .int 0, .int 0, .ref a16, .ref a17, .ref a18, .int 0, .int 0, .int 0, .int 0, .int 0, .int 0, .ref a19, .ref a20, .ref a21, .ref a22, .ref a23, .ref a24, .ref a25, .ref a26, .ref a27]))] H := hP
  have hD : va_D A [(a0, .inr (1, [.int 0, .int 0, .ref a1, .int 0, .int (-1), .int 0, .int 0, .ref a2, .ref a3, .ref a4, .ref a5, .ref a6, .int 0, .int 0, .ref a7, .int 0, .int 0, .ref a8, .ref a9, .ref a10, .ref a11, .ref a12, .ref a13, .int 0, .ref a14, .ref a15, .int 0, .int 0, .int 0, .int 0, .int 0, .int 0, .ref a16, .ref a17, .ref a18, .int 0, .int 0, .int 0, .int 0, .int 0, .int 0, .ref a19, .ref a20, .ref a21, .ref a22, .ref a23, .ref a24, .ref a25, .ref a26, .ref a27]))] := hD
  refine lv_if_eq (tgt := 28) hx hb d_Model_kind_16 (by decide) (fun _ => ?_) (fun h => (h (by decide +kernel)).elim)
  refine lv_aload_n hx hb d_Model_kind_28 rfl (lv_at hl 0 rfl) ?_
  refine lv_iconst (v := 1) hx hb d_Model_kind_29 (by decide) ?_
  have hPc := hP.sub (ws' := [(a0, .inr (1, [.int 0, .int 0, .ref a1, .int 0, .int (-1), .int 0, .int 0, .ref a2, .ref a3, .ref a4, .ref a5, .ref a6, .int 0, .int 0, .ref a7, .int 0, .int 0, .ref a8, .ref a9, .ref a10, .ref a11, .ref a12, .ref a13, .int 0, .ref a14, .ref a15, .int 0, .int 0, .int 0, .int 0, .int 0, .int 0, .ref a16, .ref a17, .ref a18, .int 0, .int 0, .int 0, .int 0, .int 0, .int 0, .ref a19, .ref a20, .ref a21, .ref a22, .ref a23, .ref a24, .ref a25, .ref a26, .ref a27]))]) [0] rfl
  have hDc := hD.sub (ws' := [(a0, .inr (1, [.int 0, .int 0, .ref a1, .int 0, .int (-1), .int 0, .int 0, .ref a2, .ref a3, .ref a4, .ref a5, .ref a6, .int 0, .int 0, .ref a7, .int 0, .int 0, .ref a8, .ref a9, .ref a10, .ref a11, .ref a12, .ref a13, .int 0, .ref a14, .ref a15, .int 0, .int 0, .int 0, .int 0, .int 0, .int 0, .ref a16, .ref a17, .ref a18, .int 0, .int 0, .int 0, .int 0, .int 0, .int 0, .ref a19, .ref a20, .ref a21, .ref a22, .ref a23, .ref a24, .ref a25, .ref a26, .ref a27]))]) [0] (by decide) rfl
  have hKc := hK.sub (tys' := []) [] rfl
  have hFc := va_free (wc := [(a0, .inr (1, [.int 0, .int 0, .ref a1, .int 0, .int (-1), .int 0, .int 0, .ref a2, .ref a3, .ref a4, .ref a5, .ref a6, .int 0, .int 0, .ref a7, .int 0, .int 0, .ref a8, .ref a9, .ref a10, .ref a11, .ref a12, .ref a13, .int 0, .ref a14, .ref a15, .int 0, .int 0, .int 0, .int 0, .int 0, .int 0, .ref a16, .ref a17, .ref a18, .int 0, .int 0, .int 0, .int 0, .int 0, .int 0, .ref a19, .ref a20, .ref a21, .ref a22, .ref a23, .ref a24, .ref a25, .ref a26, .ref a27]))]) hD hS hA [0] rfl
  refine va_calli (va_runV (As := [.int 1]) (rest := []) ⟨hx, hb, hml, hown, hz⟩ (c139_Model_fail l dC dI H.size a0 a1 a2 a3 a4 a5 a6 a7 a8 a9 a10 a11 a12 a13 a14 a15 a16 a17 a18 a19 a20 a21 a22 a23 a24 a25 a26 a27) (cwV 1 hz (zV zm_452 zm_453 zm_454 zm_374 zm_455) rfl rfl rfl (by decide +kernel) ⟨Nat.le_of_ble_eq_true rfl, Nat.le_of_ble_eq_true rfl⟩) ⟨fun a U g mk q => by obtain ⟨q0, q1, qP, qK, qD⟩ := q; exact ⟨q0, q1, qP, va_K.moved (u := U) (U := U.calling g mk a) (Vm.Alike.refl U.vm) qK, qD⟩, va_recv (q := (R_Model, F_Model, 50)) (q0 := 0) (ci := 1) hK hP rfl rfl, fun U hU hW => ⟨rfl, by rw [hU], by rw [hU]; exact hPc, va_K.moved hW.alike hKc, hDc.weaken (fun _ _ _ _ => trivial)⟩⟩ rfl rfl hl.1 rfl (lv_room (Nat.le_of_ble_eq_true rfl)) d_Model_kind_30 ⟨by decide, by decide⟩) hS (fun q _ h => hFc q h) hFc (fun r u t H1 locs ht hvm hw hB hz1 hk1 hS => ?_)
  obtain ⟨hP1, hK1, hD1⟩ := hB
  subst r
  rw [ht] at hP1
  obtain ⟨hP, hD⟩ := va_join (wr := []) (w1 := [(a0, .inr (1, [.int 1, .int 0, .ref a1, .int 0, .int (-1), .int 0, .int 0, .ref a2, .ref a3, .ref a4, .ref a5, .ref a6, .int 0, .int 0, .ref a7, .int 0, .int 0, .ref a8, .ref a9, .ref a10, .ref a11, .ref a12, .ref a13, .int 0, .ref a14, .ref a15, .int 0, .int 0, .int 0, .int 0, .int 0, .int 0, .ref a16, .ref a17, .ref a18, .int 0, .int 0, .int 0, .int 0, .int 0, .int 0, .ref a19, .ref a20, .ref a21, .ref a22, .ref a23, .ref a24, .ref a25, .ref a26, .ref a27]))]) hP hD [0] [] rfl rfl (by decide) (by decide) hk1 hFc hP1 hD1
  generalize H1 = H at hP hS ⊢
  have hP : va_P (dC, dI) vcl [(a0, .inr (1, [.int 1, .int 0, .ref a1, .int 0, .int (-1), .int 0, .int 0, .ref a2, .ref a3, .ref a4, .ref a5, .ref a6, .int 0, .int 0, .ref a7, .int 0, .int 0, .ref a8, .ref a9, .ref a10, .ref a11, .ref a12, .ref a13, .int 0, .ref a14, .ref a15, .int 0, .int 0, .int 0, .int 0, .int 0, .int 0, .ref a16, .ref a17, .ref a18, .int 0, .int 0, .int 0, .int 0, .int 0, .int 0, .ref a19, .ref a20, .ref a21, .ref a22, .ref a23, .ref a24, .ref a25, .ref a26, .ref a27]))] H := hP
  have hD : va_D A [(a0, .inr (1, [.int 1, .int 0, .ref a1, .int 0, .int (-1), .int 0, .int 0, .ref a2, .ref a3, .ref a4, .ref a5, .ref a6, .int 0, .int 0, .ref a7, .int 0, .int 0, .ref a8, .ref a9, .ref a10, .ref a11, .ref a12, .ref a13, .int 0, .ref a14, .ref a15, .int 0, .int 0, .int 0, .int 0, .int 0, .int 0, .ref a16, .ref a17, .ref a18, .int 0, .int 0, .int 0, .int 0, .int 0, .int 0, .ref a19, .ref a20, .ref a21, .ref a22, .ref a23, .ref a24, .ref a25, .ref a26, .ref a27]))] := hD
  have hP9 := hP.sub (ws' := [(a0, .inr (1, [.int 1, .int 0, .ref a1, .int 0, .int (-1), .int 0, .int 0, .ref a2, .ref a3, .ref a4, .ref a5, .ref a6, .int 0, .int 0, .ref a7, .int 0, .int 0, .ref a8, .ref a9, .ref a10, .ref a11, .ref a12, .ref a13, .int 0, .ref a14, .ref a15, .int 0, .int 0, .int 0, .int 0, .int 0, .int 0, .ref a16, .ref a17, .ref a18, .int 0, .int 0, .int 0, .int 0, .int 0, .int 0, .ref a19, .ref a20, .ref a21, .ref a22, .ref a23, .ref a24, .ref a25, .ref a26, .ref a27]))]) [0] rfl
  have hD9 := hD.sub (ws' := [(a0, .inr (1, [.int 1, .int 0, .ref a1, .int 0, .int (-1), .int 0, .int 0, .ref a2, .ref a3, .ref a4, .ref a5, .ref a6, .int 0, .int 0, .ref a7, .int 0, .int 0, .ref a8, .ref a9, .ref a10, .ref a11, .ref a12, .ref a13, .int 0, .ref a14, .ref a15, .int 0, .int 0, .int 0, .int 0, .int 0, .int 0, .ref a16, .ref a17, .ref a18, .int 0, .int 0, .int 0, .int 0, .int 0, .int 0, .ref a19, .ref a20, .ref a21, .ref a22, .ref a23, .ref a24, .ref a25, .ref a26, .ref a27]))]) [0] (by decide) rfl
  have hK9 := hK.sub (tys' := []) [] rfl
  exact W.iret (v := 0) hx hb hr (fun t ht hW => ⟨⟨0, (), rfl, rfl, by rw [ht]; exact hP9, va_K.moved hW.alike hK9, hD9⟩, hS.F ht⟩) hS.2.2 d_Model_kind_33
set_option maxHeartbeats 4000000 in
set_option maxRecDepth 100000 in
theorem c144_Model_token (l : Launch) (dC : Nat → ClassId) (dI : Nat → Nat → Nat) (sz : Nat) (a0 : Nat) (a1 : Nat) (a2 : Nat) (a3 : Nat) (a4 : Nat) (a5 : Nat) (a6 : Nat) (a7 : Nat) (a8 : Nat) (a9 : Nat) (a10 : Nat) (a11 : Nat) (a12 : Nat) (a13 : Nat) (a14 : Nat) (a15 : Nat) (a16 : Nat) (a17 : Nat) (a18 : Nat) (a19 : Nat) (a20 : Nat) (a21 : Nat) (a22 : Nat) (a23 : Nat) (a24 : Nat) (a25 : Nat) (a26 : Nat) (a27 : Nat) (ix : Int32) (gi : ¬ ix < 0) : Met l y_Model_token w_Model_token ({ frames := 1, cells := 0, slots := 0, locals := 22 }) (va_Pc [.ref a0, .int ix] (fun U => U.heap.size = sz ∧ va_P (dC, dI) vcl [(a0, .inr (1, [.int 0, .int 0, .ref a1, .int 0, .int (-1), .int 0, .int 0, .ref a2, .ref a3, .ref a4, .ref a5, .ref a6, .int 0, .int 0, .ref a7, .int 0, .int 0, .ref a8, .ref a9, .ref a10, .ref a11, .ref a12, .ref a13, .int 0, .ref a14, .ref a15, .int 0, .int 0, .int 0, .int 0, .int 0, .int 0, .ref a16, .ref a17, .ref a18, .int 0, .int 0, .int 0, .int 0, .int 0, .int 0, .ref a19, .ref a20, .ref a21, .ref a22, .ref a23, .ref a24, .ref a25, .ref a26, .ref a27]))] U.heap ∧ va_K (dC, dI) vcl [] U ∧ va_D (fun _ => True) [(a0, .inr (1, [.int 0, .int 0, .ref a1, .int 0, .int (-1), .int 0, .int 0, .ref a2, .ref a3, .ref a4, .ref a5, .ref a6, .int 0, .int 0, .ref a7, .int 0, .int 0, .ref a8, .ref a9, .ref a10, .ref a11, .ref a12, .ref a13, .int 0, .ref a14, .ref a15, .int 0, .int 0, .int 0, .int 0, .int 0, .int 0, .ref a16, .ref a17, .ref a18, .int 0, .int 0, .int 0, .int 0, .int 0, .int 0, .ref a19, .ref a20, .ref a21, .ref a22, .ref a23, .ref a24, .ref a25, .ref a26, .ref a27]))])) (va_Ql (fun (r : Int64) (_ : Unit) => r = 0) (fun _ t => va_P (dC, dI) vcl [(a0, .inr (1, [.int 1, .int 0, .ref a1, .int 0, .int (-1), .int 0, .int 0, .ref a2, .ref a3, .ref a4, .ref a5, .ref a6, .int 0, .int 0, .ref a7, .int 0, .int 0, .ref a8, .ref a9, .ref a10, .ref a11, .ref a12, .ref a13, .int 0, .ref a14, .ref a15, .int 0, .int 0, .int 0, .int 0, .int 0, .int 0, .ref a16, .ref a17, .ref a18, .int 0, .int 0, .int 0, .int 0, .int 0, .int 0, .ref a19, .ref a20, .ref a21, .ref a22, .ref a23, .ref a24, .ref a25, .ref a26, .ref a27]))] t.heap ∧ va_K (dC, dI) vcl [] t ∧ va_D (va_A [(a0, .inr (1, [.int 0, .int 0, .ref a1, .int 0, .int (-1), .int 0, .int 0, .ref a2, .ref a3, .ref a4, .ref a5, .ref a6, .int 0, .int 0, .ref a7, .int 0, .int 0, .ref a8, .ref a9, .ref a10, .ref a11, .ref a12, .ref a13, .int 0, .ref a14, .ref a15, .int 0, .int 0, .int 0, .int 0, .int 0, .int 0, .ref a16, .ref a17, .ref a18, .int 0, .int 0, .int 0, .int 0, .int 0, .int 0, .ref a19, .ref a20, .ref a21, .ref a22, .ref a23, .ref a24, .ref a25, .ref a26, .ref a27]))] sz) [(a0, .inr (1, [.int 1, .int 0, .ref a1, .int 0, .int (-1), .int 0, .int 0, .ref a2, .ref a3, .ref a4, .ref a5, .ref a6, .int 0, .int 0, .ref a7, .int 0, .int 0, .ref a8, .ref a9, .ref a10, .ref a11, .ref a12, .ref a13, .int 0, .ref a14, .ref a15, .int 0, .int 0, .int 0, .int 0, .int 0, .int 0, .ref a16, .ref a17, .ref a18, .int 0, .int 0, .int 0, .int 0, .int 0, .int 0, .ref a19, .ref a20, .ref a21, .ref a22, .ref a23, .ref a24, .ref a25, .ref a26, .ref a27]))]) (va_A [(a0, .inr (1, [.int 0, .int 0, .ref a1, .int 0, .int (-1), .int 0, .int 0, .ref a2, .ref a3, .ref a4, .ref a5, .ref a6, .int 0, .int 0, .ref a7, .int 0, .int 0, .ref a8, .ref a9, .ref a10, .ref a11, .ref a12, .ref a13, .int 0, .ref a14, .ref a15, .int 0, .int 0, .int 0, .int 0, .int 0, .int 0, .ref a16, .ref a17, .ref a18, .int 0, .int 0, .int 0, .int 0, .int 0, .int 0, .ref a19, .ref a20, .ref a21, .ref a22, .ref a23, .ref a24, .ref a25, .ref a26, .ref a27]))] sz)) 0 0 (va_A [(a0, .inr (1, [.int 0, .int 0, .ref a1, .int 0, .int (-1), .int 0, .int 0, .ref a2, .ref a3, .ref a4, .ref a5, .ref a6, .int 0, .int 0, .ref a7, .int 0, .int 0, .ref a8, .ref a9, .ref a10, .ref a11, .ref a12, .ref a13, .int 0, .ref a14, .ref a15, .int 0, .int 0, .int 0, .int 0, .int 0, .int 0, .ref a16, .ref a17, .ref a18, .int 0, .int 0, .int 0, .int 0, .int 0, .int 0, .ref a19, .ref a20, .ref a21, .ref a22, .ref a23, .ref a24, .ref a25, .ref a26, .ref a27]))] sz) := by
  refine Met.ofW (cc := b_Model_token) (maxL := 2) (ret := (some .long)) (by decide) rfl ?_
  intro p e s m args below meth c s₁ B hml hv
  obtain ⟨rfl, hsz, hP, hK, hD0⟩ := hv
  have hx := B.exec
  have hb := B.bytes
  have hr := B.returns
  have hts := atoms_spec (ws := w_Model_token) B.pre
  have hz : ∀ w ∈ wz, w.before _ s = true := fun w h => hts w (List.mem_cons_of_mem _ h)
  have hown : s.vm.findClass R_Model = some m.cls := findClass_of_methodNamed B.named
  have hlocks := B.notSynchronized
  subst hsz
  have hD := hD0.self (sz := s.heap.size)
  generalize hAe : va_A [(a0, .inr (1, [.int 0, .int 0, .ref a1, .int 0, .int (-1), .int 0, .int 0, .ref a2, .ref a3, .ref a4, .ref a5, .ref a6, .int 0, .int 0, .ref a7, .int 0, .int 0, .ref a8, .ref a9, .ref a10, .ref a11, .ref a12, .ref a13, .int 0, .ref a14, .ref a15, .int 0, .int 0, .int 0, .int 0, .int 0, .int 0, .ref a16, .ref a17, .ref a18, .int 0, .int 0, .int 0, .int 0, .int 0, .int 0, .ref a19, .ref a20, .ref a21, .ref a22, .ref a23, .ref a24, .ref a25, .ref a26, .ref a27]))] s.heap.size = A at hD ⊢
  have hA : ∀ q : Nat, s.heap.size ≤ q → A q := fun q h => by rw [← hAe]; exact Or.inr h
  have hS : va_S A s.heap s.heap [] := va_S.rf
  have hP : va_P (dC, dI) vcl [(a0, .inr (1, [.int 0, .int 0, .ref a1, .int 0, .int (-1), .int 0, .int 0, .ref a2, .ref a3, .ref a4, .ref a5, .ref a6, .int 0, .int 0, .ref a7, .int 0, .int 0, .ref a8, .ref a9, .ref a10, .ref a11, .ref a12, .ref a13, .int 0, .ref a14, .ref a15, .int 0, .int 0, .int 0, .int 0, .int 0, .int 0, .ref a16, .ref a17, .ref a18, .int 0, .int 0, .int 0, .int 0, .int 0, .int 0, .ref a19, .ref a20, .ref a21, .ref a22, .ref a23, .ref a24, .ref a25, .ref a26, .ref a27]))] s.heap := hP
  have hl := lv_entry ([.ref a0, .int ix]) (n := 2) (Nat.le_of_ble_eq_true rfl)
  rw [lg_entry_eq]
  generalize (lg_sl ([.ref a0, .int ix]) ++ List.replicate (2 - (lg_sl ([.ref a0, .int ix])).length) Slot.unset).toArray = ls at hl ⊢
  have hl : lv_has ls 2 [(0, .ref a0), (1, .int ix)] := hl
  refine lv_aload_n hx hb d_Model_token_0 rfl (lv_at hl 0 rfl) ?_
  refine lv_iconst (v := 0) hx hb d_Model_token_1 (by decide) ?_
  refine va_put (D := (dC, dI)) (ci := 1) (v := .int 0) (ty := .int) (C := R_Model) (T := F_Model) (N := 50) hx hb hz zu_Model t_Model t_Model_ok n_Model hown hK hP hD hS 0 rfl rfl 0 (by decide) (hz (.fieldLink R_Model 97 "LayoutFrontModel" "thrown" "I") zm_415) (fun _ h9 => h9) rfl (by decide +kernel) rfl rfl (Nat.le_of_ble_eq_true rfl) d_Model_token_2 (fun H locs hP hD hS => ?_)
  have hP : va_P (dC, dI) vcl [(a0, .inr (1, [.int 0, .int 0, .ref a1, .int 0, .int (-1), .int 0, .int 0, .ref a2, .ref a3, .ref a4, .ref a5, .ref a6, .int 0, .int 0, .ref a7, .int 0, .int 0, .ref a8, .ref a9, .ref a10, .ref a11, .ref a12, .ref a13, .int 0, .ref a14, .ref a15, .int 0, .int 0, .int 0, .int 0, .int 0, .int 0, .ref a16, .ref a17, .ref a18, .int 0, .int 0, .int 0, .int 0, .int 0, .int 0, .ref a19, .ref a20, .ref a21, .ref a22, .ref a23, .ref a24, .ref a25, .ref a26, .ref a27]))] H := hP
  have hD : va_D A [(a0, .inr (1, [.int 0, .int 0, .ref a1, .int 0, .int (-1), .int 0, .int 0, .ref a2, .ref a3, .ref a4, .ref a5, .ref a6, .int 0, .int 0, .ref a7, .int 0, .int 0, .ref a8, .ref a9, .ref a10, .ref a11, .ref a12, .ref a13, .int 0, .ref a14, .ref a15, .int 0, .int 0, .int 0, .int 0, .int 0, .int 0, .ref a16, .ref a17, .ref a18, .int 0, .int 0, .int 0, .int 0, .int 0, .int 0, .ref a19, .ref a20, .ref a21, .ref a22, .ref a23, .ref a24, .ref a25, .ref a26, .ref a27]))] := hD
  refine lv_iload_n hx hb d_Model_token_5 rfl (lv_at hl 1 rfl) ?_
  refine lv_iconst (v := 0) hx hb d_Model_token_6 (by decide) ?_
  refine lv_aload_n hx hb d_Model_token_7 rfl (lv_at hl 0 rfl) ?_
  refine va_get (D := (dC, dI)) (ci := 1) (v := .int 0) (C := R_Model) (T := F_Model) (N := 50) hx hb hz zu_Model hown hK hP 0 rfl rfl 23 (by decide) (hz (.fieldLink R_Model 353 "LayoutFrontModel" "all" "I") zm_414) (fun _ h9 => h9) rfl d_Model_token_8 ?_
  refine lv_iconst (v := 1) hx hb d_Model_token_11 (by decide) ?_
  refine xr_isub (v := (-1)) hx hb d_Model_token_12 (by decide +kernel) ?_
  have hPc := hP.sub (ws' := []) [] rfl
  have hDc := hD.sub (ws' := []) [] (by decide) rfl
  have hKc := hK.sub (tys' := []) [] rfl
  have hFc := va_free (wc := []) hD hS hA [] rfl
  refine va_calli (va_runS (As := [.int ix, .int 0, .int (-1)]) (rest := []) ⟨hx, hb, hml, hown, hz⟩ (c142_Model_within l dC dI H.size ix gi) (cwS 3 hz (zS zm_449 zm_450 zm_374 zm_451) rfl rfl rfl (by decide +kernel) ⟨Nat.le_of_ble_eq_true rfl, Nat.le_of_ble_eq_true rfl⟩) ⟨fun a U g mk q => by obtain ⟨q0, q1, qP, qK, qD⟩ := q; exact ⟨q0, q1, qP, va_K.moved (u := U) (U := U.calling g mk a) (Vm.Alike.refl U.vm) qK, qD⟩, fun U hU hW => ⟨rfl, by rw [hU], by rw [hU]; exact hPc, va_K.moved hW.alike hKc, hDc.weaken (fun _ _ _ _ => trivial)⟩⟩ rfl rfl hl.1 rfl (lv_room (Nat.le_of_ble_eq_true rfl)) d_Model_token_13 ⟨by decide, by decide⟩) hS (fun q _ h => hFc q h) hFc (fun r u t H1 locs ht hvm hw hB hz1 hk1 hS => ?_)
  obtain ⟨hP1, hK1, hD1⟩ := hB
  subst r
  rw [ht] at hP1
  obtain ⟨hP, hD⟩ := va_join (wr := [(a0, .inr (1, [.int 0, .int 0, .ref a1, .int 0, .int (-1), .int 0, .int 0, .ref a2, .ref a3, .ref a4, .ref a5, .ref a6, .int 0, .int 0, .ref a7, .int 0, .int 0, .ref a8, .ref a9, .ref a10, .ref a11, .ref a12, .ref a13, .int 0, .ref a14, .ref a15, .int 0, .int 0, .int 0, .int 0, .int 0, .int 0, .ref a16, .ref a17, .ref a18, .int 0, .int 0, .int 0, .int 0, .int 0, .int 0, .ref a19, .ref a20, .ref a21, .ref a22, .ref a23, .ref a24, .ref a25, .ref a26, .ref a27]))]) (w1 := []) hP hD [] [0] rfl rfl (by decide) (by decide) hk1 hFc hP1 hD1
  generalize H1 = H at hP hS ⊢
  have hP : va_P (dC, dI) vcl [(a0, .inr (1, [.int 0, .int 0, .ref a1, .int 0, .int (-1), .int 0, .int 0, .ref a2, .ref a3, .ref a4, .ref a5, .ref a6, .int 0, .int 0, .ref a7, .int 0, .int 0, .ref a8, .ref a9, .ref a10, .ref a11, .ref a12, .ref a13, .int 0, .ref a14, .ref a15, .int 0, .int 0, .int 0, .int 0, .int 0, .int 0, .ref a16, .ref a17, .ref a18, .int 0, .int 0, .int 0, .int 0, .int 0, .int 0, .ref a19, .ref a20, .ref a21, .ref a22, .ref a23, .ref a24, .ref a25, .ref a26, .ref a27]))] H := hP
  have hD : va_D A [(a0, .inr (1, [.int 0, .int 0, .ref a1, .int 0, .int (-1), .int 0, .int 0, .ref a2, .ref a3, .ref a4, .ref a5, .ref a6, .int 0, .int 0, .ref a7, .int 0, .int 0, .ref a8, .ref a9, .ref a10, .ref a11, .ref a12, .ref a13, .int 0, .ref a14, .ref a15, .int 0, .int 0, .int 0, .int 0, .int 0, .int 0, .ref a16, .ref a17, .ref a18, .int 0, .int 0, .int 0, .int 0, .int 0, .int 0, .ref a19, .ref a20, .ref a21, .ref a22, .ref a23, .ref a24, .ref a25, .ref a26, .ref a27]))] := hD
  refine lv_if_eq (tgt := 28) hx hb d_Model_token_16 (by decide) (fun _ => ?_) (fun h => (h (by decide +kernel)).elim)
  refine lv_aload_n hx hb d_Model_token_28 rfl (lv_at hl 0 rfl) ?_
  refine lv_iconst (v := 1) hx hb d_Model_token_29 (by decide) ?_
  have hPc := hP.sub (ws' := [(a0, .inr (1, [.int 0, .int 0, .ref a1, .int 0, .int (-1), .int 0, .int 0, .ref a2, .ref a3, .ref a4, .ref a5, .ref a6, .int 0, .int 0, .ref a7, .int 0, .int 0, .ref a8, .ref a9, .ref a10, .ref a11, .ref a12, .ref a13, .int 0, .ref a14, .ref a15, .int 0, .int 0, .int 0, .int 0, .int 0, .int 0, .ref a16, .ref a17, .ref a18, .int 0, .int 0, .int 0, .int 0, .int 0, .int 0, .ref a19, .ref a20, .ref a21, .ref a22, .ref a23, .ref a24, .ref a25, .ref a26, .ref a27]))]) [0] rfl
  have hDc := hD.sub (ws' := [(a0, .inr (1, [.int 0, .int 0, .ref a1, .int 0, .int (-1), .int 0, .int 0, .ref a2, .ref a3, .ref a4, .ref a5, .ref a6, .int 0, .int 0, .ref a7, .int 0, .int 0, .ref a8, .ref a9, .ref a10, .ref a11, .ref a12, .ref a13, .int 0, .ref a14, .ref a15, .int 0, .int 0, .int 0, .int 0, .int 0, .int 0, .ref a16, .ref a17, .ref a18, .int 0, .int 0, .int 0, .int 0, .int 0, .int 0, .ref a19, .ref a20, .ref a21, .ref a22, .ref a23, .ref a24, .ref a25, .ref a26, .ref a27]))]) [0] (by decide) rfl
  have hKc := hK.sub (tys' := []) [] rfl
  have hFc := va_free (wc := [(a0, .inr (1, [.int 0, .int 0, .ref a1, .int 0, .int (-1), .int 0, .int 0, .ref a2, .ref a3, .ref a4, .ref a5, .ref a6, .int 0, .int 0, .ref a7, .int 0, .int 0, .ref a8, .ref a9, .ref a10, .ref a11, .ref a12, .ref a13, .int 0, .ref a14, .ref a15, .int 0, .int 0, .int 0, .int 0, .int 0, .int 0, .ref a16, .ref a17, .ref a18, .int 0, .int 0, .int 0, .int 0, .int 0, .int 0, .ref a19, .ref a20, .ref a21, .ref a22, .ref a23, .ref a24, .ref a25, .ref a26, .ref a27]))]) hD hS hA [0] rfl
  refine va_calli (va_runV (As := [.int 1]) (rest := []) ⟨hx, hb, hml, hown, hz⟩ (c139_Model_fail l dC dI H.size a0 a1 a2 a3 a4 a5 a6 a7 a8 a9 a10 a11 a12 a13 a14 a15 a16 a17 a18 a19 a20 a21 a22 a23 a24 a25 a26 a27) (cwV 1 hz (zV zm_452 zm_453 zm_454 zm_374 zm_455) rfl rfl rfl (by decide +kernel) ⟨Nat.le_of_ble_eq_true rfl, Nat.le_of_ble_eq_true rfl⟩) ⟨fun a U g mk q => by obtain ⟨q0, q1, qP, qK, qD⟩ := q; exact ⟨q0, q1, qP, va_K.moved (u := U) (U := U.calling g mk a) (Vm.Alike.refl U.vm) qK, qD⟩, va_recv (q := (R_Model, F_Model, 50)) (q0 := 0) (ci := 1) hK hP rfl rfl, fun U hU hW => ⟨rfl, by rw [hU], by rw [hU]; exact hPc, va_K.moved hW.alike hKc, hDc.weaken (fun _ _ _ _ => trivial)⟩⟩ rfl rfl hl.1 rfl (lv_room (Nat.le_of_ble_eq_true rfl)) d_Model_token_30 ⟨by decide, by decide⟩) hS (fun q _ h => hFc q h) hFc (fun r u t H1 locs ht hvm hw hB hz1 hk1 hS => ?_)
  obtain ⟨hP1, hK1, hD1⟩ := hB
  subst r
  rw [ht] at hP1
  obtain ⟨hP, hD⟩ := va_join (wr := []) (w1 := [(a0, .inr (1, [.int 1, .int 0, .ref a1, .int 0, .int (-1), .int 0, .int 0, .ref a2, .ref a3, .ref a4, .ref a5, .ref a6, .int 0, .int 0, .ref a7, .int 0, .int 0, .ref a8, .ref a9, .ref a10, .ref a11, .ref a12, .ref a13, .int 0, .ref a14, .ref a15, .int 0, .int 0, .int 0, .int 0, .int 0, .int 0, .ref a16, .ref a17, .ref a18, .int 0, .int 0, .int 0, .int 0, .int 0, .int 0, .ref a19, .ref a20, .ref a21, .ref a22, .ref a23, .ref a24, .ref a25, .ref a26, .ref a27]))]) hP hD [0] [] rfl rfl (by decide) (by decide) hk1 hFc hP1 hD1
  generalize H1 = H at hP hS ⊢
  have hP : va_P (dC, dI) vcl [(a0, .inr (1, [.int 1, .int 0, .ref a1, .int 0, .int (-1), .int 0, .int 0, .ref a2, .ref a3, .ref a4, .ref a5, .ref a6, .int 0, .int 0, .ref a7, .int 0, .int 0, .ref a8, .ref a9, .ref a10, .ref a11, .ref a12, .ref a13, .int 0, .ref a14, .ref a15, .int 0, .int 0, .int 0, .int 0, .int 0, .int 0, .ref a16, .ref a17, .ref a18, .int 0, .int 0, .int 0, .int 0, .int 0, .int 0, .ref a19, .ref a20, .ref a21, .ref a22, .ref a23, .ref a24, .ref a25, .ref a26, .ref a27]))] H := hP
  have hD : va_D A [(a0, .inr (1, [.int 1, .int 0, .ref a1, .int 0, .int (-1), .int 0, .int 0, .ref a2, .ref a3, .ref a4, .ref a5, .ref a6, .int 0, .int 0, .ref a7, .int 0, .int 0, .ref a8, .ref a9, .ref a10, .ref a11, .ref a12, .ref a13, .int 0, .ref a14, .ref a15, .int 0, .int 0, .int 0, .int 0, .int 0, .int 0, .ref a16, .ref a17, .ref a18, .int 0, .int 0, .int 0, .int 0, .int 0, .int 0, .ref a19, .ref a20, .ref a21, .ref a22, .ref a23, .ref a24, .ref a25, .ref a26, .ref a27]))] := hD
  refine lv_i2l (v := 0) hx hb d_Model_token_33 (by decide +kernel) ?_
  have hP9 := hP.sub (ws' := [(a0, .inr (1, [.int 1, .int 0, .ref a1, .int 0, .int (-1), .int 0, .int 0, .ref a2, .ref a3, .ref a4, .ref a5, .ref a6, .int 0, .int 0, .ref a7, .int 0, .int 0, .ref a8, .ref a9, .ref a10, .ref a11, .ref a12, .ref a13, .int 0, .ref a14, .ref a15, .int 0, .int 0, .int 0, .int 0, .int 0, .int 0, .ref a16, .ref a17, .ref a18, .int 0, .int 0, .int 0, .int 0, .int 0, .int 0, .ref a19, .ref a20, .ref a21, .ref a22, .ref a23, .ref a24, .ref a25, .ref a26, .ref a27]))]) [0] rfl
  have hD9 := hD.sub (ws' := [(a0, .inr (1, [.int 1, .int 0, .ref a1, .int 0, .int (-1), .int 0, .int 0, .ref a2, .ref a3, .ref a4, .ref a5, .ref a6, .int 0, .int 0, .ref a7, .int 0, .int 0, .ref a8, .ref a9, .ref a10, .ref a11, .ref a12, .ref a13, .int 0, .ref a14, .ref a15, .int 0, .int 0, .int 0, .int 0, .int 0, .int 0, .ref a16, .ref a17, .ref a18, .int 0, .int 0, .int 0, .int 0, .int 0, .int 0, .ref a19, .ref a20, .ref a21, .ref a22, .ref a23, .ref a24, .ref a25, .ref a26, .ref a27]))]) [0] (by decide) rfl
  have hK9 := hK.sub (tys' := []) [] rfl
  exact W.lret (v := 0) hx hb hr (fun t ht hW => ⟨⟨0, (), rfl, rfl, by rw [ht]; exact hP9, va_K.moved hW.alike hK9, hD9⟩, hS.F ht⟩) hS.2.2 d_Model_token_34
set_option maxHeartbeats 4000000 in
set_option maxRecDepth 100000 in
theorem c145_Model_within (l : Launch) (dC : Nat → ClassId) (dI : Nat → Nat → Nat) (sz : Nat) (ix : Int32) (gi : ix < 0) : Met l y_Model_within w_Model_within ({ frames := 0, cells := 0, slots := 0, locals := 0 }) (va_Pc [.int ix, .int 0, .int 4] (fun U => U.heap.size = sz ∧ va_P (dC, dI) vcl [] U.heap ∧ va_K (dC, dI) vcl [] U ∧ va_D (fun _ => True) [])) (va_Qi (fun (r : Int32) (_ : Unit) => r = 0) (fun _ t => va_P (dC, dI) vcl [] t.heap ∧ va_K (dC, dI) vcl [] t ∧ va_D (va_A [] sz) []) (va_A [] sz)) 0 0 (va_A [] sz) := by
  refine Met.ofW (cc := b_Model_within) (maxL := 3) (ret := (some .boolean)) (by decide) rfl ?_
  intro p e s m args below meth c s₁ B hml hv
  obtain ⟨rfl, hsz, hP, hK, hD0⟩ := hv
  have hx := B.exec
  have hb := B.bytes
  have hr := B.returns
  have hts := atoms_spec (ws := w_Model_within) B.pre
  have hz : ∀ w ∈ wz, w.before _ s = true := fun w h => hts w (List.mem_cons_of_mem _ h)
  have hown : s.vm.findClass R_Model = some m.cls := findClass_of_methodNamed B.named
  have hlocks := B.notSynchronized
  subst hsz
  have hD := hD0.self (sz := s.heap.size)
  generalize hAe : va_A [] s.heap.size = A at hD ⊢
  have hA : ∀ q : Nat, s.heap.size ≤ q → A q := fun q h => by rw [← hAe]; exact Or.inr h
  have hS : va_S A s.heap s.heap [] := va_S.rf
  have hP : va_P (dC, dI) vcl [] s.heap := hP
  have hl := lv_entry ([.int ix, .int 0, .int 4]) (n := 3) (Nat.le_of_ble_eq_true rfl)
  rw [lg_entry_eq]
  generalize (lg_sl ([.int ix, .int 0, .int 4]) ++ List.replicate (3 - (lg_sl ([.int ix, .int 0, .int 4])).length) Slot.unset).toArray = ls at hl ⊢
  have hl : lv_has ls 3 [(0, .int ix), (1, .int 0), (2, .int 4)] := hl
  refine lv_iload_n hx hb d_Model_within_0 rfl (lv_at hl 0 rfl) ?_
  refine lv_iload_n hx hb d_Model_within_1 rfl (lv_at hl 1 rfl) ?_
  refine lv_icmp_lt (tgt := 14) hx hb d_Model_within_2 (by decide) (fun _ => ?_) (fun h => (h gi).elim)
  refine lv_iconst (v := 0) hx hb d_Model_within_14 (by decide) ?_
  have hP9 := hP.sub (ws' := []) [] rfl
  have hD9 := hD.sub (ws' := []) [] (by decide) rfl
  have hK9 := hK.sub (tys' := []) [] rfl
  exact W.zret (v := 0) hx hb hr (by decide +kernel) (fun t ht hW => ⟨⟨0, (), rfl, rfl, by rw [ht]; exact hP9, va_K.moved hW.alike hK9, hD9⟩, hS.F ht⟩) hS.2.2 d_Model_within_15
set_option maxHeartbeats 4000000 in
set_option maxRecDepth 100000 in
theorem c146_Model_count (l : Launch) (dC : Nat → ClassId) (dI : Nat → Nat → Nat) (sz : Nat) (a0 : Nat) (a1 : Nat) (a2 : Nat) (a3 : Nat) (a4 : Nat) (a5 : Nat) (a6 : Nat) (a7 : Nat) (a8 : Nat) (a9 : Nat) (a10 : Nat) (a11 : Nat) (a12 : Nat) (a13 : Nat) (a14 : Nat) (a15 : Nat) (a16 : Nat) (a17 : Nat) (a18 : Nat) (a19 : Nat) (a20 : Nat) (a21 : Nat) (a22 : Nat) (a23 : Nat) (a24 : Nat) (a25 : Nat) (a26 : Nat) (a27 : Nat) (ix : Int32) (gi : ix < 0) : Met l y_Model_count w_Model_count ({ frames := 1, cells := 0, slots := 0, locals := 22 }) (va_Pc [.ref a0, .int ix] (fun U => U.heap.size = sz ∧ va_P (dC, dI) vcl [(a0, .inr (1, [.int 0, .int 0, .ref a1, .int 0, .int (-1), .int 0, .int 0, .ref a2, .ref a3, .ref a4, .ref a5, .ref a6, .int 0, .int 0, .ref a7, .int 0, .int 0, .ref a8, .ref a9, .ref a10, .ref a11, .ref a12, .ref a13, .int 0, .ref a14, .ref a15, .int 0, .int 0, .int 0, .int 0, .int 0, .int 0, .ref a16, .ref a17, .ref a18, .int 0, .int 0, .int 0, .int 0, .int 0, .int 0, .ref a19, .ref a20, .ref a21, .ref a22, .ref a23, .ref a24, .ref a25, .ref a26, .ref a27]))] U.heap ∧ va_K (dC, dI) vcl [] U ∧ va_D (fun _ => True) [(a0, .inr (1, [.int 0, .int 0, .ref a1, .int 0, .int (-1), .int 0, .int 0, .ref a2, .ref a3, .ref a4, .ref a5, .ref a6, .int 0, .int 0, .ref a7, .int 0, .int 0, .ref a8, .ref a9, .ref a10, .ref a11, .ref a12, .ref a13, .int 0, .ref a14, .ref a15, .int 0, .int 0, .int 0, .int 0, .int 0, .int 0, .ref a16, .ref a17, .ref a18, .int 0, .int 0, .int 0, .int 0, .int 0, .int 0, .ref a19, .ref a20, .ref a21, .ref a22, .ref a23, .ref a24, .ref a25, .ref a26, .ref a27]))])) (va_Qi (fun (r : Int32) (_ : Unit) => r = 0) (fun _ t => va_P (dC, dI) vcl [(a0, .inr (1, [.int 1, .int 0, .ref a1, .int 0, .int (-1), .int 0, .int 0, .ref a2, .ref a3, .ref a4, .ref a5, .ref a6, .int 0, .int 0, .ref a7, .int 0, .int 0, .ref a8, .ref a9, .ref a10, .ref a11, .ref a12, .ref a13, .int 0, .ref a14, .ref a15, .int 0, .int 0, .int 0, .int 0, .int 0, .int 0, .ref a16, .ref a17, .ref a18, .int 0, .int 0, .int 0, .int 0, .int 0, .int 0, .ref a19, .ref a20, .ref a21, .ref a22, .ref a23, .ref a24, .ref a25, .ref a26, .ref a27]))] t.heap ∧ va_K (dC, dI) vcl [] t ∧ va_D (va_A [(a0, .inr (1, [.int 0, .int 0, .ref a1, .int 0, .int (-1), .int 0, .int 0, .ref a2, .ref a3, .ref a4, .ref a5, .ref a6, .int 0, .int 0, .ref a7, .int 0, .int 0, .ref a8, .ref a9, .ref a10, .ref a11, .ref a12, .ref a13, .int 0, .ref a14, .ref a15, .int 0, .int 0, .int 0, .int 0, .int 0, .int 0, .ref a16, .ref a17, .ref a18, .int 0, .int 0, .int 0, .int 0, .int 0, .int 0, .ref a19, .ref a20, .ref a21, .ref a22, .ref a23, .ref a24, .ref a25, .ref a26, .ref a27]))] sz) [(a0, .inr (1, [.int 1, .int 0, .ref a1, .int 0, .int (-1), .int 0, .int 0, .ref a2, .ref a3, .ref a4, .ref a5, .ref a6, .int 0, .int 0, .ref a7, .int 0, .int 0, .ref a8, .ref a9, .ref a10, .ref a11, .ref a12, .ref a13, .int 0, .ref a14, .ref a15, .int 0, .int 0, .int 0, .int 0, .int 0, .int 0, .ref a16, .ref a17, .ref a18, .int 0, .int 0, .int 0, .int 0, .int 0, .int 0, .ref a19, .ref a20, .ref a21, .ref a22, .ref a23, .ref a24, .ref a25, .ref a26, .ref a27]))]) (va_A [(a0, .inr (1, [.int 0, .int 0, .ref a1, .int 0, .int (-1), .int 0, .int 0, .ref a2, .ref a3, .ref a4, .ref a5, .ref a6, .int 0, .int 0, .ref a7, .int 0, .int 0, .ref a8, .ref a9, .ref a10, .ref a11, .ref a12, .ref a13, .int 0, .ref a14, .ref a15, .int 0, .int 0, .int 0, .int 0, .int 0, .int 0, .ref a16, .ref a17, .ref a18, .int 0, .int 0, .int 0, .int 0, .int 0, .int 0, .ref a19, .ref a20, .ref a21, .ref a22, .ref a23, .ref a24, .ref a25, .ref a26, .ref a27]))] sz)) 0 0 (va_A [(a0, .inr (1, [.int 0, .int 0, .ref a1, .int 0, .int (-1), .int 0, .int 0, .ref a2, .ref a3, .ref a4, .ref a5, .ref a6, .int 0, .int 0, .ref a7, .int 0, .int 0, .ref a8, .ref a9, .ref a10, .ref a11, .ref a12, .ref a13, .int 0, .ref a14, .ref a15, .int 0, .int 0, .int 0, .int 0, .int 0, .int 0, .ref a16, .ref a17, .ref a18, .int 0, .int 0, .int 0, .int 0, .int 0, .int 0, .ref a19, .ref a20, .ref a21, .ref a22, .ref a23, .ref a24, .ref a25, .ref a26, .ref a27]))] sz) := by
  refine Met.ofW (cc := b_Model_count) (maxL := 2) (ret := (some .int)) (by decide) rfl ?_
  intro p e s m args below meth c s₁ B hml hv
  obtain ⟨rfl, hsz, hP, hK, hD0⟩ := hv
  have hx := B.exec
  have hb := B.bytes
  have hr := B.returns
  have hts := atoms_spec (ws := w_Model_count) B.pre
  have hz : ∀ w ∈ wz, w.before _ s = true := fun w h => hts w (List.mem_cons_of_mem _ h)
  have hown : s.vm.findClass R_Model = some m.cls := findClass_of_methodNamed B.named
  have hlocks := B.notSynchronized
  subst hsz
  have hD := hD0.self (sz := s.heap.size)
  generalize hAe : va_A [(a0, .inr (1, [.int 0, .int 0, .ref a1, .int 0, .int (-1), .int 0, .int 0, .ref a2, .ref a3, .ref a4, .ref a5, .ref a6, .int 0, .int 0, .ref a7, .int 0, .int 0, .ref a8, .ref a9, .ref a10, .ref a11, .ref a12, .ref a13, .int 0, .ref a14, .ref a15, .int 0, .int 0, .int 0, .int 0, .int 0, .int 0, .ref a16, .ref a17, .ref a18, .int 0, .int 0, .int 0, .int 0, .int 0, .int 0, .ref a19, .ref a20, .ref a21, .ref a22, .ref a23, .ref a24, .ref a25, .ref a26, .ref a27]))] s.heap.size = A at hD ⊢
  have hA : ∀ q : Nat, s.heap.size ≤ q → A q := fun q h => by rw [← hAe]; exact Or.inr h
  have hS : va_S A s.heap s.heap [] := va_S.rf
  have hP : va_P (dC, dI) vcl [(a0, .inr (1, [.int 0, .int 0, .ref a1, .int 0, .int (-1), .int 0, .int 0, .ref a2, .ref a3, .ref a4, .ref a5, .ref a6, .int 0, .int 0, .ref a7, .int 0, .int 0, .ref a8, .ref a9, .ref a10, .ref a11, .ref a12, .ref a13, .int 0, .ref a14, .ref a15, .int 0, .int 0, .int 0, .int 0, .int 0, .int 0, .ref a16, .ref a17, .ref a18, .int 0, .int 0, .int 0, .int 0, .int 0, .int 0, .ref a19, .ref a20, .ref a21, .ref a22, .ref a23, .ref a24, .ref a25, .ref a26, .ref a27]))] s.heap := hP
  have hl := lv_entry ([.ref a0, .int ix]) (n := 2) (Nat.le_of_ble_eq_true rfl)
  rw [lg_entry_eq]
  generalize (lg_sl ([.ref a0, .int ix]) ++ List.replicate (2 - (lg_sl ([.ref a0, .int ix])).length) Slot.unset).toArray = ls at hl ⊢
  have hl : lv_has ls 2 [(0, .ref a0), (1, .int ix)] := hl
  refine lv_aload_n hx hb d_Model_count_0 rfl (lv_at hl 0 rfl) ?_
  refine lv_iconst (v := 0) hx hb d_Model_count_1 (by decide) ?_
  refine va_put (D := (dC, dI)) (ci := 1) (v := .int 0) (ty := .int) (C := R_Model) (T := F_Model) (N := 50) hx hb hz zu_Model t_Model t_Model_ok n_Model hown hK hP hD hS 0 rfl rfl 0 (by decide) (hz (.fieldLink R_Model 97 "LayoutFrontModel" "thrown" "I") zm_415) (fun _ h9 => h9) rfl (by decide +kernel) rfl rfl (Nat.le_of_ble_eq_true rfl) d_Model_count_2 (fun H locs hP hD hS => ?_)
  have hP : va_P (dC, dI) vcl [(a0, .inr (1, [.int 0, .int 0, .ref a1, .int 0, .int (-1), .int 0, .int 0, .ref a2, .ref a3, .ref a4, .ref a5, .ref a6, .int 0, .int 0, .ref a7, .int 0, .int 0, .ref a8, .ref a9, .ref a10, .ref a11, .ref a12, .ref a13, .int 0, .ref a14, .ref a15, .int 0, .int 0, .int 0, .int 0, .int 0, .int 0, .ref a16, .ref a17, .ref a18, .int 0, .int 0, .int 0, .int 0, .int 0, .int 0, .ref a19, .ref a20, .ref a21, .ref a22, .ref a23, .ref a24, .ref a25, .ref a26, .ref a27]))] H := hP
  have hD : va_D A [(a0, .inr (1, [.int 0, .int 0, .ref a1, .int 0, .int (-1), .int 0, .int 0, .ref a2, .ref a3, .ref a4, .ref a5, .ref a6, .int 0, .int 0, .ref a7, .int 0, .int 0, .ref a8, .ref a9, .ref a10, .ref a11, .ref a12, .ref a13, .int 0, .ref a14, .ref a15, .int 0, .int 0, .int 0, .int 0, .int 0, .int 0, .ref a16, .ref a17, .ref a18, .int 0, .int 0, .int 0, .int 0, .int 0, .int 0, .ref a19, .ref a20, .ref a21, .ref a22, .ref a23, .ref a24, .ref a25, .ref a26, .ref a27]))] := hD
  refine lv_iload_n hx hb d_Model_count_5 rfl (lv_at hl 1 rfl) ?_
  refine lv_iconst (v := 0) hx hb d_Model_count_6 (by decide) ?_
  refine lv_iconst (v := 4) hx hb d_Model_count_7 (by decide) ?_
  have hPc := hP.sub (ws' := []) [] rfl
  have hDc := hD.sub (ws' := []) [] (by decide) rfl
  have hKc := hK.sub (tys' := []) [] rfl
  have hFc := va_free (wc := []) hD hS hA [] rfl
  refine va_calli (va_runS (As := [.int ix, .int 0, .int 4]) (rest := []) ⟨hx, hb, hml, hown, hz⟩ (c145_Model_within l dC dI H.size ix gi) (cwS 3 hz (zS zm_449 zm_450 zm_374 zm_451) rfl rfl rfl (by decide +kernel) ⟨Nat.le_of_ble_eq_true rfl, Nat.le_of_ble_eq_true rfl⟩) ⟨fun a U g mk q => by obtain ⟨q0, q1, qP, qK, qD⟩ := q; exact ⟨q0, q1, qP, va_K.moved (u := U) (U := U.calling g mk a) (Vm.Alike.refl U.vm) qK, qD⟩, fun U hU hW => ⟨rfl, by rw [hU], by rw [hU]; exact hPc, va_K.moved hW.alike hKc, hDc.weaken (fun _ _ _ _ => trivial)⟩⟩ rfl rfl hl.1 rfl (lv_room (Nat.le_of_ble_eq_true rfl)) d_Model_count_8 ⟨by decide, by decide⟩) hS (fun q _ h => hFc q h) hFc (fun r u t H1 locs ht hvm hw hB hz1 hk1 hS => ?_)
  obtain ⟨hP1, hK1, hD1⟩ := hB
  subst r
  rw [ht] at hP1
  obtain ⟨hP, hD⟩ := va_join (wr := [(a0, .inr (1, [.int 0, .int 0, .ref a1, .int 0, .int (-1), .int 0, .int 0, .ref a2, .ref a3, .ref a4, .ref a5, .ref a6, .int 0, .int 0, .ref a7, .int 0, .int 0, .ref a8, .ref a9, .ref a10, .ref a11, .ref a12, .ref a13, .int 0, .ref a14, .ref a15, .int 0, .int 0, .int 0, .int 0, .int 0, .int 0, .ref a16, .ref a17, .ref a18, .int 0, .int 0, .int 0, .int 0, .int 0, .int 0, .ref a19, .ref a20, .ref a21, .ref a22, .ref a23, .ref a24, .ref a25, .ref a26, .ref a27]))]) (w1 := []) hP hD [] [0] rfl rfl (by decide) (by decide) hk1 hFc hP1 hD1
  generalize H1 = H at hP hS ⊢
  have hP : va_P (dC, dI) vcl [(a0, .inr (1, [.int 0, .int 0, .ref a1, .int 0, .int (-1), .int 0, .int 0, .ref a2, .ref a3, .ref a4, .ref a5, .ref a6, .int 0, .int 0, .ref a7, .int 0, .int 0, .ref a8, .ref a9, .ref a10, .ref a11, .ref a12, .ref a13, .int 0, .ref a14, .ref a15, .int 0, .int 0, .int 0, .int 0, .int 0, .int 0, .ref a16, .ref a17, .ref a18, .int 0, .int 0, .int 0, .int 0, .int 0, .int 0, .ref a19, .ref a20, .ref a21, .ref a22, .ref a23, .ref a24, .ref a25, .ref a26, .ref a27]))] H := hP
  have hD : va_D A [(a0, .inr (1, [.int 0, .int 0, .ref a1, .int 0, .int (-1), .int 0, .int 0, .ref a2, .ref a3, .ref a4, .ref a5, .ref a6, .int 0, .int 0, .ref a7, .int 0, .int 0, .ref a8, .ref a9, .ref a10, .ref a11, .ref a12, .ref a13, .int 0, .ref a14, .ref a15, .int 0, .int 0, .int 0, .int 0, .int 0, .int 0, .ref a16, .ref a17, .ref a18, .int 0, .int 0, .int 0, .int 0, .int 0, .int 0, .ref a19, .ref a20, .ref a21, .ref a22, .ref a23, .ref a24, .ref a25, .ref a26, .ref a27]))] := hD
  refine lv_if_ne (tgt := 20) hx hb d_Model_count_11 (by decide) (fun h => (h (by decide +kernel)).elim) (fun _ => ?_)
  refine lv_aload_n hx hb d_Model_count_14 rfl (lv_at hl 0 rfl) ?_
  refine lv_iconst (v := 1) hx hb d_Model_count_15 (by decide) ?_
  have hPc := hP.sub (ws' := [(a0, .inr (1, [.int 0, .int 0, .ref a1, .int 0, .int (-1), .int 0, .int 0, .ref a2, .ref a3, .ref a4, .ref a5, .ref a6, .int 0, .int 0, .ref a7, .int 0, .int 0, .ref a8, .ref a9, .ref a10, .ref a11, .ref a12, .ref a13, .int 0, .ref a14, .ref a15, .int 0, .int 0, .int 0, .int 0, .int 0, .int 0, .ref a16, .ref a17, .ref a18, .int 0, .int 0, .int 0, .int 0, .int 0, .int 0, .ref a19, .ref a20, .ref a21, .ref a22, .ref a23, .ref a24, .ref a25, .ref a26, .ref a27]))]) [0] rfl
  have hDc := hD.sub (ws' := [(a0, .inr (1, [.int 0, .int 0, .ref a1, .int 0, .int (-1), .int 0, .int 0, .ref a2, .ref a3, .ref a4, .ref a5, .ref a6, .int 0, .int 0, .ref a7, .int 0, .int 0, .ref a8, .ref a9, .ref a10, .ref a11, .ref a12, .ref a13, .int 0, .ref a14, .ref a15, .int 0, .int 0, .int 0, .int 0, .int 0, .int 0, .ref a16, .ref a17, .ref a18, .int 0, .int 0, .int 0, .int 0, .int 0, .int 0, .ref a19, .ref a20, .ref a21, .ref a22, .ref a23, .ref a24, .ref a25, .ref a26, .ref a27]))]) [0] (by decide) rfl
  have hKc := hK.sub (tys' := []) [] rfl
  have hFc := va_free (wc := [(a0, .inr (1, [.int 0, .int 0, .ref a1, .int 0, .int (-1), .int 0, .int 0, .ref a2, .ref a3, .ref a4, .ref a5, .ref a6, .int 0, .int 0, .ref a7, .int 0, .int 0, .ref a8, .ref a9, .ref a10, .ref a11, .ref a12, .ref a13, .int 0, .ref a14, .ref a15, .int 0, .int 0, .int 0, .int 0, .int 0, .int 0, .ref a16, .ref a17, .ref a18, .int 0, .int 0, .int 0, .int 0, .int 0, .int 0, .ref a19, .ref a20, .ref a21, .ref a22, .ref a23, .ref a24, .ref a25, .ref a26, .ref a27]))]) hD hS hA [0] rfl
  refine va_calli (va_runV (As := [.int 1]) (rest := []) ⟨hx, hb, hml, hown, hz⟩ (c139_Model_fail l dC dI H.size a0 a1 a2 a3 a4 a5 a6 a7 a8 a9 a10 a11 a12 a13 a14 a15 a16 a17 a18 a19 a20 a21 a22 a23 a24 a25 a26 a27) (cwV 1 hz (zV zm_452 zm_453 zm_454 zm_374 zm_455) rfl rfl rfl (by decide +kernel) ⟨Nat.le_of_ble_eq_true rfl, Nat.le_of_ble_eq_true rfl⟩) ⟨fun a U g mk q => by obtain ⟨q0, q1, qP, qK, qD⟩ := q; exact ⟨q0, q1, qP, va_K.moved (u := U) (U := U.calling g mk a) (Vm.Alike.refl U.vm) qK, qD⟩, va_recv (q := (R_Model, F_Model, 50)) (q0 := 0) (ci := 1) hK hP rfl rfl, fun U hU hW => ⟨rfl, by rw [hU], by rw [hU]; exact hPc, va_K.moved hW.alike hKc, hDc.weaken (fun _ _ _ _ => trivial)⟩⟩ rfl rfl hl.1 rfl (lv_room (Nat.le_of_ble_eq_true rfl)) d_Model_count_16 ⟨by decide, by decide⟩) hS (fun q _ h => hFc q h) hFc (fun r u t H1 locs ht hvm hw hB hz1 hk1 hS => ?_)
  obtain ⟨hP1, hK1, hD1⟩ := hB
  subst r
  rw [ht] at hP1
  obtain ⟨hP, hD⟩ := va_join (wr := []) (w1 := [(a0, .inr (1, [.int 1, .int 0, .ref a1, .int 0, .int (-1), .int 0, .int 0, .ref a2, .ref a3, .ref a4, .ref a5, .ref a6, .int 0, .int 0, .ref a7, .int 0, .int 0, .ref a8, .ref a9, .ref a10, .ref a11, .ref a12, .ref a13, .int 0, .ref a14, .ref a15, .int 0, .int 0, .int 0, .int 0, .int 0, .int 0, .ref a16, .ref a17, .ref a18, .int 0, .int 0, .int 0, .int 0, .int 0, .int 0, .ref a19, .ref a20, .ref a21, .ref a22, .ref a23, .ref a24, .ref a25, .ref a26, .ref a27]))]) hP hD [0] [] rfl rfl (by decide) (by decide) hk1 hFc hP1 hD1
  generalize H1 = H at hP hS ⊢
  have hP : va_P (dC, dI) vcl [(a0, .inr (1, [.int 1, .int 0, .ref a1, .int 0, .int (-1), .int 0, .int 0, .ref a2, .ref a3, .ref a4, .ref a5, .ref a6, .int 0, .int 0, .ref a7, .int 0, .int 0, .ref a8, .ref a9, .ref a10, .ref a11, .ref a12, .ref a13, .int 0, .ref a14, .ref a15, .int 0, .int 0, .int 0, .int 0, .int 0, .int 0, .ref a16, .ref a17, .ref a18, .int 0, .int 0, .int 0, .int 0, .int 0, .int 0, .ref a19, .ref a20, .ref a21, .ref a22, .ref a23, .ref a24, .ref a25, .ref a26, .ref a27]))] H := hP
  have hD : va_D A [(a0, .inr (1, [.int 1, .int 0, .ref a1, .int 0, .int (-1), .int 0, .int 0, .ref a2, .ref a3, .ref a4, .ref a5, .ref a6, .int 0, .int 0, .ref a7, .int 0, .int 0, .ref a8, .ref a9, .ref a10, .ref a11, .ref a12, .ref a13, .int 0, .ref a14, .ref a15, .int 0, .int 0, .int 0, .int 0, .int 0, .int 0, .ref a16, .ref a17, .ref a18, .int 0, .int 0, .int 0, .int 0, .int 0, .int 0, .ref a19, .ref a20, .ref a21, .ref a22, .ref a23, .ref a24, .ref a25, .ref a26, .ref a27]))] := hD
  have hP9 := hP.sub (ws' := [(a0, .inr (1, [.int 1, .int 0, .ref a1, .int 0, .int (-1), .int 0, .int 0, .ref a2, .ref a3, .ref a4, .ref a5, .ref a6, .int 0, .int 0, .ref a7, .int 0, .int 0, .ref a8, .ref a9, .ref a10, .ref a11, .ref a12, .ref a13, .int 0, .ref a14, .ref a15, .int 0, .int 0, .int 0, .int 0, .int 0, .int 0, .ref a16, .ref a17, .ref a18, .int 0, .int 0, .int 0, .int 0, .int 0, .int 0, .ref a19, .ref a20, .ref a21, .ref a22, .ref a23, .ref a24, .ref a25, .ref a26, .ref a27]))]) [0] rfl
  have hD9 := hD.sub (ws' := [(a0, .inr (1, [.int 1, .int 0, .ref a1, .int 0, .int (-1), .int 0, .int 0, .ref a2, .ref a3, .ref a4, .ref a5, .ref a6, .int 0, .int 0, .ref a7, .int 0, .int 0, .ref a8, .ref a9, .ref a10, .ref a11, .ref a12, .ref a13, .int 0, .ref a14, .ref a15, .int 0, .int 0, .int 0, .int 0, .int 0, .int 0, .ref a16, .ref a17, .ref a18, .int 0, .int 0, .int 0, .int 0, .int 0, .int 0, .ref a19, .ref a20, .ref a21, .ref a22, .ref a23, .ref a24, .ref a25, .ref a26, .ref a27]))]) [0] (by decide) rfl
  have hK9 := hK.sub (tys' := []) [] rfl
  exact W.iret (v := 0) hx hb hr (fun t ht hW => ⟨⟨0, (), rfl, rfl, by rw [ht]; exact hP9, va_K.moved hW.alike hK9, hD9⟩, hS.F ht⟩) hS.2.2 d_Model_count_19
set_option maxHeartbeats 4000000 in
set_option maxRecDepth 100000 in
theorem c147_Model_within (l : Launch) (dC : Nat → ClassId) (dI : Nat → Nat → Nat) (sz : Nat) (ix : Int32) (gi : ¬ ix < 0) (g5 : 5 ≤ ix) : Met l y_Model_within w_Model_within ({ frames := 0, cells := 0, slots := 0, locals := 0 }) (va_Pc [.int ix, .int 0, .int 4] (fun U => U.heap.size = sz ∧ va_P (dC, dI) vcl [] U.heap ∧ va_K (dC, dI) vcl [] U ∧ va_D (fun _ => True) [])) (va_Qi (fun (r : Int32) (_ : Unit) => r = 0) (fun _ t => va_P (dC, dI) vcl [] t.heap ∧ va_K (dC, dI) vcl [] t ∧ va_D (va_A [] sz) []) (va_A [] sz)) 0 0 (va_A [] sz) := by
  refine Met.ofW (cc := b_Model_within) (maxL := 3) (ret := (some .boolean)) (by decide) rfl ?_
  intro p e s m args below meth c s₁ B hml hv
  obtain ⟨rfl, hsz, hP, hK, hD0⟩ := hv
  have hx := B.exec
  have hb := B.bytes
  have hr := B.returns
  have hts := atoms_spec (ws := w_Model_within) B.pre
  have hz : ∀ w ∈ wz, w.before _ s = true := fun w h => hts w (List.mem_cons_of_mem _ h)
  have hown : s.vm.findClass R_Model = some m.cls := findClass_of_methodNamed B.named
  have hlocks := B.notSynchronized
  subst hsz
  have hD := hD0.self (sz := s.heap.size)
  generalize hAe : va_A [] s.heap.size = A at hD ⊢
  have hA : ∀ q : Nat, s.heap.size ≤ q → A q := fun q h => by rw [← hAe]; exact Or.inr h
  have hS : va_S A s.heap s.heap [] := va_S.rf
  have hP : va_P (dC, dI) vcl [] s.heap := hP
  have hl := lv_entry ([.int ix, .int 0, .int 4]) (n := 3) (Nat.le_of_ble_eq_true rfl)
  rw [lg_entry_eq]
  generalize (lg_sl ([.int ix, .int 0, .int 4]) ++ List.replicate (3 - (lg_sl ([.int ix, .int 0, .int 4])).length) Slot.unset).toArray = ls at hl ⊢
  have hl : lv_has ls 3 [(0, .int ix), (1, .int 0), (2, .int 4)] := hl
  refine lv_iload_n hx hb d_Model_within_0 rfl (lv_at hl 0 rfl) ?_
  refine lv_iload_n hx hb d_Model_within_1 rfl (lv_at hl 1 rfl) ?_
  refine lv_icmp_lt (tgt := 14) hx hb d_Model_within_2 (by decide) (fun h => absurd h gi) (fun _ => ?_)
  refine lv_iload_n hx hb d_Model_within_5 rfl (lv_at hl 0 rfl) ?_
  refine lv_iload_n hx hb d_Model_within_6 rfl (lv_at hl 2 rfl) ?_
  refine lv_icmp_gt (tgt := 14) hx hb d_Model_within_7 (by decide) (fun _ => ?_) (fun h => (h (xr_g4 g5)).elim)
  refine lv_iconst (v := 0) hx hb d_Model_within_14 (by decide) ?_
  have hP9 := hP.sub (ws' := []) [] rfl
  have hD9 := hD.sub (ws' := []) [] (by decide) rfl
  have hK9 := hK.sub (tys' := []) [] rfl
  exact W.zret (v := 0) hx hb hr (by decide +kernel) (fun t ht hW => ⟨⟨0, (), rfl, rfl, by rw [ht]; exact hP9, va_K.moved hW.alike hK9, hD9⟩, hS.F ht⟩) hS.2.2 d_Model_within_15
set_option maxHeartbeats 4000000 in
set_option maxRecDepth 100000 in
theorem c148_Model_count (l : Launch) (dC : Nat → ClassId) (dI : Nat → Nat → Nat) (sz : Nat) (a0 : Nat) (a1 : Nat) (a2 : Nat) (a3 : Nat) (a4 : Nat) (a5 : Nat) (a6 : Nat) (a7 : Nat) (a8 : Nat) (a9 : Nat) (a10 : Nat) (a11 : Nat) (a12 : Nat) (a13 : Nat) (a14 : Nat) (a15 : Nat) (a16 : Nat) (a17 : Nat) (a18 : Nat) (a19 : Nat) (a20 : Nat) (a21 : Nat) (a22 : Nat) (a23 : Nat) (a24 : Nat) (a25 : Nat) (a26 : Nat) (a27 : Nat) (ix : Int32) (gi : ¬ ix < 0) (g5 : 5 ≤ ix) : Met l y_Model_count w_Model_count ({ frames := 1, cells := 0, slots := 0, locals := 22 }) (va_Pc [.ref a0, .int ix] (fun U => U.heap.size = sz ∧ va_P (dC, dI) vcl [(a0, .inr (1, [.int 0, .int 0, .ref a1, .int 0, .int (-1), .int 0, .int 0, .ref a2, .ref a3, .ref a4, .ref a5, .ref a6, .int 0, .int 0, .ref a7, .int 0, .int 0, .ref a8, .ref a9, .ref a10, .ref a11, .ref a12, .ref a13, .int 0, .ref a14, .ref a15, .int 0, .int 0, .int 0, .int 0, .int 0, .int 0, .ref a16, .ref a17, .ref a18, .int 0, .int 0, .int 0, .int 0, .int 0, .int 0, .ref a19, .ref a20, .ref a21, .ref a22, .ref a23, .ref a24, .ref a25, .ref a26, .ref a27]))] U.heap ∧ va_K (dC, dI) vcl [] U ∧ va_D (fun _ => True) [(a0, .inr (1, [.int 0, .int 0, .ref a1, .int 0, .int (-1), .int 0, .int 0, .ref a2, .ref a3, .ref a4, .ref a5, .ref a6, .int 0, .int 0, .ref a7, .int 0, .int 0, .ref a8, .ref a9, .ref a10, .ref a11, .ref a12, .ref a13, .int 0, .ref a14, .ref a15, .int 0, .int 0, .int 0, .int 0, .int 0, .int 0, .ref a16, .ref a17, .ref a18, .int 0, .int 0, .int 0, .int 0, .int 0, .int 0, .ref a19, .ref a20, .ref a21, .ref a22, .ref a23, .ref a24, .ref a25, .ref a26, .ref a27]))])) (va_Qi (fun (r : Int32) (_ : Unit) => r = 0) (fun _ t => va_P (dC, dI) vcl [(a0, .inr (1, [.int 1, .int 0, .ref a1, .int 0, .int (-1), .int 0, .int 0, .ref a2, .ref a3, .ref a4, .ref a5, .ref a6, .int 0, .int 0, .ref a7, .int 0, .int 0, .ref a8, .ref a9, .ref a10, .ref a11, .ref a12, .ref a13, .int 0, .ref a14, .ref a15, .int 0, .int 0, .int 0, .int 0, .int 0, .int 0, .ref a16, .ref a17, .ref a18, .int 0, .int 0, .int 0, .int 0, .int 0, .int 0, .ref a19, .ref a20, .ref a21, .ref a22, .ref a23, .ref a24, .ref a25, .ref a26, .ref a27]))] t.heap ∧ va_K (dC, dI) vcl [] t ∧ va_D (va_A [(a0, .inr (1, [.int 0, .int 0, .ref a1, .int 0, .int (-1), .int 0, .int 0, .ref a2, .ref a3, .ref a4, .ref a5, .ref a6, .int 0, .int 0, .ref a7, .int 0, .int 0, .ref a8, .ref a9, .ref a10, .ref a11, .ref a12, .ref a13, .int 0, .ref a14, .ref a15, .int 0, .int 0, .int 0, .int 0, .int 0, .int 0, .ref a16, .ref a17, .ref a18, .int 0, .int 0, .int 0, .int 0, .int 0, .int 0, .ref a19, .ref a20, .ref a21, .ref a22, .ref a23, .ref a24, .ref a25, .ref a26, .ref a27]))] sz) [(a0, .inr (1, [.int 1, .int 0, .ref a1, .int 0, .int (-1), .int 0, .int 0, .ref a2, .ref a3, .ref a4, .ref a5, .ref a6, .int 0, .int 0, .ref a7, .int 0, .int 0, .ref a8, .ref a9, .ref a10, .ref a11, .ref a12, .ref a13, .int 0, .ref a14, .ref a15, .int 0, .int 0, .int 0, .int 0, .int 0, .int 0, .ref a16, .ref a17, .ref a18, .int 0, .int 0, .int 0, .int 0, .int 0, .int 0, .ref a19, .ref a20, .ref a21, .ref a22, .ref a23, .ref a24, .ref a25, .ref a26, .ref a27]))]) (va_A [(a0, .inr (1, [.int 0, .int 0, .ref a1, .int 0, .int (-1), .int 0, .int 0, .ref a2, .ref a3, .ref a4, .ref a5, .ref a6, .int 0, .int 0, .ref a7, .int 0, .int 0, .ref a8, .ref a9, .ref a10, .ref a11, .ref a12, .ref a13, .int 0, .ref a14, .ref a15, .int 0, .int 0, .int 0, .int 0, .int 0, .int 0, .ref a16, .ref a17, .ref a18, .int 0, .int 0, .int 0, .int 0, .int 0, .int 0, .ref a19, .ref a20, .ref a21, .ref a22, .ref a23, .ref a24, .ref a25, .ref a26, .ref a27]))] sz)) 0 0 (va_A [(a0, .inr (1, [.int 0, .int 0, .ref a1, .int 0, .int (-1), .int 0, .int 0, .ref a2, .ref a3, .ref a4, .ref a5, .ref a6, .int 0, .int 0, .ref a7, .int 0, .int 0, .ref a8, .ref a9, .ref a10, .ref a11, .ref a12, .ref a13, .int 0, .ref a14, .ref a15, .int 0, .int 0, .int 0, .int 0, .int 0, .int 0, .ref a16, .ref a17, .ref a18, .int 0, .int 0, .int 0, .int 0, .int 0, .int 0, .ref a19, .ref a20, .ref a21, .ref a22, .ref a23, .ref a24, .ref a25, .ref a26, .ref a27]))] sz) := by
  refine Met.ofW (cc := b_Model_count) (maxL := 2) (ret := (some .int)) (by decide) rfl ?_
  intro p e s m args below meth c s₁ B hml hv
  obtain ⟨rfl, hsz, hP, hK, hD0⟩ := hv
  have hx := B.exec
  have hb := B.bytes
  have hr := B.returns
  have hts := atoms_spec (ws := w_Model_count) B.pre
  have hz : ∀ w ∈ wz, w.before _ s = true := fun w h => hts w (List.mem_cons_of_mem _ h)
  have hown : s.vm.findClass R_Model = some m.cls := findClass_of_methodNamed B.named
  have hlocks := B.notSynchronized
  subst hsz
  have hD := hD0.self (sz := s.heap.size)
  generalize hAe : va_A [(a0, .inr (1, [.int 0, .int 0, .ref a1, .int 0, .int (-1), .int 0, .int 0, .ref a2, .ref a3, .ref a4, .ref a5, .ref a6, .int 0, .int 0, .ref a7, .int 0, .int 0, .ref a8, .ref a9, .ref a10, .ref a11, .ref a12, .ref a13, .int 0, .ref a14, .ref a15, .int 0, .int 0, .int 0, .int 0, .int 0, .int 0, .ref a16, .ref a17, .ref a18, .int 0, .int 0, .int 0, .int 0, .int 0, .int 0, .ref a19, .ref a20, .ref a21, .ref a22, .ref a23, .ref a24, .ref a25, .ref a26, .ref a27]))] s.heap.size = A at hD ⊢
  have hA : ∀ q : Nat, s.heap.size ≤ q → A q := fun q h => by rw [← hAe]; exact Or.inr h
  have hS : va_S A s.heap s.heap [] := va_S.rf
  have hP : va_P (dC, dI) vcl [(a0, .inr (1, [.int 0, .int 0, .ref a1, .int 0, .int (-1), .int 0, .int 0, .ref a2, .ref a3, .ref a4, .ref a5, .ref a6, .int 0, .int 0, .ref a7, .int 0, .int 0, .ref a8, .ref a9, .ref a10, .ref a11, .ref a12, .ref a13, .int 0, .ref a14, .ref a15, .int 0, .int 0, .int 0, .int 0, .int 0, .int 0, .ref a16, .ref a17, .ref a18, .int 0, .int 0, .int 0, .int 0, .int 0, .int 0, .ref a19, .ref a20, .ref a21, .ref a22, .ref a23, .ref a24, .ref a25, .ref a26, .ref a27]))] s.heap := hP
  have hl := lv_entry ([.ref a0, .int ix]) (n := 2) (Nat.le_of_ble_eq_true rfl)
  rw [lg_entry_eq]
  generalize (lg_sl ([.ref a0, .int ix]) ++ List.replicate (2 - (lg_sl ([.ref a0, .int ix])).length) Slot.unset).toArray = ls at hl ⊢
  have hl : lv_has ls 2 [(0, .ref a0), (1, .int ix)] := hl
  refine lv_aload_n hx hb d_Model_count_0 rfl (lv_at hl 0 rfl) ?_
  refine lv_iconst (v := 0) hx hb d_Model_count_1 (by decide) ?_
  refine va_put (D := (dC, dI)) (ci := 1) (v := .int 0) (ty := .int) (C := R_Model) (T := F_Model) (N := 50) hx hb hz zu_Model t_Model t_Model_ok n_Model hown hK hP hD hS 0 rfl rfl 0 (by decide) (hz (.fieldLink R_Model 97 "LayoutFrontModel" "thrown" "I") zm_415) (fun _ h9 => h9) rfl (by decide +kernel) rfl rfl (Nat.le_of_ble_eq_true rfl) d_Model_count_2 (fun H locs hP hD hS => ?_)
  have hP : va_P (dC, dI) vcl [(a0, .inr (1, [.int 0, .int 0, .ref a1, .int 0, .int (-1), .int 0, .int 0, .ref a2, .ref a3, .ref a4, .ref a5, .ref a6, .int 0, .int 0, .ref a7, .int 0, .int 0, .ref a8, .ref a9, .ref a10, .ref a11, .ref a12, .ref a13, .int 0, .ref a14, .ref a15, .int 0, .int 0, .int 0, .int 0, .int 0, .int 0, .ref a16, .ref a17, .ref a18, .int 0, .int 0, .int 0, .int 0, .int 0, .int 0, .ref a19, .ref a20, .ref a21, .ref a22, .ref a23, .ref a24, .ref a25, .ref a26, .ref a27]))] H := hP
  have hD : va_D A [(a0, .inr (1, [.int 0, .int 0, .ref a1, .int 0, .int (-1), .int 0, .int 0, .ref a2, .ref a3, .ref a4, .ref a5, .ref a6, .int 0, .int 0, .ref a7, .int 0, .int 0, .ref a8, .ref a9, .ref a10, .ref a11, .ref a12, .ref a13, .int 0, .ref a14, .ref a15, .int 0, .int 0, .int 0, .int 0, .int 0, .int 0, .ref a16, .ref a17, .ref a18, .int 0, .int 0, .int 0, .int 0, .int 0, .int 0, .ref a19, .ref a20, .ref a21, .ref a22, .ref a23, .ref a24, .ref a25, .ref a26, .ref a27]))] := hD
  refine lv_iload_n hx hb d_Model_count_5 rfl (lv_at hl 1 rfl) ?_
  refine lv_iconst (v := 0) hx hb d_Model_count_6 (by decide) ?_
  refine lv_iconst (v := 4) hx hb d_Model_count_7 (by decide) ?_
  have hPc := hP.sub (ws' := []) [] rfl
  have hDc := hD.sub (ws' := []) [] (by decide) rfl
  have hKc := hK.sub (tys' := []) [] rfl
  have hFc := va_free (wc := []) hD hS hA [] rfl
  refine va_calli (va_runS (As := [.int ix, .int 0, .int 4]) (rest := []) ⟨hx, hb, hml, hown, hz⟩ (c147_Model_within l dC dI H.size ix gi g5) (cwS 3 hz (zS zm_449 zm_450 zm_374 zm_451) rfl rfl rfl (by decide +kernel) ⟨Nat.le_of_ble_eq_true rfl, Nat.le_of_ble_eq_true rfl⟩) ⟨fun a U g mk q => by obtain ⟨q0, q1, qP, qK, qD⟩ := q; exact ⟨q0, q1, qP, va_K.moved (u := U) (U := U.calling g mk a) (Vm.Alike.refl U.vm) qK, qD⟩, fun U hU hW => ⟨rfl, by rw [hU], by rw [hU]; exact hPc, va_K.moved hW.alike hKc, hDc.weaken (fun _ _ _ _ => trivial)⟩⟩ rfl rfl hl.1 rfl (lv_room (Nat.le_of_ble_eq_true rfl)) d_Model_count_8 ⟨by decide, by decide⟩) hS (fun q _ h => hFc q h) hFc (fun r u t H1 locs ht hvm hw hB hz1 hk1 hS => ?_)
  obtain ⟨hP1, hK1, hD1⟩ := hB
  subst r
  rw [ht] at hP1
  obtain ⟨hP, hD⟩ := va_join (wr := [(a0, .inr (1, [.int 0, .int 0, .ref a1, .int 0, .int (-1), .int 0, .int 0, .ref a2, .ref a3, .ref a4, .ref a5, .ref a6, .int 0, .int 0, .ref a7, .int 0, .int 0, .ref a8, .ref a9, .ref a10, .ref a11, .ref a12, .ref a13, .int 0, .ref a14, .ref a15, .int 0, .int 0, .int 0, .int 0, .int 0, .int 0, .ref a16, .ref a17, .ref a18, .int 0, .int 0, .int 0, .int 0, .int 0, .int 0, .ref a19, .ref a20, .ref a21, .ref a22, .ref a23, .ref a24, .ref a25, .ref a26, .ref a27]))]) (w1 := []) hP hD [] [0] rfl rfl (by decide) (by decide) hk1 hFc hP1 hD1
  generalize H1 = H at hP hS ⊢
  have hP : va_P (dC, dI) vcl [(a0, .inr (1, [.int 0, .int 0, .ref a1, .int 0, .int (-1), .int 0, .int 0, .ref a2, .ref a3, .ref a4, .ref a5, .ref a6, .int 0, .int 0, .ref a7, .int 0, .int 0, .ref a8, .ref a9, .ref a10, .ref a11, .ref a12, .ref a13, .int 0, .ref a14, .ref a15, .int 0, .int 0, .int 0, .int 0, .int 0, .int 0, .ref a16, .ref a17, .ref a18, .int 0, .int 0, .int 0, .int 0, .int 0, .int 0, .ref a19, .ref a20, .ref a21, .ref a22, .ref a23, .ref a24, .ref a25, .ref a26, .ref a27]))] H := hP
  have hD : va_D A [(a0, .inr (1, [.int 0, .int 0, .ref a1, .int 0, .int (-1), .int 0, .int 0, .ref a2, .ref a3, .ref a4, .ref a5, .ref a6, .int 0, .int 0, .ref a7, .int 0, .int 0, .ref a8, .ref a9, .ref a10, .ref a11, .ref a12, .ref a13, .int 0, .ref a14, .ref a15, .int 0, .int 0, .int 0, .int 0, .int 0, .int 0, .ref a16, .ref a17, .ref a18, .int 0, .int 0, .int 0, .int 0, .int 0, .int 0, .ref a19, .ref a20, .ref a21, .ref a22, .ref a23, .ref a24, .ref a25, .ref a26, .ref a27]))] := hD
  refine lv_if_ne (tgt := 20) hx hb d_Model_count_11 (by decide) (fun h => (h (by decide +kernel)).elim) (fun _ => ?_)
  refine lv_aload_n hx hb d_Model_count_14 rfl (lv_at hl 0 rfl) ?_
  refine lv_iconst (v := 1) hx hb d_Model_count_15 (by decide) ?_
  have hPc := hP.sub (ws' := [(a0, .inr (1, [.int 0, .int 0, .ref a1, .int 0, .int (-1), .int 0, .int 0, .ref a2, .ref a3, .ref a4, .ref a5, .ref a6, .int 0, .int 0, .ref a7, .int 0, .int 0, .ref a8, .ref a9, .ref a10, .ref a11, .ref a12, .ref a13, .int 0, .ref a14, .ref a15, .int 0, .int 0, .int 0, .int 0, .int 0, .int 0, .ref a16, .ref a17, .ref a18, .int 0, .int 0, .int 0, .int 0, .int 0, .int 0, .ref a19, .ref a20, .ref a21, .ref a22, .ref a23, .ref a24, .ref a25, .ref a26, .ref a27]))]) [0] rfl
  have hDc := hD.sub (ws' := [(a0, .inr (1, [.int 0, .int 0, .ref a1, .int 0, .int (-1), .int 0, .int 0, .ref a2, .ref a3, .ref a4, .ref a5, .ref a6, .int 0, .int 0, .ref a7, .int 0, .int 0, .ref a8, .ref a9, .ref a10, .ref a11, .ref a12, .ref a13, .int 0, .ref a14, .ref a15, .int 0, .int 0, .int 0, .int 0, .int 0, .int 0, .ref a16, .ref a17, .ref a18, .int 0, .int 0, .int 0, .int 0, .int 0, .int 0, .ref a19, .ref a20, .ref a21, .ref a22, .ref a23, .ref a24, .ref a25, .ref a26, .ref a27]))]) [0] (by decide) rfl
  have hKc := hK.sub (tys' := []) [] rfl
  have hFc := va_free (wc := [(a0, .inr (1, [.int 0, .int 0, .ref a1, .int 0, .int (-1), .int 0, .int 0, .ref a2, .ref a3, .ref a4, .ref a5, .ref a6, .int 0, .int 0, .ref a7, .int 0, .int 0, .ref a8, .ref a9, .ref a10, .ref a11, .ref a12, .ref a13, .int 0, .ref a14, .ref a15, .int 0, .int 0, .int 0, .int 0, .int 0, .int 0, .ref a16, .ref a17, .ref a18, .int 0, .int 0, .int 0, .int 0, .int 0, .int 0, .ref a19, .ref a20, .ref a21, .ref a22, .ref a23, .ref a24, .ref a25, .ref a26, .ref a27]))]) hD hS hA [0] rfl
  refine va_calli (va_runV (As := [.int 1]) (rest := []) ⟨hx, hb, hml, hown, hz⟩ (c139_Model_fail l dC dI H.size a0 a1 a2 a3 a4 a5 a6 a7 a8 a9 a10 a11 a12 a13 a14 a15 a16 a17 a18 a19 a20 a21 a22 a23 a24 a25 a26 a27) (cwV 1 hz (zV zm_452 zm_453 zm_454 zm_374 zm_455) rfl rfl rfl (by decide +kernel) ⟨Nat.le_of_ble_eq_true rfl, Nat.le_of_ble_eq_true rfl⟩) ⟨fun a U g mk q => by obtain ⟨q0, q1, qP, qK, qD⟩ := q; exact ⟨q0, q1, qP, va_K.moved (u := U) (U := U.calling g mk a) (Vm.Alike.refl U.vm) qK, qD⟩, va_recv (q := (R_Model, F_Model, 50)) (q0 := 0) (ci := 1) hK hP rfl rfl, fun U hU hW => ⟨rfl, by rw [hU], by rw [hU]; exact hPc, va_K.moved hW.alike hKc, hDc.weaken (fun _ _ _ _ => trivial)⟩⟩ rfl rfl hl.1 rfl (lv_room (Nat.le_of_ble_eq_true rfl)) d_Model_count_16 ⟨by decide, by decide⟩) hS (fun q _ h => hFc q h) hFc (fun r u t H1 locs ht hvm hw hB hz1 hk1 hS => ?_)
  obtain ⟨hP1, hK1, hD1⟩ := hB
  subst r
  rw [ht] at hP1
  obtain ⟨hP, hD⟩ := va_join (wr := []) (w1 := [(a0, .inr (1, [.int 1, .int 0, .ref a1, .int 0, .int (-1), .int 0, .int 0, .ref a2, .ref a3, .ref a4, .ref a5, .ref a6, .int 0, .int 0, .ref a7, .int 0, .int 0, .ref a8, .ref a9, .ref a10, .ref a11, .ref a12, .ref a13, .int 0, .ref a14, .ref a15, .int 0, .int 0, .int 0, .int 0, .int 0, .int 0, .ref a16, .ref a17, .ref a18, .int 0, .int 0, .int 0, .int 0, .int 0, .int 0, .ref a19, .ref a20, .ref a21, .ref a22, .ref a23, .ref a24, .ref a25, .ref a26, .ref a27]))]) hP hD [0] [] rfl rfl (by decide) (by decide) hk1 hFc hP1 hD1
  generalize H1 = H at hP hS ⊢
  have hP : va_P (dC, dI) vcl [(a0, .inr (1, [.int 1, .int 0, .ref a1, .int 0, .int (-1), .int 0, .int 0, .ref a2, .ref a3, .ref a4, .ref a5, .ref a6, .int 0, .int 0, .ref a7, .int 0, .int 0, .ref a8, .ref a9, .ref a10, .ref a11, .ref a12, .ref a13, .int 0, .ref a14, .ref a15, .int 0, .int 0, .int 0, .int 0, .int 0, .int 0, .ref a16, .ref a17, .ref a18, .int 0, .int 0, .int 0, .int 0, .int 0, .int 0, .ref a19, .ref a20, .ref a21, .ref a22, .ref a23, .ref a24, .ref a25, .ref a26, .ref a27]))] H := hP
  have hD : va_D A [(a0, .inr (1, [.int 1, .int 0, .ref a1, .int 0, .int (-1), .int 0, .int 0, .ref a2, .ref a3, .ref a4, .ref a5, .ref a6, .int 0, .int 0, .ref a7, .int 0, .int 0, .ref a8, .ref a9, .ref a10, .ref a11, .ref a12, .ref a13, .int 0, .ref a14, .ref a15, .int 0, .int 0, .int 0, .int 0, .int 0, .int 0, .ref a16, .ref a17, .ref a18, .int 0, .int 0, .int 0, .int 0, .int 0, .int 0, .ref a19, .ref a20, .ref a21, .ref a22, .ref a23, .ref a24, .ref a25, .ref a26, .ref a27]))] := hD
  have hP9 := hP.sub (ws' := [(a0, .inr (1, [.int 1, .int 0, .ref a1, .int 0, .int (-1), .int 0, .int 0, .ref a2, .ref a3, .ref a4, .ref a5, .ref a6, .int 0, .int 0, .ref a7, .int 0, .int 0, .ref a8, .ref a9, .ref a10, .ref a11, .ref a12, .ref a13, .int 0, .ref a14, .ref a15, .int 0, .int 0, .int 0, .int 0, .int 0, .int 0, .ref a16, .ref a17, .ref a18, .int 0, .int 0, .int 0, .int 0, .int 0, .int 0, .ref a19, .ref a20, .ref a21, .ref a22, .ref a23, .ref a24, .ref a25, .ref a26, .ref a27]))]) [0] rfl
  have hD9 := hD.sub (ws' := [(a0, .inr (1, [.int 1, .int 0, .ref a1, .int 0, .int (-1), .int 0, .int 0, .ref a2, .ref a3, .ref a4, .ref a5, .ref a6, .int 0, .int 0, .ref a7, .int 0, .int 0, .ref a8, .ref a9, .ref a10, .ref a11, .ref a12, .ref a13, .int 0, .ref a14, .ref a15, .int 0, .int 0, .int 0, .int 0, .int 0, .int 0, .ref a16, .ref a17, .ref a18, .int 0, .int 0, .int 0, .int 0, .int 0, .int 0, .ref a19, .ref a20, .ref a21, .ref a22, .ref a23, .ref a24, .ref a25, .ref a26, .ref a27]))]) [0] (by decide) rfl
  have hK9 := hK.sub (tys' := []) [] rfl
  exact W.iret (v := 0) hx hb hr (fun t ht hW => ⟨⟨0, (), rfl, rfl, by rw [ht]; exact hP9, va_K.moved hW.alike hK9, hD9⟩, hS.F ht⟩) hS.2.2 d_Model_count_19
set_option maxHeartbeats 4000000 in
set_option maxRecDepth 100000 in
theorem c149_Fixities_hasRoomFor (l : Launch) (dC : Nat → ClassId) (dI : Nat → Nat → Nat) (sz : Nat) (a0 : Nat) (a1 : Nat) (a2 : Nat) (a3 : Nat) (ev : Int64) (sdx : Int32) (lvx : Int32) (g1 : ¬ sdx < 0) (g2 : ¬ 2 < sdx) (g3 : ¬ lvx < 0) (g4 : ¬ 9 < lvx) : Met l y_Fixities_hasRoomFor w_Fixities_hasRoomFor ({ frames := 0, cells := 0, slots := 0, locals := 0 }) (va_Pc [.ref a0, .long ev] (fun U => U.heap.size = sz ∧ va_P (dC, dI) vcl [(a0, .inr (4, [.ref a1, .ref a2, .ref a3, .int 0]))] U.heap ∧ va_K (dC, dI) vcl [] U ∧ va_D (fun _ => True) [(a0, .inr (4, [.ref a1, .ref a2, .ref a3, .int 0]))])) (va_Qi (fun (r : Int32) (_ : Unit) => r = 1) (fun _ t => va_P (dC, dI) vcl [(a0, .inr (4, [.ref a1, .ref a2, .ref a3, .int 0]))] t.heap ∧ va_K (dC, dI) vcl [] t ∧ va_D (va_A [(a0, .inr (4, [.ref a1, .ref a2, .ref a3, .int 0]))] sz) [(a0, .inr (4, [.ref a1, .ref a2, .ref a3, .int 0]))]) (va_A [(a0, .inr (4, [.ref a1, .ref a2, .ref a3, .int 0]))] sz)) 0 0 (va_A [(a0, .inr (4, [.ref a1, .ref a2, .ref a3, .int 0]))] sz) := by
  refine Met.ofW (cc := b_Fixities_hasRoomFor) (maxL := 3) (ret := (some .boolean)) (by decide) rfl ?_
  intro p e s m args below meth c s₁ B hml hv
  obtain ⟨rfl, hsz, hP, hK, hD0⟩ := hv
  have hx := B.exec
  have hb := B.bytes
  have hr := B.returns
  have hts := atoms_spec (ws := w_Fixities_hasRoomFor) B.pre
  have hz : ∀ w ∈ wz, w.before _ s = true := fun w h => hts w (List.mem_cons_of_mem _ h)
  have hown : s.vm.findClass R_Fixities = some m.cls := findClass_of_methodNamed B.named
  have hlocks := B.notSynchronized
  subst hsz
  have hD := hD0.self (sz := s.heap.size)
  generalize hAe : va_A [(a0, .inr (4, [.ref a1, .ref a2, .ref a3, .int 0]))] s.heap.size = A at hD ⊢
  have hA : ∀ q : Nat, s.heap.size ≤ q → A q := fun q h => by rw [← hAe]; exact Or.inr h
  have hS : va_S A s.heap s.heap [] := va_S.rf
  have hP : va_P (dC, dI) vcl [(a0, .inr (4, [.ref a1, .ref a2, .ref a3, .int 0]))] s.heap := hP
  have hl := lv_entry ([.ref a0, .long ev]) (n := 3) (Nat.le_of_ble_eq_true rfl)
  rw [lg_entry_eq]
  generalize (lg_sl ([.ref a0, .long ev]) ++ List.replicate (3 - (lg_sl ([.ref a0, .long ev])).length) Slot.unset).toArray = ls at hl ⊢
  have hl : lv_has ls 3 [(0, .ref a0), (1, .long ev)] := hl
  refine lv_aload_n hx hb d_Fixities_hasRoomFor_0 rfl (lv_at hl 0 rfl) ?_
  refine va_get (D := (dC, dI)) (ci := 4) (v := .int 0) (C := R_Fixities) (T := F_Fixities) (N := 4) hx hb hz zu_Fixities hown hK hP 0 rfl rfl 3 (by decide) (hz (.fieldLink R_Fixities 22 "LayoutFront$Fixities" "size" "I") zm_456) (fun _ h9 => h9) rfl d_Fixities_hasRoomFor_1 ?_
  refine lv_bipush (v := 12) hx hb d_Fixities_hasRoomFor_4 (by decide) ?_
  refine lv_icmp_lt (tgt := 18) hx hb d_Fixities_hasRoomFor_6 (by decide) (fun _ => ?_) (fun h => (h (by decide +kernel)).elim)
  refine lv_iconst (v := 1) hx hb d_Fixities_hasRoomFor_18 (by decide) ?_
  refine lv_goto (tgt := 23) hx hb d_Fixities_hasRoomFor_19 (by decide) ?_
  have hP9 := hP.sub (ws' := [(a0, .inr (4, [.ref a1, .ref a2, .ref a3, .int 0]))]) [0] rfl
  have hD9 := hD.sub (ws' := [(a0, .inr (4, [.ref a1, .ref a2, .ref a3, .int 0]))]) [0] (by decide) rfl
  have hK9 := hK.sub (tys' := []) [] rfl
  exact W.zret (v := 1) hx hb hr (by decide +kernel) (fun t ht hW => ⟨⟨1, (), rfl, rfl, by rw [ht]; exact hP9, va_K.moved hW.alike hK9, hD9⟩, hS.F ht⟩) hS.2.2 d_Fixities_hasRoomFor_23
set_option maxHeartbeats 4000000 in
set_option maxRecDepth 100000 in
theorem c150_Fixities_find (l : Launch) (dC : Nat → ClassId) (dI : Nat → Nat → Nat) (sz : Nat) (a0 : Nat) (a1 : Nat) (a2 : Nat) (a3 : Nat) (ev : Int64) (sdx : Int32) (lvx : Int32) (g1 : ¬ sdx < 0) (g2 : ¬ 2 < sdx) (g3 : ¬ lvx < 0) (g4 : ¬ 9 < lvx) : Met l y_Fixities_find w_Fixities_find ({ frames := 0, cells := 0, slots := 0, locals := 0 }) (va_Pc [.ref a0, .long ev] (fun U => U.heap.size = sz ∧ va_P (dC, dI) vcl [(a0, .inr (4, [.ref a1, .ref a2, .ref a3, .int 0]))] U.heap ∧ va_K (dC, dI) vcl [] U ∧ va_D (fun _ => True) [(a0, .inr (4, [.ref a1, .ref a2, .ref a3, .int 0]))])) (va_Qi (fun (r : Int32) (_ : Unit) => r = (-1)) (fun _ t => va_P (dC, dI) vcl [(a0, .inr (4, [.ref a1, .ref a2, .ref a3, .int 0]))] t.heap ∧ va_K (dC, dI) vcl [] t ∧ va_D (va_A [(a0, .inr (4, [.ref a1, .ref a2, .ref a3, .int 0]))] sz) [(a0, .inr (4, [.ref a1, .ref a2, .ref a3, .int 0]))]) (va_A [(a0, .inr (4, [.ref a1, .ref a2, .ref a3, .int 0]))] sz)) 0 0 (va_A [(a0, .inr (4, [.ref a1, .ref a2, .ref a3, .int 0]))] sz) := by
  refine Met.ofW (cc := b_Fixities_find) (maxL := 4) (ret := (some .int)) (by decide) rfl ?_
  intro p e s m args below meth c s₁ B hml hv
  obtain ⟨rfl, hsz, hP, hK, hD0⟩ := hv
  have hx := B.exec
  have hb := B.bytes
  have hr := B.returns
  have hts := atoms_spec (ws := w_Fixities_find) B.pre
  have hz : ∀ w ∈ wz, w.before _ s = true := fun w h => hts w (List.mem_cons_of_mem _ h)
  have hown : s.vm.findClass R_Fixities = some m.cls := findClass_of_methodNamed B.named
  have hlocks := B.notSynchronized
  subst hsz
  have hD := hD0.self (sz := s.heap.size)
  generalize hAe : va_A [(a0, .inr (4, [.ref a1, .ref a2, .ref a3, .int 0]))] s.heap.size = A at hD ⊢
  have hA : ∀ q : Nat, s.heap.size ≤ q → A q := fun q h => by rw [← hAe]; exact Or.inr h
  have hS : va_S A s.heap s.heap [] := va_S.rf
  have hP : va_P (dC, dI) vcl [(a0, .inr (4, [.ref a1, .ref a2, .ref a3, .int 0]))] s.heap := hP
  have hl := lv_entry ([.ref a0, .long ev]) (n := 4) (Nat.le_of_ble_eq_true rfl)
  rw [lg_entry_eq]
  generalize (lg_sl ([.ref a0, .long ev]) ++ List.replicate (4 - (lg_sl ([.ref a0, .long ev])).length) Slot.unset).toArray = ls at hl ⊢
  have hl : lv_has ls 4 [(0, .ref a0), (1, .long ev)] := hl
  refine lv_iconst (v := 0) hx hb d_Fixities_find_0 (by decide) ?_
  refine lv_istore_n hx hb d_Fixities_find_1 rfl hl (by decide) rfl (fun ls hl => ?_)
  have hl : lv_has ls 4 [(3, .int 0), (0, .ref a0), (1, .long ev)] := hl
  refine lv_iload_n hx hb d_Fixities_find_2 rfl (lv_at hl 0 rfl) ?_
  refine lv_aload_n hx hb d_Fixities_find_3 rfl (lv_at hl 1 rfl) ?_
  refine va_get (D := (dC, dI)) (ci := 4) (v := .int 0) (C := R_Fixities) (T := F_Fixities) (N := 4) hx hb hz zu_Fixities hown hK hP 0 rfl rfl 3 (by decide) (hz (.fieldLink R_Fixities 22 "LayoutFront$Fixities" "size" "I") zm_456) (fun _ h9 => h9) rfl d_Fixities_find_4 ?_
  refine lv_icmp_ge (tgt := 29) hx hb d_Fixities_find_7 (by decide) (fun _ => ?_) (fun h => (h (by decide +kernel)).elim)
  refine lv_iconst (v := (-1)) hx hb d_Fixities_find_29 (by decide) ?_
  have hP9 := hP.sub (ws' := [(a0, .inr (4, [.ref a1, .ref a2, .ref a3, .int 0]))]) [0] rfl
  have hD9 := hD.sub (ws' := [(a0, .inr (4, [.ref a1, .ref a2, .ref a3, .int 0]))]) [0] (by decide) rfl
  have hK9 := hK.sub (tys' := []) [] rfl
  exact W.iret (v := (-1)) hx hb hr (fun t ht hW => ⟨⟨(-1), (), rfl, rfl, by rw [ht]; exact hP9, va_K.moved hW.alike hK9, hD9⟩, hS.F ht⟩) hS.2.2 d_Fixities_find_30
set_option maxHeartbeats 4000000 in
set_option maxRecDepth 100000 in
theorem c151_Fixities_set (l : Launch) (dC : Nat → ClassId) (dI : Nat → Nat → Nat) (sz : Nat) (a0 : Nat) (a1 : Nat) (a2 : Nat) (a3 : Nat) (k0 : ClassId) (k1 : ClassId) (k2 : ClassId) (ev : Int64) (sdx : Int32) (lvx : Int32) (g1 : ¬ sdx < 0) (g2 : ¬ 2 < sdx) (g3 : ¬ lvx < 0) (g4 : ¬ 9 < lvx) : Met l y_Fixities_set w_Fixities_set ({ frames := 1, cells := 0, slots := 0, locals := 40 }) (va_Pc [.ref a0, .long ev, .int sdx, .int lvx] (fun U => U.heap.size = sz ∧ va_P (dC, dI) vcl [(a0, .inr (4, [.ref a1, .ref a2, .ref a3, .int 0])), (a1, .inl (k0, 12, .inr (.inl (fun _ => 0)))), (a2, .inl (k1, 12, .inl (fun _ => 0))), (a3, .inl (k2, 12, .inl (fun _ => 0)))] U.heap ∧ va_K (dC, dI) vcl [(k0, .long), (k1, .int), (k2, .int)] U ∧ va_D (fun _ => True) [(a0, .inr (4, [.ref a1, .ref a2, .ref a3, .int 0])), (a1, .inl (k0, 12, .inr (.inl (fun _ => 0)))), (a2, .inl (k1, 12, .inl (fun _ => 0))), (a3, .inl (k2, 12, .inl (fun _ => 0)))])) (va_Qv (fun (_ : Unit) => True) (fun _ t => va_P (dC, dI) vcl [(a0, .inr (4, [.ref a1, .ref a2, .ref a3, .int 1])), (a1, .inl (k0, 12, .inr (.inl (vp_updL (fun _ => 0) 0 ev)))), (a2, .inl (k1, 12, .inl (upd (fun _ => 0) 0 sdx))), (a3, .inl (k2, 12, .inl (upd (fun _ => 0) 0 lvx)))] t.heap ∧ va_K (dC, dI) vcl [(k0, .long), (k1, .int), (k2, .int)] t ∧ va_D (va_A [(a0, .inr (4, [.ref a1, .ref a2, .ref a3, .int 0])), (a1, .inl (k0, 12, .inr (.inl (fun _ => 0)))), (a2, .inl (k1, 12, .inl (fun _ => 0))), (a3, .inl (k2, 12, .inl (fun _ => 0)))] sz) [(a0, .inr (4, [.ref a1, .ref a2, .ref a3, .int 1])), (a1, .inl (k0, 12, .inr (.inl (vp_updL (fun _ => 0) 0 ev)))), (a2, .inl (k1, 12, .inl (upd (fun _ => 0) 0 sdx))), (a3, .inl (k2, 12, .inl (upd (fun _ => 0) 0 lvx)))]) (va_A [(a0, .inr (4, [.ref a1, .ref a2, .ref a3, .int 0])), (a1, .inl (k0, 12, .inr (.inl (fun _ => 0)))), (a2, .inl (k1, 12, .inl (fun _ => 0))), (a3, .inl (k2, 12, .inl (fun _ => 0)))] sz)) 0 0 (va_A [(a0, .inr (4, [.ref a1, .ref a2, .ref a3, .int 0])), (a1, .inl (k0, 12, .inr (.inl (fun _ => 0)))), (a2, .inl (k1, 12, .inl (fun _ => 0))), (a3, .inl (k2, 12, .inl (fun _ => 0)))] sz) := by
  refine Met.ofW (cc := b_Fixities_set) (maxL := 6) (ret := none) (by decide) rfl ?_
  intro p e s m args below meth c s₁ B hml hv
  obtain ⟨rfl, hsz, hP, hK, hD0⟩ := hv
  have hx := B.exec
  have hb := B.bytes
  have hr := B.returns
  have hts := atoms_spec (ws := w_Fixities_set) B.pre
  have hz : ∀ w ∈ wz, w.before _ s = true := fun w h => hts w (List.mem_cons_of_mem _ h)
  have hown : s.vm.findClass R_Fixities = some m.cls := findClass_of_methodNamed B.named
  have hlocks := B.notSynchronized
  subst hsz
  have hD := hD0.self (sz := s.heap.size)
  generalize hAe : va_A [(a0, .inr (4, [.ref a1, .ref a2, .ref a3, .int 0])), (a1, .inl (k0, 12, .inr (.inl (fun _ => 0)))), (a2, .inl (k1, 12, .inl (fun _ => 0))), (a3, .inl (k2, 12, .inl (fun _ => 0)))] s.heap.size = A at hD ⊢
  have hA : ∀ q : Nat, s.heap.size ≤ q → A q := fun q h => by rw [← hAe]; exact Or.inr h
  have hS : va_S A s.heap s.heap [] := va_S.rf
  have hP : va_P (dC, dI) vcl [(a0, .inr (4, [.ref a1, .ref a2, .ref a3, .int 0])), (a1, .inl (k0, 12, .inr (.inl (fun _ => 0)))), (a2, .inl (k1, 12, .inl (fun _ => 0))), (a3, .inl (k2, 12, .inl (fun _ => 0)))] s.heap := hP
  have hl := lv_entry ([.ref a0, .long ev, .int sdx, .int lvx]) (n := 6) (Nat.le_of_ble_eq_true rfl)
  rw [lg_entry_eq]
  generalize (lg_sl ([.ref a0, .long ev, .int sdx, .int lvx]) ++ List.replicate (6 - (lg_sl ([.ref a0, .long ev, .int sdx, .int lvx])).length) Slot.unset).toArray = ls at hl ⊢
  have hl : lv_has ls 6 [(0, .ref a0), (1, .long ev), (3, .int sdx), (4, .int lvx)] := hl
  refine lv_aload_n hx hb d_Fixities_set_0 rfl (lv_at hl 0 rfl) ?_
  refine lv_lload_n hx hb d_Fixities_set_1 rfl (lv_at hl 1 rfl) ?_
  have hPc := hP.sub (ws' := [(a0, .inr (4, [.ref a1, .ref a2, .ref a3, .int 0]))]) [0] rfl
  have hDc := hD.sub (ws' := [(a0, .inr (4, [.ref a1, .ref a2, .ref a3, .int 0]))]) [0] (by decide) rfl
  have hKc := hK.sub (tys' := []) [] rfl
  have hFc := va_free (wc := [(a0, .inr (4, [.ref a1, .ref a2, .ref a3, .int 0]))]) hD hS hA [0] rfl
  refine va_calli (va_runV (As := [.long ev]) (rest := []) ⟨hx, hb, hml, hown, hz⟩ (c150_Fixities_find l dC dI s.heap.size a0 a1 a2 a3 ev sdx lvx g1 g2 g3 g4) (cwV 1 hz (zV zm_457 zm_458 zm_459 zm_84 zm_460) rfl rfl rfl (by decide +kernel) ⟨Nat.le_of_ble_eq_true rfl, Nat.le_of_ble_eq_true rfl⟩) ⟨fun a U g mk q => by obtain ⟨q0, q1, qP, qK, qD⟩ := q; exact ⟨q0, q1, qP, va_K.moved (u := U) (U := U.calling g mk a) (Vm.Alike.refl U.vm) qK, qD⟩, va_recv (q := (R_Fixities, F_Fixities, 4)) (q0 := 0) (ci := 4) hK hP rfl rfl, fun U hU hW => ⟨rfl, by rw [hU], by rw [hU]; exact hPc, va_K.moved hW.alike hKc, hDc.weaken (fun _ _ _ _ => trivial)⟩⟩ rfl rfl hl.1 rfl (lv_room (Nat.le_of_ble_eq_true rfl)) d_Fixities_set_2 ⟨by decide, by decide⟩) hS (fun q _ h => hFc q h) hFc (fun r u t H1 locs ht hvm hw hB hz1 hk1 hS => ?_)
  obtain ⟨hP1, hK1, hD1⟩ := hB
  subst r
  rw [ht] at hP1
  obtain ⟨hP, hD⟩ := va_join (wr := [(a1, .inl (k0, 12, .inr (.inl (fun _ => 0)))), (a2, .inl (k1, 12, .inl (fun _ => 0))), (a3, .inl (k2, 12, .inl (fun _ => 0)))]) (w1 := [(a0, .inr (4, [.ref a1, .ref a2, .ref a3, .int 0]))]) hP hD [0] [1, 2, 3] rfl rfl (by decide) (by decide) hk1 hFc hP1 hD1
  generalize H1 = H at hP hS ⊢
  have hP : va_P (dC, dI) vcl [(a1, .inl (k0, 12, .inr (.inl (fun _ => 0)))), (a2, .inl (k1, 12, .inl (fun _ => 0))), (a3, .inl (k2, 12, .inl (fun _ => 0))), (a0, .inr (4, [.ref a1, .ref a2, .ref a3, .int 0]))] H := hP
  have hD : va_D A [(a1, .inl (k0, 12, .inr (.inl (fun _ => 0)))), (a2, .inl (k1, 12, .inl (fun _ => 0))), (a3, .inl (k2, 12, .inl (fun _ => 0))), (a0, .inr (4, [.ref a1, .ref a2, .ref a3, .int 0]))] := hD
  refine lv_istore hx hb d_Fixities_set_5 hl (by decide) rfl (fun ls hl => ?_)
  have hl : lv_has ls 6 [(5, .int (-1)), (0, .ref a0), (1, .long ev), (3, .int sdx), (4, .int lvx)] := hl
  refine lv_iload hx hb d_Fixities_set_7 (lv_at hl 0 rfl) ?_
  refine lv_iconst (v := (-1)) hx hb d_Fixities_set_9 (by decide) ?_
  refine lv_icmp_ne (tgt := 19) hx hb d_Fixities_set_10 (by decide) (fun h => (h (by decide +kernel)).elim) (fun _ => ?_)
  refine lv_aload_n hx hb d_Fixities_set_13 rfl (lv_at hl 1 rfl) ?_
  refine va_get (D := (dC, dI)) (ci := 4) (v := .int 0) (C := R_Fixities) (T := F_Fixities) (N := 4) hx hb hz zu_Fixities hown hK hP 3 rfl rfl 3 (by decide) (hz (.fieldLink R_Fixities 22 "LayoutFront$Fixities" "size" "I") zm_456) (fun _ h9 => h9) rfl d_Fixities_set_14 ?_
  refine lv_istore hx hb d_Fixities_set_17 hl (by decide) rfl (fun ls hl => ?_)
  have hl : lv_has ls 6 [(5, .int 0), (0, .ref a0), (1, .long ev), (3, .int sdx), (4, .int lvx)] := hl
  refine lv_iload hx hb d_Fixities_set_19 (lv_at hl 0 rfl) ?_
  refine lv_bipush (v := 12) hx hb d_Fixities_set_21 (by decide) ?_
  refine lv_icmp_ge (tgt := 66) hx hb d_Fixities_set_23 (by decide) (fun h => absurd h (by decide +kernel)) (fun _ => ?_)
  refine lv_aload_n hx hb d_Fixities_set_26 rfl (lv_at hl 1 rfl) ?_
  refine va_get (D := (dC, dI)) (ci := 4) (v := .ref a1) (C := R_Fixities) (T := F_Fixities) (N := 4) hx hb hz zu_Fixities hown hK hP 3 rfl rfl 0 (by decide) (hz (.fieldLink R_Fixities 9 "LayoutFront$Fixities" "names" "[J") zm_7) (fun _ h9 => h9) rfl d_Fixities_set_27 ?_
  refine lv_iload hx hb d_Fixities_set_30 (lv_at hl 0 rfl) ?_
  refine lv_lload_n hx hb d_Fixities_set_32 rfl (lv_at hl 2 rfl) ?_
  refine xr_last (j := 0) hx hb hK hP hD hS 0 0 rfl rfl (xr_in (by decide +kernel)) (by decide +kernel) d_Fixities_set_33 (fun H locs hP hD hS => ?_)
  have hP : va_P (dC, dI) vcl [(a1, .inl (k0, 12, .inr (.inl (vp_updL (fun _ => 0) 0 ev)))), (a2, .inl (k1, 12, .inl (fun _ => 0))), (a3, .inl (k2, 12, .inl (fun _ => 0))), (a0, .inr (4, [.ref a1, .ref a2, .ref a3, .int 0]))] H := hP
  have hD : va_D A [(a1, .inl (k0, 12, .inr (.inl (vp_updL (fun _ => 0) 0 ev)))), (a2, .inl (k1, 12, .inl (fun _ => 0))), (a3, .inl (k2, 12, .inl (fun _ => 0))), (a0, .inr (4, [.ref a1, .ref a2, .ref a3, .int 0]))] := hD
  refine lv_aload_n hx hb d_Fixities_set_34 rfl (lv_at hl 1 rfl) ?_
  refine va_get (D := (dC, dI)) (ci := 4) (v := .ref a2) (C := R_Fixities) (T := F_Fixities) (N := 4) hx hb hz zu_Fixities hown hK hP 3 rfl rfl 1 (by decide) (hz (.fieldLink R_Fixities 15 "LayoutFront$Fixities" "sides" "[I") zm_9) (fun _ h9 => h9) rfl d_Fixities_set_35 ?_
  refine lv_iload hx hb d_Fixities_set_38 (lv_at hl 0 rfl) ?_
  refine lv_iload_n hx hb d_Fixities_set_40 rfl (lv_at hl 3 rfl) ?_
  refine xr_iast (j := 0) hx hb hK hP hD hS 1 1 rfl rfl (xr_in (by decide +kernel)) (by decide +kernel) d_Fixities_set_41 (fun H locs hP hD hS => ?_)
  have hP : va_P (dC, dI) vcl [(a1, .inl (k0, 12, .inr (.inl (vp_updL (fun _ => 0) 0 ev)))), (a2, .inl (k1, 12, .inl (upd (fun _ => 0) 0 sdx))), (a3, .inl (k2, 12, .inl (fun _ => 0))), (a0, .inr (4, [.ref a1, .ref a2, .ref a3, .int 0]))] H := hP
  have hD : va_D A [(a1, .inl (k0, 12, .inr (.inl (vp_updL (fun _ => 0) 0 ev)))), (a2, .inl (k1, 12, .inl (upd (fun _ => 0) 0 sdx))), (a3, .inl (k2, 12, .inl (fun _ => 0))), (a0, .inr (4, [.ref a1, .ref a2, .ref a3, .int 0]))] := hD
  refine lv_aload_n hx hb d_Fixities_set_42 rfl (lv_at hl 1 rfl) ?_
  refine va_get (D := (dC, dI)) (ci := 4) (v := .ref a3) (C := R_Fixities) (T := F_Fixities) (N := 4) hx hb hz zu_Fixities hown hK hP 3 rfl rfl 2 (by decide) (hz (.fieldLink R_Fixities 19 "LayoutFront$Fixities" "levels" "[I") zm_10) (fun _ h9 => h9) rfl d_Fixities_set_43 ?_
  refine lv_iload hx hb d_Fixities_set_46 (lv_at hl 0 rfl) ?_
  refine lv_iload hx hb d_Fixities_set_48 (lv_at hl 4 rfl) ?_
  refine xr_iast (j := 0) hx hb hK hP hD hS 2 2 rfl rfl (xr_in (by decide +kernel)) (by decide +kernel) d_Fixities_set_50 (fun H locs hP hD hS => ?_)
  have hP : va_P (dC, dI) vcl [(a1, .inl (k0, 12, .inr (.inl (vp_updL (fun _ => 0) 0 ev)))), (a2, .inl (k1, 12, .inl (upd (fun _ => 0) 0 sdx))), (a3, .inl (k2, 12, .inl (upd (fun _ => 0) 0 lvx))), (a0, .inr (4, [.ref a1, .ref a2, .ref a3, .int 0]))] H := hP
  have hD : va_D A [(a1, .inl (k0, 12, .inr (.inl (vp_updL (fun _ => 0) 0 ev)))), (a2, .inl (k1, 12, .inl (upd (fun _ => 0) 0 sdx))), (a3, .inl (k2, 12, .inl (upd (fun _ => 0) 0 lvx))), (a0, .inr (4, [.ref a1, .ref a2, .ref a3, .int 0]))] := hD
  refine lv_aload_n hx hb d_Fixities_set_51 rfl (lv_at hl 1 rfl) ?_
  refine lv_aload_n hx hb d_Fixities_set_52 rfl (lv_at hl 1 rfl) ?_
  refine va_get (D := (dC, dI)) (ci := 4) (v := .int 0) (C := R_Fixities) (T := F_Fixities) (N := 4) hx hb hz zu_Fixities hown hK hP 3 rfl rfl 3 (by decide) (hz (.fieldLink R_Fixities 22 "LayoutFront$Fixities" "size" "I") zm_456) (fun _ h9 => h9) rfl d_Fixities_set_53 ?_
  refine lv_iload hx hb d_Fixities_set_56 (lv_at hl 0 rfl) ?_
  refine lv_iconst (v := 1) hx hb d_Fixities_set_58 (by decide) ?_
  refine xr_iadd (v := 1) hx hb d_Fixities_set_59 (by decide +kernel) ?_
  refine xr_max (v := 1) hx hb (hml.trans hl.1.symm) hown (hz (.methodLink R_Fixities 30 Lib.Math.max.name) zm_461) (hz (.static Lib.Math.max.name) zm_462) (hz (.initialized "java/lang/Math") zm_463) (hz (.code Lib.Math.max.name Lib.Math.max.code 2 (some .int)) zm_464) (Nat.le_of_ble_eq_true rfl) (Nat.le_of_ble_eq_true rfl) (Nat.le_of_ble_eq_true rfl) (Nat.le_of_ble_eq_true rfl) d_Fixities_set_60 (by decide +kernel) ?_
  refine va_put (D := (dC, dI)) (ci := 4) (v := .int 1) (ty := .int) (C := R_Fixities) (T := F_Fixities) (N := 4) hx hb hz zu_Fixities t_Fixities t_Fixities_ok n_Fixities hown hK hP hD hS 3 rfl rfl 3 (by decide) (hz (.fieldLink R_Fixities 22 "LayoutFront$Fixities" "size" "I") zm_456) (fun _ h9 => h9) rfl (by decide +kernel) rfl rfl (Nat.le_of_ble_eq_true rfl) d_Fixities_set_63 (fun H locs hP hD hS => ?_)
  have hP : va_P (dC, dI) vcl [(a1, .inl (k0, 12, .inr (.inl (vp_updL (fun _ => 0) 0 ev)))), (a2, .inl (k1, 12, .inl (upd (fun _ => 0) 0 sdx))), (a3, .inl (k2, 12, .inl (upd (fun _ => 0) 0 lvx))), (a0, .inr (4, [.ref a1, .ref a2, .ref a3, .int 1]))] H := hP
  have hD : va_D A [(a1, .inl (k0, 12, .inr (.inl (vp_updL (fun _ => 0) 0 ev)))), (a2, .inl (k1, 12, .inl (upd (fun _ => 0) 0 sdx))), (a3, .inl (k2, 12, .inl (upd (fun _ => 0) 0 lvx))), (a0, .inr (4, [.ref a1, .ref a2, .ref a3, .int 1]))] := hD
  have hP9 := hP.sub (ws' := [(a0, .inr (4, [.ref a1, .ref a2, .ref a3, .int 1])), (a1, .inl (k0, 12, .inr (.inl (vp_updL (fun _ => 0) 0 ev)))), (a2, .inl (k1, 12, .inl (upd (fun _ => 0) 0 sdx))), (a3, .inl (k2, 12, .inl (upd (fun _ => 0) 0 lvx)))]) [3, 0, 1, 2] rfl
  have hD9 := hD.sub (ws' := [(a0, .inr (4, [.ref a1, .ref a2, .ref a3, .int 1])), (a1, .inl (k0, 12, .inr (.inl (vp_updL (fun _ => 0) 0 ev)))), (a2, .inl (k1, 12, .inl (upd (fun _ => 0) 0 sdx))), (a3, .inl (k2, 12, .inl (upd (fun _ => 0) 0 lvx)))]) [3, 0, 1, 2] (by decide) rfl
  have hK9 := hK.sub (tys' := [(k0, .long), (k1, .int), (k2, .int)]) [0, 1, 2] rfl
  exact W.vret hx hb hr (fun t ht hW => ⟨⟨(), rfl, trivial, by rw [ht]; exact hP9, va_K.moved hW.alike hK9, hD9⟩, hS.F ht⟩) hS.2.2 d_Fixities_set_66
set_option maxHeartbeats 4000000 in
set_option maxRecDepth 100000 in
theorem c152_Fixities_size (l : Launch) (dC : Nat → ClassId) (dI : Nat → Nat → Nat) (sz : Nat) (a0 : Nat) (a1 : Nat) (a2 : Nat) (a3 : Nat) : Met l y_Fixities_size w_Fixities_size ({ frames := 0, cells := 0, slots := 0, locals := 0 }) (va_Pc [.ref a0] (fun U => U.heap.size = sz ∧ va_P (dC, dI) vcl [(a0, .inr (4, [.ref a1, .ref a2, .ref a3, .int 1]))] U.heap ∧ va_K (dC, dI) vcl [] U ∧ va_D (fun _ => True) [(a0, .inr (4, [.ref a1, .ref a2, .ref a3, .int 1]))])) (va_Qi (fun (r : Int32) (_ : Unit) => r = 1) (fun _ t => va_P (dC, dI) vcl [(a0, .inr (4, [.ref a1, .ref a2, .ref a3, .int 1]))] t.heap ∧ va_K (dC, dI) vcl [] t ∧ va_D (va_A [(a0, .inr (4, [.ref a1, .ref a2, .ref a3, .int 1]))] sz) [(a0, .inr (4, [.ref a1, .ref a2, .ref a3, .int 1]))]) (va_A [(a0, .inr (4, [.ref a1, .ref a2, .ref a3, .int 1]))] sz)) 0 0 (va_A [(a0, .inr (4, [.ref a1, .ref a2, .ref a3, .int 1]))] sz) := by
  refine Met.ofW (cc := b_Fixities_size) (maxL := 1) (ret := (some .int)) (by decide) rfl ?_
  intro p e s m args below meth c s₁ B hml hv
  obtain ⟨rfl, hsz, hP, hK, hD0⟩ := hv
  have hx := B.exec
  have hb := B.bytes
  have hr := B.returns
  have hts := atoms_spec (ws := w_Fixities_size) B.pre
  have hz : ∀ w ∈ wz, w.before _ s = true := fun w h => hts w (List.mem_cons_of_mem _ h)
  have hown : s.vm.findClass R_Fixities = some m.cls := findClass_of_methodNamed B.named
  have hlocks := B.notSynchronized
  subst hsz
  have hD := hD0.self (sz := s.heap.size)
  generalize hAe : va_A [(a0, .inr (4, [.ref a1, .ref a2, .ref a3, .int 1]))] s.heap.size = A at hD ⊢
  have hA : ∀ q : Nat, s.heap.size ≤ q → A q := fun q h => by rw [← hAe]; exact Or.inr h
  have hS : va_S A s.heap s.heap [] := va_S.rf
  have hP : va_P (dC, dI) vcl [(a0, .inr (4, [.ref a1, .ref a2, .ref a3, .int 1]))] s.heap := hP
  have hl := lv_entry ([.ref a0]) (n := 1) (Nat.le_of_ble_eq_true rfl)
  rw [lg_entry_eq]
  generalize (lg_sl ([.ref a0]) ++ List.replicate (1 - (lg_sl ([.ref a0])).length) Slot.unset).toArray = ls at hl ⊢
  have hl : lv_has ls 1 [(0, .ref a0)] := hl
  refine lv_aload_n hx hb d_Fixities_size_0 rfl (lv_at hl 0 rfl) ?_
  refine va_get (D := (dC, dI)) (ci := 4) (v := .int 1) (C := R_Fixities) (T := F_Fixities) (N := 4) hx hb hz zu_Fixities hown hK hP 0 rfl rfl 3 (by decide) (hz (.fieldLink R_Fixities 22 "LayoutFront$Fixities" "size" "I") zm_456) (fun _ h9 => h9) rfl d_Fixities_size_1 ?_
  have hP9 := hP.sub (ws' := [(a0, .inr (4, [.ref a1, .ref a2, .ref a3, .int 1]))]) [0] rfl
  have hD9 := hD.sub (ws' := [(a0, .inr (4, [.ref a1, .ref a2, .ref a3, .int 1]))]) [0] (by decide) rfl
  have hK9 := hK.sub (tys' := []) [] rfl
  exact W.iret (v := 1) hx hb hr (fun t ht hW => ⟨⟨1, (), rfl, rfl, by rw [ht]; exact hP9, va_K.moved hW.alike hK9, hD9⟩, hS.F ht⟩) hS.2.2 d_Fixities_size_4
set_option maxHeartbeats 4000000 in
set_option maxRecDepth 100000 in
theorem c153_LF_fixity (l : Launch) (dC : Nat → ClassId) (dI : Nat → Nat → Nat) (sz : Nat) (a0 : Nat) (a1 : Nat) (a2 : Nat) (a3 : Nat) (a4 : Nat) (a5 : Nat) (a6 : Nat) (a7 : Nat) (a8 : Nat) (a9 : Nat) (a10 : Nat) (k0 : ClassId) (k1 : ClassId) (k2 : ClassId) (ev : Int64) (sdx : Int32) (lvx : Int32) (g1 : ¬ sdx < 0) (g2 : ¬ 2 < sdx) (g3 : ¬ lvx < 0) (g4 : ¬ 9 < lvx) : Met l y_LF_fixity w_LF_fixity ({ frames := 2, cells := 0, slots := 0, locals := 65 }) (va_Pc [.ref a0, .long ev, .int sdx, .int lvx] (fun U => U.heap.size = sz ∧ va_P (dC, dI) vcl [(a0, .inr (0, [.ref a5, .ref a1, .ref a6, .ref a7, .ref a8, .ref a9, .ref a10, .int (-1)])), (a1, .inr (4, [.ref a2, .ref a3, .ref a4, .int 0])), (a2, .inl (k0, 12, .inr (.inl (fun _ => 0)))), (a3, .inl (k1, 12, .inl (fun _ => 0))), (a4, .inl (k2, 12, .inl (fun _ => 0)))] U.heap ∧ va_K (dC, dI) vcl [(k0, .long), (k1, .int), (k2, .int)] U ∧ va_D (fun _ => True) [(a0, .inr (0, [.ref a5, .ref a1, .ref a6, .ref a7, .ref a8, .ref a9, .ref a10, .int (-1)])), (a1, .inr (4, [.ref a2, .ref a3, .ref a4, .int 0])), (a2, .inl (k0, 12, .inr (.inl (fun _ => 0)))), (a3, .inl (k1, 12, .inl (fun _ => 0))), (a4, .inl (k2, 12, .inl (fun _ => 0)))])) (va_Qi (fun (r : Int32) (_ : Unit) => r = 1) (fun _ t => va_P (dC, dI) vcl [(a0, .inr (0, [.ref a5, .ref a1, .ref a6, .ref a7, .ref a8, .ref a9, .ref a10, .int (-1)])), (a1, .inr (4, [.ref a2, .ref a3, .ref a4, .int 1])), (a2, .inl (k0, 12, .inr (.inl (vp_updL (fun _ => 0) 0 ev)))), (a3, .inl (k1, 12, .inl (upd (fun _ => 0) 0 sdx))), (a4, .inl (k2, 12, .inl (upd (fun _ => 0) 0 lvx)))] t.heap ∧ va_K (dC, dI) vcl [(k0, .long), (k1, .int), (k2, .int)] t ∧ va_D (va_A [(a0, .inr (0, [.ref a5, .ref a1, .ref a6, .ref a7, .ref a8, .ref a9, .ref a10, .int (-1)])), (a1, .inr (4, [.ref a2, .ref a3, .ref a4, .int 0])), (a2, .inl (k0, 12, .inr (.inl (fun _ => 0)))), (a3, .inl (k1, 12, .inl (fun _ => 0))), (a4, .inl (k2, 12, .inl (fun _ => 0)))] sz) [(a0, .inr (0, [.ref a5, .ref a1, .ref a6, .ref a7, .ref a8, .ref a9, .ref a10, .int (-1)])), (a1, .inr (4, [.ref a2, .ref a3, .ref a4, .int 1])), (a2, .inl (k0, 12, .inr (.inl (vp_updL (fun _ => 0) 0 ev)))), (a3, .inl (k1, 12, .inl (upd (fun _ => 0) 0 sdx))), (a4, .inl (k2, 12, .inl (upd (fun _ => 0) 0 lvx)))]) (va_A [(a0, .inr (0, [.ref a5, .ref a1, .ref a6, .ref a7, .ref a8, .ref a9, .ref a10, .int (-1)])), (a1, .inr (4, [.ref a2, .ref a3, .ref a4, .int 0])), (a2, .inl (k0, 12, .inr (.inl (fun _ => 0)))), (a3, .inl (k1, 12, .inl (fun _ => 0))), (a4, .inl (k2, 12, .inl (fun _ => 0)))] sz)) 0 0 (va_A [(a0, .inr (0, [.ref a5, .ref a1, .ref a6, .ref a7, .ref a8, .ref a9, .ref a10, .int (-1)])), (a1, .inr (4, [.ref a2, .ref a3, .ref a4, .int 0])), (a2, .inl (k0, 12, .inr (.inl (fun _ => 0)))), (a3, .inl (k1, 12, .inl (fun _ => 0))), (a4, .inl (k2, 12, .inl (fun _ => 0)))] sz) := by
  refine Met.ofW (cc := b_LF_fixity) (maxL := 5) (ret := (some .int)) (by decide) rfl ?_
  intro p e s m args below meth c s₁ B hml hv
  obtain ⟨rfl, hsz, hP, hK, hD0⟩ := hv
  have hx := B.exec
  have hb := B.bytes
  have hr := B.returns
  have hts := atoms_spec (ws := w_LF_fixity) B.pre
  have hz : ∀ w ∈ wz, w.before _ s = true := fun w h => hts w (List.mem_cons_of_mem _ h)
  have hown : s.vm.findClass R_LF = some m.cls := findClass_of_methodNamed B.named
  have hlocks := B.notSynchronized
  subst hsz
  have hD := hD0.self (sz := s.heap.size)
  generalize hAe : va_A [(a0, .inr (0, [.ref a5, .ref a1, .ref a6, .ref a7, .ref a8, .ref a9, .ref a10, .int (-1)])), (a1, .inr (4, [.ref a2, .ref a3, .ref a4, .int 0])), (a2, .inl (k0, 12, .inr (.inl (fun _ => 0)))), (a3, .inl (k1, 12, .inl (fun _ => 0))), (a4, .inl (k2, 12, .inl (fun _ => 0)))] s.heap.size = A at hD ⊢
  have hA : ∀ q : Nat, s.heap.size ≤ q → A q := fun q h => by rw [← hAe]; exact Or.inr h
  have hS : va_S A s.heap s.heap [] := va_S.rf
  have hP : va_P (dC, dI) vcl [(a0, .inr (0, [.ref a5, .ref a1, .ref a6, .ref a7, .ref a8, .ref a9, .ref a10, .int (-1)])), (a1, .inr (4, [.ref a2, .ref a3, .ref a4, .int 0])), (a2, .inl (k0, 12, .inr (.inl (fun _ => 0)))), (a3, .inl (k1, 12, .inl (fun _ => 0))), (a4, .inl (k2, 12, .inl (fun _ => 0)))] s.heap := hP
  have hl := lv_entry ([.ref a0, .long ev, .int sdx, .int lvx]) (n := 5) (Nat.le_of_ble_eq_true rfl)
  rw [lg_entry_eq]
  generalize (lg_sl ([.ref a0, .long ev, .int sdx, .int lvx]) ++ List.replicate (5 - (lg_sl ([.ref a0, .long ev, .int sdx, .int lvx])).length) Slot.unset).toArray = ls at hl ⊢
  have hl : lv_has ls 5 [(0, .ref a0), (1, .long ev), (3, .int sdx), (4, .int lvx)] := hl
  refine lv_iload_n hx hb d_LF_fixity_0 rfl (lv_at hl 2 rfl) ?_
  refine lv_if_lt (tgt := 21) hx hb d_LF_fixity_1 (by decide) (fun h => absurd h g1) (fun _ => ?_)
  refine lv_iload_n hx hb d_LF_fixity_4 rfl (lv_at hl 2 rfl) ?_
  refine lv_iconst (v := 2) hx hb d_LF_fixity_5 (by decide) ?_
  refine lv_icmp_gt (tgt := 21) hx hb d_LF_fixity_6 (by decide) (fun h => absurd h g2) (fun _ => ?_)
  refine lv_iload hx hb d_LF_fixity_9 (lv_at hl 3 rfl) ?_
  refine lv_if_lt (tgt := 21) hx hb d_LF_fixity_11 (by decide) (fun h => absurd h g3) (fun _ => ?_)
  refine lv_iload hx hb d_LF_fixity_14 (lv_at hl 3 rfl) ?_
  refine lv_bipush (v := 9) hx hb d_LF_fixity_16 (by decide) ?_
  refine lv_icmp_le (tgt := 31) hx hb d_LF_fixity_18 (by decide) (fun _ => ?_) (fun h => (h (xr_le9 g4)).elim)
  refine lv_aload_n hx hb d_LF_fixity_31 rfl (lv_at hl 0 rfl) ?_
  refine va_get (D := (dC, dI)) (ci := 0) (v := .ref a1) (C := R_LF) (T := F_LF) (N := 8) hx hb hz zu_LF hown hK hP 0 rfl rfl 1 (by decide) (hz (.fieldLink R_LF 19 "LayoutFront" "fixities" "LLayoutFront$Fixities;") zm_87) (fun _ h9 => h9) rfl d_LF_fixity_32 ?_
  refine lv_lload_n hx hb d_LF_fixity_35 rfl (lv_at hl 1 rfl) ?_
  have hPc := hP.sub (ws' := [(a1, .inr (4, [.ref a2, .ref a3, .ref a4, .int 0]))]) [1] rfl
  have hDc := hD.sub (ws' := [(a1, .inr (4, [.ref a2, .ref a3, .ref a4, .int 0]))]) [1] (by decide) rfl
  have hKc := hK.sub (tys' := []) [] rfl
  have hFc := va_free (wc := [(a1, .inr (4, [.ref a2, .ref a3, .ref a4, .int 0]))]) hD hS hA [1] rfl
  refine va_calli (va_runV (As := [.long ev]) (rest := []) ⟨hx, hb, hml, hown, hz⟩ (c149_Fixities_hasRoomFor l dC dI s.heap.size a1 a2 a3 a4 ev sdx lvx g1 g2 g3 g4) (cwV 1 hz (zV zm_465 zm_466 zm_467 zm_84 zm_468) rfl rfl rfl (by decide +kernel) ⟨Nat.le_of_ble_eq_true rfl, Nat.le_of_ble_eq_true rfl⟩) ⟨fun a U g mk q => by obtain ⟨q0, q1, qP, qK, qD⟩ := q; exact ⟨q0, q1, qP, va_K.moved (u := U) (U := U.calling g mk a) (Vm.Alike.refl U.vm) qK, qD⟩, va_recv (q := (R_Fixities, F_Fixities, 4)) (q0 := 1) (ci := 4) hK hP rfl rfl, fun U hU hW => ⟨rfl, by rw [hU], by rw [hU]; exact hPc, va_K.moved hW.alike hKc, hDc.weaken (fun _ _ _ _ => trivial)⟩⟩ rfl rfl hl.1 rfl (lv_room (Nat.le_of_ble_eq_true rfl)) d_LF_fixity_36 ⟨by decide, by decide⟩) hS (fun q _ h => hFc q h) hFc (fun r u t H1 locs ht hvm hw hB hz1 hk1 hS => ?_)
  obtain ⟨hP1, hK1, hD1⟩ := hB
  subst r
  rw [ht] at hP1
  obtain ⟨hP, hD⟩ := va_join (wr := [(a0, .inr (0, [.ref a5, .ref a1, .ref a6, .ref a7, .ref a8, .ref a9, .ref a10, .int (-1)])), (a2, .inl (k0, 12, .inr (.inl (fun _ => 0)))), (a3, .inl (k1, 12, .inl (fun _ => 0))), (a4, .inl (k2, 12, .inl (fun _ => 0)))]) (w1 := [(a1, .inr (4, [.ref a2, .ref a3, .ref a4, .int 0]))]) hP hD [1] [0, 2, 3, 4] rfl rfl (by decide) (by decide) hk1 hFc hP1 hD1
  generalize H1 = H at hP hS ⊢
  have hP : va_P (dC, dI) vcl [(a0, .inr (0, [.ref a5, .ref a1, .ref a6, .ref a7, .ref a8, .ref a9, .ref a10, .int (-1)])), (a2, .inl (k0, 12, .inr (.inl (fun _ => 0)))), (a3, .inl (k1, 12, .inl (fun _ => 0))), (a4, .inl (k2, 12, .inl (fun _ => 0))), (a1, .inr (4, [.ref a2, .ref a3, .ref a4, .int 0]))] H := hP
  have hD : va_D A [(a0, .inr (0, [.ref a5, .ref a1, .ref a6, .ref a7, .ref a8, .ref a9, .ref a10, .int (-1)])), (a2, .inl (k0, 12, .inr (.inl (fun _ => 0)))), (a3, .inl (k1, 12, .inl (fun _ => 0))), (a4, .inl (k2, 12, .inl (fun _ => 0))), (a1, .inr (4, [.ref a2, .ref a3, .ref a4, .int 0]))] := hD
  refine lv_if_ne (tgt := 52) hx hb d_LF_fixity_39 (by decide) (fun _ => ?_) (fun h => absurd h (by decide +kernel))
  refine lv_aload_n hx hb d_LF_fixity_52 rfl (lv_at hl 0 rfl) ?_
  refine va_get (D := (dC, dI)) (ci := 0) (v := .ref a1) (C := R_LF) (T := F_LF) (N := 8) hx hb hz zu_LF hown hK hP 0 rfl rfl 1 (by decide) (hz (.fieldLink R_LF 19 "LayoutFront" "fixities" "LLayoutFront$Fixities;") zm_87) (fun _ h9 => h9) rfl d_LF_fixity_53 ?_
  refine lv_lload_n hx hb d_LF_fixity_56 rfl (lv_at hl 1 rfl) ?_
  refine lv_iload_n hx hb d_LF_fixity_57 rfl (lv_at hl 2 rfl) ?_
  refine lv_iload hx hb d_LF_fixity_58 (lv_at hl 3 rfl) ?_
  have hPc := hP.sub (ws' := [(a1, .inr (4, [.ref a2, .ref a3, .ref a4, .int 0])), (a2, .inl (k0, 12, .inr (.inl (fun _ => 0)))), (a3, .inl (k1, 12, .inl (fun _ => 0))), (a4, .inl (k2, 12, .inl (fun _ => 0)))]) [4, 1, 2, 3] rfl
  have hDc := hD.sub (ws' := [(a1, .inr (4, [.ref a2, .ref a3, .ref a4, .int 0])), (a2, .inl (k0, 12, .inr (.inl (fun _ => 0)))), (a3, .inl (k1, 12, .inl (fun _ => 0))), (a4, .inl (k2, 12, .inl (fun _ => 0)))]) [4, 1, 2, 3] (by decide) rfl
  have hKc := hK.sub (tys' := [(k0, .long), (k1, .int), (k2, .int)]) [0, 1, 2] rfl
  have hFc := va_free (wc := [(a1, .inr (4, [.ref a2, .ref a3, .ref a4, .int 0])), (a2, .inl (k0, 12, .inr (.inl (fun _ => 0)))), (a3, .inl (k1, 12, .inl (fun _ => 0))), (a4, .inl (k2, 12, .inl (fun _ => 0)))]) hD hS hA [4, 1, 2, 3] rfl
  refine va_callv (va_runV (As := [.long ev, .int sdx, .int lvx]) (rest := []) ⟨hx, hb, hml, hown, hz⟩ (c151_Fixities_set l dC dI H.size a1 a2 a3 a4 k0 k1 k2 ev sdx lvx g1 g2 g3 g4) (cwV 3 hz (zV zm_469 zm_470 zm_471 zm_84 zm_472) rfl rfl rfl (by decide +kernel) ⟨Nat.le_of_ble_eq_true rfl, Nat.le_of_ble_eq_true rfl⟩) ⟨fun a U g mk q => by obtain ⟨q0, q1, qP, qK, qD⟩ := q; exact ⟨q0, q1, qP, va_K.moved (u := U) (U := U.calling g mk a) (Vm.Alike.refl U.vm) qK, qD⟩, va_recv (q := (R_Fixities, F_Fixities, 4)) (q0 := 4) (ci := 4) hK hP rfl rfl, fun U hU hW => ⟨rfl, by rw [hU], by rw [hU]; exact hPc, va_K.moved hW.alike hKc, hDc.weaken (fun _ _ _ _ => trivial)⟩⟩ rfl rfl hl.1 rfl (lv_room (Nat.le_of_ble_eq_true rfl)) d_LF_fixity_60 ⟨by decide, by decide⟩) hS (fun q _ h => hFc q h) hFc (fun u t H1 locs ht hvm hw hB hz1 hk1 hS => ?_)
  obtain ⟨hP1, hK1, hD1⟩ := hB
  rw [ht] at hP1
  obtain ⟨hP, hD⟩ := va_join (wr := [(a0, .inr (0, [.ref a5, .ref a1, .ref a6, .ref a7, .ref a8, .ref a9, .ref a10, .int (-1)]))]) (w1 := [(a1, .inr (4, [.ref a2, .ref a3, .ref a4, .int 1])), (a2, .inl (k0, 12, .inr (.inl (vp_updL (fun _ => 0) 0 ev)))), (a3, .inl (k1, 12, .inl (upd (fun _ => 0) 0 sdx))), (a4, .inl (k2, 12, .inl (upd (fun _ => 0) 0 lvx)))]) hP hD [4, 1, 2, 3] [0] rfl rfl (by decide) (by decide) hk1 hFc hP1 hD1
  generalize H1 = H at hP hS ⊢
  have hP : va_P (dC, dI) vcl [(a0, .inr (0, [.ref a5, .ref a1, .ref a6, .ref a7, .ref a8, .ref a9, .ref a10, .int (-1)])), (a1, .inr (4, [.ref a2, .ref a3, .ref a4, .int 1])), (a2, .inl (k0, 12, .inr (.inl (vp_updL (fun _ => 0) 0 ev)))), (a3, .inl (k1, 12, .inl (upd (fun _ => 0) 0 sdx))), (a4, .inl (k2, 12, .inl (upd (fun _ => 0) 0 lvx)))] H := hP
  have hD : va_D A [(a0, .inr (0, [.ref a5, .ref a1, .ref a6, .ref a7, .ref a8, .ref a9, .ref a10, .int (-1)])), (a1, .inr (4, [.ref a2, .ref a3, .ref a4, .int 1])), (a2, .inl (k0, 12, .inr (.inl (vp_updL (fun _ => 0) 0 ev)))), (a3, .inl (k1, 12, .inl (upd (fun _ => 0) 0 sdx))), (a4, .inl (k2, 12, .inl (upd (fun _ => 0) 0 lvx)))] := hD
  refine lv_aload_n hx hb d_LF_fixity_63 rfl (lv_at hl 0 rfl) ?_
  refine va_get (D := (dC, dI)) (ci := 0) (v := .ref a1) (C := R_LF) (T := F_LF) (N := 8) hx hb hz zu_LF hown hK hP 0 rfl rfl 1 (by decide) (hz (.fieldLink R_LF 19 "LayoutFront" "fixities" "LLayoutFront$Fixities;") zm_87) (fun _ h9 => h9) rfl d_LF_fixity_64 ?_
  have hPc := hP.sub (ws' := [(a1, .inr (4, [.ref a2, .ref a3, .ref a4, .int 1]))]) [1] rfl
  have hDc := hD.sub (ws' := [(a1, .inr (4, [.ref a2, .ref a3, .ref a4, .int 1]))]) [1] (by decide) rfl
  have hKc := hK.sub (tys' := []) [] rfl
  have hFc := va_free (wc := [(a1, .inr (4, [.ref a2, .ref a3, .ref a4, .int 1]))]) hD hS hA [1] rfl
  refine va_calli (va_runV (As := []) (rest := []) ⟨hx, hb, hml, hown, hz⟩ (c152_Fixities_size l dC dI H.size a1 a2 a3 a4) (cwV 0 hz (zV zm_473 zm_474 zm_475 zm_84 zm_476) rfl rfl rfl (by decide +kernel) ⟨Nat.le_of_ble_eq_true rfl, Nat.le_of_ble_eq_true rfl⟩) ⟨fun a U g mk q => by obtain ⟨q0, q1, qP, qK, qD⟩ := q; exact ⟨q0, q1, qP, va_K.moved (u := U) (U := U.calling g mk a) (Vm.Alike.refl U.vm) qK, qD⟩, va_recv (q := (R_Fixities, F_Fixities, 4)) (q0 := 1) (ci := 4) hK hP rfl rfl, fun U hU hW => ⟨rfl, by rw [hU], by rw [hU]; exact hPc, va_K.moved hW.alike hKc, hDc.weaken (fun _ _ _ _ => trivial)⟩⟩ rfl rfl hl.1 rfl (lv_room (Nat.le_of_ble_eq_true rfl)) d_LF_fixity_67 ⟨by decide, by decide⟩) hS (fun q _ h => hFc q h) hFc (fun r u t H1 locs ht hvm hw hB hz1 hk1 hS => ?_)
  obtain ⟨hP1, hK1, hD1⟩ := hB
  subst r
  rw [ht] at hP1
  obtain ⟨hP, hD⟩ := va_join (wr := [(a0, .inr (0, [.ref a5, .ref a1, .ref a6, .ref a7, .ref a8, .ref a9, .ref a10, .int (-1)])), (a2, .inl (k0, 12, .inr (.inl (vp_updL (fun _ => 0) 0 ev)))), (a3, .inl (k1, 12, .inl (upd (fun _ => 0) 0 sdx))), (a4, .inl (k2, 12, .inl (upd (fun _ => 0) 0 lvx)))]) (w1 := [(a1, .inr (4, [.ref a2, .ref a3, .ref a4, .int 1]))]) hP hD [1] [0, 2, 3, 4] rfl rfl (by decide) (by decide) hk1 hFc hP1 hD1
  generalize H1 = H at hP hS ⊢
  have hP : va_P (dC, dI) vcl [(a0, .inr (0, [.ref a5, .ref a1, .ref a6, .ref a7, .ref a8, .ref a9, .ref a10, .int (-1)])), (a2, .inl (k0, 12, .inr (.inl (vp_updL (fun _ => 0) 0 ev)))), (a3, .inl (k1, 12, .inl (upd (fun _ => 0) 0 sdx))), (a4, .inl (k2, 12, .inl (upd (fun _ => 0) 0 lvx))), (a1, .inr (4, [.ref a2, .ref a3, .ref a4, .int 1]))] H := hP
  have hD : va_D A [(a0, .inr (0, [.ref a5, .ref a1, .ref a6, .ref a7, .ref a8, .ref a9, .ref a10, .int (-1)])), (a2, .inl (k0, 12, .inr (.inl (vp_updL (fun _ => 0) 0 ev)))), (a3, .inl (k1, 12, .inl (upd (fun _ => 0) 0 sdx))), (a4, .inl (k2, 12, .inl (upd (fun _ => 0) 0 lvx))), (a1, .inr (4, [.ref a2, .ref a3, .ref a4, .int 1]))] := hD
  have hP9 := hP.sub (ws' := [(a0, .inr (0, [.ref a5, .ref a1, .ref a6, .ref a7, .ref a8, .ref a9, .ref a10, .int (-1)])), (a1, .inr (4, [.ref a2, .ref a3, .ref a4, .int 1])), (a2, .inl (k0, 12, .inr (.inl (vp_updL (fun _ => 0) 0 ev)))), (a3, .inl (k1, 12, .inl (upd (fun _ => 0) 0 sdx))), (a4, .inl (k2, 12, .inl (upd (fun _ => 0) 0 lvx)))]) [0, 4, 1, 2, 3] rfl
  have hD9 := hD.sub (ws' := [(a0, .inr (0, [.ref a5, .ref a1, .ref a6, .ref a7, .ref a8, .ref a9, .ref a10, .int (-1)])), (a1, .inr (4, [.ref a2, .ref a3, .ref a4, .int 1])), (a2, .inl (k0, 12, .inr (.inl (vp_updL (fun _ => 0) 0 ev)))), (a3, .inl (k1, 12, .inl (upd (fun _ => 0) 0 sdx))), (a4, .inl (k2, 12, .inl (upd (fun _ => 0) 0 lvx)))]) [0, 4, 1, 2, 3] (by decide) rfl
  have hK9 := hK.sub (tys' := [(k0, .long), (k1, .int), (k2, .int)]) [0, 1, 2] rfl
  exact W.iret (v := 1) hx hb hr (fun t ht hW => ⟨⟨1, (), rfl, rfl, by rw [ht]; exact hP9, va_K.moved hW.alike hK9, hD9⟩, hS.F ht⟩) hS.2.2 d_LF_fixity_70
set_option maxHeartbeats 4000000 in
set_option maxRecDepth 100000 in
theorem c154_Law_fixity (l : Launch) (dC : Nat → ClassId) (dI : Nat → Nat → Nat) (sz : Nat) (a0 : Nat) (a1 : Nat) (a2 : Nat) (a3 : Nat) (a4 : Nat) (a5 : Nat) (a6 : Nat) (a7 : Nat) (a8 : Nat) (a9 : Nat) (a10 : Nat) (a11 : Nat) (k0 : ClassId) (k1 : ClassId) (k2 : ClassId) (k3 : ClassId) (ev : Int64) (sdx : Int32) (lvx : Int32) (g1 : ¬ sdx < 0) (g2 : ¬ 2 < sdx) (g3 : ¬ lvx < 0) (g4 : ¬ 9 < lvx) : Met l y_Law_fixity w_Law_fixity ({ frames := 3, cells := 0, slots := 0, locals := 89 }) (va_Pc [.ref a0, .long ev, .int sdx, .int lvx, .ref a1] (fun U => U.heap.size = sz ∧ va_P (dC, dI) vcl [(a0, .inr (0, [.ref a6, .ref a2, .ref a7, .ref a8, .ref a9, .ref a10, .ref a11, .int (-1)])), (a2, .inr (4, [.ref a3, .ref a4, .ref a5, .int 0])), (a3, .inl (k0, 12, .inr (.inl (fun _ => 0)))), (a4, .inl (k1, 12, .inl (fun _ => 0))), (a5, .inl (k2, 12, .inl (fun _ => 0))), (a1, .inl (k3, 1, .inr (.inl (fun _ => 0))))] U.heap ∧ va_K (dC, dI) vcl [(k0, .long), (k1, .int), (k2, .int), (k3, .long)] U ∧ va_D (fun _ => True) [(a0, .inr (0, [.ref a6, .ref a2, .ref a7, .ref a8, .ref a9, .ref a10, .ref a11, .int (-1)])), (a2, .inr (4, [.ref a3, .ref a4, .ref a5, .int 0])), (a3, .inl (k0, 12, .inr (.inl (fun _ => 0)))), (a4, .inl (k1, 12, .inl (fun _ => 0))), (a5, .inl (k2, 12, .inl (fun _ => 0))), (a1, .inl (k3, 1, .inr (.inl (fun _ => 0))))])) (va_Qi (fun (r : Int32) (_ : Unit) => r = 0) (fun _ t => va_P (dC, dI) vcl [(a0, .inr (0, [.ref a6, .ref a2, .ref a7, .ref a8, .ref a9, .ref a10, .ref a11, .int (-1)])), (a2, .inr (4, [.ref a3, .ref a4, .ref a5, .int 1])), (a3, .inl (k0, 12, .inr (.inl (vp_updL (fun _ => 0) 0 ev)))), (a4, .inl (k1, 12, .inl (upd (fun _ => 0) 0 sdx))), (a5, .inl (k2, 12, .inl (upd (fun _ => 0) 0 lvx))), (a1, .inl (k3, 1, .inr (.inl (vp_updL (fun _ => 0) 0 1))))] t.heap ∧ va_K (dC, dI) vcl [(k0, .long), (k1, .int), (k2, .int), (k3, .long)] t ∧ va_D (va_A [(a0, .inr (0, [.ref a6, .ref a2, .ref a7, .ref a8, .ref a9, .ref a10, .ref a11, .int (-1)])), (a2, .inr (4, [.ref a3, .ref a4, .ref a5, .int 0])), (a3, .inl (k0, 12, .inr (.inl (fun _ => 0)))), (a4, .inl (k1, 12, .inl (fun _ => 0))), (a5, .inl (k2, 12, .inl (fun _ => 0))), (a1, .inl (k3, 1, .inr (.inl (fun _ => 0))))] sz) [(a0, .inr (0, [.ref a6, .ref a2, .ref a7, .ref a8, .ref a9, .ref a10, .ref a11, .int (-1)])), (a2, .inr (4, [.ref a3, .ref a4, .ref a5, .int 1])), (a3, .inl (k0, 12, .inr (.inl (vp_updL (fun _ => 0) 0 ev)))), (a4, .inl (k1, 12, .inl (upd (fun _ => 0) 0 sdx))), (a5, .inl (k2, 12, .inl (upd (fun _ => 0) 0 lvx))), (a1, .inl (k3, 1, .inr (.inl (vp_updL (fun _ => 0) 0 1))))]) (va_A [(a0, .inr (0, [.ref a6, .ref a2, .ref a7, .ref a8, .ref a9, .ref a10, .ref a11, .int (-1)])), (a2, .inr (4, [.ref a3, .ref a4, .ref a5, .int 0])), (a3, .inl (k0, 12, .inr (.inl (fun _ => 0)))), (a4, .inl (k1, 12, .inl (fun _ => 0))), (a5, .inl (k2, 12, .inl (fun _ => 0))), (a1, .inl (k3, 1, .inr (.inl (fun _ => 0))))] sz)) 0 0 (va_A [(a0, .inr (0, [.ref a6, .ref a2, .ref a7, .ref a8, .ref a9, .ref a10, .ref a11, .int (-1)])), (a2, .inr (4, [.ref a3, .ref a4, .ref a5, .int 0])), (a3, .inl (k0, 12, .inr (.inl (fun _ => 0)))), (a4, .inl (k1, 12, .inl (fun _ => 0))), (a5, .inl (k2, 12, .inl (fun _ => 0))), (a1, .inl (k3, 1, .inr (.inl (fun _ => 0))))] sz) := by
  refine va_MetW (hh := [(0, 13, 16, 13), (0, 13, 20, 15)]) (cc := b_Law_fixity) (maxL := 7) (ret := (some .int)) (by decide) rfl ?_
  intro p e s m args below meth c s₁ B hml hv
  obtain ⟨rfl, hsz, hP, hK, hD0⟩ := hv
  have hx := B.exec
  have hb := B.bytes
  have hr := B.returns
  have hts := atoms_spec (ws := w_Law_fixity) B.pre
  have hz : ∀ w ∈ wz, w.before _ s = true := fun w h => hts w (List.mem_cons_of_mem _ h)
  have hown : s.vm.findClass R_Law = some m.cls := findClass_of_methodNamed B.named
  have hlocks := B.notSynchronized
  subst hsz
  have hD := hD0.self (sz := s.heap.size)
  generalize hAe : va_A [(a0, .inr (0, [.ref a6, .ref a2, .ref a7, .ref a8, .ref a9, .ref a10, .ref a11, .int (-1)])), (a2, .inr (4, [.ref a3, .ref a4, .ref a5, .int 0])), (a3, .inl (k0, 12, .inr (.inl (fun _ => 0)))), (a4, .inl (k1, 12, .inl (fun _ => 0))), (a5, .inl (k2, 12, .inl (fun _ => 0))), (a1, .inl (k3, 1, .inr (.inl (fun _ => 0))))] s.heap.size = A at hD ⊢
  have hA : ∀ q : Nat, s.heap.size ≤ q → A q := fun q h => by rw [← hAe]; exact Or.inr h
  have hS : va_S A s.heap s.heap [] := va_S.rf
  have hP : va_P (dC, dI) vcl [(a0, .inr (0, [.ref a6, .ref a2, .ref a7, .ref a8, .ref a9, .ref a10, .ref a11, .int (-1)])), (a2, .inr (4, [.ref a3, .ref a4, .ref a5, .int 0])), (a3, .inl (k0, 12, .inr (.inl (fun _ => 0)))), (a4, .inl (k1, 12, .inl (fun _ => 0))), (a5, .inl (k2, 12, .inl (fun _ => 0))), (a1, .inl (k3, 1, .inr (.inl (fun _ => 0))))] s.heap := hP
  have hl := lv_entry ([.ref a0, .long ev, .int sdx, .int lvx, .ref a1]) (n := 7) (Nat.le_of_ble_eq_true rfl)
  rw [lg_entry_eq]
  generalize (lg_sl ([.ref a0, .long ev, .int sdx, .int lvx, .ref a1]) ++ List.replicate (7 - (lg_sl ([.ref a0, .long ev, .int sdx, .int lvx, .ref a1])).length) Slot.unset).toArray = ls at hl ⊢
  have hl : lv_has ls 7 [(0, .ref a0), (1, .long ev), (3, .int sdx), (4, .int lvx), (5, .ref a1)] := hl
  refine lv_aload hx hb d_Law_fixity_0 (lv_at hl 4 rfl) ?_
  refine lv_iconst (v := 0) hx hb d_Law_fixity_2 (by decide) ?_
  refine lv_aload_n hx hb d_Law_fixity_3 rfl (lv_at hl 0 rfl) ?_
  refine lv_lload_n hx hb d_Law_fixity_4 rfl (lv_at hl 1 rfl) ?_
  refine lv_iload_n hx hb d_Law_fixity_5 rfl (lv_at hl 2 rfl) ?_
  refine lv_iload hx hb d_Law_fixity_6 (lv_at hl 3 rfl) ?_
  have hPc := hP.sub (ws' := [(a0, .inr (0, [.ref a6, .ref a2, .ref a7, .ref a8, .ref a9, .ref a10, .ref a11, .int (-1)])), (a2, .inr (4, [.ref a3, .ref a4, .ref a5, .int 0])), (a3, .inl (k0, 12, .inr (.inl (fun _ => 0)))), (a4, .inl (k1, 12, .inl (fun _ => 0))), (a5, .inl (k2, 12, .inl (fun _ => 0)))]) [0, 1, 2, 3, 4] rfl
  have hDc := hD.sub (ws' := [(a0, .inr (0, [.ref a6, .ref a2, .ref a7, .ref a8, .ref a9, .ref a10, .ref a11, .int (-1)])), (a2, .inr (4, [.ref a3, .ref a4, .ref a5, .int 0])), (a3, .inl (k0, 12, .inr (.inl (fun _ => 0)))), (a4, .inl (k1, 12, .inl (fun _ => 0))), (a5, .inl (k2, 12, .inl (fun _ => 0)))]) [0, 1, 2, 3, 4] (by decide) rfl
  have hKc := hK.sub (tys' := [(k0, .long), (k1, .int), (k2, .int)]) [0, 1, 2] rfl
  have hFc := va_free (wc := [(a0, .inr (0, [.ref a6, .ref a2, .ref a7, .ref a8, .ref a9, .ref a10, .ref a11, .int (-1)])), (a2, .inr (4, [.ref a3, .ref a4, .ref a5, .int 0])), (a3, .inl (k0, 12, .inr (.inl (fun _ => 0)))), (a4, .inl (k1, 12, .inl (fun _ => 0))), (a5, .inl (k2, 12, .inl (fun _ => 0)))]) hD hS hA [0, 1, 2, 3, 4] rfl
  refine va_calli (va_runV (As := [.long ev, .int sdx, .int lvx]) (rest := [.int 0, .ref a1]) ⟨hx, hb, hml, hown, hz⟩ (c153_LF_fixity l dC dI s.heap.size a0 a2 a3 a4 a5 a6 a7 a8 a9 a10 a11 k0 k1 k2 ev sdx lvx g1 g2 g3 g4) (cwV 3 hz (zV zm_477 zm_478 zm_479 zm_333 zm_480) rfl rfl rfl (by decide +kernel) ⟨Nat.le_of_ble_eq_true rfl, Nat.le_of_ble_eq_true rfl⟩) ⟨fun a U g mk q => by obtain ⟨q0, q1, qP, qK, qD⟩ := q; exact ⟨q0, q1, qP, va_K.moved (u := U) (U := U.calling g mk a) (Vm.Alike.refl U.vm) qK, qD⟩, va_recv (q := (R_LF, F_LF, 8)) (q0 := 0) (ci := 0) hK hP rfl rfl, fun U hU hW => ⟨rfl, by rw [hU], by rw [hU]; exact hPc, va_K.moved hW.alike hKc, hDc.weaken (fun _ _ _ _ => trivial)⟩⟩ rfl rfl hl.1 rfl (lv_room (Nat.le_of_ble_eq_true rfl)) d_Law_fixity_8 ⟨by decide, by decide⟩) hS (fun q _ h => hFc q h) hFc (fun r u t H1 locs ht hvm hw hB hz1 hk1 hS => ?_)
  obtain ⟨hP1, hK1, hD1⟩ := hB
  subst r
  rw [ht] at hP1
  obtain ⟨hP, hD⟩ := va_join (wr := [(a1, .inl (k3, 1, .inr (.inl (fun _ => 0))))]) (w1 := [(a0, .inr (0, [.ref a6, .ref a2, .ref a7, .ref a8, .ref a9, .ref a10, .ref a11, .int (-1)])), (a2, .inr (4, [.ref a3, .ref a4, .ref a5, .int 1])), (a3, .inl (k0, 12, .inr (.inl (vp_updL (fun _ => 0) 0 ev)))), (a4, .inl (k1, 12, .inl (upd (fun _ => 0) 0 sdx))), (a5, .inl (k2, 12, .inl (upd (fun _ => 0) 0 lvx)))]) hP hD [0, 1, 2, 3, 4] [5] rfl rfl (by decide) (by decide) hk1 hFc hP1 hD1
  generalize H1 = H at hP hS ⊢
  have hP : va_P (dC, dI) vcl [(a1, .inl (k3, 1, .inr (.inl (fun _ => 0)))), (a0, .inr (0, [.ref a6, .ref a2, .ref a7, .ref a8, .ref a9, .ref a10, .ref a11, .int (-1)])), (a2, .inr (4, [.ref a3, .ref a4, .ref a5, .int 1])), (a3, .inl (k0, 12, .inr (.inl (vp_updL (fun _ => 0) 0 ev)))), (a4, .inl (k1, 12, .inl (upd (fun _ => 0) 0 sdx))), (a5, .inl (k2, 12, .inl (upd (fun _ => 0) 0 lvx)))] H := hP
  have hD : va_D A [(a1, .inl (k3, 1, .inr (.inl (fun _ => 0)))), (a0, .inr (0, [.ref a6, .ref a2, .ref a7, .ref a8, .ref a9, .ref a10, .ref a11, .int (-1)])), (a2, .inr (4, [.ref a3, .ref a4, .ref a5, .int 1])), (a3, .inl (k0, 12, .inr (.inl (vp_updL (fun _ => 0) 0 ev)))), (a4, .inl (k1, 12, .inl (upd (fun _ => 0) 0 sdx))), (a5, .inl (k2, 12, .inl (upd (fun _ => 0) 0 lvx)))] := hD
  refine lv_i2l (v := 1) hx hb d_Law_fixity_11 (by decide +kernel) ?_
  refine xr_last (j := 0) hx hb hK hP hD hS 0 3 rfl rfl (xr_in (by decide +kernel)) (by decide +kernel) d_Law_fixity_12 (fun H locs hP hD hS => ?_)
  have hP : va_P (dC, dI) vcl [(a1, .inl (k3, 1, .inr (.inl (vp_updL (fun _ => 0) 0 1)))), (a0, .inr (0, [.ref a6, .ref a2, .ref a7, .ref a8, .ref a9, .ref a10, .ref a11, .int (-1)])), (a2, .inr (4, [.ref a3, .ref a4, .ref a5, .int 1])), (a3, .inl (k0, 12, .inr (.inl (vp_updL (fun _ => 0) 0 ev)))), (a4, .inl (k1, 12, .inl (upd (fun _ => 0) 0 sdx))), (a5, .inl (k2, 12, .inl (upd (fun _ => 0) 0 lvx)))] H := hP
  have hD : va_D A [(a1, .inl (k3, 1, .inr (.inl (vp_updL (fun _ => 0) 0 1)))), (a0, .inr (0, [.ref a6, .ref a2, .ref a7, .ref a8, .ref a9, .ref a10, .ref a11, .int (-1)])), (a2, .inr (4, [.ref a3, .ref a4, .ref a5, .int 1])), (a3, .inl (k0, 12, .inr (.inl (vp_updL (fun _ => 0) 0 ev)))), (a4, .inl (k1, 12, .inl (upd (fun _ => 0) 0 sdx))), (a5, .inl (k2, 12, .inl (upd (fun _ => 0) 0 lvx)))] := hD
  refine lv_goto (tgt := 24) hx hb d_Law_fixity_13 (by decide) ?_
  refine lv_iconst (v := 0) hx hb d_Law_fixity_24 (by decide) ?_
  have hP9 := hP.sub (ws' := [(a0, .inr (0, [.ref a6, .ref a2, .ref a7, .ref a8, .ref a9, .ref a10, .ref a11, .int (-1)])), (a2, .inr (4, [.ref a3, .ref a4, .ref a5, .int 1])), (a3, .inl (k0, 12, .inr (.inl (vp_updL (fun _ => 0) 0 ev)))), (a4, .inl (k1, 12, .inl (upd (fun _ => 0) 0 sdx))), (a5, .inl (k2, 12, .inl (upd (fun _ => 0) 0 lvx))), (a1, .inl (k3, 1, .inr (.inl (vp_updL (fun _ => 0) 0 1))))]) [1, 2, 3, 4, 5, 0] rfl
  have hD9 := hD.sub (ws' := [(a0, .inr (0, [.ref a6, .ref a2, .ref a7, .ref a8, .ref a9, .ref a10, .ref a11, .int (-1)])), (a2, .inr (4, [.ref a3, .ref a4, .ref a5, .int 1])), (a3, .inl (k0, 12, .inr (.inl (vp_updL (fun _ => 0) 0 ev)))), (a4, .inl (k1, 12, .inl (upd (fun _ => 0) 0 sdx))), (a5, .inl (k2, 12, .inl (upd (fun _ => 0) 0 lvx))), (a1, .inl (k3, 1, .inr (.inl (vp_updL (fun _ => 0) 0 1))))]) [1, 2, 3, 4, 5, 0] (by decide) rfl
  have hK9 := hK.sub (tys' := [(k0, .long), (k1, .int), (k2, .int), (k3, .long)]) [0, 1, 2, 3] rfl
  exact W.iret (v := 0) hx hb hr (fun t ht hW => ⟨⟨0, (), rfl, rfl, by rw [ht]; exact hP9, va_K.moved hW.alike hK9, hD9⟩, hS.F ht⟩) hS.2.2 d_Law_fixity_25
set_option maxHeartbeats 4000000 in
set_option maxRecDepth 100000 in
theorem c155_Model_within (l : Launch) (dC : Nat → ClassId) (dI : Nat → Nat → Nat) (sz : Nat) (ev : Int64) (sdx : Int32) (lvx : Int32) (g1 : ¬ sdx < 0) (g2 : ¬ 2 < sdx) (g3 : ¬ lvx < 0) (g4 : ¬ 9 < lvx) : Met l y_Model_within w_Model_within ({ frames := 0, cells := 0, slots := 0, locals := 0 }) (va_Pc [.int sdx, .int 0, .int 2] (fun U => U.heap.size = sz ∧ va_P (dC, dI) vcl [] U.heap ∧ va_K (dC, dI) vcl [] U ∧ va_D (fun _ => True) [])) (va_Qi (fun (r : Int32) (_ : Unit) => r = 1) (fun _ t => va_P (dC, dI) vcl [] t.heap ∧ va_K (dC, dI) vcl [] t ∧ va_D (va_A [] sz) []) (va_A [] sz)) 0 0 (va_A [] sz) := by
  refine Met.ofW (cc := b_Model_within) (maxL := 3) (ret := (some .boolean)) (by decide) rfl ?_
  intro p e s m args below meth c s₁ B hml hv
  obtain ⟨rfl, hsz, hP, hK, hD0⟩ := hv
  have hx := B.exec
  have hb := B.bytes
  have hr := B.returns
  have hts := atoms_spec (ws := w_Model_within) B.pre
  have hz : ∀ w ∈ wz, w.before _ s = true := fun w h => hts w (List.mem_cons_of_mem _ h)
  have hown : s.vm.findClass R_Model = some m.cls := findClass_of_methodNamed B.named
  have hlocks := B.notSynchronized
  subst hsz
  have hD := hD0.self (sz := s.heap.size)
  generalize hAe : va_A [] s.heap.size = A at hD ⊢
  have hA : ∀ q : Nat, s.heap.size ≤ q → A q := fun q h => by rw [← hAe]; exact Or.inr h
  have hS : va_S A s.heap s.heap [] := va_S.rf
  have hP : va_P (dC, dI) vcl [] s.heap := hP
  have hl := lv_entry ([.int sdx, .int 0, .int 2]) (n := 3) (Nat.le_of_ble_eq_true rfl)
  rw [lg_entry_eq]
  generalize (lg_sl ([.int sdx, .int 0, .int 2]) ++ List.replicate (3 - (lg_sl ([.int sdx, .int 0, .int 2])).length) Slot.unset).toArray = ls at hl ⊢
  have hl : lv_has ls 3 [(0, .int sdx), (1, .int 0), (2, .int 2)] := hl
  refine lv_iload_n hx hb d_Model_within_0 rfl (lv_at hl 0 rfl) ?_
  refine lv_iload_n hx hb d_Model_within_1 rfl (lv_at hl 1 rfl) ?_
  refine lv_icmp_lt (tgt := 14) hx hb d_Model_within_2 (by decide) (fun h => absurd h g1) (fun _ => ?_)
  refine lv_iload_n hx hb d_Model_within_5 rfl (lv_at hl 0 rfl) ?_
  refine lv_iload_n hx hb d_Model_within_6 rfl (lv_at hl 2 rfl) ?_
  refine lv_icmp_gt (tgt := 14) hx hb d_Model_within_7 (by decide) (fun h => absurd h g2) (fun _ => ?_)
  refine lv_iconst (v := 1) hx hb d_Model_within_10 (by decide) ?_
  refine lv_goto (tgt := 15) hx hb d_Model_within_11 (by decide) ?_
  have hP9 := hP.sub (ws' := []) [] rfl
  have hD9 := hD.sub (ws' := []) [] (by decide) rfl
  have hK9 := hK.sub (tys' := []) [] rfl
  exact W.zret (v := 1) hx hb hr (by decide +kernel) (fun t ht hW => ⟨⟨1, (), rfl, rfl, by rw [ht]; exact hP9, va_K.moved hW.alike hK9, hD9⟩, hS.F ht⟩) hS.2.2 d_Model_within_15
set_option maxHeartbeats 4000000 in
set_option maxRecDepth 100000 in
theorem c156_Model_within (l : Launch) (dC : Nat → ClassId) (dI : Nat → Nat → Nat) (sz : Nat) (ev : Int64) (sdx : Int32) (lvx : Int32) (g1 : ¬ sdx < 0) (g2 : ¬ 2 < sdx) (g3 : ¬ lvx < 0) (g4 : ¬ 9 < lvx) : Met l y_Model_within w_Model_within ({ frames := 0, cells := 0, slots := 0, locals := 0 }) (va_Pc [.int lvx, .int 0, .int 9] (fun U => U.heap.size = sz ∧ va_P (dC, dI) vcl [] U.heap ∧ va_K (dC, dI) vcl [] U ∧ va_D (fun _ => True) [])) (va_Qi (fun (r : Int32) (_ : Unit) => r = 1) (fun _ t => va_P (dC, dI) vcl [] t.heap ∧ va_K (dC, dI) vcl [] t ∧ va_D (va_A [] sz) []) (va_A [] sz)) 0 0 (va_A [] sz) := by
  refine Met.ofW (cc := b_Model_within) (maxL := 3) (ret := (some .boolean)) (by decide) rfl ?_
  intro p e s m args below meth c s₁ B hml hv
  obtain ⟨rfl, hsz, hP, hK, hD0⟩ := hv
  have hx := B.exec
  have hb := B.bytes
  have hr := B.returns
  have hts := atoms_spec (ws := w_Model_within) B.pre
  have hz : ∀ w ∈ wz, w.before _ s = true := fun w h => hts w (List.mem_cons_of_mem _ h)
  have hown : s.vm.findClass R_Model = some m.cls := findClass_of_methodNamed B.named
  have hlocks := B.notSynchronized
  subst hsz
  have hD := hD0.self (sz := s.heap.size)
  generalize hAe : va_A [] s.heap.size = A at hD ⊢
  have hA : ∀ q : Nat, s.heap.size ≤ q → A q := fun q h => by rw [← hAe]; exact Or.inr h
  have hS : va_S A s.heap s.heap [] := va_S.rf
  have hP : va_P (dC, dI) vcl [] s.heap := hP
  have hl := lv_entry ([.int lvx, .int 0, .int 9]) (n := 3) (Nat.le_of_ble_eq_true rfl)
  rw [lg_entry_eq]
  generalize (lg_sl ([.int lvx, .int 0, .int 9]) ++ List.replicate (3 - (lg_sl ([.int lvx, .int 0, .int 9])).length) Slot.unset).toArray = ls at hl ⊢
  have hl : lv_has ls 3 [(0, .int lvx), (1, .int 0), (2, .int 9)] := hl
  refine lv_iload_n hx hb d_Model_within_0 rfl (lv_at hl 0 rfl) ?_
  refine lv_iload_n hx hb d_Model_within_1 rfl (lv_at hl 1 rfl) ?_
  refine lv_icmp_lt (tgt := 14) hx hb d_Model_within_2 (by decide) (fun h => absurd h g3) (fun _ => ?_)
  refine lv_iload_n hx hb d_Model_within_5 rfl (lv_at hl 0 rfl) ?_
  refine lv_iload_n hx hb d_Model_within_6 rfl (lv_at hl 2 rfl) ?_
  refine lv_icmp_gt (tgt := 14) hx hb d_Model_within_7 (by decide) (fun h => absurd h g4) (fun _ => ?_)
  refine lv_iconst (v := 1) hx hb d_Model_within_10 (by decide) ?_
  refine lv_goto (tgt := 15) hx hb d_Model_within_11 (by decide) ?_
  have hP9 := hP.sub (ws' := []) [] rfl
  have hD9 := hD.sub (ws' := []) [] (by decide) rfl
  have hK9 := hK.sub (tys' := []) [] rfl
  exact W.zret (v := 1) hx hb hr (by decide +kernel) (fun t ht hW => ⟨⟨1, (), rfl, rfl, by rw [ht]; exact hP9, va_K.moved hW.alike hK9, hD9⟩, hS.F ht⟩) hS.2.2 d_Model_within_15
set_option maxHeartbeats 4000000 in
set_option maxRecDepth 100000 in
theorem c157_Model_find (l : Launch) (dC : Nat → ClassId) (dI : Nat → Nat → Nat) (sz : Nat) (a0 : Nat) (a1 : Nat) (a2 : Nat) (a3 : Nat) (a4 : Nat) (a5 : Nat) (a6 : Nat) (a7 : Nat) (a8 : Nat) (a9 : Nat) (a10 : Nat) (a11 : Nat) (a12 : Nat) (a13 : Nat) (a14 : Nat) (a15 : Nat) (a16 : Nat) (a17 : Nat) (a18 : Nat) (a19 : Nat) (a20 : Nat) (a21 : Nat) (a22 : Nat) (a23 : Nat) (a24 : Nat) (a25 : Nat) (a26 : Nat) (a27 : Nat) (ev : Int64) (sdx : Int32) (lvx : Int32) (g1 : ¬ sdx < 0) (g2 : ¬ 2 < sdx) (g3 : ¬ lvx < 0) (g4 : ¬ 9 < lvx) : Met l y_Model_find w_Model_find ({ frames := 0, cells := 0, slots := 0, locals := 0 }) (va_Pc [.ref a0, .long ev] (fun U => U.heap.size = sz ∧ va_P (dC, dI) vcl [(a0, .inr (1, [.int 0, .int 0, .ref a1, .int 0, .int (-1), .int 0, .int 0, .ref a2, .ref a3, .ref a4, .ref a5, .ref a6, .int 0, .int 0, .ref a7, .int 0, .int 0, .ref a8, .ref a9, .ref a10, .ref a11, .ref a12, .ref a13, .int 0, .ref a14, .ref a15, .int 0, .int 0, .int 0, .int 0, .int 0, .int 0, .ref a16, .ref a17, .ref a18, .int 0, .int 0, .int 0, .int 0, .int 0, .int 0, .ref a19, .ref a20, .ref a21, .ref a22, .ref a23, .ref a24, .ref a25, .ref a26, .ref a27]))] U.heap ∧ va_K (dC, dI) vcl [] U ∧ va_D (fun _ => True) [(a0, .inr (1, [.int 0, .int 0, .ref a1, .int 0, .int (-1), .int 0, .int 0, .ref a2, .ref a3, .ref a4, .ref a5, .ref a6, .int 0, .int 0, .ref a7, .int 0, .int 0, .ref a8, .ref a9, .ref a10, .ref a11, .ref a12, .ref a13, .int 0, .ref a14, .ref a15, .int 0, .int 0, .int 0, .int 0, .int 0, .int 0, .ref a16, .ref a17, .ref a18, .int 0, .int 0, .int 0, .int 0, .int 0, .int 0, .ref a19, .ref a20, .ref a21, .ref a22, .ref a23, .ref a24, .ref a25, .ref a26, .ref a27]))])) (va_Qi (fun (r : Int32) (_ : Unit) => r = (-1)) (fun _ t => va_P (dC, dI) vcl [(a0, .inr (1, [.int 0, .int 0, .ref a1, .int 0, .int (-1), .int 0, .int 0, .ref a2, .ref a3, .ref a4, .ref a5, .ref a6, .int 0, .int 0, .ref a7, .int 0, .int 0, .ref a8, .ref a9, .ref a10, .ref a11, .ref a12, .ref a13, .int 0, .ref a14, .ref a15, .int 0, .int 0, .int 0, .int 0, .int 0, .int 0, .ref a16, .ref a17, .ref a18, .int 0, .int 0, .int 0, .int 0, .int 0, .int 0, .ref a19, .ref a20, .ref a21, .ref a22, .ref a23, .ref a24, .ref a25, .ref a26, .ref a27]))] t.heap ∧ va_K (dC, dI) vcl [] t ∧ va_D (va_A [(a0, .inr (1, [.int 0, .int 0, .ref a1, .int 0, .int (-1), .int 0, .int 0, .ref a2, .ref a3, .ref a4, .ref a5, .ref a6, .int 0, .int 0, .ref a7, .int 0, .int 0, .ref a8, .ref a9, .ref a10, .ref a11, .ref a12, .ref a13, .int 0, .ref a14, .ref a15, .int 0, .int 0, .int 0, .int 0, .int 0, .int 0, .ref a16, .ref a17, .ref a18, .int 0, .int 0, .int 0, .int 0, .int 0, .int 0, .ref a19, .ref a20, .ref a21, .ref a22, .ref a23, .ref a24, .ref a25, .ref a26, .ref a27]))] sz) [(a0, .inr (1, [.int 0, .int 0, .ref a1, .int 0, .int (-1), .int 0, .int 0, .ref a2, .ref a3, .ref a4, .ref a5, .ref a6, .int 0, .int 0, .ref a7, .int 0, .int 0, .ref a8, .ref a9, .ref a10, .ref a11, .ref a12, .ref a13, .int 0, .ref a14, .ref a15, .int 0, .int 0, .int 0, .int 0, .int 0, .int 0, .ref a16, .ref a17, .ref a18, .int 0, .int 0, .int 0, .int 0, .int 0, .int 0, .ref a19, .ref a20, .ref a21, .ref a22, .ref a23, .ref a24, .ref a25, .ref a26, .ref a27]))]) (va_A [(a0, .inr (1, [.int 0, .int 0, .ref a1, .int 0, .int (-1), .int 0, .int 0, .ref a2, .ref a3, .ref a4, .ref a5, .ref a6, .int 0, .int 0, .ref a7, .int 0, .int 0, .ref a8, .ref a9, .ref a10, .ref a11, .ref a12, .ref a13, .int 0, .ref a14, .ref a15, .int 0, .int 0, .int 0, .int 0, .int 0, .int 0, .ref a16, .ref a17, .ref a18, .int 0, .int 0, .int 0, .int 0, .int 0, .int 0, .ref a19, .ref a20, .ref a21, .ref a22, .ref a23, .ref a24, .ref a25, .ref a26, .ref a27]))] sz)) 0 0 (va_A [(a0, .inr (1, [.int 0, .int 0, .ref a1, .int 0, .int (-1), .int 0, .int 0, .ref a2, .ref a3, .ref a4, .ref a5, .ref a6, .int 0, .int 0, .ref a7, .int 0, .int 0, .ref a8, .ref a9, .ref a10, .ref a11, .ref a12, .ref a13, .int 0, .ref a14, .ref a15, .int 0, .int 0, .int 0, .int 0, .int 0, .int 0, .ref a16, .ref a17, .ref a18, .int 0, .int 0, .int 0, .int 0, .int 0, .int 0, .ref a19, .ref a20, .ref a21, .ref a22, .ref a23, .ref a24, .ref a25, .ref a26, .ref a27]))] sz) := by
  refine Met.ofW (cc := b_Model_find) (maxL := 5) (ret := (some .int)) (by decide) rfl ?_
  intro p e s m args below meth c s₁ B hml hv
  obtain ⟨rfl, hsz, hP, hK, hD0⟩ := hv
  have hx := B.exec
  have hb := B.bytes
  have hr := B.returns
  have hts := atoms_spec (ws := w_Model_find) B.pre
  have hz : ∀ w ∈ wz, w.before _ s = true := fun w h => hts w (List.mem_cons_of_mem _ h)
  have hown : s.vm.findClass R_Model = some m.cls := findClass_of_methodNamed B.named
  have hlocks := B.notSynchronized
  subst hsz
  have hD := hD0.self (sz := s.heap.size)
  generalize hAe : va_A [(a0, .inr (1, [.int 0, .int 0, .ref a1, .int 0, .int (-1), .int 0, .int 0, .ref a2, .ref a3, .ref a4, .ref a5, .ref a6, .int 0, .int 0, .ref a7, .int 0, .int 0, .ref a8, .ref a9, .ref a10, .ref a11, .ref a12, .ref a13, .int 0, .ref a14, .ref a15, .int 0, .int 0, .int 0, .int 0, .int 0, .int 0, .ref a16, .ref a17, .ref a18, .int 0, .int 0, .int 0, .int 0, .int 0, .int 0, .ref a19, .ref a20, .ref a21, .ref a22, .ref a23, .ref a24, .ref a25, .ref a26, .ref a27]))] s.heap.size = A at hD ⊢
  have hA : ∀ q : Nat, s.heap.size ≤ q → A q := fun q h => by rw [← hAe]; exact Or.inr h
  have hS : va_S A s.heap s.heap [] := va_S.rf
  have hP : va_P (dC, dI) vcl [(a0, .inr (1, [.int 0, .int 0, .ref a1, .int 0, .int (-1), .int 0, .int 0, .ref a2, .ref a3, .ref a4, .ref a5, .ref a6, .int 0, .int 0, .ref a7, .int 0, .int 0, .ref a8, .ref a9, .ref a10, .ref a11, .ref a12, .ref a13, .int 0, .ref a14, .ref a15, .int 0, .int 0, .int 0, .int 0, .int 0, .int 0, .ref a16, .ref a17, .ref a18, .int 0, .int 0, .int 0, .int 0, .int 0, .int 0, .ref a19, .ref a20, .ref a21, .ref a22, .ref a23, .ref a24, .ref a25, .ref a26, .ref a27]))] s.heap := hP
  have hl := lv_entry ([.ref a0, .long ev]) (n := 5) (Nat.le_of_ble_eq_true rfl)
  rw [lg_entry_eq]
  generalize (lg_sl ([.ref a0, .long ev]) ++ List.replicate (5 - (lg_sl ([.ref a0, .long ev])).length) Slot.unset).toArray = ls at hl ⊢
  have hl : lv_has ls 5 [(0, .ref a0), (1, .long ev)] := hl
  refine lv_iconst (v := (-1)) hx hb d_Model_find_0 (by decide) ?_
  refine lv_istore_n hx hb d_Model_find_1 rfl hl (by decide) rfl (fun ls hl => ?_)
  have hl : lv_has ls 5 [(3, .int (-1)), (0, .ref a0), (1, .long ev)] := hl
  refine lv_iconst (v := 0) hx hb d_Model_find_2 (by decide) ?_
  refine lv_istore hx hb d_Model_find_3 hl (by decide) rfl (fun ls hl => ?_)
  have hl : lv_has ls 5 [(4, .int 0), (3, .int (-1)), (0, .ref a0), (1, .long ev)] := hl
  refine lv_iload hx hb d_Model_find_5 (lv_at hl 0 rfl) ?_
  refine lv_aload_n hx hb d_Model_find_7 rfl (lv_at hl 2 rfl) ?_
  refine va_get (D := (dC, dI)) (ci := 1) (v := .int 0) (C := R_Model) (T := F_Model) (N := 50) hx hb hz zu_Model hown hK hP 0 rfl rfl 31 (by decide) (hz (.fieldLink R_Model 113 "LayoutFrontModel" "set" "I") zm_481) (fun _ h9 => h9) rfl d_Model_find_8 ?_
  refine lv_icmp_ge (tgt := 39) hx hb d_Model_find_11 (by decide) (fun _ => ?_) (fun h => (h (by decide +kernel)).elim)
  refine lv_iload_n hx hb d_Model_find_39 rfl (lv_at hl 1 rfl) ?_
  have hP9 := hP.sub (ws' := [(a0, .inr (1, [.int 0, .int 0, .ref a1, .int 0, .int (-1), .int 0, .int 0, .ref a2, .ref a3, .ref a4, .ref a5, .ref a6, .int 0, .int 0, .ref a7, .int 0, .int 0, .ref a8, .ref a9, .ref a10, .ref a11, .ref a12, .ref a13, .int 0, .ref a14, .ref a15, .int 0, .int 0, .int 0, .int 0, .int 0, .int 0, .ref a16, .ref a17, .ref a18, .int 0, .int 0, .int 0, .int 0, .int 0, .int 0, .ref a19, .ref a20, .ref a21, .ref a22, .ref a23, .ref a24, .ref a25, .ref a26, .ref a27]))]) [0] rfl
  have hD9 := hD.sub (ws' := [(a0, .inr (1, [.int 0, .int 0, .ref a1, .int 0, .int (-1), .int 0, .int 0, .ref a2, .ref a3, .ref a4, .ref a5, .ref a6, .int 0, .int 0, .ref a7, .int 0, .int 0, .ref a8, .ref a9, .ref a10, .ref a11, .ref a12, .ref a13, .int 0, .ref a14, .ref a15, .int 0, .int 0, .int 0, .int 0, .int 0, .int 0, .ref a16, .ref a17, .ref a18, .int 0, .int 0, .int 0, .int 0, .int 0, .int 0, .ref a19, .ref a20, .ref a21, .ref a22, .ref a23, .ref a24, .ref a25, .ref a26, .ref a27]))]) [0] (by decide) rfl
  have hK9 := hK.sub (tys' := []) [] rfl
  exact W.iret (v := (-1)) hx hb hr (fun t ht hW => ⟨⟨(-1), (), rfl, rfl, by rw [ht]; exact hP9, va_K.moved hW.alike hK9, hD9⟩, hS.F ht⟩) hS.2.2 d_Model_find_40
set_option maxHeartbeats 4000000 in
set_option maxRecDepth 100000 in
theorem c158_Model_fixity (l : Launch) (dC : Nat → ClassId) (dI : Nat → Nat → Nat) (sz : Nat) (a0 : Nat) (a1 : Nat) (a2 : Nat) (a3 : Nat) (a4 : Nat) (a5 : Nat) (a6 : Nat) (a7 : Nat) (a8 : Nat) (a9 : Nat) (a10 : Nat) (a11 : Nat) (a12 : Nat) (a13 : Nat) (a14 : Nat) (a15 : Nat) (a16 : Nat) (a17 : Nat) (a18 : Nat) (a19 : Nat) (a20 : Nat) (a21 : Nat) (a22 : Nat) (a23 : Nat) (a24 : Nat) (a25 : Nat) (a26 : Nat) (a27 : Nat) (k0 : ClassId) (k1 : ClassId) (k2 : ClassId) (ev : Int64) (sdx : Int32) (lvx : Int32) (g1 : ¬ sdx < 0) (g2 : ¬ 2 < sdx) (g3 : ¬ lvx < 0) (g4 : ¬ 9 < lvx) : Met l y_Model_fixity w_Model_fixity ({ frames := 1, cells := 0, slots := 0, locals := 24 }) (va_Pc [.ref a0, .long ev, .int sdx, .int lvx] (fun U => U.heap.size = sz ∧ va_P (dC, dI) vcl [(a0, .inr (1, [.int 0, .int 0, .ref a4, .int 0, .int (-1), .int 0, .int 0, .ref a5, .ref a6, .ref a7, .ref a8, .ref a9, .int 0, .int 0, .ref a10, .int 0, .int 0, .ref a11, .ref a12, .ref a13, .ref a14, .ref a15, .ref a16, .int 0, .ref a17, .ref a18, .int 0, .int 0, .int 0, .int 0, .int 0, .int 0, .ref a1, .ref a2, .ref a3, .int 0, .int 0, .int 0, .int 0, .int 0, .int 0, .ref a19, .ref a20, .ref a21, .ref a22, .ref a23, .ref a24, .ref a25, .ref a26, .ref a27])), (a1, .inl (k0, 12, .inr (.inl (fun _ => 0)))), (a2, .inl (k1, 12, .inl (fun _ => 0))), (a3, .inl (k2, 12, .inl (fun _ => 0)))] U.heap ∧ va_K (dC, dI) vcl [(k0, .long), (k1, .int), (k2, .int)] U ∧ va_D (fun _ => True) [(a0, .inr (1, [.int 0, .int 0, .ref a4, .int 0, .int (-1), .int 0, .int 0, .ref a5, .ref a6, .ref a7, .ref a8, .ref a9, .int 0, .int 0, .ref a10, .int 0, .int 0, .ref a11, .ref a12, .ref a13, .ref a14, .ref a15, .ref a16, .int 0, .ref a17, .ref a18, .int 0, .int 0, .int 0, .int 0, .int 0, .int 0, .ref a1, .ref a2, .ref a3, .int 0, .int 0, .int 0, .int 0, .int 0, .int 0, .ref a19, .ref a20, .ref a21, .ref a22, .ref a23, .ref a24, .ref a25, .ref a26, .ref a27])), (a1, .inl (k0, 12, .inr (.inl (fun _ => 0)))), (a2, .inl (k1, 12, .inl (fun _ => 0))), (a3, .inl (k2, 12, .inl (fun _ => 0)))])) (va_Qi (fun (r : Int32) (_ : Unit) => r = 1) (fun _ t => va_P (dC, dI) vcl [(a0, .inr (1, [.int 0, .int 0, .ref a4, .int 0, .int (-1), .int 0, .int 0, .ref a5, .ref a6, .ref a7, .ref a8, .ref a9, .int 0, .int 0, .ref a10, .int 0, .int 0, .ref a11, .ref a12, .ref a13, .ref a14, .ref a15, .ref a16, .int 0, .ref a17, .ref a18, .int 0, .int 0, .int 0, .int 0, .int 0, .int 1, .ref a1, .ref a2, .ref a3, .int 0, .int 0, .int 0, .int 0, .int 0, .int 0, .ref a19, .ref a20, .ref a21, .ref a22, .ref a23, .ref a24, .ref a25, .ref a26, .ref a27])), (a1, .inl (k0, 12, .inr (.inl (vp_updL (fun _ => 0) 0 ev)))), (a2, .inl (k1, 12, .inl (upd (fun _ => 0) 0 sdx))), (a3, .inl (k2, 12, .inl (upd (fun _ => 0) 0 lvx)))] t.heap ∧ va_K (dC, dI) vcl [(k0, .long), (k1, .int), (k2, .int)] t ∧ va_D (va_A [(a0, .inr (1, [.int 0, .int 0, .ref a4, .int 0, .int (-1), .int 0, .int 0, .ref a5, .ref a6, .ref a7, .ref a8, .ref a9, .int 0, .int 0, .ref a10, .int 0, .int 0, .ref a11, .ref a12, .ref a13, .ref a14, .ref a15, .ref a16, .int 0, .ref a17, .ref a18, .int 0, .int 0, .int 0, .int 0, .int 0, .int 0, .ref a1, .ref a2, .ref a3, .int 0, .int 0, .int 0, .int 0, .int 0, .int 0, .ref a19, .ref a20, .ref a21, .ref a22, .ref a23, .ref a24, .ref a25, .ref a26, .ref a27])), (a1, .inl (k0, 12, .inr (.inl (fun _ => 0)))), (a2, .inl (k1, 12, .inl (fun _ => 0))), (a3, .inl (k2, 12, .inl (fun _ => 0)))] sz) [(a0, .inr (1, [.int 0, .int 0, .ref a4, .int 0, .int (-1), .int 0, .int 0, .ref a5, .ref a6, .ref a7, .ref a8, .ref a9, .int 0, .int 0, .ref a10, .int 0, .int 0, .ref a11, .ref a12, .ref a13, .ref a14, .ref a15, .ref a16, .int 0, .ref a17, .ref a18, .int 0, .int 0, .int 0, .int 0, .int 0, .int 1, .ref a1, .ref a2, .ref a3, .int 0, .int 0, .int 0, .int 0, .int 0, .int 0, .ref a19, .ref a20, .ref a21, .ref a22, .ref a23, .ref a24, .ref a25, .ref a26, .ref a27])), (a1, .inl (k0, 12, .inr (.inl (vp_updL (fun _ => 0) 0 ev)))), (a2, .inl (k1, 12, .inl (upd (fun _ => 0) 0 sdx))), (a3, .inl (k2, 12, .inl (upd (fun _ => 0) 0 lvx)))]) (va_A [(a0, .inr (1, [.int 0, .int 0, .ref a4, .int 0, .int (-1), .int 0, .int 0, .ref a5, .ref a6, .ref a7, .ref a8, .ref a9, .int 0, .int 0, .ref a10, .int 0, .int 0, .ref a11, .ref a12, .ref a13, .ref a14, .ref a15, .ref a16, .int 0, .ref a17, .ref a18, .int 0, .int 0, .int 0, .int 0, .int 0, .int 0, .ref a1, .ref a2, .ref a3, .int 0, .int 0, .int 0, .int 0, .int 0, .int 0, .ref a19, .ref a20, .ref a21, .ref a22, .ref a23, .ref a24, .ref a25, .ref a26, .ref a27])), (a1, .inl (k0, 12, .inr (.inl (fun _ => 0)))), (a2, .inl (k1, 12, .inl (fun _ => 0))), (a3, .inl (k2, 12, .inl (fun _ => 0)))] sz)) 0 0 (va_A [(a0, .inr (1, [.int 0, .int 0, .ref a4, .int 0, .int (-1), .int 0, .int 0, .ref a5, .ref a6, .ref a7, .ref a8, .ref a9, .int 0, .int 0, .ref a10, .int 0, .int 0, .ref a11, .ref a12, .ref a13, .ref a14, .ref a15, .ref a16, .int 0, .ref a17, .ref a18, .int 0, .int 0, .int 0, .int 0, .int 0, .int 0, .ref a1, .ref a2, .ref a3, .int 0, .int 0, .int 0, .int 0, .int 0, .int 0, .ref a19, .ref a20, .ref a21, .ref a22, .ref a23, .ref a24, .ref a25, .ref a26, .ref a27])), (a1, .inl (k0, 12, .inr (.inl (fun _ => 0)))), (a2, .inl (k1, 12, .inl (fun _ => 0))), (a3, .inl (k2, 12, .inl (fun _ => 0)))] sz) := by
  refine Met.ofW (cc := b_Model_fixity) (maxL := 6) (ret := (some .int)) (by decide) rfl ?_
  intro p e s m args below meth c s₁ B hml hv
  obtain ⟨rfl, hsz, hP, hK, hD0⟩ := hv
  have hx := B.exec
  have hb := B.bytes
  have hr := B.returns
  have hts := atoms_spec (ws := w_Model_fixity) B.pre
  have hz : ∀ w ∈ wz, w.before _ s = true := fun w h => hts w (List.mem_cons_of_mem _ h)
  have hown : s.vm.findClass R_Model = some m.cls := findClass_of_methodNamed B.named
  have hlocks := B.notSynchronized
  subst hsz
  have hD := hD0.self (sz := s.heap.size)
  generalize hAe : va_A [(a0, .inr (1, [.int 0, .int 0, .ref a4, .int 0, .int (-1), .int 0, .int 0, .ref a5, .ref a6, .ref a7, .ref a8, .ref a9, .int 0, .int 0, .ref a10, .int 0, .int 0, .ref a11, .ref a12, .ref a13, .ref a14, .ref a15, .ref a16, .int 0, .ref a17, .ref a18, .int 0, .int 0, .int 0, .int 0, .int 0, .int 0, .ref a1, .ref a2, .ref a3, .int 0, .int 0, .int 0, .int 0, .int 0, .int 0, .ref a19, .ref a20, .ref a21, .ref a22, .ref a23, .ref a24, .ref a25, .ref a26, .ref a27])), (a1, .inl (k0, 12, .inr (.inl (fun _ => 0)))), (a2, .inl (k1, 12, .inl (fun _ => 0))), (a3, .inl (k2, 12, .inl (fun _ => 0)))] s.heap.size = A at hD ⊢
  have hA : ∀ q : Nat, s.heap.size ≤ q → A q := fun q h => by rw [← hAe]; exact Or.inr h
  have hS : va_S A s.heap s.heap [] := va_S.rf
  have hP : va_P (dC, dI) vcl [(a0, .inr (1, [.int 0, .int 0, .ref a4, .int 0, .int (-1), .int 0, .int 0, .ref a5, .ref a6, .ref a7, .ref a8, .ref a9, .int 0, .int 0, .ref a10, .int 0, .int 0, .ref a11, .ref a12, .ref a13, .ref a14, .ref a15, .ref a16, .int 0, .ref a17, .ref a18, .int 0, .int 0, .int 0, .int 0, .int 0, .int 0, .ref a1, .ref a2, .ref a3, .int 0, .int 0, .int 0, .int 0, .int 0, .int 0, .ref a19, .ref a20, .ref a21, .ref a22, .ref a23, .ref a24, .ref a25, .ref a26, .ref a27])), (a1, .inl (k0, 12, .inr (.inl (fun _ => 0)))), (a2, .inl (k1, 12, .inl (fun _ => 0))), (a3, .inl (k2, 12, .inl (fun _ => 0)))] s.heap := hP
  have hl := lv_entry ([.ref a0, .long ev, .int sdx, .int lvx]) (n := 6) (Nat.le_of_ble_eq_true rfl)
  rw [lg_entry_eq]
  generalize (lg_sl ([.ref a0, .long ev, .int sdx, .int lvx]) ++ List.replicate (6 - (lg_sl ([.ref a0, .long ev, .int sdx, .int lvx])).length) Slot.unset).toArray = ls at hl ⊢
  have hl : lv_has ls 6 [(0, .ref a0), (1, .long ev), (3, .int sdx), (4, .int lvx)] := hl
  refine lv_aload_n hx hb d_Model_fixity_0 rfl (lv_at hl 0 rfl) ?_
  refine lv_iconst (v := 0) hx hb d_Model_fixity_1 (by decide) ?_
  refine va_put (D := (dC, dI)) (ci := 1) (v := .int 0) (ty := .int) (C := R_Model) (T := F_Model) (N := 50) hx hb hz zu_Model t_Model t_Model_ok n_Model hown hK hP hD hS 0 rfl rfl 0 (by decide) (hz (.fieldLink R_Model 97 "LayoutFrontModel" "thrown" "I") zm_415) (fun _ h9 => h9) rfl (by decide +kernel) rfl rfl (Nat.le_of_ble_eq_true rfl) d_Model_fixity_2 (fun H locs hP hD hS => ?_)
  have hP : va_P (dC, dI) vcl [(a0, .inr (1, [.int 0, .int 0, .ref a4, .int 0, .int (-1), .int 0, .int 0, .ref a5, .ref a6, .ref a7, .ref a8, .ref a9, .int 0, .int 0, .ref a10, .int 0, .int 0, .ref a11, .ref a12, .ref a13, .ref a14, .ref a15, .ref a16, .int 0, .ref a17, .ref a18, .int 0, .int 0, .int 0, .int 0, .int 0, .int 0, .ref a1, .ref a2, .ref a3, .int 0, .int 0, .int 0, .int 0, .int 0, .int 0, .ref a19, .ref a20, .ref a21, .ref a22, .ref a23, .ref a24, .ref a25, .ref a26, .ref a27])), (a1, .inl (k0, 12, .inr (.inl (fun _ => 0)))), (a2, .inl (k1, 12, .inl (fun _ => 0))), (a3, .inl (k2, 12, .inl (fun _ => 0)))] H := hP
  have hD : va_D A [(a0, .inr (1, [.int 0, .int 0, .ref a4, .int 0, .int (-1), .int 0, .int 0, .ref a5, .ref a6, .ref a7, .ref a8, .ref a9, .int 0, .int 0, .ref a10, .int 0, .int 0, .ref a11, .ref a12, .ref a13, .ref a14, .ref a15, .ref a16, .int 0, .ref a17, .ref a18, .int 0, .int 0, .int 0, .int 0, .int 0, .int 0, .ref a1, .ref a2, .ref a3, .int 0, .int 0, .int 0, .int 0, .int 0, .int 0, .ref a19, .ref a20, .ref a21, .ref a22, .ref a23, .ref a24, .ref a25, .ref a26, .ref a27])), (a1, .inl (k0, 12, .inr (.inl (fun _ => 0)))), (a2, .inl (k1, 12, .inl (fun _ => 0))), (a3, .inl (k2, 12, .inl (fun _ => 0)))] := hD
  refine lv_iload_n hx hb d_Model_fixity_5 rfl (lv_at hl 2 rfl) ?_
  refine lv_iconst (v := 0) hx hb d_Model_fixity_6 (by decide) ?_
  refine lv_iconst (v := 2) hx hb d_Model_fixity_7 (by decide) ?_
  have hPc := hP.sub (ws' := []) [] rfl
  have hDc := hD.sub (ws' := []) [] (by decide) rfl
  have hKc := hK.sub (tys' := []) [] rfl
  have hFc := va_free (wc := []) hD hS hA [] rfl
  refine va_calli (va_runS (As := [.int sdx, .int 0, .int 2]) (rest := []) ⟨hx, hb, hml, hown, hz⟩ (c155_Model_within l dC dI H.size ev sdx lvx g1 g2 g3 g4) (cwS 3 hz (zS zm_449 zm_450 zm_374 zm_451) rfl rfl rfl (by decide +kernel) ⟨Nat.le_of_ble_eq_true rfl, Nat.le_of_ble_eq_true rfl⟩) ⟨fun a U g mk q => by obtain ⟨q0, q1, qP, qK, qD⟩ := q; exact ⟨q0, q1, qP, va_K.moved (u := U) (U := U.calling g mk a) (Vm.Alike.refl U.vm) qK, qD⟩, fun U hU hW => ⟨rfl, by rw [hU], by rw [hU]; exact hPc, va_K.moved hW.alike hKc, hDc.weaken (fun _ _ _ _ => trivial)⟩⟩ rfl rfl hl.1 rfl (lv_room (Nat.le_of_ble_eq_true rfl)) d_Model_fixity_8 ⟨by decide, by decide⟩) hS (fun q _ h => hFc q h) hFc (fun r u t H1 locs ht hvm hw hB hz1 hk1 hS => ?_)
  obtain ⟨hP1, hK1, hD1⟩ := hB
  subst r
  rw [ht] at hP1
  obtain ⟨hP, hD⟩ := va_join (wr := [(a0, .inr (1, [.int 0, .int 0, .ref a4, .int 0, .int (-1), .int 0, .int 0, .ref a5, .ref a6, .ref a7, .ref a8, .ref a9, .int 0, .int 0, .ref a10, .int 0, .int 0, .ref a11, .ref a12, .ref a13, .ref a14, .ref a15, .ref a16, .int 0, .ref a17, .ref a18, .int 0, .int 0, .int 0, .int 0, .int 0, .int 0, .ref a1, .ref a2, .ref a3, .int 0, .int 0, .int 0, .int 0, .int 0, .int 0, .ref a19, .ref a20, .ref a21, .ref a22, .ref a23, .ref a24, .ref a25, .ref a26, .ref a27])), (a1, .inl (k0, 12, .inr (.inl (fun _ => 0)))), (a2, .inl (k1, 12, .inl (fun _ => 0))), (a3, .inl (k2, 12, .inl (fun _ => 0)))]) (w1 := []) hP hD [] [0, 1, 2, 3] rfl rfl (by decide) (by decide) hk1 hFc hP1 hD1
  generalize H1 = H at hP hS ⊢
  have hP : va_P (dC, dI) vcl [(a0, .inr (1, [.int 0, .int 0, .ref a4, .int 0, .int (-1), .int 0, .int 0, .ref a5, .ref a6, .ref a7, .ref a8, .ref a9, .int 0, .int 0, .ref a10, .int 0, .int 0, .ref a11, .ref a12, .ref a13, .ref a14, .ref a15, .ref a16, .int 0, .ref a17, .ref a18, .int 0, .int 0, .int 0, .int 0, .int 0, .int 0, .ref a1, .ref a2, .ref a3, .int 0, .int 0, .int 0, .int 0, .int 0, .int 0, .ref a19, .ref a20, .ref a21, .ref a22, .ref a23, .ref a24, .ref a25, .ref a26, .ref a27])), (a1, .inl (k0, 12, .inr (.inl (fun _ => 0)))), (a2, .inl (k1, 12, .inl (fun _ => 0))), (a3, .inl (k2, 12, .inl (fun _ => 0)))] H := hP
  have hD : va_D A [(a0, .inr (1, [.int 0, .int 0, .ref a4, .int 0, .int (-1), .int 0, .int 0, .ref a5, .ref a6, .ref a7, .ref a8, .ref a9, .int 0, .int 0, .ref a10, .int 0, .int 0, .ref a11, .ref a12, .ref a13, .ref a14, .ref a15, .ref a16, .int 0, .ref a17, .ref a18, .int 0, .int 0, .int 0, .int 0, .int 0, .int 0, .ref a1, .ref a2, .ref a3, .int 0, .int 0, .int 0, .int 0, .int 0, .int 0, .ref a19, .ref a20, .ref a21, .ref a22, .ref a23, .ref a24, .ref a25, .ref a26, .ref a27])), (a1, .inl (k0, 12, .inr (.inl (fun _ => 0)))), (a2, .inl (k1, 12, .inl (fun _ => 0))), (a3, .inl (k2, 12, .inl (fun _ => 0)))] := hD
  refine lv_if_eq (tgt := 25) hx hb d_Model_fixity_11 (by decide) (fun h => absurd h (by decide +kernel)) (fun _ => ?_)
  refine lv_iload hx hb d_Model_fixity_14 (lv_at hl 3 rfl) ?_
  refine lv_iconst (v := 0) hx hb d_Model_fixity_16 (by decide) ?_
  refine lv_bipush (v := 9) hx hb d_Model_fixity_17 (by decide) ?_
  have hPc := hP.sub (ws' := []) [] rfl
  have hDc := hD.sub (ws' := []) [] (by decide) rfl
  have hKc := hK.sub (tys' := []) [] rfl
  have hFc := va_free (wc := []) hD hS hA [] rfl
  refine va_calli (va_runS (As := [.int lvx, .int 0, .int 9]) (rest := []) ⟨hx, hb, hml, hown, hz⟩ (c156_Model_within l dC dI H.size ev sdx lvx g1 g2 g3 g4) (cwS 3 hz (zS zm_449 zm_450 zm_374 zm_451) rfl rfl rfl (by decide +kernel) ⟨Nat.le_of_ble_eq_true rfl, Nat.le_of_ble_eq_true rfl⟩) ⟨fun a U g mk q => by obtain ⟨q0, q1, qP, qK, qD⟩ := q; exact ⟨q0, q1, qP, va_K.moved (u := U) (U := U.calling g mk a) (Vm.Alike.refl U.vm) qK, qD⟩, fun U hU hW => ⟨rfl, by rw [hU], by rw [hU]; exact hPc, va_K.moved hW.alike hKc, hDc.weaken (fun _ _ _ _ => trivial)⟩⟩ rfl rfl hl.1 rfl (lv_room (Nat.le_of_ble_eq_true rfl)) d_Model_fixity_19 ⟨by decide, by decide⟩) hS (fun q _ h => hFc q h) hFc (fun r u t H1 locs ht hvm hw hB hz1 hk1 hS => ?_)
  obtain ⟨hP1, hK1, hD1⟩ := hB
  subst r
  rw [ht] at hP1
  obtain ⟨hP, hD⟩ := va_join (wr := [(a0, .inr (1, [.int 0, .int 0, .ref a4, .int 0, .int (-1), .int 0, .int 0, .ref a5, .ref a6, .ref a7, .ref a8, .ref a9, .int 0, .int 0, .ref a10, .int 0, .int 0, .ref a11, .ref a12, .ref a13, .ref a14, .ref a15, .ref a16, .int 0, .ref a17, .ref a18, .int 0, .int 0, .int 0, .int 0, .int 0, .int 0, .ref a1, .ref a2, .ref a3, .int 0, .int 0, .int 0, .int 0, .int 0, .int 0, .ref a19, .ref a20, .ref a21, .ref a22, .ref a23, .ref a24, .ref a25, .ref a26, .ref a27])), (a1, .inl (k0, 12, .inr (.inl (fun _ => 0)))), (a2, .inl (k1, 12, .inl (fun _ => 0))), (a3, .inl (k2, 12, .inl (fun _ => 0)))]) (w1 := []) hP hD [] [0, 1, 2, 3] rfl rfl (by decide) (by decide) hk1 hFc hP1 hD1
  generalize H1 = H at hP hS ⊢
  have hP : va_P (dC, dI) vcl [(a0, .inr (1, [.int 0, .int 0, .ref a4, .int 0, .int (-1), .int 0, .int 0, .ref a5, .ref a6, .ref a7, .ref a8, .ref a9, .int 0, .int 0, .ref a10, .int 0, .int 0, .ref a11, .ref a12, .ref a13, .ref a14, .ref a15, .ref a16, .int 0, .ref a17, .ref a18, .int 0, .int 0, .int 0, .int 0, .int 0, .int 0, .ref a1, .ref a2, .ref a3, .int 0, .int 0, .int 0, .int 0, .int 0, .int 0, .ref a19, .ref a20, .ref a21, .ref a22, .ref a23, .ref a24, .ref a25, .ref a26, .ref a27])), (a1, .inl (k0, 12, .inr (.inl (fun _ => 0)))), (a2, .inl (k1, 12, .inl (fun _ => 0))), (a3, .inl (k2, 12, .inl (fun _ => 0)))] H := hP
  have hD : va_D A [(a0, .inr (1, [.int 0, .int 0, .ref a4, .int 0, .int (-1), .int 0, .int 0, .ref a5, .ref a6, .ref a7, .ref a8, .ref a9, .int 0, .int 0, .ref a10, .int 0, .int 0, .ref a11, .ref a12, .ref a13, .ref a14, .ref a15, .ref a16, .int 0, .ref a17, .ref a18, .int 0, .int 0, .int 0, .int 0, .int 0, .int 0, .ref a1, .ref a2, .ref a3, .int 0, .int 0, .int 0, .int 0, .int 0, .int 0, .ref a19, .ref a20, .ref a21, .ref a22, .ref a23, .ref a24, .ref a25, .ref a26, .ref a27])), (a1, .inl (k0, 12, .inr (.inl (fun _ => 0)))), (a2, .inl (k1, 12, .inl (fun _ => 0))), (a3, .inl (k2, 12, .inl (fun _ => 0)))] := hD
  refine lv_if_ne (tgt := 31) hx hb d_Model_fixity_22 (by decide) (fun _ => ?_) (fun h => absurd h (by decide +kernel))
  refine lv_aload_n hx hb d_Model_fixity_31 rfl (lv_at hl 0 rfl) ?_
  refine lv_lload_n hx hb d_Model_fixity_32 rfl (lv_at hl 1 rfl) ?_
  have hPc := hP.sub (ws' := [(a0, .inr (1, [.int 0, .int 0, .ref a4, .int 0, .int (-1), .int 0, .int 0, .ref a5, .ref a6, .ref a7, .ref a8, .ref a9, .int 0, .int 0, .ref a10, .int 0, .int 0, .ref a11, .ref a12, .ref a13, .ref a14, .ref a15, .ref a16, .int 0, .ref a17, .ref a18, .int 0, .int 0, .int 0, .int 0, .int 0, .int 0, .ref a1, .ref a2, .ref a3, .int 0, .int 0, .int 0, .int 0, .int 0, .int 0, .ref a19, .ref a20, .ref a21, .ref a22, .ref a23, .ref a24, .ref a25, .ref a26, .ref a27]))]) [0] rfl
  have hDc := hD.sub (ws' := [(a0, .inr (1, [.int 0, .int 0, .ref a4, .int 0, .int (-1), .int 0, .int 0, .ref a5, .ref a6, .ref a7, .ref a8, .ref a9, .int 0, .int 0, .ref a10, .int 0, .int 0, .ref a11, .ref a12, .ref a13, .ref a14, .ref a15, .ref a16, .int 0, .ref a17, .ref a18, .int 0, .int 0, .int 0, .int 0, .int 0, .int 0, .ref a1, .ref a2, .ref a3, .int 0, .int 0, .int 0, .int 0, .int 0, .int 0, .ref a19, .ref a20, .ref a21, .ref a22, .ref a23, .ref a24, .ref a25, .ref a26, .ref a27]))]) [0] (by decide) rfl
  have hKc := hK.sub (tys' := []) [] rfl
  have hFc := va_free (wc := [(a0, .inr (1, [.int 0, .int 0, .ref a4, .int 0, .int (-1), .int 0, .int 0, .ref a5, .ref a6, .ref a7, .ref a8, .ref a9, .int 0, .int 0, .ref a10, .int 0, .int 0, .ref a11, .ref a12, .ref a13, .ref a14, .ref a15, .ref a16, .int 0, .ref a17, .ref a18, .int 0, .int 0, .int 0, .int 0, .int 0, .int 0, .ref a1, .ref a2, .ref a3, .int 0, .int 0, .int 0, .int 0, .int 0, .int 0, .ref a19, .ref a20, .ref a21, .ref a22, .ref a23, .ref a24, .ref a25, .ref a26, .ref a27]))]) hD hS hA [0] rfl
  refine va_calli (va_runV (As := [.long ev]) (rest := []) ⟨hx, hb, hml, hown, hz⟩ (c157_Model_find l dC dI H.size a0 a4 a5 a6 a7 a8 a9 a10 a11 a12 a13 a14 a15 a16 a17 a18 a1 a2 a3 a19 a20 a21 a22 a23 a24 a25 a26 a27 ev sdx lvx g1 g2 g3 g4) (cwV 1 hz (zV zm_482 zm_483 zm_484 zm_374 zm_485) rfl rfl rfl (by decide +kernel) ⟨Nat.le_of_ble_eq_true rfl, Nat.le_of_ble_eq_true rfl⟩) ⟨fun a U g mk q => by obtain ⟨q0, q1, qP, qK, qD⟩ := q; exact ⟨q0, q1, qP, va_K.moved (u := U) (U := U.calling g mk a) (Vm.Alike.refl U.vm) qK, qD⟩, va_recv (q := (R_Model, F_Model, 50)) (q0 := 0) (ci := 1) hK hP rfl rfl, fun U hU hW => ⟨rfl, by rw [hU], by rw [hU]; exact hPc, va_K.moved hW.alike hKc, hDc.weaken (fun _ _ _ _ => trivial)⟩⟩ rfl rfl hl.1 rfl (lv_room (Nat.le_of_ble_eq_true rfl)) d_Model_fixity_33 ⟨by decide, by decide⟩) hS (fun q _ h => hFc q h) hFc (fun r u t H1 locs ht hvm hw hB hz1 hk1 hS => ?_)
  obtain ⟨hP1, hK1, hD1⟩ := hB
  subst r
  rw [ht] at hP1
  obtain ⟨hP, hD⟩ := va_join (wr := [(a1, .inl (k0, 12, .inr (.inl (fun _ => 0)))), (a2, .inl (k1, 12, .inl (fun _ => 0))), (a3, .inl (k2, 12, .inl (fun _ => 0)))]) (w1 := [(a0, .inr (1, [.int 0, .int 0, .ref a4, .int 0, .int (-1), .int 0, .int 0, .ref a5, .ref a6, .ref a7, .ref a8, .ref a9, .int 0, .int 0, .ref a10, .int 0, .int 0, .ref a11, .ref a12, .ref a13, .ref a14, .ref a15, .ref a16, .int 0, .ref a17, .ref a18, .int 0, .int 0, .int 0, .int 0, .int 0, .int 0, .ref a1, .ref a2, .ref a3, .int 0, .int 0, .int 0, .int 0, .int 0, .int 0, .ref a19, .ref a20, .ref a21, .ref a22, .ref a23, .ref a24, .ref a25, .ref a26, .ref a27]))]) hP hD [0] [1, 2, 3] rfl rfl (by decide) (by decide) hk1 hFc hP1 hD1
  generalize H1 = H at hP hS ⊢
  have hP : va_P (dC, dI) vcl [(a1, .inl (k0, 12, .inr (.inl (fun _ => 0)))), (a2, .inl (k1, 12, .inl (fun _ => 0))), (a3, .inl (k2, 12, .inl (fun _ => 0))), (a0, .inr (1, [.int 0, .int 0, .ref a4, .int 0, .int (-1), .int 0, .int 0, .ref a5, .ref a6, .ref a7, .ref a8, .ref a9, .int 0, .int 0, .ref a10, .int 0, .int 0, .ref a11, .ref a12, .ref a13, .ref a14, .ref a15, .ref a16, .int 0, .ref a17, .ref a18, .int 0, .int 0, .int 0, .int 0, .int 0, .int 0, .ref a1, .ref a2, .ref a3, .int 0, .int 0, .int 0, .int 0, .int 0, .int 0, .ref a19, .ref a20, .ref a21, .ref a22, .ref a23, .ref a24, .ref a25, .ref a26, .ref a27]))] H := hP
  have hD : va_D A [(a1, .inl (k0, 12, .inr (.inl (fun _ => 0)))), (a2, .inl (k1, 12, .inl (fun _ => 0))), (a3, .inl (k2, 12, .inl (fun _ => 0))), (a0, .inr (1, [.int 0, .int 0, .ref a4, .int 0, .int (-1), .int 0, .int 0, .ref a5, .ref a6, .ref a7, .ref a8, .ref a9, .int 0, .int 0, .ref a10, .int 0, .int 0, .ref a11, .ref a12, .ref a13, .ref a14, .ref a15, .ref a16, .int 0, .ref a17, .ref a18, .int 0, .int 0, .int 0, .int 0, .int 0, .int 0, .ref a1, .ref a2, .ref a3, .int 0, .int 0, .int 0, .int 0, .int 0, .int 0, .ref a19, .ref a20, .ref a21, .ref a22, .ref a23, .ref a24, .ref a25, .ref a26, .ref a27]))] := hD
  refine lv_istore hx hb d_Model_fixity_36 hl (by decide) rfl (fun ls hl => ?_)
  have hl : lv_has ls 6 [(5, .int (-1)), (0, .ref a0), (1, .long ev), (3, .int sdx), (4, .int lvx)] := hl
  refine lv_iload hx hb d_Model_fixity_38 (lv_at hl 0 rfl) ?_
  refine lv_if_ge (tgt := 58) hx hb d_Model_fixity_40 (by decide) (fun h => absurd h (by decide +kernel)) (fun _ => ?_)
  refine lv_aload_n hx hb d_Model_fixity_43 rfl (lv_at hl 1 rfl) ?_
  refine va_get (D := (dC, dI)) (ci := 1) (v := .int 0) (C := R_Model) (T := F_Model) (N := 50) hx hb hz zu_Model hown hK hP 3 rfl rfl 31 (by decide) (hz (.fieldLink R_Model 113 "LayoutFrontModel" "set" "I") zm_481) (fun _ h9 => h9) rfl d_Model_fixity_44 ?_
  refine lv_bipush (v := 12) hx hb d_Model_fixity_47 (by decide) ?_
  refine lv_icmp_ne (tgt := 58) hx hb d_Model_fixity_49 (by decide) (fun _ => ?_) (fun h => absurd h (by decide +kernel))
  refine lv_iload hx hb d_Model_fixity_58 (lv_at hl 0 rfl) ?_
  refine lv_if_ge (tgt := 79) hx hb d_Model_fixity_60 (by decide) (fun h => absurd h (by decide +kernel)) (fun _ => ?_)
  refine lv_aload_n hx hb d_Model_fixity_63 rfl (lv_at hl 1 rfl) ?_
  refine va_get (D := (dC, dI)) (ci := 1) (v := .int 0) (C := R_Model) (T := F_Model) (N := 50) hx hb hz zu_Model hown hK hP 3 rfl rfl 31 (by decide) (hz (.fieldLink R_Model 113 "LayoutFrontModel" "set" "I") zm_481) (fun _ h9 => h9) rfl d_Model_fixity_64 ?_
  refine lv_istore hx hb d_Model_fixity_67 hl (by decide) rfl (fun ls hl => ?_)
  have hl : lv_has ls 6 [(5, .int 0), (0, .ref a0), (1, .long ev), (3, .int sdx), (4, .int lvx)] := hl
  refine lv_aload_n hx hb d_Model_fixity_69 rfl (lv_at hl 1 rfl) ?_
  refine lv_dup hx hb d_Model_fixity_70 rfl ?_
  refine va_get (D := (dC, dI)) (ci := 1) (v := .int 0) (C := R_Model) (T := F_Model) (N := 50) hx hb hz zu_Model hown hK hP 3 rfl rfl 31 (by decide) (hz (.fieldLink R_Model 113 "LayoutFrontModel" "set" "I") zm_481) (fun _ h9 => h9) rfl d_Model_fixity_71 ?_
  refine lv_iconst (v := 1) hx hb d_Model_fixity_74 (by decide) ?_
  refine xr_iadd (v := 1) hx hb d_Model_fixity_75 (by decide +kernel) ?_
  refine va_put (D := (dC, dI)) (ci := 1) (v := .int 1) (ty := .int) (C := R_Model) (T := F_Model) (N := 50) hx hb hz zu_Model t_Model t_Model_ok n_Model hown hK hP hD hS 3 rfl rfl 31 (by decide) (hz (.fieldLink R_Model 113 "LayoutFrontModel" "set" "I") zm_481) (fun _ h9 => h9) rfl (by decide +kernel) rfl rfl (Nat.le_of_ble_eq_true rfl) d_Model_fixity_76 (fun H locs hP hD hS => ?_)
  have hP : va_P (dC, dI) vcl [(a1, .inl (k0, 12, .inr (.inl (fun _ => 0)))), (a2, .inl (k1, 12, .inl (fun _ => 0))), (a3, .inl (k2, 12, .inl (fun _ => 0))), (a0, .inr (1, [.int 0, .int 0, .ref a4, .int 0, .int (-1), .int 0, .int 0, .ref a5, .ref a6, .ref a7, .ref a8, .ref a9, .int 0, .int 0, .ref a10, .int 0, .int 0, .ref a11, .ref a12, .ref a13, .ref a14, .ref a15, .ref a16, .int 0, .ref a17, .ref a18, .int 0, .int 0, .int 0, .int 0, .int 0, .int 1, .ref a1, .ref a2, .ref a3, .int 0, .int 0, .int 0, .int 0, .int 0, .int 0, .ref a19, .ref a20, .ref a21, .ref a22, .ref a23, .ref a24, .ref a25, .ref a26, .ref a27]))] H := hP
  have hD : va_D A [(a1, .inl (k0, 12, .inr (.inl (fun _ => 0)))), (a2, .inl (k1, 12, .inl (fun _ => 0))), (a3, .inl (k2, 12, .inl (fun _ => 0))), (a0, .inr (1, [.int 0, .int 0, .ref a4, .int 0, .int (-1), .int 0, .int 0, .ref a5, .ref a6, .ref a7, .ref a8, .ref a9, .int 0, .int 0, .ref a10, .int 0, .int 0, .ref a11, .ref a12, .ref a13, .ref a14, .ref a15, .ref a16, .int 0, .ref a17, .ref a18, .int 0, .int 0, .int 0, .int 0, .int 0, .int 1, .ref a1, .ref a2, .ref a3, .int 0, .int 0, .int 0, .int 0, .int 0, .int 0, .ref a19, .ref a20, .ref a21, .ref a22, .ref a23, .ref a24, .ref a25, .ref a26, .ref a27]))] := hD
  refine lv_aload_n hx hb d_Model_fixity_79 rfl (lv_at hl 1 rfl) ?_
  refine va_get (D := (dC, dI)) (ci := 1) (v := .ref a1) (C := R_Model) (T := F_Model) (N := 50) hx hb hz zu_Model hown hK hP 3 rfl rfl 32 (by decide) (hz (.fieldLink R_Model 61 "LayoutFrontModel" "names" "[J") zm_353) (fun _ h9 => h9) rfl d_Model_fixity_80 ?_
  refine lv_iload hx hb d_Model_fixity_83 (lv_at hl 0 rfl) ?_
  refine lv_lload_n hx hb d_Model_fixity_85 rfl (lv_at hl 2 rfl) ?_
  refine xr_last (j := 0) hx hb hK hP hD hS 0 0 rfl rfl (xr_in (by decide +kernel)) (by decide +kernel) d_Model_fixity_86 (fun H locs hP hD hS => ?_)
  have hP : va_P (dC, dI) vcl [(a1, .inl (k0, 12, .inr (.inl (vp_updL (fun _ => 0) 0 ev)))), (a2, .inl (k1, 12, .inl (fun _ => 0))), (a3, .inl (k2, 12, .inl (fun _ => 0))), (a0, .inr (1, [.int 0, .int 0, .ref a4, .int 0, .int (-1), .int 0, .int 0, .ref a5, .ref a6, .ref a7, .ref a8, .ref a9, .int 0, .int 0, .ref a10, .int 0, .int 0, .ref a11, .ref a12, .ref a13, .ref a14, .ref a15, .ref a16, .int 0, .ref a17, .ref a18, .int 0, .int 0, .int 0, .int 0, .int 0, .int 1, .ref a1, .ref a2, .ref a3, .int 0, .int 0, .int 0, .int 0, .int 0, .int 0, .ref a19, .ref a20, .ref a21, .ref a22, .ref a23, .ref a24, .ref a25, .ref a26, .ref a27]))] H := hP
  have hD : va_D A [(a1, .inl (k0, 12, .inr (.inl (vp_updL (fun _ => 0) 0 ev)))), (a2, .inl (k1, 12, .inl (fun _ => 0))), (a3, .inl (k2, 12, .inl (fun _ => 0))), (a0, .inr (1, [.int 0, .int 0, .ref a4, .int 0, .int (-1), .int 0, .int 0, .ref a5, .ref a6, .ref a7, .ref a8, .ref a9, .int 0, .int 0, .ref a10, .int 0, .int 0, .ref a11, .ref a12, .ref a13, .ref a14, .ref a15, .ref a16, .int 0, .ref a17, .ref a18, .int 0, .int 0, .int 0, .int 0, .int 0, .int 1, .ref a1, .ref a2, .ref a3, .int 0, .int 0, .int 0, .int 0, .int 0, .int 0, .ref a19, .ref a20, .ref a21, .ref a22, .ref a23, .ref a24, .ref a25, .ref a26, .ref a27]))] := hD
  refine lv_aload_n hx hb d_Model_fixity_87 rfl (lv_at hl 1 rfl) ?_
  refine va_get (D := (dC, dI)) (ci := 1) (v := .ref a2) (C := R_Model) (T := F_Model) (N := 50) hx hb hz zu_Model hown hK hP 3 rfl rfl 33 (by decide) (hz (.fieldLink R_Model 64 "LayoutFrontModel" "sides" "[I") zm_354) (fun _ h9 => h9) rfl d_Model_fixity_88 ?_
  refine lv_iload hx hb d_Model_fixity_91 (lv_at hl 0 rfl) ?_
  refine lv_iload_n hx hb d_Model_fixity_93 rfl (lv_at hl 3 rfl) ?_
  refine xr_iast (j := 0) hx hb hK hP hD hS 1 1 rfl rfl (xr_in (by decide +kernel)) (by decide +kernel) d_Model_fixity_94 (fun H locs hP hD hS => ?_)
  have hP : va_P (dC, dI) vcl [(a1, .inl (k0, 12, .inr (.inl (vp_updL (fun _ => 0) 0 ev)))), (a2, .inl (k1, 12, .inl (upd (fun _ => 0) 0 sdx))), (a3, .inl (k2, 12, .inl (fun _ => 0))), (a0, .inr (1, [.int 0, .int 0, .ref a4, .int 0, .int (-1), .int 0, .int 0, .ref a5, .ref a6, .ref a7, .ref a8, .ref a9, .int 0, .int 0, .ref a10, .int 0, .int 0, .ref a11, .ref a12, .ref a13, .ref a14, .ref a15, .ref a16, .int 0, .ref a17, .ref a18, .int 0, .int 0, .int 0, .int 0, .int 0, .int 1, .ref a1, .ref a2, .ref a3, .int 0, .int 0, .int 0, .int 0, .int 0, .int 0, .ref a19, .ref a20, .ref a21, .ref a22, .ref a23, .ref a24, .ref a25, .ref a26, .ref a27]))] H := hP
  have hD : va_D A [(a1, .inl (k0, 12, .inr (.inl (vp_updL (fun _ => 0) 0 ev)))), (a2, .inl (k1, 12, .inl (upd (fun _ => 0) 0 sdx))), (a3, .inl (k2, 12, .inl (fun _ => 0))), (a0, .inr (1, [.int 0, .int 0, .ref a4, .int 0, .int (-1), .int 0, .int 0, .ref a5, .ref a6, .ref a7, .ref a8, .ref a9, .int 0, .int 0, .ref a10, .int 0, .int 0, .ref a11, .ref a12, .ref a13, .ref a14, .ref a15, .ref a16, .int 0, .ref a17, .ref a18, .int 0, .int 0, .int 0, .int 0, .int 0, .int 1, .ref a1, .ref a2, .ref a3, .int 0, .int 0, .int 0, .int 0, .int 0, .int 0, .ref a19, .ref a20, .ref a21, .ref a22, .ref a23, .ref a24, .ref a25, .ref a26, .ref a27]))] := hD
  refine lv_aload_n hx hb d_Model_fixity_95 rfl (lv_at hl 1 rfl) ?_
  refine va_get (D := (dC, dI)) (ci := 1) (v := .ref a3) (C := R_Model) (T := F_Model) (N := 50) hx hb hz zu_Model hown hK hP 3 rfl rfl 34 (by decide) (hz (.fieldLink R_Model 67 "LayoutFrontModel" "levels" "[I") zm_355) (fun _ h9 => h9) rfl d_Model_fixity_96 ?_
  refine lv_iload hx hb d_Model_fixity_99 (lv_at hl 0 rfl) ?_
  refine lv_iload hx hb d_Model_fixity_101 (lv_at hl 4 rfl) ?_
  refine xr_iast (j := 0) hx hb hK hP hD hS 2 2 rfl rfl (xr_in (by decide +kernel)) (by decide +kernel) d_Model_fixity_103 (fun H locs hP hD hS => ?_)
  have hP : va_P (dC, dI) vcl [(a1, .inl (k0, 12, .inr (.inl (vp_updL (fun _ => 0) 0 ev)))), (a2, .inl (k1, 12, .inl (upd (fun _ => 0) 0 sdx))), (a3, .inl (k2, 12, .inl (upd (fun _ => 0) 0 lvx))), (a0, .inr (1, [.int 0, .int 0, .ref a4, .int 0, .int (-1), .int 0, .int 0, .ref a5, .ref a6, .ref a7, .ref a8, .ref a9, .int 0, .int 0, .ref a10, .int 0, .int 0, .ref a11, .ref a12, .ref a13, .ref a14, .ref a15, .ref a16, .int 0, .ref a17, .ref a18, .int 0, .int 0, .int 0, .int 0, .int 0, .int 1, .ref a1, .ref a2, .ref a3, .int 0, .int 0, .int 0, .int 0, .int 0, .int 0, .ref a19, .ref a20, .ref a21, .ref a22, .ref a23, .ref a24, .ref a25, .ref a26, .ref a27]))] H := hP
  have hD : va_D A [(a1, .inl (k0, 12, .inr (.inl (vp_updL (fun _ => 0) 0 ev)))), (a2, .inl (k1, 12, .inl (upd (fun _ => 0) 0 sdx))), (a3, .inl (k2, 12, .inl (upd (fun _ => 0) 0 lvx))), (a0, .inr (1, [.int 0, .int 0, .ref a4, .int 0, .int (-1), .int 0, .int 0, .ref a5, .ref a6, .ref a7, .ref a8, .ref a9, .int 0, .int 0, .ref a10, .int 0, .int 0, .ref a11, .ref a12, .ref a13, .ref a14, .ref a15, .ref a16, .int 0, .ref a17, .ref a18, .int 0, .int 0, .int 0, .int 0, .int 0, .int 1, .ref a1, .ref a2, .ref a3, .int 0, .int 0, .int 0, .int 0, .int 0, .int 0, .ref a19, .ref a20, .ref a21, .ref a22, .ref a23, .ref a24, .ref a25, .ref a26, .ref a27]))] := hD
  refine lv_aload_n hx hb d_Model_fixity_104 rfl (lv_at hl 1 rfl) ?_
  refine va_get (D := (dC, dI)) (ci := 1) (v := .int 1) (C := R_Model) (T := F_Model) (N := 50) hx hb hz zu_Model hown hK hP 3 rfl rfl 31 (by decide) (hz (.fieldLink R_Model 113 "LayoutFrontModel" "set" "I") zm_481) (fun _ h9 => h9) rfl d_Model_fixity_105 ?_
  have hP9 := hP.sub (ws' := [(a0, .inr (1, [.int 0, .int 0, .ref a4, .int 0, .int (-1), .int 0, .int 0, .ref a5, .ref a6, .ref a7, .ref a8, .ref a9, .int 0, .int 0, .ref a10, .int 0, .int 0, .ref a11, .ref a12, .ref a13, .ref a14, .ref a15, .ref a16, .int 0, .ref a17, .ref a18, .int 0, .int 0, .int 0, .int 0, .int 0, .int 1, .ref a1, .ref a2, .ref a3, .int 0, .int 0, .int 0, .int 0, .int 0, .int 0, .ref a19, .ref a20, .ref a21, .ref a22, .ref a23, .ref a24, .ref a25, .ref a26, .ref a27])), (a1, .inl (k0, 12, .inr (.inl (vp_updL (fun _ => 0) 0 ev)))), (a2, .inl (k1, 12, .inl (upd (fun _ => 0) 0 sdx))), (a3, .inl (k2, 12, .inl (upd (fun _ => 0) 0 lvx)))]) [3, 0, 1, 2] rfl
  have hD9 := hD.sub (ws' := [(a0, .inr (1, [.int 0, .int 0, .ref a4, .int 0, .int (-1), .int 0, .int 0, .ref a5, .ref a6, .ref a7, .ref a8, .ref a9, .int 0, .int 0, .ref a10, .int 0, .int 0, .ref a11, .ref a12, .ref a13, .ref a14, .ref a15, .ref a16, .int 0, .ref a17, .ref a18, .int 0, .int 0, .int 0, .int 0, .int 0, .int 1, .ref a1, .ref a2, .ref a3, .int 0, .int 0, .int 0, .int 0, .int 0, .int 0, .ref a19, .ref a20, .ref a21, .ref a22, .ref a23, .ref a24, .ref a25, .ref a26, .ref a27])), (a1, .inl (k0, 12, .inr (.inl (vp_updL (fun _ => 0) 0 ev)))), (a2, .inl (k1, 12, .inl (upd (fun _ => 0) 0 sdx))), (a3, .inl (k2, 12, .inl (upd (fun _ => 0) 0 lvx)))]) [3, 0, 1, 2] (by decide) rfl
  have hK9 := hK.sub (tys' := [(k0, .long), (k1, .int), (k2, .int)]) [0, 1, 2] rfl
  exact W.iret (v := 1) hx hb hr (fun t ht hW => ⟨⟨1, (), rfl, rfl, by rw [ht]; exact hP9, va_K.moved hW.alike hK9, hD9⟩, hS.F ht⟩) hS.2.2 d_Model_fixity_108
set_option maxHeartbeats 4000000 in
set_option maxRecDepth 100000 in
theorem c159_Model_within (l : Launch) (dC : Nat → ClassId) (dI : Nat → Nat → Nat) (sz : Nat) (ev : Int64) (sdx : Int32) (lvx : Int32) (g1 : sdx < 0) : Met l y_Model_within w_Model_within ({ frames := 0, cells := 0, slots := 0, locals := 0 }) (va_Pc [.int sdx, .int 0, .int 2] (fun U => U.heap.size = sz ∧ va_P (dC, dI) vcl [] U.heap ∧ va_K (dC, dI) vcl [] U ∧ va_D (fun _ => True) [])) (va_Qi (fun (r : Int32) (_ : Unit) => r = 0) (fun _ t => va_P (dC, dI) vcl [] t.heap ∧ va_K (dC, dI) vcl [] t ∧ va_D (va_A [] sz) []) (va_A [] sz)) 0 0 (va_A [] sz) := by
  refine Met.ofW (cc := b_Model_within) (maxL := 3) (ret := (some .boolean)) (by decide) rfl ?_
  intro p e s m args below meth c s₁ B hml hv
  obtain ⟨rfl, hsz, hP, hK, hD0⟩ := hv
  have hx := B.exec
  have hb := B.bytes
  have hr := B.returns
  have hts := atoms_spec (ws := w_Model_within) B.pre
  have hz : ∀ w ∈ wz, w.before _ s = true := fun w h => hts w (List.mem_cons_of_mem _ h)
  have hown : s.vm.findClass R_Model = some m.cls := findClass_of_methodNamed B.named
  have hlocks := B.notSynchronized
  subst hsz
  have hD := hD0.self (sz := s.heap.size)
  generalize hAe : va_A [] s.heap.size = A at hD ⊢
  have hA : ∀ q : Nat, s.heap.size ≤ q → A q := fun q h => by rw [← hAe]; exact Or.inr h
  have hS : va_S A s.heap s.heap [] := va_S.rf
  have hP : va_P (dC, dI) vcl [] s.heap := hP
  have hl := lv_entry ([.int sdx, .int 0, .int 2]) (n := 3) (Nat.le_of_ble_eq_true rfl)
  rw [lg_entry_eq]
  generalize (lg_sl ([.int sdx, .int 0, .int 2]) ++ List.replicate (3 - (lg_sl ([.int sdx, .int 0, .int 2])).length) Slot.unset).toArray = ls at hl ⊢
  have hl : lv_has ls 3 [(0, .int sdx), (1, .int 0), (2, .int 2)] := hl
  refine lv_iload_n hx hb d_Model_within_0 rfl (lv_at hl 0 rfl) ?_
  refine lv_iload_n hx hb d_Model_within_1 rfl (lv_at hl 1 rfl) ?_
  refine lv_icmp_lt (tgt := 14) hx hb d_Model_within_2 (by decide) (fun _ => ?_) (fun h => (h g1).elim)
  refine lv_iconst (v := 0) hx hb d_Model_within_14 (by decide) ?_
  have hP9 := hP.sub (ws' := []) [] rfl
  have hD9 := hD.sub (ws' := []) [] (by decide) rfl
  have hK9 := hK.sub (tys' := []) [] rfl
  exact W.zret (v := 0) hx hb hr (by decide +kernel) (fun t ht hW => ⟨⟨0, (), rfl, rfl, by rw [ht]; exact hP9, va_K.moved hW.alike hK9, hD9⟩, hS.F ht⟩) hS.2.2 d_Model_within_15
set_option maxHeartbeats 4000000 in
set_option maxRecDepth 100000 in
theorem c160_Model_fixity (l : Launch) (dC : Nat → ClassId) (dI : Nat → Nat → Nat) (sz : Nat) (a0 : Nat) (a1 : Nat) (a2 : Nat) (a3 : Nat) (a4 : Nat) (a5 : Nat) (a6 : Nat) (a7 : Nat) (a8 : Nat) (a9 : Nat) (a10 : Nat) (a11 : Nat) (a12 : Nat) (a13 : Nat) (a14 : Nat) (a15 : Nat) (a16 : Nat) (a17 : Nat) (a18 : Nat) (a19 : Nat) (a20 : Nat) (a21 : Nat) (a22 : Nat) (a23 : Nat) (a24 : Nat) (a25 : Nat) (a26 : Nat) (a27 : Nat) (ev : Int64) (sdx : Int32) (lvx : Int32) (g1 : sdx < 0) : Met l y_Model_fixity w_Model_fixity ({ frames := 1, cells := 0, slots := 0, locals := 22 }) (va_Pc [.ref a0, .long ev, .int sdx, .int lvx] (fun U => U.heap.size = sz ∧ va_P (dC, dI) vcl [(a0, .inr (1, [.int 0, .int 0, .ref a1, .int 0, .int (-1), .int 0, .int 0, .ref a2, .ref a3, .ref a4, .ref a5, .ref a6, .int 0, .int 0, .ref a7, .int 0, .int 0, .ref a8, .ref a9, .ref a10, .ref a11, .ref a12, .ref a13, .int 0, .ref a14, .ref a15, .int 0, .int 0, .int 0, .int 0, .int 0, .int 0, .ref a16, .ref a17, .ref a18, .int 0, .int 0, .int 0, .int 0, .int 0, .int 0, .ref a19, .ref a20, .ref a21, .ref a22, .ref a23, .ref a24, .ref a25, .ref a26, .ref a27]))] U.heap ∧ va_K (dC, dI) vcl [] U ∧ va_D (fun _ => True) [(a0, .inr (1, [.int 0, .int 0, .ref a1, .int 0, .int (-1), .int 0, .int 0, .ref a2, .ref a3, .ref a4, .ref a5, .ref a6, .int 0, .int 0, .ref a7, .int 0, .int 0, .ref a8, .ref a9, .ref a10, .ref a11, .ref a12, .ref a13, .int 0, .ref a14, .ref a15, .int 0, .int 0, .int 0, .int 0, .int 0, .int 0, .ref a16, .ref a17, .ref a18, .int 0, .int 0, .int 0, .int 0, .int 0, .int 0, .ref a19, .ref a20, .ref a21, .ref a22, .ref a23, .ref a24, .ref a25, .ref a26, .ref a27]))])) (va_Qi (fun (r : Int32) (_ : Unit) => r = 0) (fun _ t => va_P (dC, dI) vcl [(a0, .inr (1, [.int 1, .int 0, .ref a1, .int 0, .int (-1), .int 0, .int 0, .ref a2, .ref a3, .ref a4, .ref a5, .ref a6, .int 0, .int 0, .ref a7, .int 0, .int 0, .ref a8, .ref a9, .ref a10, .ref a11, .ref a12, .ref a13, .int 0, .ref a14, .ref a15, .int 0, .int 0, .int 0, .int 0, .int 0, .int 0, .ref a16, .ref a17, .ref a18, .int 0, .int 0, .int 0, .int 0, .int 0, .int 0, .ref a19, .ref a20, .ref a21, .ref a22, .ref a23, .ref a24, .ref a25, .ref a26, .ref a27]))] t.heap ∧ va_K (dC, dI) vcl [] t ∧ va_D (va_A [(a0, .inr (1, [.int 0, .int 0, .ref a1, .int 0, .int (-1), .int 0, .int 0, .ref a2, .ref a3, .ref a4, .ref a5, .ref a6, .int 0, .int 0, .ref a7, .int 0, .int 0, .ref a8, .ref a9, .ref a10, .ref a11, .ref a12, .ref a13, .int 0, .ref a14, .ref a15, .int 0, .int 0, .int 0, .int 0, .int 0, .int 0, .ref a16, .ref a17, .ref a18, .int 0, .int 0, .int 0, .int 0, .int 0, .int 0, .ref a19, .ref a20, .ref a21, .ref a22, .ref a23, .ref a24, .ref a25, .ref a26, .ref a27]))] sz) [(a0, .inr (1, [.int 1, .int 0, .ref a1, .int 0, .int (-1), .int 0, .int 0, .ref a2, .ref a3, .ref a4, .ref a5, .ref a6, .int 0, .int 0, .ref a7, .int 0, .int 0, .ref a8, .ref a9, .ref a10, .ref a11, .ref a12, .ref a13, .int 0, .ref a14, .ref a15, .int 0, .int 0, .int 0, .int 0, .int 0, .int 0, .ref a16, .ref a17, .ref a18, .int 0, .int 0, .int 0, .int 0, .int 0, .int 0, .ref a19, .ref a20, .ref a21, .ref a22, .ref a23, .ref a24, .ref a25, .ref a26, .ref a27]))]) (va_A [(a0, .inr (1, [.int 0, .int 0, .ref a1, .int 0, .int (-1), .int 0, .int 0, .ref a2, .ref a3, .ref a4, .ref a5, .ref a6, .int 0, .int 0, .ref a7, .int 0, .int 0, .ref a8, .ref a9, .ref a10, .ref a11, .ref a12, .ref a13, .int 0, .ref a14, .ref a15, .int 0, .int 0, .int 0, .int 0, .int 0, .int 0, .ref a16, .ref a17, .ref a18, .int 0, .int 0, .int 0, .int 0, .int 0, .int 0, .ref a19, .ref a20, .ref a21, .ref a22, .ref a23, .ref a24, .ref a25, .ref a26, .ref a27]))] sz)) 0 0 (va_A [(a0, .inr (1, [.int 0, .int 0, .ref a1, .int 0, .int (-1), .int 0, .int 0, .ref a2, .ref a3, .ref a4, .ref a5, .ref a6, .int 0, .int 0, .ref a7, .int 0, .int 0, .ref a8, .ref a9, .ref a10, .ref a11, .ref a12, .ref a13, .int 0, .ref a14, .ref a15, .int 0, .int 0, .int 0, .int 0, .int 0, .int 0, .ref a16, .ref a17, .ref a18, .int 0, .int 0, .int 0, .int 0, .int 0, .int 0, .ref a19, .ref a20, .ref a21, .ref a22, .ref a23, .ref a24, .ref a25, .ref a26, .ref a27]))] sz) := by
  refine Met.ofW (cc := b_Model_fixity) (maxL := 6) (ret := (some .int)) (by decide) rfl ?_
  intro p e s m args below meth c s₁ B hml hv
  obtain ⟨rfl, hsz, hP, hK, hD0⟩ := hv
  have hx := B.exec
  have hb := B.bytes
  have hr := B.returns
  have hts := atoms_spec (ws := w_Model_fixity) B.pre
  have hz : ∀ w ∈ wz, w.before _ s = true := fun w h => hts w (List.mem_cons_of_mem _ h)
  have hown : s.vm.findClass R_Model = some m.cls := findClass_of_methodNamed B.named
  have hlocks := B.notSynchronized
  subst hsz
  have hD := hD0.self (sz := s.heap.size)
  generalize hAe : va_A [(a0, .inr (1, [.int 0, .int 0, .ref a1, .int 0, .int (-1), .int 0, .int 0, .ref a2, .ref a3, .ref a4, .ref a5, .ref a6, .int 0, .int 0, .ref a7, .int 0, .int 0, .ref a8, .ref a9, .ref a10, .ref a11, .ref a12, .ref a13, .int 0, .ref a14, .ref a15, .int 0, .int 0, .int 0, .int 0, .int 0, .int 0, .ref a16, .ref a17, .ref a18, .int 0, .int 0, .int 0, .int 0, .int 0, .int 0, .ref a19, .ref a20, .ref a21, .ref a22, .ref a23, .ref a24, .ref a25, .ref a26, .ref a27]))] s.heap.size = A at hD ⊢
  have hA : ∀ q : Nat, s.heap.size ≤ q → A q := fun q h => by rw [← hAe]; exact Or.inr h
  have hS : va_S A s.heap s.heap [] := va_S.rf
  have hP : va_P (dC, dI) vcl [(a0, .inr (1, [.int 0, .int 0, .ref a1, .int 0, .int (-1), .int 0, .int 0, .ref a2, .ref a3, .ref a4, .ref a5, .ref a6, .int 0, .int 0, .ref a7, .int 0, .int 0, .ref a8, .ref a9, .ref a10, .ref a11, .ref a12, .ref a13, .int 0, .ref a14, .ref a15, .int 0, .int 0, .int 0, .int 0, .int 0, .int 0, .ref a16, .ref a17, .ref a18, .int 0, .int 0, .int 0, .int 0, .int 0, .int 0, .ref a19, .ref a20, .ref a21, .ref a22, .ref a23, .ref a24, .ref a25, .ref a26, .ref a27]))] s.heap := hP
  have hl := lv_entry ([.ref a0, .long ev, .int sdx, .int lvx]) (n := 6) (Nat.le_of_ble_eq_true rfl)
  rw [lg_entry_eq]
  generalize (lg_sl ([.ref a0, .long ev, .int sdx, .int lvx]) ++ List.replicate (6 - (lg_sl ([.ref a0, .long ev, .int sdx, .int lvx])).length) Slot.unset).toArray = ls at hl ⊢
  have hl : lv_has ls 6 [(0, .ref a0), (1, .long ev), (3, .int sdx), (4, .int lvx)] := hl
  refine lv_aload_n hx hb d_Model_fixity_0 rfl (lv_at hl 0 rfl) ?_
  refine lv_iconst (v := 0) hx hb d_Model_fixity_1 (by decide) ?_
  refine va_put (D := (dC, dI)) (ci := 1) (v := .int 0) (ty := .int) (C := R_Model) (T := F_Model) (N := 50) hx hb hz zu_Model t_Model t_Model_ok n_Model hown hK hP hD hS 0 rfl rfl 0 (by decide) (hz (.fieldLink R_Model 97 "LayoutFrontModel" "thrown" "I") zm_415) (fun _ h9 => h9) rfl (by decide +kernel) rfl rfl (Nat.le_of_ble_eq_true rfl) d_Model_fixity_2 (fun H locs hP hD hS => ?_)
  have hP : va_P (dC, dI) vcl [(a0, .inr (1, [.int 0, .int 0, .ref a1, .int 0, .int (-1), .int 0, .int 0, .ref a2, .ref a3, .ref a4, .ref a5, .ref a6, .int 0, .int 0, .ref a7, .int 0, .int 0, .ref a8, .ref a9, .ref a10, .ref a11, .ref a12, .ref a13, .int 0, .ref a14, .ref a15, .int 0, .int 0, .int 0, .int 0, .int 0, .int 0, .ref a16, .ref a17, .ref a18, .int 0, .int 0, .int 0, .int 0, .int 0, .int 0, .ref a19, .ref a20, .ref a21, .ref a22, .ref a23, .ref a24, .ref a25, .ref a26, .ref a27]))] H := hP
  have hD : va_D A [(a0, .inr (1, [.int 0, .int 0, .ref a1, .int 0, .int (-1), .int 0, .int 0, .ref a2, .ref a3, .ref a4, .ref a5, .ref a6, .int 0, .int 0, .ref a7, .int 0, .int 0, .ref a8, .ref a9, .ref a10, .ref a11, .ref a12, .ref a13, .int 0, .ref a14, .ref a15, .int 0, .int 0, .int 0, .int 0, .int 0, .int 0, .ref a16, .ref a17, .ref a18, .int 0, .int 0, .int 0, .int 0, .int 0, .int 0, .ref a19, .ref a20, .ref a21, .ref a22, .ref a23, .ref a24, .ref a25, .ref a26, .ref a27]))] := hD
  refine lv_iload_n hx hb d_Model_fixity_5 rfl (lv_at hl 2 rfl) ?_
  refine lv_iconst (v := 0) hx hb d_Model_fixity_6 (by decide) ?_
  refine lv_iconst (v := 2) hx hb d_Model_fixity_7 (by decide) ?_
  have hPc := hP.sub (ws' := []) [] rfl
  have hDc := hD.sub (ws' := []) [] (by decide) rfl
  have hKc := hK.sub (tys' := []) [] rfl
  have hFc := va_free (wc := []) hD hS hA [] rfl
  refine va_calli (va_runS (As := [.int sdx, .int 0, .int 2]) (rest := []) ⟨hx, hb, hml, hown, hz⟩ (c159_Model_within l dC dI H.size ev sdx lvx g1) (cwS 3 hz (zS zm_449 zm_450 zm_374 zm_451) rfl rfl rfl (by decide +kernel) ⟨Nat.le_of_ble_eq_true rfl, Nat.le_of_ble_eq_true rfl⟩) ⟨fun a U g mk q => by obtain ⟨q0, q1, qP, qK, qD⟩ := q; exact ⟨q0, q1, qP, va_K.moved (u := U) (U := U.calling g mk a) (Vm.Alike.refl U.vm) qK, qD⟩, fun U hU hW => ⟨rfl, by rw [hU], by rw [hU]; exact hPc, va_K.moved hW.alike hKc, hDc.weaken (fun _ _ _ _ => trivial)⟩⟩ rfl rfl hl.1 rfl (lv_room (Nat.le_of_ble_eq_true rfl)) d_Model_fixity_8 ⟨by decide, by decide⟩) hS (fun q _ h => hFc q h) hFc (fun r u t H1 locs ht hvm hw hB hz1 hk1 hS => ?_)
  obtain ⟨hP1, hK1, hD1⟩ := hB
  subst r
  rw [ht] at hP1
  obtain ⟨hP, hD⟩ := va_join (wr := [(a0, .inr (1, [.int 0, .int 0, .ref a1, .int 0, .int (-1), .int 0, .int 0, .ref a2, .ref a3, .ref a4, .ref a5, .ref a6, .int 0, .int 0, .ref a7, .int 0, .int 0, .ref a8, .ref a9, .ref a10, .ref a11, .ref a12, .ref a13, .int 0, .ref a14, .ref a15, .int 0, .int 0, .int 0, .int 0, .int 0, .int 0, .ref a16, .ref a17, .ref a18, .int 0, .int 0, .int 0, .int 0, .int 0, .int 0, .ref a19, .ref a20, .ref a21, .ref a22, .ref a23, .ref a24, .ref a25, .ref a26, .ref a27]))]) (w1 := []) hP hD [] [0] rfl rfl (by decide) (by decide) hk1 hFc hP1 hD1
  generalize H1 = H at hP hS ⊢
  have hP : va_P (dC, dI) vcl [(a0, .inr (1, [.int 0, .int 0, .ref a1, .int 0, .int (-1), .int 0, .int 0, .ref a2, .ref a3, .ref a4, .ref a5, .ref a6, .int 0, .int 0, .ref a7, .int 0, .int 0, .ref a8, .ref a9, .ref a10, .ref a11, .ref a12, .ref a13, .int 0, .ref a14, .ref a15, .int 0, .int 0, .int 0, .int 0, .int 0, .int 0, .ref a16, .ref a17, .ref a18, .int 0, .int 0, .int 0, .int 0, .int 0, .int 0, .ref a19, .ref a20, .ref a21, .ref a22, .ref a23, .ref a24, .ref a25, .ref a26, .ref a27]))] H := hP
  have hD : va_D A [(a0, .inr (1, [.int 0, .int 0, .ref a1, .int 0, .int (-1), .int 0, .int 0, .ref a2, .ref a3, .ref a4, .ref a5, .ref a6, .int 0, .int 0, .ref a7, .int 0, .int 0, .ref a8, .ref a9, .ref a10, .ref a11, .ref a12, .ref a13, .int 0, .ref a14, .ref a15, .int 0, .int 0, .int 0, .int 0, .int 0, .int 0, .ref a16, .ref a17, .ref a18, .int 0, .int 0, .int 0, .int 0, .int 0, .int 0, .ref a19, .ref a20, .ref a21, .ref a22, .ref a23, .ref a24, .ref a25, .ref a26, .ref a27]))] := hD
  refine lv_if_eq (tgt := 25) hx hb d_Model_fixity_11 (by decide) (fun _ => ?_) (fun h => (h (by decide +kernel)).elim)
  refine lv_aload_n hx hb d_Model_fixity_25 rfl (lv_at hl 0 rfl) ?_
  refine lv_iconst (v := 1) hx hb d_Model_fixity_26 (by decide) ?_
  have hPc := hP.sub (ws' := [(a0, .inr (1, [.int 0, .int 0, .ref a1, .int 0, .int (-1), .int 0, .int 0, .ref a2, .ref a3, .ref a4, .ref a5, .ref a6, .int 0, .int 0, .ref a7, .int 0, .int 0, .ref a8, .ref a9, .ref a10, .ref a11, .ref a12, .ref a13, .int 0, .ref a14, .ref a15, .int 0, .int 0, .int 0, .int 0, .int 0, .int 0, .ref a16, .ref a17, .ref a18, .int 0, .int 0, .int 0, .int 0, .int 0, .int 0, .ref a19, .ref a20, .ref a21, .ref a22, .ref a23, .ref a24, .ref a25, .ref a26, .ref a27]))]) [0] rfl
  have hDc := hD.sub (ws' := [(a0, .inr (1, [.int 0, .int 0, .ref a1, .int 0, .int (-1), .int 0, .int 0, .ref a2, .ref a3, .ref a4, .ref a5, .ref a6, .int 0, .int 0, .ref a7, .int 0, .int 0, .ref a8, .ref a9, .ref a10, .ref a11, .ref a12, .ref a13, .int 0, .ref a14, .ref a15, .int 0, .int 0, .int 0, .int 0, .int 0, .int 0, .ref a16, .ref a17, .ref a18, .int 0, .int 0, .int 0, .int 0, .int 0, .int 0, .ref a19, .ref a20, .ref a21, .ref a22, .ref a23, .ref a24, .ref a25, .ref a26, .ref a27]))]) [0] (by decide) rfl
  have hKc := hK.sub (tys' := []) [] rfl
  have hFc := va_free (wc := [(a0, .inr (1, [.int 0, .int 0, .ref a1, .int 0, .int (-1), .int 0, .int 0, .ref a2, .ref a3, .ref a4, .ref a5, .ref a6, .int 0, .int 0, .ref a7, .int 0, .int 0, .ref a8, .ref a9, .ref a10, .ref a11, .ref a12, .ref a13, .int 0, .ref a14, .ref a15, .int 0, .int 0, .int 0, .int 0, .int 0, .int 0, .ref a16, .ref a17, .ref a18, .int 0, .int 0, .int 0, .int 0, .int 0, .int 0, .ref a19, .ref a20, .ref a21, .ref a22, .ref a23, .ref a24, .ref a25, .ref a26, .ref a27]))]) hD hS hA [0] rfl
  refine va_calli (va_runV (As := [.int 1]) (rest := []) ⟨hx, hb, hml, hown, hz⟩ (c139_Model_fail l dC dI H.size a0 a1 a2 a3 a4 a5 a6 a7 a8 a9 a10 a11 a12 a13 a14 a15 a16 a17 a18 a19 a20 a21 a22 a23 a24 a25 a26 a27) (cwV 1 hz (zV zm_452 zm_453 zm_454 zm_374 zm_455) rfl rfl rfl (by decide +kernel) ⟨Nat.le_of_ble_eq_true rfl, Nat.le_of_ble_eq_true rfl⟩) ⟨fun a U g mk q => by obtain ⟨q0, q1, qP, qK, qD⟩ := q; exact ⟨q0, q1, qP, va_K.moved (u := U) (U := U.calling g mk a) (Vm.Alike.refl U.vm) qK, qD⟩, va_recv (q := (R_Model, F_Model, 50)) (q0 := 0) (ci := 1) hK hP rfl rfl, fun U hU hW => ⟨rfl, by rw [hU], by rw [hU]; exact hPc, va_K.moved hW.alike hKc, hDc.weaken (fun _ _ _ _ => trivial)⟩⟩ rfl rfl hl.1 rfl (lv_room (Nat.le_of_ble_eq_true rfl)) d_Model_fixity_27 ⟨by decide, by decide⟩) hS (fun q _ h => hFc q h) hFc (fun r u t H1 locs ht hvm hw hB hz1 hk1 hS => ?_)
  obtain ⟨hP1, hK1, hD1⟩ := hB
  subst r
  rw [ht] at hP1
  obtain ⟨hP, hD⟩ := va_join (wr := []) (w1 := [(a0, .inr (1, [.int 1, .int 0, .ref a1, .int 0, .int (-1), .int 0, .int 0, .ref a2, .ref a3, .ref a4, .ref a5, .ref a6, .int 0, .int 0, .ref a7, .int 0, .int 0, .ref a8, .ref a9, .ref a10, .ref a11, .ref a12, .ref a13, .int 0, .ref a14, .ref a15, .int 0, .int 0, .int 0, .int 0, .int 0, .int 0, .ref a16, .ref a17, .ref a18, .int 0, .int 0, .int 0, .int 0, .int 0, .int 0, .ref a19, .ref a20, .ref a21, .ref a22, .ref a23, .ref a24, .ref a25, .ref a26, .ref a27]))]) hP hD [0] [] rfl rfl (by decide) (by decide) hk1 hFc hP1 hD1
  generalize H1 = H at hP hS ⊢
  have hP : va_P (dC, dI) vcl [(a0, .inr (1, [.int 1, .int 0, .ref a1, .int 0, .int (-1), .int 0, .int 0, .ref a2, .ref a3, .ref a4, .ref a5, .ref a6, .int 0, .int 0, .ref a7, .int 0, .int 0, .ref a8, .ref a9, .ref a10, .ref a11, .ref a12, .ref a13, .int 0, .ref a14, .ref a15, .int 0, .int 0, .int 0, .int 0, .int 0, .int 0, .ref a16, .ref a17, .ref a18, .int 0, .int 0, .int 0, .int 0, .int 0, .int 0, .ref a19, .ref a20, .ref a21, .ref a22, .ref a23, .ref a24, .ref a25, .ref a26, .ref a27]))] H := hP
  have hD : va_D A [(a0, .inr (1, [.int 1, .int 0, .ref a1, .int 0, .int (-1), .int 0, .int 0, .ref a2, .ref a3, .ref a4, .ref a5, .ref a6, .int 0, .int 0, .ref a7, .int 0, .int 0, .ref a8, .ref a9, .ref a10, .ref a11, .ref a12, .ref a13, .int 0, .ref a14, .ref a15, .int 0, .int 0, .int 0, .int 0, .int 0, .int 0, .ref a16, .ref a17, .ref a18, .int 0, .int 0, .int 0, .int 0, .int 0, .int 0, .ref a19, .ref a20, .ref a21, .ref a22, .ref a23, .ref a24, .ref a25, .ref a26, .ref a27]))] := hD
  have hP9 := hP.sub (ws' := [(a0, .inr (1, [.int 1, .int 0, .ref a1, .int 0, .int (-1), .int 0, .int 0, .ref a2, .ref a3, .ref a4, .ref a5, .ref a6, .int 0, .int 0, .ref a7, .int 0, .int 0, .ref a8, .ref a9, .ref a10, .ref a11, .ref a12, .ref a13, .int 0, .ref a14, .ref a15, .int 0, .int 0, .int 0, .int 0, .int 0, .int 0, .ref a16, .ref a17, .ref a18, .int 0, .int 0, .int 0, .int 0, .int 0, .int 0, .ref a19, .ref a20, .ref a21, .ref a22, .ref a23, .ref a24, .ref a25, .ref a26, .ref a27]))]) [0] rfl
  have hD9 := hD.sub (ws' := [(a0, .inr (1, [.int 1, .int 0, .ref a1, .int 0, .int (-1), .int 0, .int 0, .ref a2, .ref a3, .ref a4, .ref a5, .ref a6, .int 0, .int 0, .ref a7, .int 0, .int 0, .ref a8, .ref a9, .ref a10, .ref a11, .ref a12, .ref a13, .int 0, .ref a14, .ref a15, .int 0, .int 0, .int 0, .int 0, .int 0, .int 0, .ref a16, .ref a17, .ref a18, .int 0, .int 0, .int 0, .int 0, .int 0, .int 0, .ref a19, .ref a20, .ref a21, .ref a22, .ref a23, .ref a24, .ref a25, .ref a26, .ref a27]))]) [0] (by decide) rfl
  have hK9 := hK.sub (tys' := []) [] rfl
  exact W.iret (v := 0) hx hb hr (fun t ht hW => ⟨⟨0, (), rfl, rfl, by rw [ht]; exact hP9, va_K.moved hW.alike hK9, hD9⟩, hS.F ht⟩) hS.2.2 d_Model_fixity_30
set_option maxHeartbeats 4000000 in
set_option maxRecDepth 100000 in
theorem c161_Model_within (l : Launch) (dC : Nat → ClassId) (dI : Nat → Nat → Nat) (sz : Nat) (ev : Int64) (sdx : Int32) (lvx : Int32) (g1 : ¬ sdx < 0) (g2 : 2 < sdx) : Met l y_Model_within w_Model_within ({ frames := 0, cells := 0, slots := 0, locals := 0 }) (va_Pc [.int sdx, .int 0, .int 2] (fun U => U.heap.size = sz ∧ va_P (dC, dI) vcl [] U.heap ∧ va_K (dC, dI) vcl [] U ∧ va_D (fun _ => True) [])) (va_Qi (fun (r : Int32) (_ : Unit) => r = 0) (fun _ t => va_P (dC, dI) vcl [] t.heap ∧ va_K (dC, dI) vcl [] t ∧ va_D (va_A [] sz) []) (va_A [] sz)) 0 0 (va_A [] sz) := by
  refine Met.ofW (cc := b_Model_within) (maxL := 3) (ret := (some .boolean)) (by decide) rfl ?_
  intro p e s m args below meth c s₁ B hml hv
  obtain ⟨rfl, hsz, hP, hK, hD0⟩ := hv
  have hx := B.exec
  have hb := B.bytes
  have hr := B.returns
  have hts := atoms_spec (ws := w_Model_within) B.pre
  have hz : ∀ w ∈ wz, w.before _ s = true := fun w h => hts w (List.mem_cons_of_mem _ h)
  have hown : s.vm.findClass R_Model = some m.cls := findClass_of_methodNamed B.named
  have hlocks := B.notSynchronized
  subst hsz
  have hD := hD0.self (sz := s.heap.size)
  generalize hAe : va_A [] s.heap.size = A at hD ⊢
  have hA : ∀ q : Nat, s.heap.size ≤ q → A q := fun q h => by rw [← hAe]; exact Or.inr h
  have hS : va_S A s.heap s.heap [] := va_S.rf
  have hP : va_P (dC, dI) vcl [] s.heap := hP
  have hl := lv_entry ([.int sdx, .int 0, .int 2]) (n := 3) (Nat.le_of_ble_eq_true rfl)
  rw [lg_entry_eq]
  generalize (lg_sl ([.int sdx, .int 0, .int 2]) ++ List.replicate (3 - (lg_sl ([.int sdx, .int 0, .int 2])).length) Slot.unset).toArray = ls at hl ⊢
  have hl : lv_has ls 3 [(0, .int sdx), (1, .int 0), (2, .int 2)] := hl
  refine lv_iload_n hx hb d_Model_within_0 rfl (lv_at hl 0 rfl) ?_
  refine lv_iload_n hx hb d_Model_within_1 rfl (lv_at hl 1 rfl) ?_
  refine lv_icmp_lt (tgt := 14) hx hb d_Model_within_2 (by decide) (fun h => absurd h g1) (fun _ => ?_)
  refine lv_iload_n hx hb d_Model_within_5 rfl (lv_at hl 0 rfl) ?_
  refine lv_iload_n hx hb d_Model_within_6 rfl (lv_at hl 2 rfl) ?_
  refine lv_icmp_gt (tgt := 14) hx hb d_Model_within_7 (by decide) (fun _ => ?_) (fun h => (h g2).elim)
  refine lv_iconst (v := 0) hx hb d_Model_within_14 (by decide) ?_
  have hP9 := hP.sub (ws' := []) [] rfl
  have hD9 := hD.sub (ws' := []) [] (by decide) rfl
  have hK9 := hK.sub (tys' := []) [] rfl
  exact W.zret (v := 0) hx hb hr (by decide +kernel) (fun t ht hW => ⟨⟨0, (), rfl, rfl, by rw [ht]; exact hP9, va_K.moved hW.alike hK9, hD9⟩, hS.F ht⟩) hS.2.2 d_Model_within_15
set_option maxHeartbeats 4000000 in
set_option maxRecDepth 100000 in
theorem c162_Model_fixity (l : Launch) (dC : Nat → ClassId) (dI : Nat → Nat → Nat) (sz : Nat) (a0 : Nat) (a1 : Nat) (a2 : Nat) (a3 : Nat) (a4 : Nat) (a5 : Nat) (a6 : Nat) (a7 : Nat) (a8 : Nat) (a9 : Nat) (a10 : Nat) (a11 : Nat) (a12 : Nat) (a13 : Nat) (a14 : Nat) (a15 : Nat) (a16 : Nat) (a17 : Nat) (a18 : Nat) (a19 : Nat) (a20 : Nat) (a21 : Nat) (a22 : Nat) (a23 : Nat) (a24 : Nat) (a25 : Nat) (a26 : Nat) (a27 : Nat) (ev : Int64) (sdx : Int32) (lvx : Int32) (g1 : ¬ sdx < 0) (g2 : 2 < sdx) : Met l y_Model_fixity w_Model_fixity ({ frames := 1, cells := 0, slots := 0, locals := 22 }) (va_Pc [.ref a0, .long ev, .int sdx, .int lvx] (fun U => U.heap.size = sz ∧ va_P (dC, dI) vcl [(a0, .inr (1, [.int 0, .int 0, .ref a1, .int 0, .int (-1), .int 0, .int 0, .ref a2, .ref a3, .ref a4, .ref a5, .ref a6, .int 0, .int 0, .ref a7, .int 0, .int 0, .ref a8, .ref a9, .ref a10, .ref a11, .ref a12, .ref a13, .int 0, .ref a14, .ref a15, .int 0, .int 0, .int 0, .int 0, .int 0, .int 0, .ref a16, .ref a17, .ref a18, .int 0, .int 0, .int 0, .int 0, .int 0, .int 0, .ref a19, .ref a20, .ref a21, .ref a22, .ref a23, .ref a24, .ref a25, .ref a26, .ref a27]))] U.heap ∧ va_K (dC, dI) vcl [] U ∧ va_D (fun _ => True) [(a0, .inr (1, [.int 0, .int 0, .ref a1, .int 0, .int (-1), .int 0, .int 0, .ref a2, .ref a3, .ref a4, .ref a5, .ref a6, .int 0, .int 0, .ref a7, .int 0, .int 0, .ref a8, .ref a9, .ref a10, .ref a11, .ref a12, .ref a13, .int 0, .ref a14, .ref a15, .int 0, .int 0, .int 0, .int 0, .int 0, .int 0, .ref a16, .ref a17, .ref a18, .int 0, .int 0, .int 0, .int 0, .int 0, .int 0, .ref a19, .ref a20, .ref a21, .ref a22, .ref a23, .ref a24, .ref a25, .ref a26, .ref a27]))])) (va_Qi (fun (r : Int32) (_ : Unit) => r = 0) (fun _ t => va_P (dC, dI) vcl [(a0, .inr (1, [.int 1, .int 0, .ref a1, .int 0, .int (-1), .int 0, .int 0, .ref a2, .ref a3, .ref a4, .ref a5, .ref a6, .int 0, .int 0, .ref a7, .int 0, .int 0, .ref a8, .ref a9, .ref a10, .ref a11, .ref a12, .ref a13, .int 0, .ref a14, .ref a15, .int 0, .int 0, .int 0, .int 0, .int 0, .int 0, .ref a16, .ref a17, .ref a18, .int 0, .int 0, .int 0, .int 0, .int 0, .int 0, .ref a19, .ref a20, .ref a21, .ref a22, .ref a23, .ref a24, .ref a25, .ref a26, .ref a27]))] t.heap ∧ va_K (dC, dI) vcl [] t ∧ va_D (va_A [(a0, .inr (1, [.int 0, .int 0, .ref a1, .int 0, .int (-1), .int 0, .int 0, .ref a2, .ref a3, .ref a4, .ref a5, .ref a6, .int 0, .int 0, .ref a7, .int 0, .int 0, .ref a8, .ref a9, .ref a10, .ref a11, .ref a12, .ref a13, .int 0, .ref a14, .ref a15, .int 0, .int 0, .int 0, .int 0, .int 0, .int 0, .ref a16, .ref a17, .ref a18, .int 0, .int 0, .int 0, .int 0, .int 0, .int 0, .ref a19, .ref a20, .ref a21, .ref a22, .ref a23, .ref a24, .ref a25, .ref a26, .ref a27]))] sz) [(a0, .inr (1, [.int 1, .int 0, .ref a1, .int 0, .int (-1), .int 0, .int 0, .ref a2, .ref a3, .ref a4, .ref a5, .ref a6, .int 0, .int 0, .ref a7, .int 0, .int 0, .ref a8, .ref a9, .ref a10, .ref a11, .ref a12, .ref a13, .int 0, .ref a14, .ref a15, .int 0, .int 0, .int 0, .int 0, .int 0, .int 0, .ref a16, .ref a17, .ref a18, .int 0, .int 0, .int 0, .int 0, .int 0, .int 0, .ref a19, .ref a20, .ref a21, .ref a22, .ref a23, .ref a24, .ref a25, .ref a26, .ref a27]))]) (va_A [(a0, .inr (1, [.int 0, .int 0, .ref a1, .int 0, .int (-1), .int 0, .int 0, .ref a2, .ref a3, .ref a4, .ref a5, .ref a6, .int 0, .int 0, .ref a7, .int 0, .int 0, .ref a8, .ref a9, .ref a10, .ref a11, .ref a12, .ref a13, .int 0, .ref a14, .ref a15, .int 0, .int 0, .int 0, .int 0, .int 0, .int 0, .ref a16, .ref a17, .ref a18, .int 0, .int 0, .int 0, .int 0, .int 0, .int 0, .ref a19, .ref a20, .ref a21, .ref a22, .ref a23, .ref a24, .ref a25, .ref a26, .ref a27]))] sz)) 0 0 (va_A [(a0, .inr (1, [.int 0, .int 0, .ref a1, .int 0, .int (-1), .int 0, .int 0, .ref a2, .ref a3, .ref a4, .ref a5, .ref a6, .int 0, .int 0, .ref a7, .int 0, .int 0, .ref a8, .ref a9, .ref a10, .ref a11, .ref a12, .ref a13, .int 0, .ref a14, .ref a15, .int 0, .int 0, .int 0, .int 0, .int 0, .int 0, .ref a16, .ref a17, .ref a18, .int 0, .int 0, .int 0, .int 0, .int 0, .int 0, .ref a19, .ref a20, .ref a21, .ref a22, .ref a23, .ref a24, .ref a25, .ref a26, .ref a27]))] sz) := by
  refine Met.ofW (cc := b_Model_fixity) (maxL := 6) (ret := (some .int)) (by decide) rfl ?_
  intro p e s m args below meth c s₁ B hml hv
  obtain ⟨rfl, hsz, hP, hK, hD0⟩ := hv
  have hx := B.exec
  have hb := B.bytes
  have hr := B.returns
  have hts := atoms_spec (ws := w_Model_fixity) B.pre
  have hz : ∀ w ∈ wz, w.before _ s = true := fun w h => hts w (List.mem_cons_of_mem _ h)
  have hown : s.vm.findClass R_Model = some m.cls := findClass_of_methodNamed B.named
  have hlocks := B.notSynchronized
  subst hsz
  have hD := hD0.self (sz := s.heap.size)
  generalize hAe : va_A [(a0, .inr (1, [.int 0, .int 0, .ref a1, .int 0, .int (-1), .int 0, .int 0, .ref a2, .ref a3, .ref a4, .ref a5, .ref a6, .int 0, .int 0, .ref a7, .int 0, .int 0, .ref a8, .ref a9, .ref a10, .ref a11, .ref a12, .ref a13, .int 0, .ref a14, .ref a15, .int 0, .int 0, .int 0, .int 0, .int 0, .int 0, .ref a16, .ref a17, .ref a18, .int 0, .int 0, .int 0, .int 0, .int 0, .int 0, .ref a19, .ref a20, .ref a21, .ref a22, .ref a23, .ref a24, .ref a25, .ref a26, .ref a27]))] s.heap.size = A at hD ⊢
  have hA : ∀ q : Nat, s.heap.size ≤ q → A q := fun q h => by rw [← hAe]; exact Or.inr h
  have hS : va_S A s.heap s.heap [] := va_S.rf
  have hP : va_P (dC, dI) vcl [(a0, .inr (1, [.int 0, .int 0, .ref a1, .int 0, .int (-1), .int 0, .int 0, .ref a2, .ref a3, .ref a4, .ref a5, .ref a6, .int 0, .int 0, .ref a7, .int 0, .int 0, .ref a8, .ref a9, .ref a10, .ref a11, .ref a12, .ref a13, .int 0, .ref a14, .ref a15, .int 0, .int 0, .int 0, .int 0, .int 0, .int 0, .ref a16, .ref a17, .ref a18, .int 0, .int 0, .int 0, .int 0, .int 0, .int 0, .ref a19, .ref a20, .ref a21, .ref a22, .ref a23, .ref a24, .ref a25, .ref a26, .ref a27]))] s.heap := hP
  have hl := lv_entry ([.ref a0, .long ev, .int sdx, .int lvx]) (n := 6) (Nat.le_of_ble_eq_true rfl)
  rw [lg_entry_eq]
  generalize (lg_sl ([.ref a0, .long ev, .int sdx, .int lvx]) ++ List.replicate (6 - (lg_sl ([.ref a0, .long ev, .int sdx, .int lvx])).length) Slot.unset).toArray = ls at hl ⊢
  have hl : lv_has ls 6 [(0, .ref a0), (1, .long ev), (3, .int sdx), (4, .int lvx)] := hl
  refine lv_aload_n hx hb d_Model_fixity_0 rfl (lv_at hl 0 rfl) ?_
  refine lv_iconst (v := 0) hx hb d_Model_fixity_1 (by decide) ?_
  refine va_put (D := (dC, dI)) (ci := 1) (v := .int 0) (ty := .int) (C := R_Model) (T := F_Model) (N := 50) hx hb hz zu_Model t_Model t_Model_ok n_Model hown hK hP hD hS 0 rfl rfl 0 (by decide) (hz (.fieldLink R_Model 97 "LayoutFrontModel" "thrown" "I") zm_415) (fun _ h9 => h9) rfl (by decide +kernel) rfl rfl (Nat.le_of_ble_eq_true rfl) d_Model_fixity_2 (fun H locs hP hD hS => ?_)
  have hP : va_P (dC, dI) vcl [(a0, .inr (1, [.int 0, .int 0, .ref a1, .int 0, .int (-1), .int 0, .int 0, .ref a2, .ref a3, .ref a4, .ref a5, .ref a6, .int 0, .int 0, .ref a7, .int 0, .int 0, .ref a8, .ref a9, .ref a10, .ref a11, .ref a12, .ref a13, .int 0, .ref a14, .ref a15, .int 0, .int 0, .int 0, .int 0, .int 0, .int 0, .ref a16, .ref a17, .ref a18, .int 0, .int 0, .int 0, .int 0, .int 0, .int 0, .ref a19, .ref a20, .ref a21, .ref a22, .ref a23, .ref a24, .ref a25, .ref a26, .ref a27]))] H := hP
  have hD : va_D A [(a0, .inr (1, [.int 0, .int 0, .ref a1, .int 0, .int (-1), .int 0, .int 0, .ref a2, .ref a3, .ref a4, .ref a5, .ref a6, .int 0, .int 0, .ref a7, .int 0, .int 0, .ref a8, .ref a9, .ref a10, .ref a11, .ref a12, .ref a13, .int 0, .ref a14, .ref a15, .int 0, .int 0, .int 0, .int 0, .int 0, .int 0, .ref a16, .ref a17, .ref a18, .int 0, .int 0, .int 0, .int 0, .int 0, .int 0, .ref a19, .ref a20, .ref a21, .ref a22, .ref a23, .ref a24, .ref a25, .ref a26, .ref a27]))] := hD
  refine lv_iload_n hx hb d_Model_fixity_5 rfl (lv_at hl 2 rfl) ?_
  refine lv_iconst (v := 0) hx hb d_Model_fixity_6 (by decide) ?_
  refine lv_iconst (v := 2) hx hb d_Model_fixity_7 (by decide) ?_
  have hPc := hP.sub (ws' := []) [] rfl
  have hDc := hD.sub (ws' := []) [] (by decide) rfl
  have hKc := hK.sub (tys' := []) [] rfl
  have hFc := va_free (wc := []) hD hS hA [] rfl
  refine va_calli (va_runS (As := [.int sdx, .int 0, .int 2]) (rest := []) ⟨hx, hb, hml, hown, hz⟩ (c161_Model_within l dC dI H.size ev sdx lvx g1 g2) (cwS 3 hz (zS zm_449 zm_450 zm_374 zm_451) rfl rfl rfl (by decide +kernel) ⟨Nat.le_of_ble_eq_true rfl, Nat.le_of_ble_eq_true rfl⟩) ⟨fun a U g mk q => by obtain ⟨q0, q1, qP, qK, qD⟩ := q; exact ⟨q0, q1, qP, va_K.moved (u := U) (U := U.calling g mk a) (Vm.Alike.refl U.vm) qK, qD⟩, fun U hU hW => ⟨rfl, by rw [hU], by rw [hU]; exact hPc, va_K.moved hW.alike hKc, hDc.weaken (fun _ _ _ _ => trivial)⟩⟩ rfl rfl hl.1 rfl (lv_room (Nat.le_of_ble_eq_true rfl)) d_Model_fixity_8 ⟨by decide, by decide⟩) hS (fun q _ h => hFc q h) hFc (fun r u t H1 locs ht hvm hw hB hz1 hk1 hS => ?_)
  obtain ⟨hP1, hK1, hD1⟩ := hB
  subst r
  rw [ht] at hP1
  obtain ⟨hP, hD⟩ := va_join (wr := [(a0, .inr (1, [.int 0, .int 0, .ref a1, .int 0, .int (-1), .int 0, .int 0, .ref a2, .ref a3, .ref a4, .ref a5, .ref a6, .int 0, .int 0, .ref a7, .int 0, .int 0, .ref a8, .ref a9, .ref a10, .ref a11, .ref a12, .ref a13, .int 0, .ref a14, .ref a15, .int 0, .int 0, .int 0, .int 0, .int 0, .int 0, .ref a16, .ref a17, .ref a18, .int 0, .int 0, .int 0, .int 0, .int 0, .int 0, .ref a19, .ref a20, .ref a21, .ref a22, .ref a23, .ref a24, .ref a25, .ref a26, .ref a27]))]) (w1 := []) hP hD [] [0] rfl rfl (by decide) (by decide) hk1 hFc hP1 hD1
  generalize H1 = H at hP hS ⊢
  have hP : va_P (dC, dI) vcl [(a0, .inr (1, [.int 0, .int 0, .ref a1, .int 0, .int (-1), .int 0, .int 0, .ref a2, .ref a3, .ref a4, .ref a5, .ref a6, .int 0, .int 0, .ref a7, .int 0, .int 0, .ref a8, .ref a9, .ref a10, .ref a11, .ref a12, .ref a13, .int 0, .ref a14, .ref a15, .int 0, .int 0, .int 0, .int 0, .int 0, .int 0, .ref a16, .ref a17, .ref a18, .int 0, .int 0, .int 0, .int 0, .int 0, .int 0, .ref a19, .ref a20, .ref a21, .ref a22, .ref a23, .ref a24, .ref a25, .ref a26, .ref a27]))] H := hP
  have hD : va_D A [(a0, .inr (1, [.int 0, .int 0, .ref a1, .int 0, .int (-1), .int 0, .int 0, .ref a2, .ref a3, .ref a4, .ref a5, .ref a6, .int 0, .int 0, .ref a7, .int 0, .int 0, .ref a8, .ref a9, .ref a10, .ref a11, .ref a12, .ref a13, .int 0, .ref a14, .ref a15, .int 0, .int 0, .int 0, .int 0, .int 0, .int 0, .ref a16, .ref a17, .ref a18, .int 0, .int 0, .int 0, .int 0, .int 0, .int 0, .ref a19, .ref a20, .ref a21, .ref a22, .ref a23, .ref a24, .ref a25, .ref a26, .ref a27]))] := hD
  refine lv_if_eq (tgt := 25) hx hb d_Model_fixity_11 (by decide) (fun _ => ?_) (fun h => (h (by decide +kernel)).elim)
  refine lv_aload_n hx hb d_Model_fixity_25 rfl (lv_at hl 0 rfl) ?_
  refine lv_iconst (v := 1) hx hb d_Model_fixity_26 (by decide) ?_
  have hPc := hP.sub (ws' := [(a0, .inr (1, [.int 0, .int 0, .ref a1, .int 0, .int (-1), .int 0, .int 0, .ref a2, .ref a3, .ref a4, .ref a5, .ref a6, .int 0, .int 0, .ref a7, .int 0, .int 0, .ref a8, .ref a9, .ref a10, .ref a11, .ref a12, .ref a13, .int 0, .ref a14, .ref a15, .int 0, .int 0, .int 0, .int 0, .int 0, .int 0, .ref a16, .ref a17, .ref a18, .int 0, .int 0, .int 0, .int 0, .int 0, .int 0, .ref a19, .ref a20, .ref a21, .ref a22, .ref a23, .ref a24, .ref a25, .ref a26, .ref a27]))]) [0] rfl
  have hDc := hD.sub (ws' := [(a0, .inr (1, [.int 0, .int 0, .ref a1, .int 0, .int (-1), .int 0, .int 0, .ref a2, .ref a3, .ref a4, .ref a5, .ref a6, .int 0, .int 0, .ref a7, .int 0, .int 0, .ref a8, .ref a9, .ref a10, .ref a11, .ref a12, .ref a13, .int 0, .ref a14, .ref a15, .int 0, .int 0, .int 0, .int 0, .int 0, .int 0, .ref a16, .ref a17, .ref a18, .int 0, .int 0, .int 0, .int 0, .int 0, .int 0, .ref a19, .ref a20, .ref a21, .ref a22, .ref a23, .ref a24, .ref a25, .ref a26, .ref a27]))]) [0] (by decide) rfl
  have hKc := hK.sub (tys' := []) [] rfl
  have hFc := va_free (wc := [(a0, .inr (1, [.int 0, .int 0, .ref a1, .int 0, .int (-1), .int 0, .int 0, .ref a2, .ref a3, .ref a4, .ref a5, .ref a6, .int 0, .int 0, .ref a7, .int 0, .int 0, .ref a8, .ref a9, .ref a10, .ref a11, .ref a12, .ref a13, .int 0, .ref a14, .ref a15, .int 0, .int 0, .int 0, .int 0, .int 0, .int 0, .ref a16, .ref a17, .ref a18, .int 0, .int 0, .int 0, .int 0, .int 0, .int 0, .ref a19, .ref a20, .ref a21, .ref a22, .ref a23, .ref a24, .ref a25, .ref a26, .ref a27]))]) hD hS hA [0] rfl
  refine va_calli (va_runV (As := [.int 1]) (rest := []) ⟨hx, hb, hml, hown, hz⟩ (c139_Model_fail l dC dI H.size a0 a1 a2 a3 a4 a5 a6 a7 a8 a9 a10 a11 a12 a13 a14 a15 a16 a17 a18 a19 a20 a21 a22 a23 a24 a25 a26 a27) (cwV 1 hz (zV zm_452 zm_453 zm_454 zm_374 zm_455) rfl rfl rfl (by decide +kernel) ⟨Nat.le_of_ble_eq_true rfl, Nat.le_of_ble_eq_true rfl⟩) ⟨fun a U g mk q => by obtain ⟨q0, q1, qP, qK, qD⟩ := q; exact ⟨q0, q1, qP, va_K.moved (u := U) (U := U.calling g mk a) (Vm.Alike.refl U.vm) qK, qD⟩, va_recv (q := (R_Model, F_Model, 50)) (q0 := 0) (ci := 1) hK hP rfl rfl, fun U hU hW => ⟨rfl, by rw [hU], by rw [hU]; exact hPc, va_K.moved hW.alike hKc, hDc.weaken (fun _ _ _ _ => trivial)⟩⟩ rfl rfl hl.1 rfl (lv_room (Nat.le_of_ble_eq_true rfl)) d_Model_fixity_27 ⟨by decide, by decide⟩) hS (fun q _ h => hFc q h) hFc (fun r u t H1 locs ht hvm hw hB hz1 hk1 hS => ?_)
  obtain ⟨hP1, hK1, hD1⟩ := hB
  subst r
  rw [ht] at hP1
  obtain ⟨hP, hD⟩ := va_join (wr := []) (w1 := [(a0, .inr (1, [.int 1, .int 0, .ref a1, .int 0, .int (-1), .int 0, .int 0, .ref a2, .ref a3, .ref a4, .ref a5, .ref a6, .int 0, .int 0, .ref a7, .int 0, .int 0, .ref a8, .ref a9, .ref a10, .ref a11, .ref a12, .ref a13, .int 0, .ref a14, .ref a15, .int 0, .int 0, .int 0, .int 0, .int 0, .int 0, .ref a16, .ref a17, .ref a18, .int 0, .int 0, .int 0, .int 0, .int 0, .int 0, .ref a19, .ref a20, .ref a21, .ref a22, .ref a23, .ref a24, .ref a25, .ref a26, .ref a27]))]) hP hD [0] [] rfl rfl (by decide) (by decide) hk1 hFc hP1 hD1
  generalize H1 = H at hP hS ⊢
  have hP : va_P (dC, dI) vcl [(a0, .inr (1, [.int 1, .int 0, .ref a1, .int 0, .int (-1), .int 0, .int 0, .ref a2, .ref a3, .ref a4, .ref a5, .ref a6, .int 0, .int 0, .ref a7, .int 0, .int 0, .ref a8, .ref a9, .ref a10, .ref a11, .ref a12, .ref a13, .int 0, .ref a14, .ref a15, .int 0, .int 0, .int 0, .int 0, .int 0, .int 0, .ref a16, .ref a17, .ref a18, .int 0, .int 0, .int 0, .int 0, .int 0, .int 0, .ref a19, .ref a20, .ref a21, .ref a22, .ref a23, .ref a24, .ref a25, .ref a26, .ref a27]))] H := hP
  have hD : va_D A [(a0, .inr (1, [.int 1, .int 0, .ref a1, .int 0, .int (-1), .int 0, .int 0, .ref a2, .ref a3, .ref a4, .ref a5, .ref a6, .int 0, .int 0, .ref a7, .int 0, .int 0, .ref a8, .ref a9, .ref a10, .ref a11, .ref a12, .ref a13, .int 0, .ref a14, .ref a15, .int 0, .int 0, .int 0, .int 0, .int 0, .int 0, .ref a16, .ref a17, .ref a18, .int 0, .int 0, .int 0, .int 0, .int 0, .int 0, .ref a19, .ref a20, .ref a21, .ref a22, .ref a23, .ref a24, .ref a25, .ref a26, .ref a27]))] := hD
  have hP9 := hP.sub (ws' := [(a0, .inr (1, [.int 1, .int 0, .ref a1, .int 0, .int (-1), .int 0, .int 0, .ref a2, .ref a3, .ref a4, .ref a5, .ref a6, .int 0, .int 0, .ref a7, .int 0, .int 0, .ref a8, .ref a9, .ref a10, .ref a11, .ref a12, .ref a13, .int 0, .ref a14, .ref a15, .int 0, .int 0, .int 0, .int 0, .int 0, .int 0, .ref a16, .ref a17, .ref a18, .int 0, .int 0, .int 0, .int 0, .int 0, .int 0, .ref a19, .ref a20, .ref a21, .ref a22, .ref a23, .ref a24, .ref a25, .ref a26, .ref a27]))]) [0] rfl
  have hD9 := hD.sub (ws' := [(a0, .inr (1, [.int 1, .int 0, .ref a1, .int 0, .int (-1), .int 0, .int 0, .ref a2, .ref a3, .ref a4, .ref a5, .ref a6, .int 0, .int 0, .ref a7, .int 0, .int 0, .ref a8, .ref a9, .ref a10, .ref a11, .ref a12, .ref a13, .int 0, .ref a14, .ref a15, .int 0, .int 0, .int 0, .int 0, .int 0, .int 0, .ref a16, .ref a17, .ref a18, .int 0, .int 0, .int 0, .int 0, .int 0, .int 0, .ref a19, .ref a20, .ref a21, .ref a22, .ref a23, .ref a24, .ref a25, .ref a26, .ref a27]))]) [0] (by decide) rfl
  have hK9 := hK.sub (tys' := []) [] rfl
  exact W.iret (v := 0) hx hb hr (fun t ht hW => ⟨⟨0, (), rfl, rfl, by rw [ht]; exact hP9, va_K.moved hW.alike hK9, hD9⟩, hS.F ht⟩) hS.2.2 d_Model_fixity_30
set_option maxHeartbeats 4000000 in
set_option maxRecDepth 100000 in
theorem c163_Model_within (l : Launch) (dC : Nat → ClassId) (dI : Nat → Nat → Nat) (sz : Nat) (ev : Int64) (sdx : Int32) (lvx : Int32) (g1 : ¬ sdx < 0) (g2 : ¬ 2 < sdx) (g3 : lvx < 0) : Met l y_Model_within w_Model_within ({ frames := 0, cells := 0, slots := 0, locals := 0 }) (va_Pc [.int sdx, .int 0, .int 2] (fun U => U.heap.size = sz ∧ va_P (dC, dI) vcl [] U.heap ∧ va_K (dC, dI) vcl [] U ∧ va_D (fun _ => True) [])) (va_Qi (fun (r : Int32) (_ : Unit) => r = 1) (fun _ t => va_P (dC, dI) vcl [] t.heap ∧ va_K (dC, dI) vcl [] t ∧ va_D (va_A [] sz) []) (va_A [] sz)) 0 0 (va_A [] sz) := by
  refine Met.ofW (cc := b_Model_within) (maxL := 3) (ret := (some .boolean)) (by decide) rfl ?_
  intro p e s m args below meth c s₁ B hml hv
  obtain ⟨rfl, hsz, hP, hK, hD0⟩ := hv
  have hx := B.exec
  have hb := B.bytes
  have hr := B.returns
  have hts := atoms_spec (ws := w_Model_within) B.pre
  have hz : ∀ w ∈ wz, w.before _ s = true := fun w h => hts w (List.mem_cons_of_mem _ h)
  have hown : s.vm.findClass R_Model = some m.cls := findClass_of_methodNamed B.named
  have hlocks := B.notSynchronized
  subst hsz
  have hD := hD0.self (sz := s.heap.size)
  generalize hAe : va_A [] s.heap.size = A at hD ⊢
  have hA : ∀ q : Nat, s.heap.size ≤ q → A q := fun q h => by rw [← hAe]; exact Or.inr h
  have hS : va_S A s.heap s.heap [] := va_S.rf
  have hP : va_P (dC, dI) vcl [] s.heap := hP
  have hl := lv_entry ([.int sdx, .int 0, .int 2]) (n := 3) (Nat.le_of_ble_eq_true rfl)
  rw [lg_entry_eq]
  generalize (lg_sl ([.int sdx, .int 0, .int 2]) ++ List.replicate (3 - (lg_sl ([.int sdx, .int 0, .int 2])).length) Slot.unset).toArray = ls at hl ⊢
  have hl : lv_has ls 3 [(0, .int sdx), (1, .int 0), (2, .int 2)] := hl
  refine lv_iload_n hx hb d_Model_within_0 rfl (lv_at hl 0 rfl) ?_
  refine lv_iload_n hx hb d_Model_within_1 rfl (lv_at hl 1 rfl) ?_
  refine lv_icmp_lt (tgt := 14) hx hb d_Model_within_2 (by decide) (fun h => absurd h g1) (fun _ => ?_)
  refine lv_iload_n hx hb d_Model_within_5 rfl (lv_at hl 0 rfl) ?_
  refine lv_iload_n hx hb d_Model_within_6 rfl (lv_at hl 2 rfl) ?_
  refine lv_icmp_gt (tgt := 14) hx hb d_Model_within_7 (by decide) (fun h => absurd h g2) (fun _ => ?_)
  refine lv_iconst (v := 1) hx hb d_Model_within_10 (by decide) ?_
  refine lv_goto (tgt := 15) hx hb d_Model_within_11 (by decide) ?_
  have hP9 := hP.sub (ws' := []) [] rfl
  have hD9 := hD.sub (ws' := []) [] (by decide) rfl
  have hK9 := hK.sub (tys' := []) [] rfl
  exact W.zret (v := 1) hx hb hr (by decide +kernel) (fun t ht hW => ⟨⟨1, (), rfl, rfl, by rw [ht]; exact hP9, va_K.moved hW.alike hK9, hD9⟩, hS.F ht⟩) hS.2.2 d_Model_within_15
set_option maxHeartbeats 4000000 in
set_option maxRecDepth 100000 in
theorem c164_Model_within (l : Launch) (dC : Nat → ClassId) (dI : Nat → Nat → Nat) (sz : Nat) (ev : Int64) (sdx : Int32) (lvx : Int32) (g1 : ¬ sdx < 0) (g2 : ¬ 2 < sdx) (g3 : lvx < 0) : Met l y_Model_within w_Model_within ({ frames := 0, cells := 0, slots := 0, locals := 0 }) (va_Pc [.int lvx, .int 0, .int 9] (fun U => U.heap.size = sz ∧ va_P (dC, dI) vcl [] U.heap ∧ va_K (dC, dI) vcl [] U ∧ va_D (fun _ => True) [])) (va_Qi (fun (r : Int32) (_ : Unit) => r = 0) (fun _ t => va_P (dC, dI) vcl [] t.heap ∧ va_K (dC, dI) vcl [] t ∧ va_D (va_A [] sz) []) (va_A [] sz)) 0 0 (va_A [] sz) := by
  refine Met.ofW (cc := b_Model_within) (maxL := 3) (ret := (some .boolean)) (by decide) rfl ?_
  intro p e s m args below meth c s₁ B hml hv
  obtain ⟨rfl, hsz, hP, hK, hD0⟩ := hv
  have hx := B.exec
  have hb := B.bytes
  have hr := B.returns
  have hts := atoms_spec (ws := w_Model_within) B.pre
  have hz : ∀ w ∈ wz, w.before _ s = true := fun w h => hts w (List.mem_cons_of_mem _ h)
  have hown : s.vm.findClass R_Model = some m.cls := findClass_of_methodNamed B.named
  have hlocks := B.notSynchronized
  subst hsz
  have hD := hD0.self (sz := s.heap.size)
  generalize hAe : va_A [] s.heap.size = A at hD ⊢
  have hA : ∀ q : Nat, s.heap.size ≤ q → A q := fun q h => by rw [← hAe]; exact Or.inr h
  have hS : va_S A s.heap s.heap [] := va_S.rf
  have hP : va_P (dC, dI) vcl [] s.heap := hP
  have hl := lv_entry ([.int lvx, .int 0, .int 9]) (n := 3) (Nat.le_of_ble_eq_true rfl)
  rw [lg_entry_eq]
  generalize (lg_sl ([.int lvx, .int 0, .int 9]) ++ List.replicate (3 - (lg_sl ([.int lvx, .int 0, .int 9])).length) Slot.unset).toArray = ls at hl ⊢
  have hl : lv_has ls 3 [(0, .int lvx), (1, .int 0), (2, .int 9)] := hl
  refine lv_iload_n hx hb d_Model_within_0 rfl (lv_at hl 0 rfl) ?_
  refine lv_iload_n hx hb d_Model_within_1 rfl (lv_at hl 1 rfl) ?_
  refine lv_icmp_lt (tgt := 14) hx hb d_Model_within_2 (by decide) (fun _ => ?_) (fun h => (h g3).elim)
  refine lv_iconst (v := 0) hx hb d_Model_within_14 (by decide) ?_
  have hP9 := hP.sub (ws' := []) [] rfl
  have hD9 := hD.sub (ws' := []) [] (by decide) rfl
  have hK9 := hK.sub (tys' := []) [] rfl
  exact W.zret (v := 0) hx hb hr (by decide +kernel) (fun t ht hW => ⟨⟨0, (), rfl, rfl, by rw [ht]; exact hP9, va_K.moved hW.alike hK9, hD9⟩, hS.F ht⟩) hS.2.2 d_Model_within_15
set_option maxHeartbeats 4000000 in
set_option maxRecDepth 100000 in
theorem c165_Model_fixity (l : Launch) (dC : Nat → ClassId) (dI : Nat → Nat → Nat) (sz : Nat) (a0 : Nat) (a1 : Nat) (a2 : Nat) (a3 : Nat) (a4 : Nat) (a5 : Nat) (a6 : Nat) (a7 : Nat) (a8 : Nat) (a9 : Nat) (a10 : Nat) (a11 : Nat) (a12 : Nat) (a13 : Nat) (a14 : Nat) (a15 : Nat) (a16 : Nat) (a17 : Nat) (a18 : Nat) (a19 : Nat) (a20 : Nat) (a21 : Nat) (a22 : Nat) (a23 : Nat) (a24 : Nat) (a25 : Nat) (a26 : Nat) (a27 : Nat) (ev : Int64) (sdx : Int32) (lvx : Int32) (g1 : ¬ sdx < 0) (g2 : ¬ 2 < sdx) (g3 : lvx < 0) : Met l y_Model_fixity w_Model_fixity ({ frames := 1, cells := 0, slots := 0, locals := 22 }) (va_Pc [.ref a0, .long ev, .int sdx, .int lvx] (fun U => U.heap.size = sz ∧ va_P (dC, dI) vcl [(a0, .inr (1, [.int 0, .int 0, .ref a1, .int 0, .int (-1), .int 0, .int 0, .ref a2, .ref a3, .ref a4, .ref a5, .ref a6, .int 0, .int 0, .ref a7, .int 0, .int 0, .ref a8, .ref a9, .ref a10, .ref a11, .ref a12, .ref a13, .int 0, .ref a14, .ref a15, .int 0, .int 0, .int 0, .int 0, .int 0, .int 0, .ref a16, .ref a17, .ref a18, .int 0, .int 0, .int 0, .int 0, .int 0, .int 0, .ref a19, .ref a20, .ref a21, .ref a22, .ref a23, .ref a24, .ref a25, .ref a26, .ref a27]))] U.heap ∧ va_K (dC, dI) vcl [] U ∧ va_D (fun _ => True) [(a0, .inr (1, [.int 0, .int 0, .ref a1, .int 0, .int (-1), .int 0, .int 0, .ref a2, .ref a3, .ref a4, .ref a5, .ref a6, .int 0, .int 0, .ref a7, .int 0, .int 0, .ref a8, .ref a9, .ref a10, .ref a11, .ref a12, .ref a13, .int 0, .ref a14, .ref a15, .int 0, .int 0, .int 0, .int 0, .int 0, .int 0, .ref a16, .ref a17, .ref a18, .int 0, .int 0, .int 0, .int 0, .int 0, .int 0, .ref a19, .ref a20, .ref a21, .ref a22, .ref a23, .ref a24, .ref a25, .ref a26, .ref a27]))])) (va_Qi (fun (r : Int32) (_ : Unit) => r = 0) (fun _ t => va_P (dC, dI) vcl [(a0, .inr (1, [.int 1, .int 0, .ref a1, .int 0, .int (-1), .int 0, .int 0, .ref a2, .ref a3, .ref a4, .ref a5, .ref a6, .int 0, .int 0, .ref a7, .int 0, .int 0, .ref a8, .ref a9, .ref a10, .ref a11, .ref a12, .ref a13, .int 0, .ref a14, .ref a15, .int 0, .int 0, .int 0, .int 0, .int 0, .int 0, .ref a16, .ref a17, .ref a18, .int 0, .int 0, .int 0, .int 0, .int 0, .int 0, .ref a19, .ref a20, .ref a21, .ref a22, .ref a23, .ref a24, .ref a25, .ref a26, .ref a27]))] t.heap ∧ va_K (dC, dI) vcl [] t ∧ va_D (va_A [(a0, .inr (1, [.int 0, .int 0, .ref a1, .int 0, .int (-1), .int 0, .int 0, .ref a2, .ref a3, .ref a4, .ref a5, .ref a6, .int 0, .int 0, .ref a7, .int 0, .int 0, .ref a8, .ref a9, .ref a10, .ref a11, .ref a12, .ref a13, .int 0, .ref a14, .ref a15, .int 0, .int 0, .int 0, .int 0, .int 0, .int 0, .ref a16, .ref a17, .ref a18, .int 0, .int 0, .int 0, .int 0, .int 0, .int 0, .ref a19, .ref a20, .ref a21, .ref a22, .ref a23, .ref a24, .ref a25, .ref a26, .ref a27]))] sz) [(a0, .inr (1, [.int 1, .int 0, .ref a1, .int 0, .int (-1), .int 0, .int 0, .ref a2, .ref a3, .ref a4, .ref a5, .ref a6, .int 0, .int 0, .ref a7, .int 0, .int 0, .ref a8, .ref a9, .ref a10, .ref a11, .ref a12, .ref a13, .int 0, .ref a14, .ref a15, .int 0, .int 0, .int 0, .int 0, .int 0, .int 0, .ref a16, .ref a17, .ref a18, .int 0, .int 0, .int 0, .int 0, .int 0, .int 0, .ref a19, .ref a20, .ref a21, .ref a22, .ref a23, .ref a24, .ref a25, .ref a26, .ref a27]))]) (va_A [(a0, .inr (1, [.int 0, .int 0, .ref a1, .int 0, .int (-1), .int 0, .int 0, .ref a2, .ref a3, .ref a4, .ref a5, .ref a6, .int 0, .int 0, .ref a7, .int 0, .int 0, .ref a8, .ref a9, .ref a10, .ref a11, .ref a12, .ref a13, .int 0, .ref a14, .ref a15, .int 0, .int 0, .int 0, .int 0, .int 0, .int 0, .ref a16, .ref a17, .ref a18, .int 0, .int 0, .int 0, .int 0, .int 0, .int 0, .ref a19, .ref a20, .ref a21, .ref a22, .ref a23, .ref a24, .ref a25, .ref a26, .ref a27]))] sz)) 0 0 (va_A [(a0, .inr (1, [.int 0, .int 0, .ref a1, .int 0, .int (-1), .int 0, .int 0, .ref a2, .ref a3, .ref a4, .ref a5, .ref a6, .int 0, .int 0, .ref a7, .int 0, .int 0, .ref a8, .ref a9, .ref a10, .ref a11, .ref a12, .ref a13, .int 0, .ref a14, .ref a15, .int 0, .int 0, .int 0, .int 0, .int 0, .int 0, .ref a16, .ref a17, .ref a18, .int 0, .int 0, .int 0, .int 0, .int 0, .int 0, .ref a19, .ref a20, .ref a21, .ref a22, .ref a23, .ref a24, .ref a25, .ref a26, .ref a27]))] sz) := by
  refine Met.ofW (cc := b_Model_fixity) (maxL := 6) (ret := (some .int)) (by decide) rfl ?_
  intro p e s m args below meth c s₁ B hml hv
  obtain ⟨rfl, hsz, hP, hK, hD0⟩ := hv
  have hx := B.exec
  have hb := B.bytes
  have hr := B.returns
  have hts := atoms_spec (ws := w_Model_fixity) B.pre
  have hz : ∀ w ∈ wz, w.before _ s = true := fun w h => hts w (List.mem_cons_of_mem _ h)
  have hown : s.vm.findClass R_Model = some m.cls := findClass_of_methodNamed B.named
  have hlocks := B.notSynchronized
  subst hsz
  have hD := hD0.self (sz := s.heap.size)
  generalize hAe : va_A [(a0, .inr (1, [.int 0, .int 0, .ref a1, .int 0, .int (-1), .int 0, .int 0, .ref a2, .ref a3, .ref a4, .ref a5, .ref a6, .int 0, .int 0, .ref a7, .int 0, .int 0, .ref a8, .ref a9, .ref a10, .ref a11, .ref a12, .ref a13, .int 0, .ref a14, .ref a15, .int 0, .int 0, .int 0, .int 0, .int 0, .int 0, .ref a16, .ref a17, .ref a18, .int 0, .int 0, .int 0, .int 0, .int 0, .int 0, .ref a19, .ref a20, .ref a21, .ref a22, .ref a23, .ref a24, .ref a25, .ref a26, .ref a27]))] s.heap.size = A at hD ⊢
  have hA : ∀ q : Nat, s.heap.size ≤ q → A q := fun q h => by rw [← hAe]; exact Or.inr h
  have hS : va_S A s.heap s.heap [] := va_S.rf
  have hP : va_P (dC, dI) vcl [(a0, .inr (1, [.int 0, .int 0, .ref a1, .int 0, .int (-1), .int 0, .int 0, .ref a2, .ref a3, .ref a4, .ref a5, .ref a6, .int 0, .int 0, .ref a7, .int 0, .int 0, .ref a8, .ref a9, .ref a10, .ref a11, .ref a12, .ref a13, .int 0, .ref a14, .ref a15, .int 0, .int 0, .int 0, .int 0, .int 0, .int 0, .ref a16, .ref a17, .ref a18, .int 0, .int 0, .int 0, .int 0, .int 0, .int 0, .ref a19, .ref a20, .ref a21, .ref a22, .ref a23, .ref a24, .ref a25, .ref a26, .ref a27]))] s.heap := hP
  have hl := lv_entry ([.ref a0, .long ev, .int sdx, .int lvx]) (n := 6) (Nat.le_of_ble_eq_true rfl)
  rw [lg_entry_eq]
  generalize (lg_sl ([.ref a0, .long ev, .int sdx, .int lvx]) ++ List.replicate (6 - (lg_sl ([.ref a0, .long ev, .int sdx, .int lvx])).length) Slot.unset).toArray = ls at hl ⊢
  have hl : lv_has ls 6 [(0, .ref a0), (1, .long ev), (3, .int sdx), (4, .int lvx)] := hl
  refine lv_aload_n hx hb d_Model_fixity_0 rfl (lv_at hl 0 rfl) ?_
  refine lv_iconst (v := 0) hx hb d_Model_fixity_1 (by decide) ?_
  refine va_put (D := (dC, dI)) (ci := 1) (v := .int 0) (ty := .int) (C := R_Model) (T := F_Model) (N := 50) hx hb hz zu_Model t_Model t_Model_ok n_Model hown hK hP hD hS 0 rfl rfl 0 (by decide) (hz (.fieldLink R_Model 97 "LayoutFrontModel" "thrown" "I") zm_415) (fun _ h9 => h9) rfl (by decide +kernel) rfl rfl (Nat.le_of_ble_eq_true rfl) d_Model_fixity_2 (fun H locs hP hD hS => ?_)
  have hP : va_P (dC, dI) vcl [(a0, .inr (1, [.int 0, .int 0, .ref a1, .int 0, .int (-1), .int 0, .int 0, .ref a2, .ref a3, .ref a4, .ref a5, .ref a6, .int 0, .int 0, .ref a7, .int 0, .int 0, .ref a8, .ref a9, .ref a10, .ref a11, .ref a12, .ref a13, .int 0, .ref a14, .ref a15, .int 0, .int 0, .int 0, .int 0, .int 0, .int 0, .ref a16, .ref a17, .ref a18, .int 0, .int 0, .int 0, .int 0, .int 0, .int 0, .ref a19, .ref a20, .ref a21, .ref a22, .ref a23, .ref a24, .ref a25, .ref a26, .ref a27]))] H := hP
  have hD : va_D A [(a0, .inr (1, [.int 0, .int 0, .ref a1, .int 0, .int (-1), .int 0, .int 0, .ref a2, .ref a3, .ref a4, .ref a5, .ref a6, .int 0, .int 0, .ref a7, .int 0, .int 0, .ref a8, .ref a9, .ref a10, .ref a11, .ref a12, .ref a13, .int 0, .ref a14, .ref a15, .int 0, .int 0, .int 0, .int 0, .int 0, .int 0, .ref a16, .ref a17, .ref a18, .int 0, .int 0, .int 0, .int 0, .int 0, .int 0, .ref a19, .ref a20, .ref a21, .ref a22, .ref a23, .ref a24, .ref a25, .ref a26, .ref a27]))] := hD
  refine lv_iload_n hx hb d_Model_fixity_5 rfl (lv_at hl 2 rfl) ?_
  refine lv_iconst (v := 0) hx hb d_Model_fixity_6 (by decide) ?_
  refine lv_iconst (v := 2) hx hb d_Model_fixity_7 (by decide) ?_
  have hPc := hP.sub (ws' := []) [] rfl
  have hDc := hD.sub (ws' := []) [] (by decide) rfl
  have hKc := hK.sub (tys' := []) [] rfl
  have hFc := va_free (wc := []) hD hS hA [] rfl
  refine va_calli (va_runS (As := [.int sdx, .int 0, .int 2]) (rest := []) ⟨hx, hb, hml, hown, hz⟩ (c163_Model_within l dC dI H.size ev sdx lvx g1 g2 g3) (cwS 3 hz (zS zm_449 zm_450 zm_374 zm_451) rfl rfl rfl (by decide +kernel) ⟨Nat.le_of_ble_eq_true rfl, Nat.le_of_ble_eq_true rfl⟩) ⟨fun a U g mk q => by obtain ⟨q0, q1, qP, qK, qD⟩ := q; exact ⟨q0, q1, qP, va_K.moved (u := U) (U := U.calling g mk a) (Vm.Alike.refl U.vm) qK, qD⟩, fun U hU hW => ⟨rfl, by rw [hU], by rw [hU]; exact hPc, va_K.moved hW.alike hKc, hDc.weaken (fun _ _ _ _ => trivial)⟩⟩ rfl rfl hl.1 rfl (lv_room (Nat.le_of_ble_eq_true rfl)) d_Model_fixity_8 ⟨by decide, by decide⟩) hS (fun q _ h => hFc q h) hFc (fun r u t H1 locs ht hvm hw hB hz1 hk1 hS => ?_)
  obtain ⟨hP1, hK1, hD1⟩ := hB
  subst r
  rw [ht] at hP1
  obtain ⟨hP, hD⟩ := va_join (wr := [(a0, .inr (1, [.int 0, .int 0, .ref a1, .int 0, .int (-1), .int 0, .int 0, .ref a2, .ref a3, .ref a4, .ref a5, .ref a6, .int 0, .int 0, .ref a7, .int 0, .int 0, .ref a8, .ref a9, .ref a10, .ref a11, .ref a12, .ref a13, .int 0, .ref a14, .ref a15, .int 0, .int 0, .int 0, .int 0, .int 0, .int 0, .ref a16, .ref a17, .ref a18, .int 0, .int 0, .int 0, .int 0, .int 0, .int 0, .ref a19, .ref a20, .ref a21, .ref a22, .ref a23, .ref a24, .ref a25, .ref a26, .ref a27]))]) (w1 := []) hP hD [] [0] rfl rfl (by decide) (by decide) hk1 hFc hP1 hD1
  generalize H1 = H at hP hS ⊢
  have hP : va_P (dC, dI) vcl [(a0, .inr (1, [.int 0, .int 0, .ref a1, .int 0, .int (-1), .int 0, .int 0, .ref a2, .ref a3, .ref a4, .ref a5, .ref a6, .int 0, .int 0, .ref a7, .int 0, .int 0, .ref a8, .ref a9, .ref a10, .ref a11, .ref a12, .ref a13, .int 0, .ref a14, .ref a15, .int 0, .int 0, .int 0, .int 0, .int 0, .int 0, .ref a16, .ref a17, .ref a18, .int 0, .int 0, .int 0, .int 0, .int 0, .int 0, .ref a19, .ref a20, .ref a21, .ref a22, .ref a23, .ref a24, .ref a25, .ref a26, .ref a27]))] H := hP
  have hD : va_D A [(a0, .inr (1, [.int 0, .int 0, .ref a1, .int 0, .int (-1), .int 0, .int 0, .ref a2, .ref a3, .ref a4, .ref a5, .ref a6, .int 0, .int 0, .ref a7, .int 0, .int 0, .ref a8, .ref a9, .ref a10, .ref a11, .ref a12, .ref a13, .int 0, .ref a14, .ref a15, .int 0, .int 0, .int 0, .int 0, .int 0, .int 0, .ref a16, .ref a17, .ref a18, .int 0, .int 0, .int 0, .int 0, .int 0, .int 0, .ref a19, .ref a20, .ref a21, .ref a22, .ref a23, .ref a24, .ref a25, .ref a26, .ref a27]))] := hD
  refine lv_if_eq (tgt := 25) hx hb d_Model_fixity_11 (by decide) (fun h => absurd h (by decide +kernel)) (fun _ => ?_)
  refine lv_iload hx hb d_Model_fixity_14 (lv_at hl 3 rfl) ?_
  refine lv_iconst (v := 0) hx hb d_Model_fixity_16 (by decide) ?_
  refine lv_bipush (v := 9) hx hb d_Model_fixity_17 (by decide) ?_
  have hPc := hP.sub (ws' := []) [] rfl
  have hDc := hD.sub (ws' := []) [] (by decide) rfl
  have hKc := hK.sub (tys' := []) [] rfl
  have hFc := va_free (wc := []) hD hS hA [] rfl
  refine va_calli (va_runS (As := [.int lvx, .int 0, .int 9]) (rest := []) ⟨hx, hb, hml, hown, hz⟩ (c164_Model_within l dC dI H.size ev sdx lvx g1 g2 g3) (cwS 3 hz (zS zm_449 zm_450 zm_374 zm_451) rfl rfl rfl (by decide +kernel) ⟨Nat.le_of_ble_eq_true rfl, Nat.le_of_ble_eq_true rfl⟩) ⟨fun a U g mk q => by obtain ⟨q0, q1, qP, qK, qD⟩ := q; exact ⟨q0, q1, qP, va_K.moved (u := U) (U := U.calling g mk a) (Vm.Alike.refl U.vm) qK, qD⟩, fun U hU hW => ⟨rfl, by rw [hU], by rw [hU]; exact hPc, va_K.moved hW.alike hKc, hDc.weaken (fun _ _ _ _ => trivial)⟩⟩ rfl rfl hl.1 rfl (lv_room (Nat.le_of_ble_eq_true rfl)) d_Model_fixity_19 ⟨by decide, by decide⟩) hS (fun q _ h => hFc q h) hFc (fun r u t H1 locs ht hvm hw hB hz1 hk1 hS => ?_)
  obtain ⟨hP1, hK1, hD1⟩ := hB
  subst r
  rw [ht] at hP1
  obtain ⟨hP, hD⟩ := va_join (wr := [(a0, .inr (1, [.int 0, .int 0, .ref a1, .int 0, .int (-1), .int 0, .int 0, .ref a2, .ref a3, .ref a4, .ref a5, .ref a6, .int 0, .int 0, .ref a7, .int 0, .int 0, .ref a8, .ref a9, .ref a10, .ref a11, .ref a12, .ref a13, .int 0, .ref a14, .ref a15, .int 0, .int 0, .int 0, .int 0, .int 0, .int 0, .ref a16, .ref a17, .ref a18, .int 0, .int 0, .int 0, .int 0, .int 0, .int 0, .ref a19, .ref a20, .ref a21, .ref a22, .ref a23, .ref a24, .ref a25, .ref a26, .ref a27]))]) (w1 := []) hP hD [] [0] rfl rfl (by decide) (by decide) hk1 hFc hP1 hD1
  generalize H1 = H at hP hS ⊢
  have hP : va_P (dC, dI) vcl [(a0, .inr (1, [.int 0, .int 0, .ref a1, .int 0, .int (-1), .int 0, .int 0, .ref a2, .ref a3, .ref a4, .ref a5, .ref a6, .int 0, .int 0, .ref a7, .int 0, .int 0, .ref a8, .ref a9, .ref a10, .ref a11, .ref a12, .ref a13, .int 0, .ref a14, .ref a15, .int 0, .int 0, .int 0, .int 0, .int 0, .int 0, .ref a16, .ref a17, .ref a18, .int 0, .int 0, .int 0, .int 0, .int 0, .int 0, .ref a19, .ref a20, .ref a21, .ref a22, .ref a23, .ref a24, .ref a25, .ref a26, .ref a27]))] H := hP
  have hD : va_D A [(a0, .inr (1, [.int 0, .int 0, .ref a1, .int 0, .int (-1), .int 0, .int 0, .ref a2, .ref a3, .ref a4, .ref a5, .ref a6, .int 0, .int 0, .ref a7, .int 0, .int 0, .ref a8, .ref a9, .ref a10, .ref a11, .ref a12, .ref a13, .int 0, .ref a14, .ref a15, .int 0, .int 0, .int 0, .int 0, .int 0, .int 0, .ref a16, .ref a17, .ref a18, .int 0, .int 0, .int 0, .int 0, .int 0, .int 0, .ref a19, .ref a20, .ref a21, .ref a22, .ref a23, .ref a24, .ref a25, .ref a26, .ref a27]))] := hD
  refine lv_if_ne (tgt := 31) hx hb d_Model_fixity_22 (by decide) (fun h => (h (by decide +kernel)).elim) (fun _ => ?_)
  refine lv_aload_n hx hb d_Model_fixity_25 rfl (lv_at hl 0 rfl) ?_
  refine lv_iconst (v := 1) hx hb d_Model_fixity_26 (by decide) ?_
  have hPc := hP.sub (ws' := [(a0, .inr (1, [.int 0, .int 0, .ref a1, .int 0, .int (-1), .int 0, .int 0, .ref a2, .ref a3, .ref a4, .ref a5, .ref a6, .int 0, .int 0, .ref a7, .int 0, .int 0, .ref a8, .ref a9, .ref a10, .ref a11, .ref a12, .ref a13, .int 0, .ref a14, .ref a15, .int 0, .int 0, .int 0, .int 0, .int 0, .int 0, .ref a16, .ref a17, .ref a18, .int 0, .int 0, .int 0, .int 0, .int 0, .int 0, .ref a19, .ref a20, .ref a21, .ref a22, .ref a23, .ref a24, .ref a25, .ref a26, .ref a27]))]) [0] rfl
  have hDc := hD.sub (ws' := [(a0, .inr (1, [.int 0, .int 0, .ref a1, .int 0, .int (-1), .int 0, .int 0, .ref a2, .ref a3, .ref a4, .ref a5, .ref a6, .int 0, .int 0, .ref a7, .int 0, .int 0, .ref a8, .ref a9, .ref a10, .ref a11, .ref a12, .ref a13, .int 0, .ref a14, .ref a15, .int 0, .int 0, .int 0, .int 0, .int 0, .int 0, .ref a16, .ref a17, .ref a18, .int 0, .int 0, .int 0, .int 0, .int 0, .int 0, .ref a19, .ref a20, .ref a21, .ref a22, .ref a23, .ref a24, .ref a25, .ref a26, .ref a27]))]) [0] (by decide) rfl
  have hKc := hK.sub (tys' := []) [] rfl
  have hFc := va_free (wc := [(a0, .inr (1, [.int 0, .int 0, .ref a1, .int 0, .int (-1), .int 0, .int 0, .ref a2, .ref a3, .ref a4, .ref a5, .ref a6, .int 0, .int 0, .ref a7, .int 0, .int 0, .ref a8, .ref a9, .ref a10, .ref a11, .ref a12, .ref a13, .int 0, .ref a14, .ref a15, .int 0, .int 0, .int 0, .int 0, .int 0, .int 0, .ref a16, .ref a17, .ref a18, .int 0, .int 0, .int 0, .int 0, .int 0, .int 0, .ref a19, .ref a20, .ref a21, .ref a22, .ref a23, .ref a24, .ref a25, .ref a26, .ref a27]))]) hD hS hA [0] rfl
  refine va_calli (va_runV (As := [.int 1]) (rest := []) ⟨hx, hb, hml, hown, hz⟩ (c139_Model_fail l dC dI H.size a0 a1 a2 a3 a4 a5 a6 a7 a8 a9 a10 a11 a12 a13 a14 a15 a16 a17 a18 a19 a20 a21 a22 a23 a24 a25 a26 a27) (cwV 1 hz (zV zm_452 zm_453 zm_454 zm_374 zm_455) rfl rfl rfl (by decide +kernel) ⟨Nat.le_of_ble_eq_true rfl, Nat.le_of_ble_eq_true rfl⟩) ⟨fun a U g mk q => by obtain ⟨q0, q1, qP, qK, qD⟩ := q; exact ⟨q0, q1, qP, va_K.moved (u := U) (U := U.calling g mk a) (Vm.Alike.refl U.vm) qK, qD⟩, va_recv (q := (R_Model, F_Model, 50)) (q0 := 0) (ci := 1) hK hP rfl rfl, fun U hU hW => ⟨rfl, by rw [hU], by rw [hU]; exact hPc, va_K.moved hW.alike hKc, hDc.weaken (fun _ _ _ _ => trivial)⟩⟩ rfl rfl hl.1 rfl (lv_room (Nat.le_of_ble_eq_true rfl)) d_Model_fixity_27 ⟨by decide, by decide⟩) hS (fun q _ h => hFc q h) hFc (fun r u t H1 locs ht hvm hw hB hz1 hk1 hS => ?_)
  obtain ⟨hP1, hK1, hD1⟩ := hB
  subst r
  rw [ht] at hP1
  obtain ⟨hP, hD⟩ := va_join (wr := []) (w1 := [(a0, .inr (1, [.int 1, .int 0, .ref a1, .int 0, .int (-1), .int 0, .int 0, .ref a2, .ref a3, .ref a4, .ref a5, .ref a6, .int 0, .int 0, .ref a7, .int 0, .int 0, .ref a8, .ref a9, .ref a10, .ref a11, .ref a12, .ref a13, .int 0, .ref a14, .ref a15, .int 0, .int 0, .int 0, .int 0, .int 0, .int 0, .ref a16, .ref a17, .ref a18, .int 0, .int 0, .int 0, .int 0, .int 0, .int 0, .ref a19, .ref a20, .ref a21, .ref a22, .ref a23, .ref a24, .ref a25, .ref a26, .ref a27]))]) hP hD [0] [] rfl rfl (by decide) (by decide) hk1 hFc hP1 hD1
  generalize H1 = H at hP hS ⊢
  have hP : va_P (dC, dI) vcl [(a0, .inr (1, [.int 1, .int 0, .ref a1, .int 0, .int (-1), .int 0, .int 0, .ref a2, .ref a3, .ref a4, .ref a5, .ref a6, .int 0, .int 0, .ref a7, .int 0, .int 0, .ref a8, .ref a9, .ref a10, .ref a11, .ref a12, .ref a13, .int 0, .ref a14, .ref a15, .int 0, .int 0, .int 0, .int 0, .int 0, .int 0, .ref a16, .ref a17, .ref a18, .int 0, .int 0, .int 0, .int 0, .int 0, .int 0, .ref a19, .ref a20, .ref a21, .ref a22, .ref a23, .ref a24, .ref a25, .ref a26, .ref a27]))] H := hP
  have hD : va_D A [(a0, .inr (1, [.int 1, .int 0, .ref a1, .int 0, .int (-1), .int 0, .int 0, .ref a2, .ref a3, .ref a4, .ref a5, .ref a6, .int 0, .int 0, .ref a7, .int 0, .int 0, .ref a8, .ref a9, .ref a10, .ref a11, .ref a12, .ref a13, .int 0, .ref a14, .ref a15, .int 0, .int 0, .int 0, .int 0, .int 0, .int 0, .ref a16, .ref a17, .ref a18, .int 0, .int 0, .int 0, .int 0, .int 0, .int 0, .ref a19, .ref a20, .ref a21, .ref a22, .ref a23, .ref a24, .ref a25, .ref a26, .ref a27]))] := hD
  have hP9 := hP.sub (ws' := [(a0, .inr (1, [.int 1, .int 0, .ref a1, .int 0, .int (-1), .int 0, .int 0, .ref a2, .ref a3, .ref a4, .ref a5, .ref a6, .int 0, .int 0, .ref a7, .int 0, .int 0, .ref a8, .ref a9, .ref a10, .ref a11, .ref a12, .ref a13, .int 0, .ref a14, .ref a15, .int 0, .int 0, .int 0, .int 0, .int 0, .int 0, .ref a16, .ref a17, .ref a18, .int 0, .int 0, .int 0, .int 0, .int 0, .int 0, .ref a19, .ref a20, .ref a21, .ref a22, .ref a23, .ref a24, .ref a25, .ref a26, .ref a27]))]) [0] rfl
  have hD9 := hD.sub (ws' := [(a0, .inr (1, [.int 1, .int 0, .ref a1, .int 0, .int (-1), .int 0, .int 0, .ref a2, .ref a3, .ref a4, .ref a5, .ref a6, .int 0, .int 0, .ref a7, .int 0, .int 0, .ref a8, .ref a9, .ref a10, .ref a11, .ref a12, .ref a13, .int 0, .ref a14, .ref a15, .int 0, .int 0, .int 0, .int 0, .int 0, .int 0, .ref a16, .ref a17, .ref a18, .int 0, .int 0, .int 0, .int 0, .int 0, .int 0, .ref a19, .ref a20, .ref a21, .ref a22, .ref a23, .ref a24, .ref a25, .ref a26, .ref a27]))]) [0] (by decide) rfl
  have hK9 := hK.sub (tys' := []) [] rfl
  exact W.iret (v := 0) hx hb hr (fun t ht hW => ⟨⟨0, (), rfl, rfl, by rw [ht]; exact hP9, va_K.moved hW.alike hK9, hD9⟩, hS.F ht⟩) hS.2.2 d_Model_fixity_30
set_option maxHeartbeats 4000000 in
set_option maxRecDepth 100000 in
theorem c166_Model_within (l : Launch) (dC : Nat → ClassId) (dI : Nat → Nat → Nat) (sz : Nat) (ev : Int64) (sdx : Int32) (lvx : Int32) (g1 : ¬ sdx < 0) (g2 : ¬ 2 < sdx) (g3 : ¬ lvx < 0) (g4 : 9 < lvx) : Met l y_Model_within w_Model_within ({ frames := 0, cells := 0, slots := 0, locals := 0 }) (va_Pc [.int sdx, .int 0, .int 2] (fun U => U.heap.size = sz ∧ va_P (dC, dI) vcl [] U.heap ∧ va_K (dC, dI) vcl [] U ∧ va_D (fun _ => True) [])) (va_Qi (fun (r : Int32) (_ : Unit) => r = 1) (fun _ t => va_P (dC, dI) vcl [] t.heap ∧ va_K (dC, dI) vcl [] t ∧ va_D (va_A [] sz) []) (va_A [] sz)) 0 0 (va_A [] sz) := by
  refine Met.ofW (cc := b_Model_within) (maxL := 3) (ret := (some .boolean)) (by decide) rfl ?_
  intro p e s m args below meth c s₁ B hml hv
  obtain ⟨rfl, hsz, hP, hK, hD0⟩ := hv
  have hx := B.exec
  have hb := B.bytes
  have hr := B.returns
  have hts := atoms_spec (ws := w_Model_within) B.pre
  have hz : ∀ w ∈ wz, w.before _ s = true := fun w h => hts w (List.mem_cons_of_mem _ h)
  have hown : s.vm.findClass R_Model = some m.cls := findClass_of_methodNamed B.named
  have hlocks := B.notSynchronized
  subst hsz
  have hD := hD0.self (sz := s.heap.size)
  generalize hAe : va_A [] s.heap.size = A at hD ⊢
  have hA : ∀ q : Nat, s.heap.size ≤ q → A q := fun q h => by rw [← hAe]; exact Or.inr h
  have hS : va_S A s.heap s.heap [] := va_S.rf
  have hP : va_P (dC, dI) vcl [] s.heap := hP
  have hl := lv_entry ([.int sdx, .int 0, .int 2]) (n := 3) (Nat.le_of_ble_eq_true rfl)
  rw [lg_entry_eq]
  generalize (lg_sl ([.int sdx, .int 0, .int 2]) ++ List.replicate (3 - (lg_sl ([.int sdx, .int 0, .int 2])).length) Slot.unset).toArray = ls at hl ⊢
  have hl : lv_has ls 3 [(0, .int sdx), (1, .int 0), (2, .int 2)] := hl
  refine lv_iload_n hx hb d_Model_within_0 rfl (lv_at hl 0 rfl) ?_
  refine lv_iload_n hx hb d_Model_within_1 rfl (lv_at hl 1 rfl) ?_
  refine lv_icmp_lt (tgt := 14) hx hb d_Model_within_2 (by decide) (fun h => absurd h g1) (fun _ => ?_)
  refine lv_iload_n hx hb d_Model_within_5 rfl (lv_at hl 0 rfl) ?_
  refine lv_iload_n hx hb d_Model_within_6 rfl (lv_at hl 2 rfl) ?_
  refine lv_icmp_gt (tgt := 14) hx hb d_Model_within_7 (by decide) (fun h => absurd h g2) (fun _ => ?_)
  refine lv_iconst (v := 1) hx hb d_Model_within_10 (by decide) ?_
  refine lv_goto (tgt := 15) hx hb d_Model_within_11 (by decide) ?_
  have hP9 := hP.sub (ws' := []) [] rfl
  have hD9 := hD.sub (ws' := []) [] (by decide) rfl
  have hK9 := hK.sub (tys' := []) [] rfl
  exact W.zret (v := 1) hx hb hr (by decide +kernel) (fun t ht hW => ⟨⟨1, (), rfl, rfl, by rw [ht]; exact hP9, va_K.moved hW.alike hK9, hD9⟩, hS.F ht⟩) hS.2.2 d_Model_within_15
set_option maxHeartbeats 4000000 in
set_option maxRecDepth 100000 in
theorem c167_Model_within (l : Launch) (dC : Nat → ClassId) (dI : Nat → Nat → Nat) (sz : Nat) (ev : Int64) (sdx : Int32) (lvx : Int32) (g1 : ¬ sdx < 0) (g2 : ¬ 2 < sdx) (g3 : ¬ lvx < 0) (g4 : 9 < lvx) : Met l y_Model_within w_Model_within ({ frames := 0, cells := 0, slots := 0, locals := 0 }) (va_Pc [.int lvx, .int 0, .int 9] (fun U => U.heap.size = sz ∧ va_P (dC, dI) vcl [] U.heap ∧ va_K (dC, dI) vcl [] U ∧ va_D (fun _ => True) [])) (va_Qi (fun (r : Int32) (_ : Unit) => r = 0) (fun _ t => va_P (dC, dI) vcl [] t.heap ∧ va_K (dC, dI) vcl [] t ∧ va_D (va_A [] sz) []) (va_A [] sz)) 0 0 (va_A [] sz) := by
  refine Met.ofW (cc := b_Model_within) (maxL := 3) (ret := (some .boolean)) (by decide) rfl ?_
  intro p e s m args below meth c s₁ B hml hv
  obtain ⟨rfl, hsz, hP, hK, hD0⟩ := hv
  have hx := B.exec
  have hb := B.bytes
  have hr := B.returns
  have hts := atoms_spec (ws := w_Model_within) B.pre
  have hz : ∀ w ∈ wz, w.before _ s = true := fun w h => hts w (List.mem_cons_of_mem _ h)
  have hown : s.vm.findClass R_Model = some m.cls := findClass_of_methodNamed B.named
  have hlocks := B.notSynchronized
  subst hsz
  have hD := hD0.self (sz := s.heap.size)
  generalize hAe : va_A [] s.heap.size = A at hD ⊢
  have hA : ∀ q : Nat, s.heap.size ≤ q → A q := fun q h => by rw [← hAe]; exact Or.inr h
  have hS : va_S A s.heap s.heap [] := va_S.rf
  have hP : va_P (dC, dI) vcl [] s.heap := hP
  have hl := lv_entry ([.int lvx, .int 0, .int 9]) (n := 3) (Nat.le_of_ble_eq_true rfl)
  rw [lg_entry_eq]
  generalize (lg_sl ([.int lvx, .int 0, .int 9]) ++ List.replicate (3 - (lg_sl ([.int lvx, .int 0, .int 9])).length) Slot.unset).toArray = ls at hl ⊢
  have hl : lv_has ls 3 [(0, .int lvx), (1, .int 0), (2, .int 9)] := hl
  refine lv_iload_n hx hb d_Model_within_0 rfl (lv_at hl 0 rfl) ?_
  refine lv_iload_n hx hb d_Model_within_1 rfl (lv_at hl 1 rfl) ?_
  refine lv_icmp_lt (tgt := 14) hx hb d_Model_within_2 (by decide) (fun h => absurd h g3) (fun _ => ?_)
  refine lv_iload_n hx hb d_Model_within_5 rfl (lv_at hl 0 rfl) ?_
  refine lv_iload_n hx hb d_Model_within_6 rfl (lv_at hl 2 rfl) ?_
  refine lv_icmp_gt (tgt := 14) hx hb d_Model_within_7 (by decide) (fun _ => ?_) (fun h => (h g4).elim)
  refine lv_iconst (v := 0) hx hb d_Model_within_14 (by decide) ?_
  have hP9 := hP.sub (ws' := []) [] rfl
  have hD9 := hD.sub (ws' := []) [] (by decide) rfl
  have hK9 := hK.sub (tys' := []) [] rfl
  exact W.zret (v := 0) hx hb hr (by decide +kernel) (fun t ht hW => ⟨⟨0, (), rfl, rfl, by rw [ht]; exact hP9, va_K.moved hW.alike hK9, hD9⟩, hS.F ht⟩) hS.2.2 d_Model_within_15
set_option maxHeartbeats 4000000 in
set_option maxRecDepth 100000 in
theorem c168_Model_fixity (l : Launch) (dC : Nat → ClassId) (dI : Nat → Nat → Nat) (sz : Nat) (a0 : Nat) (a1 : Nat) (a2 : Nat) (a3 : Nat) (a4 : Nat) (a5 : Nat) (a6 : Nat) (a7 : Nat) (a8 : Nat) (a9 : Nat) (a10 : Nat) (a11 : Nat) (a12 : Nat) (a13 : Nat) (a14 : Nat) (a15 : Nat) (a16 : Nat) (a17 : Nat) (a18 : Nat) (a19 : Nat) (a20 : Nat) (a21 : Nat) (a22 : Nat) (a23 : Nat) (a24 : Nat) (a25 : Nat) (a26 : Nat) (a27 : Nat) (ev : Int64) (sdx : Int32) (lvx : Int32) (g1 : ¬ sdx < 0) (g2 : ¬ 2 < sdx) (g3 : ¬ lvx < 0) (g4 : 9 < lvx) : Met l y_Model_fixity w_Model_fixity ({ frames := 1, cells := 0, slots := 0, locals := 22 }) (va_Pc [.ref a0, .long ev, .int sdx, .int lvx] (fun U => U.heap.size = sz ∧ va_P (dC, dI) vcl [(a0, .inr (1, [.int 0, .int 0, .ref a1, .int 0, .int (-1), .int 0, .int 0, .ref a2, .ref a3, .ref a4, .ref a5, .ref a6, .int 0, .int 0, .ref a7, .int 0, .int 0, .ref a8, .ref a9, .ref a10, .ref a11, .ref a12, .ref a13, .int 0, .ref a14, .ref a15, .int 0, .int 0, .int 0, .int 0, .int 0, .int 0, .ref a16, .ref a17, .ref a18, .int 0, .int 0, .int 0, .int 0, .int 0, .int 0, .ref a19, .ref a20, .ref a21, .ref a22, .ref a23, .ref a24, .ref a25, .ref a26, .ref a27]))] U.heap ∧ va_K (dC, dI) vcl [] U ∧ va_D (fun _ => True) [(a0, .inr (1, [.int 0, .int 0, .ref a1, .int 0, .int (-1), .int 0, .int 0, .ref a2, .ref a3, .ref a4, .ref a5, .ref a6, .int 0, .int 0, .ref a7, .int 0, .int 0, .ref a8, .ref a9, .ref a10, .ref a11, .ref a12, .ref a13, .int 0, .ref a14, .ref a15, .int 0, .int 0, .int 0, .int 0, .int 0, .int 0, .ref a16, .ref a17, .ref a18, .int 0, .int 0, .int 0, .int 0, .int 0, .int 0, .ref a19, .ref a20, .ref a21, .ref a22, .ref a23, .ref a24, .ref a25, .ref a26, .ref a27]))])) (va_Qi (fun (r : Int32) (_ : Unit) => r = 0) (fun _ t => va_P (dC, dI) vcl [(a0, .inr (1, [.int 1, .int 0, .ref a1, .int 0, .int (-1), .int 0, .int 0, .ref a2, .ref a3, .ref a4, .ref a5, .ref a6, .int 0, .int 0, .ref a7, .int 0, .int 0, .ref a8, .ref a9, .ref a10, .ref a11, .ref a12, .ref a13, .int 0, .ref a14, .ref a15, .int 0, .int 0, .int 0, .int 0, .int 0, .int 0, .ref a16, .ref a17, .ref a18, .int 0, .int 0, .int 0, .int 0, .int 0, .int 0, .ref a19, .ref a20, .ref a21, .ref a22, .ref a23, .ref a24, .ref a25, .ref a26, .ref a27]))] t.heap ∧ va_K (dC, dI) vcl [] t ∧ va_D (va_A [(a0, .inr (1, [.int 0, .int 0, .ref a1, .int 0, .int (-1), .int 0, .int 0, .ref a2, .ref a3, .ref a4, .ref a5, .ref a6, .int 0, .int 0, .ref a7, .int 0, .int 0, .ref a8, .ref a9, .ref a10, .ref a11, .ref a12, .ref a13, .int 0, .ref a14, .ref a15, .int 0, .int 0, .int 0, .int 0, .int 0, .int 0, .ref a16, .ref a17, .ref a18, .int 0, .int 0, .int 0, .int 0, .int 0, .int 0, .ref a19, .ref a20, .ref a21, .ref a22, .ref a23, .ref a24, .ref a25, .ref a26, .ref a27]))] sz) [(a0, .inr (1, [.int 1, .int 0, .ref a1, .int 0, .int (-1), .int 0, .int 0, .ref a2, .ref a3, .ref a4, .ref a5, .ref a6, .int 0, .int 0, .ref a7, .int 0, .int 0, .ref a8, .ref a9, .ref a10, .ref a11, .ref a12, .ref a13, .int 0, .ref a14, .ref a15, .int 0, .int 0, .int 0, .int 0, .int 0, .int 0, .ref a16, .ref a17, .ref a18, .int 0, .int 0, .int 0, .int 0, .int 0, .int 0, .ref a19, .ref a20, .ref a21, .ref a22, .ref a23, .ref a24, .ref a25, .ref a26, .ref a27]))]) (va_A [(a0, .inr (1, [.int 0, .int 0, .ref a1, .int 0, .int (-1), .int 0, .int 0, .ref a2, .ref a3, .ref a4, .ref a5, .ref a6, .int 0, .int 0, .ref a7, .int 0, .int 0, .ref a8, .ref a9, .ref a10, .ref a11, .ref a12, .ref a13, .int 0, .ref a14, .ref a15, .int 0, .int 0, .int 0, .int 0, .int 0, .int 0, .ref a16, .ref a17, .ref a18, .int 0, .int 0, .int 0, .int 0, .int 0, .int 0, .ref a19, .ref a20, .ref a21, .ref a22, .ref a23, .ref a24, .ref a25, .ref a26, .ref a27]))] sz)) 0 0 (va_A [(a0, .inr (1, [.int 0, .int 0, .ref a1, .int 0, .int (-1), .int 0, .int 0, .ref a2, .ref a3, .ref a4, .ref a5, .ref a6, .int 0, .int 0, .ref a7, .int 0, .int 0, .ref a8, .ref a9, .ref a10, .ref a11, .ref a12, .ref a13, .int 0, .ref a14, .ref a15, .int 0, .int 0, .int 0, .int 0, .int 0, .int 0, .ref a16, .ref a17, .ref a18, .int 0, .int 0, .int 0, .int 0, .int 0, .int 0, .ref a19, .ref a20, .ref a21, .ref a22, .ref a23, .ref a24, .ref a25, .ref a26, .ref a27]))] sz) := by
  refine Met.ofW (cc := b_Model_fixity) (maxL := 6) (ret := (some .int)) (by decide) rfl ?_
  intro p e s m args below meth c s₁ B hml hv
  obtain ⟨rfl, hsz, hP, hK, hD0⟩ := hv
  have hx := B.exec
  have hb := B.bytes
  have hr := B.returns
  have hts := atoms_spec (ws := w_Model_fixity) B.pre
  have hz : ∀ w ∈ wz, w.before _ s = true := fun w h => hts w (List.mem_cons_of_mem _ h)
  have hown : s.vm.findClass R_Model = some m.cls := findClass_of_methodNamed B.named
  have hlocks := B.notSynchronized
  subst hsz
  have hD := hD0.self (sz := s.heap.size)
  generalize hAe : va_A [(a0, .inr (1, [.int 0, .int 0, .ref a1, .int 0, .int (-1), .int 0, .int 0, .ref a2, .ref a3, .ref a4, .ref a5, .ref a6, .int 0, .int 0, .ref a7, .int 0, .int 0, .ref a8, .ref a9, .ref a10, .ref a11, .ref a12, .ref a13, .int 0, .ref a14, .ref a15, .int 0, .int 0, .int 0, .int 0, .int 0, .int 0, .ref a16, .ref a17, .ref a18, .int 0, .int 0, .int 0, .int 0, .int 0, .int 0, .ref a19, .ref a20, .ref a21, .ref a22, .ref a23, .ref a24, .ref a25, .ref a26, .ref a27]))] s.heap.size = A at hD ⊢
  have hA : ∀ q : Nat, s.heap.size ≤ q → A q := fun q h => by rw [← hAe]; exact Or.inr h
  have hS : va_S A s.heap s.heap [] := va_S.rf
  have hP : va_P (dC, dI) vcl [(a0, .inr (1, [.int 0, .int 0, .ref a1, .int 0, .int (-1), .int 0, .int 0, .ref a2, .ref a3, .ref a4, .ref a5, .ref a6, .int 0, .int 0, .ref a7, .int 0, .int 0, .ref a8, .ref a9, .ref a10, .ref a11, .ref a12, .ref a13, .int 0, .ref a14, .ref a15, .int 0, .int 0, .int 0, .int 0, .int 0, .int 0, .ref a16, .ref a17, .ref a18, .int 0, .int 0, .int 0, .int 0, .int 0, .int 0, .ref a19, .ref a20, .ref a21, .ref a22, .ref a23, .ref a24, .ref a25, .ref a26, .ref a27]))] s.heap := hP
  have hl := lv_entry ([.ref a0, .long ev, .int sdx, .int lvx]) (n := 6) (Nat.le_of_ble_eq_true rfl)
  rw [lg_entry_eq]
  generalize (lg_sl ([.ref a0, .long ev, .int sdx, .int lvx]) ++ List.replicate (6 - (lg_sl ([.ref a0, .long ev, .int sdx, .int lvx])).length) Slot.unset).toArray = ls at hl ⊢
  have hl : lv_has ls 6 [(0, .ref a0), (1, .long ev), (3, .int sdx), (4, .int lvx)] := hl
  refine lv_aload_n hx hb d_Model_fixity_0 rfl (lv_at hl 0 rfl) ?_
  refine lv_iconst (v := 0) hx hb d_Model_fixity_1 (by decide) ?_
  refine va_put (D := (dC, dI)) (ci := 1) (v := .int 0) (ty := .int) (C := R_Model) (T := F_Model) (N := 50) hx hb hz zu_Model t_Model t_Model_ok n_Model hown hK hP hD hS 0 rfl rfl 0 (by decide) (hz (.fieldLink R_Model 97 "LayoutFrontModel" "thrown" "I") zm_415) (fun _ h9 => h9) rfl (by decide +kernel) rfl rfl (Nat.le_of_ble_eq_true rfl) d_Model_fixity_2 (fun H locs hP hD hS => ?_)
  have hP : va_P (dC, dI) vcl [(a0, .inr (1, [.int 0, .int 0, .ref a1, .int 0, .int (-1), .int 0, .int 0, .ref a2, .ref a3, .ref a4, .ref a5, .ref a6, .int 0, .int 0, .ref a7, .int 0, .int 0, .ref a8, .ref a9, .ref a10, .ref a11, .ref a12, .ref a13, .int 0, .ref a14, .ref a15, .int 0, .int 0, .int 0, .int 0, .int 0, .int 0, .ref a16, .ref a17, .ref a18, .int 0, .int 0, .int 0, .int 0, .int 0, .int 0, .ref a19, .ref a20, .ref a21, .ref a22, .ref a23, .ref a24, .ref a25, .ref a26, .ref a27]))] H := hP
  have hD : va_D A [(a0, .inr (1, [.int 0, .int 0, .ref a1, .int 0, .int (-1), .int 0, .int 0, .ref a2, .ref a3, .ref a4, .ref a5, .ref a6, .int 0, .int 0, .ref a7, .int 0, .int 0, .ref a8, .ref a9, .ref a10, .ref a11, .ref a12, .ref a13, .int 0, .ref a14, .ref a15, .int 0, .int 0, .int 0, .int 0, .int 0, .int 0, .ref a16, .ref a17, .ref a18, .int 0, .int 0, .int 0, .int 0, .int 0, .int 0, .ref a19, .ref a20, .ref a21, .ref a22, .ref a23, .ref a24, .ref a25, .ref a26, .ref a27]))] := hD
  refine lv_iload_n hx hb d_Model_fixity_5 rfl (lv_at hl 2 rfl) ?_
  refine lv_iconst (v := 0) hx hb d_Model_fixity_6 (by decide) ?_
  refine lv_iconst (v := 2) hx hb d_Model_fixity_7 (by decide) ?_
  have hPc := hP.sub (ws' := []) [] rfl
  have hDc := hD.sub (ws' := []) [] (by decide) rfl
  have hKc := hK.sub (tys' := []) [] rfl
  have hFc := va_free (wc := []) hD hS hA [] rfl
  refine va_calli (va_runS (As := [.int sdx, .int 0, .int 2]) (rest := []) ⟨hx, hb, hml, hown, hz⟩ (c166_Model_within l dC dI H.size ev sdx lvx g1 g2 g3 g4) (cwS 3 hz (zS zm_449 zm_450 zm_374 zm_451) rfl rfl rfl (by decide +kernel) ⟨Nat.le_of_ble_eq_true rfl, Nat.le_of_ble_eq_true rfl⟩) ⟨fun a U g mk q => by obtain ⟨q0, q1, qP, qK, qD⟩ := q; exact ⟨q0, q1, qP, va_K.moved (u := U) (U := U.calling g mk a) (Vm.Alike.refl U.vm) qK, qD⟩, fun U hU hW => ⟨rfl, by rw [hU], by rw [hU]; exact hPc, va_K.moved hW.alike hKc, hDc.weaken (fun _ _ _ _ => trivial)⟩⟩ rfl rfl hl.1 rfl (lv_room (Nat.le_of_ble_eq_true rfl)) d_Model_fixity_8 ⟨by decide, by decide⟩) hS (fun q _ h => hFc q h) hFc (fun r u t H1 locs ht hvm hw hB hz1 hk1 hS => ?_)
  obtain ⟨hP1, hK1, hD1⟩ := hB
  subst r
  rw [ht] at hP1
  obtain ⟨hP, hD⟩ := va_join (wr := [(a0, .inr (1, [.int 0, .int 0, .ref a1, .int 0, .int (-1), .int 0, .int 0, .ref a2, .ref a3, .ref a4, .ref a5, .ref a6, .int 0, .int 0, .ref a7, .int 0, .int 0, .ref a8, .ref a9, .ref a10, .ref a11, .ref a12, .ref a13, .int 0, .ref a14, .ref a15, .int 0, .int 0, .int 0, .int 0, .int 0, .int 0, .ref a16, .ref a17, .ref a18, .int 0, .int 0, .int 0, .int 0, .int 0, .int 0, .ref a19, .ref a20, .ref a21, .ref a22, .ref a23, .ref a24, .ref a25, .ref a26, .ref a27]))]) (w1 := []) hP hD [] [0] rfl rfl (by decide) (by decide) hk1 hFc hP1 hD1
  generalize H1 = H at hP hS ⊢
  have hP : va_P (dC, dI) vcl [(a0, .inr (1, [.int 0, .int 0, .ref a1, .int 0, .int (-1), .int 0, .int 0, .ref a2, .ref a3, .ref a4, .ref a5, .ref a6, .int 0, .int 0, .ref a7, .int 0, .int 0, .ref a8, .ref a9, .ref a10, .ref a11, .ref a12, .ref a13, .int 0, .ref a14, .ref a15, .int 0, .int 0, .int 0, .int 0, .int 0, .int 0, .ref a16, .ref a17, .ref a18, .int 0, .int 0, .int 0, .int 0, .int 0, .int 0, .ref a19, .ref a20, .ref a21, .ref a22, .ref a23, .ref a24, .ref a25, .ref a26, .ref a27]))] H := hP
  have hD : va_D A [(a0, .inr (1, [.int 0, .int 0, .ref a1, .int 0, .int (-1), .int 0, .int 0, .ref a2, .ref a3, .ref a4, .ref a5, .ref a6, .int 0, .int 0, .ref a7, .int 0, .int 0, .ref a8, .ref a9, .ref a10, .ref a11, .ref a12, .ref a13, .int 0, .ref a14, .ref a15, .int 0, .int 0, .int 0, .int 0, .int 0, .int 0, .ref a16, .ref a17, .ref a18, .int 0, .int 0, .int 0, .int 0, .int 0, .int 0, .ref a19, .ref a20, .ref a21, .ref a22, .ref a23, .ref a24, .ref a25, .ref a26, .ref a27]))] := hD
  refine lv_if_eq (tgt := 25) hx hb d_Model_fixity_11 (by decide) (fun h => absurd h (by decide +kernel)) (fun _ => ?_)
  refine lv_iload hx hb d_Model_fixity_14 (lv_at hl 3 rfl) ?_
  refine lv_iconst (v := 0) hx hb d_Model_fixity_16 (by decide) ?_
  refine lv_bipush (v := 9) hx hb d_Model_fixity_17 (by decide) ?_
  have hPc := hP.sub (ws' := []) [] rfl
  have hDc := hD.sub (ws' := []) [] (by decide) rfl
  have hKc := hK.sub (tys' := []) [] rfl
  have hFc := va_free (wc := []) hD hS hA [] rfl
  refine va_calli (va_runS (As := [.int lvx, .int 0, .int 9]) (rest := []) ⟨hx, hb, hml, hown, hz⟩ (c167_Model_within l dC dI H.size ev sdx lvx g1 g2 g3 g4) (cwS 3 hz (zS zm_449 zm_450 zm_374 zm_451) rfl rfl rfl (by decide +kernel) ⟨Nat.le_of_ble_eq_true rfl, Nat.le_of_ble_eq_true rfl⟩) ⟨fun a U g mk q => by obtain ⟨q0, q1, qP, qK, qD⟩ := q; exact ⟨q0, q1, qP, va_K.moved (u := U) (U := U.calling g mk a) (Vm.Alike.refl U.vm) qK, qD⟩, fun U hU hW => ⟨rfl, by rw [hU], by rw [hU]; exact hPc, va_K.moved hW.alike hKc, hDc.weaken (fun _ _ _ _ => trivial)⟩⟩ rfl rfl hl.1 rfl (lv_room (Nat.le_of_ble_eq_true rfl)) d_Model_fixity_19 ⟨by decide, by decide⟩) hS (fun q _ h => hFc q h) hFc (fun r u t H1 locs ht hvm hw hB hz1 hk1 hS => ?_)
  obtain ⟨hP1, hK1, hD1⟩ := hB
  subst r
  rw [ht] at hP1
  obtain ⟨hP, hD⟩ := va_join (wr := [(a0, .inr (1, [.int 0, .int 0, .ref a1, .int 0, .int (-1), .int 0, .int 0, .ref a2, .ref a3, .ref a4, .ref a5, .ref a6, .int 0, .int 0, .ref a7, .int 0, .int 0, .ref a8, .ref a9, .ref a10, .ref a11, .ref a12, .ref a13, .int 0, .ref a14, .ref a15, .int 0, .int 0, .int 0, .int 0, .int 0, .int 0, .ref a16, .ref a17, .ref a18, .int 0, .int 0, .int 0, .int 0, .int 0, .int 0, .ref a19, .ref a20, .ref a21, .ref a22, .ref a23, .ref a24, .ref a25, .ref a26, .ref a27]))]) (w1 := []) hP hD [] [0] rfl rfl (by decide) (by decide) hk1 hFc hP1 hD1
  generalize H1 = H at hP hS ⊢
  have hP : va_P (dC, dI) vcl [(a0, .inr (1, [.int 0, .int 0, .ref a1, .int 0, .int (-1), .int 0, .int 0, .ref a2, .ref a3, .ref a4, .ref a5, .ref a6, .int 0, .int 0, .ref a7, .int 0, .int 0, .ref a8, .ref a9, .ref a10, .ref a11, .ref a12, .ref a13, .int 0, .ref a14, .ref a15, .int 0, .int 0, .int 0, .int 0, .int 0, .int 0, .ref a16, .ref a17, .ref a18, .int 0, .int 0, .int 0, .int 0, .int 0, .int 0, .ref a19, .ref a20, .ref a21, .ref a22, .ref a23, .ref a24, .ref a25, .ref a26, .ref a27]))] H := hP
  have hD : va_D A [(a0, .inr (1, [.int 0, .int 0, .ref a1, .int 0, .int (-1), .int 0, .int 0, .ref a2, .ref a3, .ref a4, .ref a5, .ref a6, .int 0, .int 0, .ref a7, .int 0, .int 0, .ref a8, .ref a9, .ref a10, .ref a11, .ref a12, .ref a13, .int 0, .ref a14, .ref a15, .int 0, .int 0, .int 0, .int 0, .int 0, .int 0, .ref a16, .ref a17, .ref a18, .int 0, .int 0, .int 0, .int 0, .int 0, .int 0, .ref a19, .ref a20, .ref a21, .ref a22, .ref a23, .ref a24, .ref a25, .ref a26, .ref a27]))] := hD
  refine lv_if_ne (tgt := 31) hx hb d_Model_fixity_22 (by decide) (fun h => (h (by decide +kernel)).elim) (fun _ => ?_)
  refine lv_aload_n hx hb d_Model_fixity_25 rfl (lv_at hl 0 rfl) ?_
  refine lv_iconst (v := 1) hx hb d_Model_fixity_26 (by decide) ?_
  have hPc := hP.sub (ws' := [(a0, .inr (1, [.int 0, .int 0, .ref a1, .int 0, .int (-1), .int 0, .int 0, .ref a2, .ref a3, .ref a4, .ref a5, .ref a6, .int 0, .int 0, .ref a7, .int 0, .int 0, .ref a8, .ref a9, .ref a10, .ref a11, .ref a12, .ref a13, .int 0, .ref a14, .ref a15, .int 0, .int 0, .int 0, .int 0, .int 0, .int 0, .ref a16, .ref a17, .ref a18, .int 0, .int 0, .int 0, .int 0, .int 0, .int 0, .ref a19, .ref a20, .ref a21, .ref a22, .ref a23, .ref a24, .ref a25, .ref a26, .ref a27]))]) [0] rfl
  have hDc := hD.sub (ws' := [(a0, .inr (1, [.int 0, .int 0, .ref a1, .int 0, .int (-1), .int 0, .int 0, .ref a2, .ref a3, .ref a4, .ref a5, .ref a6, .int 0, .int 0, .ref a7, .int 0, .int 0, .ref a8, .ref a9, .ref a10, .ref a11, .ref a12, .ref a13, .int 0, .ref a14, .ref a15, .int 0, .int 0, .int 0, .int 0, .int 0, .int 0, .ref a16, .ref a17, .ref a18, .int 0, .int 0, .int 0, .int 0, .int 0, .int 0, .ref a19, .ref a20, .ref a21, .ref a22, .ref a23, .ref a24, .ref a25, .ref a26, .ref a27]))]) [0] (by decide) rfl
  have hKc := hK.sub (tys' := []) [] rfl
  have hFc := va_free (wc := [(a0, .inr (1, [.int 0, .int 0, .ref a1, .int 0, .int (-1), .int 0, .int 0, .ref a2, .ref a3, .ref a4, .ref a5, .ref a6, .int 0, .int 0, .ref a7, .int 0, .int 0, .ref a8, .ref a9, .ref a10, .ref a11, .ref a12, .ref a13, .int 0, .ref a14, .ref a15, .int 0, .int 0, .int 0, .int 0, .int 0, .int 0, .ref a16, .ref a17, .ref a18, .int 0, .int 0, .int 0, .int 0, .int 0, .int 0, .ref a19, .ref a20, .ref a21, .ref a22, .ref a23, .ref a24, .ref a25, .ref a26, .ref a27]))]) hD hS hA [0] rfl
  refine va_calli (va_runV (As := [.int 1]) (rest := []) ⟨hx, hb, hml, hown, hz⟩ (c139_Model_fail l dC dI H.size a0 a1 a2 a3 a4 a5 a6 a7 a8 a9 a10 a11 a12 a13 a14 a15 a16 a17 a18 a19 a20 a21 a22 a23 a24 a25 a26 a27) (cwV 1 hz (zV zm_452 zm_453 zm_454 zm_374 zm_455) rfl rfl rfl (by decide +kernel) ⟨Nat.le_of_ble_eq_true rfl, Nat.le_of_ble_eq_true rfl⟩) ⟨fun a U g mk q => by obtain ⟨q0, q1, qP, qK, qD⟩ := q; exact ⟨q0, q1, qP, va_K.moved (u := U) (U := U.calling g mk a) (Vm.Alike.refl U.vm) qK, qD⟩, va_recv (q := (R_Model, F_Model, 50)) (q0 := 0) (ci := 1) hK hP rfl rfl, fun U hU hW => ⟨rfl, by rw [hU], by rw [hU]; exact hPc, va_K.moved hW.alike hKc, hDc.weaken (fun _ _ _ _ => trivial)⟩⟩ rfl rfl hl.1 rfl (lv_room (Nat.le_of_ble_eq_true rfl)) d_Model_fixity_27 ⟨by decide, by decide⟩) hS (fun q _ h => hFc q h) hFc (fun r u t H1 locs ht hvm hw hB hz1 hk1 hS => ?_)
  obtain ⟨hP1, hK1, hD1⟩ := hB
  subst r
  rw [ht] at hP1
  obtain ⟨hP, hD⟩ := va_join (wr := []) (w1 := [(a0, .inr (1, [.int 1, .int 0, .ref a1, .int 0, .int (-1), .int 0, .int 0, .ref a2, .ref a3, .ref a4, .ref a5, .ref a6, .int 0, .int 0, .ref a7, .int 0, .int 0, .ref a8, .ref a9, .ref a10, .ref a11, .ref a12, .ref a13, .int 0, .ref a14, .ref a15, .int 0, .int 0, .int 0, .int 0, .int 0, .int 0, .ref a16, .ref a17, .ref a18, .int 0, .int 0, .int 0, .int 0, .int 0, .int 0, .ref a19, .ref a20, .ref a21, .ref a22, .ref a23, .ref a24, .ref a25, .ref a26, .ref a27]))]) hP hD [0] [] rfl rfl (by decide) (by decide) hk1 hFc hP1 hD1
  generalize H1 = H at hP hS ⊢
  have hP : va_P (dC, dI) vcl [(a0, .inr (1, [.int 1, .int 0, .ref a1, .int 0, .int (-1), .int 0, .int 0, .ref a2, .ref a3, .ref a4, .ref a5, .ref a6, .int 0, .int 0, .ref a7, .int 0, .int 0, .ref a8, .ref a9, .ref a10, .ref a11, .ref a12, .ref a13, .int 0, .ref a14, .ref a15, .int 0, .int 0, .int 0, .int 0, .int 0, .int 0, .ref a16, .ref a17, .ref a18, .int 0, .int 0, .int 0, .int 0, .int 0, .int 0, .ref a19, .ref a20, .ref a21, .ref a22, .ref a23, .ref a24, .ref a25, .ref a26, .ref a27]))] H := hP
  have hD : va_D A [(a0, .inr (1, [.int 1, .int 0, .ref a1, .int 0, .int (-1), .int 0, .int 0, .ref a2, .ref a3, .ref a4, .ref a5, .ref a6, .int 0, .int 0, .ref a7, .int 0, .int 0, .ref a8, .ref a9, .ref a10, .ref a11, .ref a12, .ref a13, .int 0, .ref a14, .ref a15, .int 0, .int 0, .int 0, .int 0, .int 0, .int 0, .ref a16, .ref a17, .ref a18, .int 0, .int 0, .int 0, .int 0, .int 0, .int 0, .ref a19, .ref a20, .ref a21, .ref a22, .ref a23, .ref a24, .ref a25, .ref a26, .ref a27]))] := hD
  have hP9 := hP.sub (ws' := [(a0, .inr (1, [.int 1, .int 0, .ref a1, .int 0, .int (-1), .int 0, .int 0, .ref a2, .ref a3, .ref a4, .ref a5, .ref a6, .int 0, .int 0, .ref a7, .int 0, .int 0, .ref a8, .ref a9, .ref a10, .ref a11, .ref a12, .ref a13, .int 0, .ref a14, .ref a15, .int 0, .int 0, .int 0, .int 0, .int 0, .int 0, .ref a16, .ref a17, .ref a18, .int 0, .int 0, .int 0, .int 0, .int 0, .int 0, .ref a19, .ref a20, .ref a21, .ref a22, .ref a23, .ref a24, .ref a25, .ref a26, .ref a27]))]) [0] rfl
  have hD9 := hD.sub (ws' := [(a0, .inr (1, [.int 1, .int 0, .ref a1, .int 0, .int (-1), .int 0, .int 0, .ref a2, .ref a3, .ref a4, .ref a5, .ref a6, .int 0, .int 0, .ref a7, .int 0, .int 0, .ref a8, .ref a9, .ref a10, .ref a11, .ref a12, .ref a13, .int 0, .ref a14, .ref a15, .int 0, .int 0, .int 0, .int 0, .int 0, .int 0, .ref a16, .ref a17, .ref a18, .int 0, .int 0, .int 0, .int 0, .int 0, .int 0, .ref a19, .ref a20, .ref a21, .ref a22, .ref a23, .ref a24, .ref a25, .ref a26, .ref a27]))]) [0] (by decide) rfl
  have hK9 := hK.sub (tys' := []) [] rfl
  exact W.iret (v := 0) hx hb hr (fun t ht hW => ⟨⟨0, (), rfl, rfl, by rw [ht]; exact hP9, va_K.moved hW.alike hK9, hD9⟩, hS.F ht⟩) hS.2.2 d_Model_fixity_30
set_option maxHeartbeats 4000000 in
set_option maxRecDepth 100000 in
theorem c169_Model_thrown (l : Launch) (dC : Nat → ClassId) (dI : Nat → Nat → Nat) (sz : Nat) (a0 : Nat) (a1 : Nat) (a2 : Nat) (a3 : Nat) (a4 : Nat) (a5 : Nat) (a6 : Nat) (a7 : Nat) (a8 : Nat) (a9 : Nat) (a10 : Nat) (a11 : Nat) (a12 : Nat) (a13 : Nat) (a14 : Nat) (a15 : Nat) (a16 : Nat) (a17 : Nat) (a18 : Nat) (a19 : Nat) (a20 : Nat) (a21 : Nat) (a22 : Nat) (a23 : Nat) (a24 : Nat) (a25 : Nat) (a26 : Nat) (a27 : Nat) : Met l y_Model_thrown w_Model_thrown ({ frames := 0, cells := 0, slots := 0, locals := 0 }) (va_Pc [.ref a0] (fun U => U.heap.size = sz ∧ va_P (dC, dI) vcl [(a0, .inr (1, [.int 1, .int 0, .ref a1, .int 0, .int (-1), .int 0, .int 0, .ref a2, .ref a3, .ref a4, .ref a5, .ref a6, .int 0, .int 0, .ref a7, .int 0, .int 0, .ref a8, .ref a9, .ref a10, .ref a11, .ref a12, .ref a13, .int 0, .ref a14, .ref a15, .int 0, .int 0, .int 0, .int 0, .int 0, .int 0, .ref a16, .ref a17, .ref a18, .int 0, .int 0, .int 0, .int 0, .int 0, .int 0, .ref a19, .ref a20, .ref a21, .ref a22, .ref a23, .ref a24, .ref a25, .ref a26, .ref a27]))] U.heap ∧ va_K (dC, dI) vcl [] U ∧ va_D (fun _ => True) [(a0, .inr (1, [.int 1, .int 0, .ref a1, .int 0, .int (-1), .int 0, .int 0, .ref a2, .ref a3, .ref a4, .ref a5, .ref a6, .int 0, .int 0, .ref a7, .int 0, .int 0, .ref a8, .ref a9, .ref a10, .ref a11, .ref a12, .ref a13, .int 0, .ref a14, .ref a15, .int 0, .int 0, .int 0, .int 0, .int 0, .int 0, .ref a16, .ref a17, .ref a18, .int 0, .int 0, .int 0, .int 0, .int 0, .int 0, .ref a19, .ref a20, .ref a21, .ref a22, .ref a23, .ref a24, .ref a25, .ref a26, .ref a27]))])) (va_Qi (fun (r : Int32) (_ : Unit) => r = 1) (fun _ t => va_P (dC, dI) vcl [(a0, .inr (1, [.int 1, .int 0, .ref a1, .int 0, .int (-1), .int 0, .int 0, .ref a2, .ref a3, .ref a4, .ref a5, .ref a6, .int 0, .int 0, .ref a7, .int 0, .int 0, .ref a8, .ref a9, .ref a10, .ref a11, .ref a12, .ref a13, .int 0, .ref a14, .ref a15, .int 0, .int 0, .int 0, .int 0, .int 0, .int 0, .ref a16, .ref a17, .ref a18, .int 0, .int 0, .int 0, .int 0, .int 0, .int 0, .ref a19, .ref a20, .ref a21, .ref a22, .ref a23, .ref a24, .ref a25, .ref a26, .ref a27]))] t.heap ∧ va_K (dC, dI) vcl [] t ∧ va_D (va_A [(a0, .inr (1, [.int 1, .int 0, .ref a1, .int 0, .int (-1), .int 0, .int 0, .ref a2, .ref a3, .ref a4, .ref a5, .ref a6, .int 0, .int 0, .ref a7, .int 0, .int 0, .ref a8, .ref a9, .ref a10, .ref a11, .ref a12, .ref a13, .int 0, .ref a14, .ref a15, .int 0, .int 0, .int 0, .int 0, .int 0, .int 0, .ref a16, .ref a17, .ref a18, .int 0, .int 0, .int 0, .int 0, .int 0, .int 0, .ref a19, .ref a20, .ref a21, .ref a22, .ref a23, .ref a24, .ref a25, .ref a26, .ref a27]))] sz) [(a0, .inr (1, [.int 1, .int 0, .ref a1, .int 0, .int (-1), .int 0, .int 0, .ref a2, .ref a3, .ref a4, .ref a5, .ref a6, .int 0, .int 0, .ref a7, .int 0, .int 0, .ref a8, .ref a9, .ref a10, .ref a11, .ref a12, .ref a13, .int 0, .ref a14, .ref a15, .int 0, .int 0, .int 0, .int 0, .int 0, .int 0, .ref a16, .ref a17, .ref a18, .int 0, .int 0, .int 0, .int 0, .int 0, .int 0, .ref a19, .ref a20, .ref a21, .ref a22, .ref a23, .ref a24, .ref a25, .ref a26, .ref a27]))]) (va_A [(a0, .inr (1, [.int 1, .int 0, .ref a1, .int 0, .int (-1), .int 0, .int 0, .ref a2, .ref a3, .ref a4, .ref a5, .ref a6, .int 0, .int 0, .ref a7, .int 0, .int 0, .ref a8, .ref a9, .ref a10, .ref a11, .ref a12, .ref a13, .int 0, .ref a14, .ref a15, .int 0, .int 0, .int 0, .int 0, .int 0, .int 0, .ref a16, .ref a17, .ref a18, .int 0, .int 0, .int 0, .int 0, .int 0, .int 0, .ref a19, .ref a20, .ref a21, .ref a22, .ref a23, .ref a24, .ref a25, .ref a26, .ref a27]))] sz)) 0 0 (va_A [(a0, .inr (1, [.int 1, .int 0, .ref a1, .int 0, .int (-1), .int 0, .int 0, .ref a2, .ref a3, .ref a4, .ref a5, .ref a6, .int 0, .int 0, .ref a7, .int 0, .int 0, .ref a8, .ref a9, .ref a10, .ref a11, .ref a12, .ref a13, .int 0, .ref a14, .ref a15, .int 0, .int 0, .int 0, .int 0, .int 0, .int 0, .ref a16, .ref a17, .ref a18, .int 0, .int 0, .int 0, .int 0, .int 0, .int 0, .ref a19, .ref a20, .ref a21, .ref a22, .ref a23, .ref a24, .ref a25, .ref a26, .ref a27]))] sz) := by
  refine Met.ofW (cc := b_Model_thrown) (maxL := 1) (ret := (some .int)) (by decide) rfl ?_
  intro p e s m args below meth c s₁ B hml hv
  obtain ⟨rfl, hsz, hP, hK, hD0⟩ := hv
  have hx := B.exec
  have hb := B.bytes
  have hr := B.returns
  have hts := atoms_spec (ws := w_Model_thrown) B.pre
  have hz : ∀ w ∈ wz, w.before _ s = true := fun w h => hts w (List.mem_cons_of_mem _ h)
  have hown : s.vm.findClass R_Model = some m.cls := findClass_of_methodNamed B.named
  have hlocks := B.notSynchronized
  subst hsz
  have hD := hD0.self (sz := s.heap.size)
  generalize hAe : va_A [(a0, .inr (1, [.int 1, .int 0, .ref a1, .int 0, .int (-1), .int 0, .int 0, .ref a2, .ref a3, .ref a4, .ref a5, .ref a6, .int 0, .int 0, .ref a7, .int 0, .int 0, .ref a8, .ref a9, .ref a10, .ref a11, .ref a12, .ref a13, .int 0, .ref a14, .ref a15, .int 0, .int 0, .int 0, .int 0, .int 0, .int 0, .ref a16, .ref a17, .ref a18, .int 0, .int 0, .int 0, .int 0, .int 0, .int 0, .ref a19, .ref a20, .ref a21, .ref a22, .ref a23, .ref a24, .ref a25, .ref a26, .ref a27]))] s.heap.size = A at hD ⊢
  have hA : ∀ q : Nat, s.heap.size ≤ q → A q := fun q h => by rw [← hAe]; exact Or.inr h
  have hS : va_S A s.heap s.heap [] := va_S.rf
  have hP : va_P (dC, dI) vcl [(a0, .inr (1, [.int 1, .int 0, .ref a1, .int 0, .int (-1), .int 0, .int 0, .ref a2, .ref a3, .ref a4, .ref a5, .ref a6, .int 0, .int 0, .ref a7, .int 0, .int 0, .ref a8, .ref a9, .ref a10, .ref a11, .ref a12, .ref a13, .int 0, .ref a14, .ref a15, .int 0, .int 0, .int 0, .int 0, .int 0, .int 0, .ref a16, .ref a17, .ref a18, .int 0, .int 0, .int 0, .int 0, .int 0, .int 0, .ref a19, .ref a20, .ref a21, .ref a22, .ref a23, .ref a24, .ref a25, .ref a26, .ref a27]))] s.heap := hP
  have hl := lv_entry ([.ref a0]) (n := 1) (Nat.le_of_ble_eq_true rfl)
  rw [lg_entry_eq]
  generalize (lg_sl ([.ref a0]) ++ List.replicate (1 - (lg_sl ([.ref a0])).length) Slot.unset).toArray = ls at hl ⊢
  have hl : lv_has ls 1 [(0, .ref a0)] := hl
  refine lv_aload_n hx hb d_Model_thrown_0 rfl (lv_at hl 0 rfl) ?_
  refine va_get (D := (dC, dI)) (ci := 1) (v := .int 1) (C := R_Model) (T := F_Model) (N := 50) hx hb hz zu_Model hown hK hP 0 rfl rfl 0 (by decide) (hz (.fieldLink R_Model 97 "LayoutFrontModel" "thrown" "I") zm_415) (fun _ h9 => h9) rfl d_Model_thrown_1 ?_
  have hP9 := hP.sub (ws' := [(a0, .inr (1, [.int 1, .int 0, .ref a1, .int 0, .int (-1), .int 0, .int 0, .ref a2, .ref a3, .ref a4, .ref a5, .ref a6, .int 0, .int 0, .ref a7, .int 0, .int 0, .ref a8, .ref a9, .ref a10, .ref a11, .ref a12, .ref a13, .int 0, .ref a14, .ref a15, .int 0, .int 0, .int 0, .int 0, .int 0, .int 0, .ref a16, .ref a17, .ref a18, .int 0, .int 0, .int 0, .int 0, .int 0, .int 0, .ref a19, .ref a20, .ref a21, .ref a22, .ref a23, .ref a24, .ref a25, .ref a26, .ref a27]))]) [0] rfl
  have hD9 := hD.sub (ws' := [(a0, .inr (1, [.int 1, .int 0, .ref a1, .int 0, .int (-1), .int 0, .int 0, .ref a2, .ref a3, .ref a4, .ref a5, .ref a6, .int 0, .int 0, .ref a7, .int 0, .int 0, .ref a8, .ref a9, .ref a10, .ref a11, .ref a12, .ref a13, .int 0, .ref a14, .ref a15, .int 0, .int 0, .int 0, .int 0, .int 0, .int 0, .ref a16, .ref a17, .ref a18, .int 0, .int 0, .int 0, .int 0, .int 0, .int 0, .ref a19, .ref a20, .ref a21, .ref a22, .ref a23, .ref a24, .ref a25, .ref a26, .ref a27]))]) [0] (by decide) rfl
  have hK9 := hK.sub (tys' := []) [] rfl
  exact W.iret (v := 1) hx hb hr (fun t ht hW => ⟨⟨1, (), rfl, rfl, by rw [ht]; exact hP9, va_K.moved hW.alike hK9, hD9⟩, hS.F ht⟩) hS.2.2 d_Model_thrown_4
set_option maxHeartbeats 4000000 in
set_option maxRecDepth 100000 in
theorem c170_Model_thrown (l : Launch) (dC : Nat → ClassId) (dI : Nat → Nat → Nat) (sz : Nat) (a0 : Nat) (a1 : Nat) (a2 : Nat) (a3 : Nat) (a4 : Nat) (a5 : Nat) (a6 : Nat) (a7 : Nat) (a8 : Nat) (a9 : Nat) (a10 : Nat) (a11 : Nat) (a12 : Nat) (a13 : Nat) (a14 : Nat) (a15 : Nat) (a16 : Nat) (a17 : Nat) (a18 : Nat) (a19 : Nat) (a20 : Nat) (a21 : Nat) (a22 : Nat) (a23 : Nat) (a24 : Nat) (a25 : Nat) (a26 : Nat) (a27 : Nat) : Met l y_Model_thrown w_Model_thrown ({ frames := 0, cells := 0, slots := 0, locals := 0 }) (va_Pc [.ref a0] (fun U => U.heap.size = sz ∧ va_P (dC, dI) vcl [(a0, .inr (1, [.int 0, .int 0, .ref a1, .int 0, .int (-1), .int 0, .int 0, .ref a2, .ref a3, .ref a4, .ref a5, .ref a6, .int 0, .int 0, .ref a7, .int 0, .int 0, .ref a8, .ref a9, .ref a10, .ref a11, .ref a12, .ref a13, .int 0, .ref a14, .ref a15, .int 0, .int 0, .int 0, .int 0, .int 0, .int 0, .ref a16, .ref a17, .ref a18, .int 0, .int 0, .int 0, .int 0, .int 0, .int 0, .ref a19, .ref a20, .ref a21, .ref a22, .ref a23, .ref a24, .ref a25, .ref a26, .ref a27]))] U.heap ∧ va_K (dC, dI) vcl [] U ∧ va_D (fun _ => True) [(a0, .inr (1, [.int 0, .int 0, .ref a1, .int 0, .int (-1), .int 0, .int 0, .ref a2, .ref a3, .ref a4, .ref a5, .ref a6, .int 0, .int 0, .ref a7, .int 0, .int 0, .ref a8, .ref a9, .ref a10, .ref a11, .ref a12, .ref a13, .int 0, .ref a14, .ref a15, .int 0, .int 0, .int 0, .int 0, .int 0, .int 0, .ref a16, .ref a17, .ref a18, .int 0, .int 0, .int 0, .int 0, .int 0, .int 0, .ref a19, .ref a20, .ref a21, .ref a22, .ref a23, .ref a24, .ref a25, .ref a26, .ref a27]))])) (va_Qi (fun (r : Int32) (_ : Unit) => r = 0) (fun _ t => va_P (dC, dI) vcl [(a0, .inr (1, [.int 0, .int 0, .ref a1, .int 0, .int (-1), .int 0, .int 0, .ref a2, .ref a3, .ref a4, .ref a5, .ref a6, .int 0, .int 0, .ref a7, .int 0, .int 0, .ref a8, .ref a9, .ref a10, .ref a11, .ref a12, .ref a13, .int 0, .ref a14, .ref a15, .int 0, .int 0, .int 0, .int 0, .int 0, .int 0, .ref a16, .ref a17, .ref a18, .int 0, .int 0, .int 0, .int 0, .int 0, .int 0, .ref a19, .ref a20, .ref a21, .ref a22, .ref a23, .ref a24, .ref a25, .ref a26, .ref a27]))] t.heap ∧ va_K (dC, dI) vcl [] t ∧ va_D (va_A [(a0, .inr (1, [.int 0, .int 0, .ref a1, .int 0, .int (-1), .int 0, .int 0, .ref a2, .ref a3, .ref a4, .ref a5, .ref a6, .int 0, .int 0, .ref a7, .int 0, .int 0, .ref a8, .ref a9, .ref a10, .ref a11, .ref a12, .ref a13, .int 0, .ref a14, .ref a15, .int 0, .int 0, .int 0, .int 0, .int 0, .int 0, .ref a16, .ref a17, .ref a18, .int 0, .int 0, .int 0, .int 0, .int 0, .int 0, .ref a19, .ref a20, .ref a21, .ref a22, .ref a23, .ref a24, .ref a25, .ref a26, .ref a27]))] sz) [(a0, .inr (1, [.int 0, .int 0, .ref a1, .int 0, .int (-1), .int 0, .int 0, .ref a2, .ref a3, .ref a4, .ref a5, .ref a6, .int 0, .int 0, .ref a7, .int 0, .int 0, .ref a8, .ref a9, .ref a10, .ref a11, .ref a12, .ref a13, .int 0, .ref a14, .ref a15, .int 0, .int 0, .int 0, .int 0, .int 0, .int 0, .ref a16, .ref a17, .ref a18, .int 0, .int 0, .int 0, .int 0, .int 0, .int 0, .ref a19, .ref a20, .ref a21, .ref a22, .ref a23, .ref a24, .ref a25, .ref a26, .ref a27]))]) (va_A [(a0, .inr (1, [.int 0, .int 0, .ref a1, .int 0, .int (-1), .int 0, .int 0, .ref a2, .ref a3, .ref a4, .ref a5, .ref a6, .int 0, .int 0, .ref a7, .int 0, .int 0, .ref a8, .ref a9, .ref a10, .ref a11, .ref a12, .ref a13, .int 0, .ref a14, .ref a15, .int 0, .int 0, .int 0, .int 0, .int 0, .int 0, .ref a16, .ref a17, .ref a18, .int 0, .int 0, .int 0, .int 0, .int 0, .int 0, .ref a19, .ref a20, .ref a21, .ref a22, .ref a23, .ref a24, .ref a25, .ref a26, .ref a27]))] sz)) 0 0 (va_A [(a0, .inr (1, [.int 0, .int 0, .ref a1, .int 0, .int (-1), .int 0, .int 0, .ref a2, .ref a3, .ref a4, .ref a5, .ref a6, .int 0, .int 0, .ref a7, .int 0, .int 0, .ref a8, .ref a9, .ref a10, .ref a11, .ref a12, .ref a13, .int 0, .ref a14, .ref a15, .int 0, .int 0, .int 0, .int 0, .int 0, .int 0, .ref a16, .ref a17, .ref a18, .int 0, .int 0, .int 0, .int 0, .int 0, .int 0, .ref a19, .ref a20, .ref a21, .ref a22, .ref a23, .ref a24, .ref a25, .ref a26, .ref a27]))] sz) := by
  refine Met.ofW (cc := b_Model_thrown) (maxL := 1) (ret := (some .int)) (by decide) rfl ?_
  intro p e s m args below meth c s₁ B hml hv
  obtain ⟨rfl, hsz, hP, hK, hD0⟩ := hv
  have hx := B.exec
  have hb := B.bytes
  have hr := B.returns
  have hts := atoms_spec (ws := w_Model_thrown) B.pre
  have hz : ∀ w ∈ wz, w.before _ s = true := fun w h => hts w (List.mem_cons_of_mem _ h)
  have hown : s.vm.findClass R_Model = some m.cls := findClass_of_methodNamed B.named
  have hlocks := B.notSynchronized
  subst hsz
  have hD := hD0.self (sz := s.heap.size)
  generalize hAe : va_A [(a0, .inr (1, [.int 0, .int 0, .ref a1, .int 0, .int (-1), .int 0, .int 0, .ref a2, .ref a3, .ref a4, .ref a5, .ref a6, .int 0, .int 0, .ref a7, .int 0, .int 0, .ref a8, .ref a9, .ref a10, .ref a11, .ref a12, .ref a13, .int 0, .ref a14, .ref a15, .int 0, .int 0, .int 0, .int 0, .int 0, .int 0, .ref a16, .ref a17, .ref a18, .int 0, .int 0, .int 0, .int 0, .int 0, .int 0, .ref a19, .ref a20, .ref a21, .ref a22, .ref a23, .ref a24, .ref a25, .ref a26, .ref a27]))] s.heap.size = A at hD ⊢
  have hA : ∀ q : Nat, s.heap.size ≤ q → A q := fun q h => by rw [← hAe]; exact Or.inr h
  have hS : va_S A s.heap s.heap [] := va_S.rf
  have hP : va_P (dC, dI) vcl [(a0, .inr (1, [.int 0, .int 0, .ref a1, .int 0, .int (-1), .int 0, .int 0, .ref a2, .ref a3, .ref a4, .ref a5, .ref a6, .int 0, .int 0, .ref a7, .int 0, .int 0, .ref a8, .ref a9, .ref a10, .ref a11, .ref a12, .ref a13, .int 0, .ref a14, .ref a15, .int 0, .int 0, .int 0, .int 0, .int 0, .int 0, .ref a16, .ref a17, .ref a18, .int 0, .int 0, .int 0, .int 0, .int 0, .int 0, .ref a19, .ref a20, .ref a21, .ref a22, .ref a23, .ref a24, .ref a25, .ref a26, .ref a27]))] s.heap := hP
  have hl := lv_entry ([.ref a0]) (n := 1) (Nat.le_of_ble_eq_true rfl)
  rw [lg_entry_eq]
  generalize (lg_sl ([.ref a0]) ++ List.replicate (1 - (lg_sl ([.ref a0])).length) Slot.unset).toArray = ls at hl ⊢
  have hl : lv_has ls 1 [(0, .ref a0)] := hl
  refine lv_aload_n hx hb d_Model_thrown_0 rfl (lv_at hl 0 rfl) ?_
  refine va_get (D := (dC, dI)) (ci := 1) (v := .int 0) (C := R_Model) (T := F_Model) (N := 50) hx hb hz zu_Model hown hK hP 0 rfl rfl 0 (by decide) (hz (.fieldLink R_Model 97 "LayoutFrontModel" "thrown" "I") zm_415) (fun _ h9 => h9) rfl d_Model_thrown_1 ?_
  have hP9 := hP.sub (ws' := [(a0, .inr (1, [.int 0, .int 0, .ref a1, .int 0, .int (-1), .int 0, .int 0, .ref a2, .ref a3, .ref a4, .ref a5, .ref a6, .int 0, .int 0, .ref a7, .int 0, .int 0, .ref a8, .ref a9, .ref a10, .ref a11, .ref a12, .ref a13, .int 0, .ref a14, .ref a15, .int 0, .int 0, .int 0, .int 0, .int 0, .int 0, .ref a16, .ref a17, .ref a18, .int 0, .int 0, .int 0, .int 0, .int 0, .int 0, .ref a19, .ref a20, .ref a21, .ref a22, .ref a23, .ref a24, .ref a25, .ref a26, .ref a27]))]) [0] rfl
  have hD9 := hD.sub (ws' := [(a0, .inr (1, [.int 0, .int 0, .ref a1, .int 0, .int (-1), .int 0, .int 0, .ref a2, .ref a3, .ref a4, .ref a5, .ref a6, .int 0, .int 0, .ref a7, .int 0, .int 0, .ref a8, .ref a9, .ref a10, .ref a11, .ref a12, .ref a13, .int 0, .ref a14, .ref a15, .int 0, .int 0, .int 0, .int 0, .int 0, .int 0, .ref a16, .ref a17, .ref a18, .int 0, .int 0, .int 0, .int 0, .int 0, .int 0, .ref a19, .ref a20, .ref a21, .ref a22, .ref a23, .ref a24, .ref a25, .ref a26, .ref a27]))]) [0] (by decide) rfl
  have hK9 := hK.sub (tys' := []) [] rfl
  exact W.iret (v := 0) hx hb hr (fun t ht hW => ⟨⟨0, (), rfl, rfl, by rw [ht]; exact hP9, va_K.moved hW.alike hK9, hD9⟩, hS.F ht⟩) hS.2.2 d_Model_thrown_4
