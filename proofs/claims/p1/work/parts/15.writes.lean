set_option maxHeartbeats 4000000 in
set_option maxRecDepth 100000 in
theorem c171_Text_hasRoomFor (l : Launch) (dC : Nat → ClassId) (dI : Nat → Nat → Nat) (sz : Nat) (a0 : Nat) (a1 : Nat) (ev : Int64) (N : Nat) (hN : N ≤ 8) (h1 : 1 ≤ N) (hg : gd_ ev N = true) : Met l y_Text_hasRoomFor w_Text_hasRoomFor ({ frames := 0, cells := 0, slots := 0, locals := 0 }) (va_Pc [.ref a0, .int (nI N)] (fun U => U.heap.size = sz ∧ va_P (dC, dI) vcl [(a0, .inr (10, [.ref a1, .int 0]))] U.heap ∧ va_K (dC, dI) vcl [] U ∧ va_D (fun _ => True) [(a0, .inr (10, [.ref a1, .int 0]))])) (va_Qi (fun (r : Int32) (_ : Unit) => r = 1) (fun _ t => va_P (dC, dI) vcl [(a0, .inr (10, [.ref a1, .int 0]))] t.heap ∧ va_K (dC, dI) vcl [] t ∧ va_D (va_A [(a0, .inr (10, [.ref a1, .int 0]))] sz) [(a0, .inr (10, [.ref a1, .int 0]))]) (va_A [(a0, .inr (10, [.ref a1, .int 0]))] sz)) 0 0 (va_A [(a0, .inr (10, [.ref a1, .int 0]))] sz) := by
  refine Met.ofW (cc := b_Text_hasRoomFor) (maxL := 2) (ret := (some .boolean)) (by decide) rfl ?_
  intro p e s m args below meth c s₁ B hml hv
  obtain ⟨rfl, hsz, hP, hK, hD0⟩ := hv
  have hx := B.exec
  have hb := B.bytes
  have hr := B.returns
  have hts := atoms_spec (ws := w_Text_hasRoomFor) B.pre
  have hz : ∀ w ∈ wz, w.before _ s = true := fun w h => hts w (List.mem_cons_of_mem _ h)
  have hown : s.vm.findClass R_Text = some m.cls := findClass_of_methodNamed B.named
  have hlocks := B.notSynchronized
  subst hsz
  have hD := hD0.self (sz := s.heap.size)
  generalize hAe : va_A [(a0, .inr (10, [.ref a1, .int 0]))] s.heap.size = A at hD ⊢
  have hA : ∀ q : Nat, s.heap.size ≤ q → A q := fun q h => by rw [← hAe]; exact Or.inr h
  have hS : va_S A s.heap s.heap [] := va_S.rf
  have hP : va_P (dC, dI) vcl [(a0, .inr (10, [.ref a1, .int 0]))] s.heap := hP
  have hl := lv_entry ([.ref a0, .int (nI N)]) (n := 2) (Nat.le_of_ble_eq_true rfl)
  rw [lg_entry_eq]
  generalize (lg_sl ([.ref a0, .int (nI N)]) ++ List.replicate (2 - (lg_sl ([.ref a0, .int (nI N)])).length) Slot.unset).toArray = ls at hl ⊢
  have hl : lv_has ls 2 [(0, .ref a0), (1, .int (nI N))] := hl
  refine lv_iload_n hx hb d_Text_hasRoomFor_0 rfl (lv_at hl 1 rfl) ?_
  refine lv_sipush (v := 240) hx hb d_Text_hasRoomFor_1 (by decide) ?_
  refine lv_aload_n hx hb d_Text_hasRoomFor_4 rfl (lv_at hl 0 rfl) ?_
  refine va_get (D := (dC, dI)) (ci := 10) (v := .int 0) (C := R_Text) (T := F_Text) (N := 2) hx hb hz zu_Text hown hK hP 0 rfl rfl 1 (by decide) (hz (.fieldLink R_Text 19 "LayoutFront$Text" "length" "I") zm_116) (fun _ h9 => h9) rfl d_Text_hasRoomFor_5 ?_
  refine xr_isub (v := 240) hx hb d_Text_hasRoomFor_8 (by decide +kernel) ?_
  refine lv_icmp_gt (tgt := 16) hx hb d_Text_hasRoomFor_9 (by decide) (fun h => absurd h (nI_nlt (a := 240) (b := N) (by omega) (by decide))) (fun _ => ?_)
  refine lv_iconst (v := 1) hx hb d_Text_hasRoomFor_12 (by decide) ?_
  refine lv_goto (tgt := 17) hx hb d_Text_hasRoomFor_13 (by decide) ?_
  have hP9 := hP.sub (ws' := [(a0, .inr (10, [.ref a1, .int 0]))]) [0] rfl
  have hD9 := hD.sub (ws' := [(a0, .inr (10, [.ref a1, .int 0]))]) [0] (by decide) rfl
  have hK9 := hK.sub (tys' := []) [] rfl
  exact W.zret (v := 1) hx hb hr (by decide +kernel) (fun t ht hW => ⟨⟨1, (), rfl, rfl, by rw [ht]; exact hP9, va_K.moved hW.alike hK9, hD9⟩, hS.F ht⟩) hS.2.2 d_Text_hasRoomFor_17
set_option maxHeartbeats 4000000 in
set_option maxRecDepth 100000 in
theorem c172_Text_length (l : Launch) (dC : Nat → ClassId) (dI : Nat → Nat → Nat) (sz : Nat) (a0 : Nat) (a1 : Nat) (ev : Int64) (N : Nat) (hN : N ≤ 8) (h1 : 1 ≤ N) (hg : gd_ ev N = true) : Met l y_Text_length w_Text_length ({ frames := 0, cells := 0, slots := 0, locals := 0 }) (va_Pc [.ref a0] (fun U => U.heap.size = sz ∧ va_P (dC, dI) vcl [(a0, .inr (10, [.ref a1, .int (nI N)]))] U.heap ∧ va_K (dC, dI) vcl [] U ∧ va_D (fun _ => True) [(a0, .inr (10, [.ref a1, .int (nI N)]))])) (va_Qi (fun (r : Int32) (_ : Unit) => r = (nI N)) (fun _ t => va_P (dC, dI) vcl [(a0, .inr (10, [.ref a1, .int (nI N)]))] t.heap ∧ va_K (dC, dI) vcl [] t ∧ va_D (va_A [(a0, .inr (10, [.ref a1, .int (nI N)]))] sz) [(a0, .inr (10, [.ref a1, .int (nI N)]))]) (va_A [(a0, .inr (10, [.ref a1, .int (nI N)]))] sz)) 0 0 (va_A [(a0, .inr (10, [.ref a1, .int (nI N)]))] sz) := by
  refine Met.ofW (cc := b_Text_length) (maxL := 1) (ret := (some .int)) (by decide) rfl ?_
  intro p e s m args below meth c s₁ B hml hv
  obtain ⟨rfl, hsz, hP, hK, hD0⟩ := hv
  have hx := B.exec
  have hb := B.bytes
  have hr := B.returns
  have hts := atoms_spec (ws := w_Text_length) B.pre
  have hz : ∀ w ∈ wz, w.before _ s = true := fun w h => hts w (List.mem_cons_of_mem _ h)
  have hown : s.vm.findClass R_Text = some m.cls := findClass_of_methodNamed B.named
  have hlocks := B.notSynchronized
  subst hsz
  have hD := hD0.self (sz := s.heap.size)
  generalize hAe : va_A [(a0, .inr (10, [.ref a1, .int (nI N)]))] s.heap.size = A at hD ⊢
  have hA : ∀ q : Nat, s.heap.size ≤ q → A q := fun q h => by rw [← hAe]; exact Or.inr h
  have hS : va_S A s.heap s.heap [] := va_S.rf
  have hP : va_P (dC, dI) vcl [(a0, .inr (10, [.ref a1, .int (nI N)]))] s.heap := hP
  have hl := lv_entry ([.ref a0]) (n := 1) (Nat.le_of_ble_eq_true rfl)
  rw [lg_entry_eq]
  generalize (lg_sl ([.ref a0]) ++ List.replicate (1 - (lg_sl ([.ref a0])).length) Slot.unset).toArray = ls at hl ⊢
  have hl : lv_has ls 1 [(0, .ref a0)] := hl
  refine lv_aload_n hx hb d_Text_length_0 rfl (lv_at hl 0 rfl) ?_
  refine va_get (D := (dC, dI)) (ci := 10) (v := .int (nI N)) (C := R_Text) (T := F_Text) (N := 2) hx hb hz zu_Text hown hK hP 0 rfl rfl 1 (by decide) (hz (.fieldLink R_Text 19 "LayoutFront$Text" "length" "I") zm_116) (fun _ h9 => h9) rfl d_Text_length_1 ?_
  have hP9 := hP.sub (ws' := [(a0, .inr (10, [.ref a1, .int (nI N)]))]) [0] rfl
  have hD9 := hD.sub (ws' := [(a0, .inr (10, [.ref a1, .int (nI N)]))]) [0] (by decide) rfl
  have hK9 := hK.sub (tys' := []) [] rfl
  exact W.iret (v := (nI N)) hx hb hr (fun t ht hW => ⟨⟨(nI N), (), rfl, rfl, by rw [ht]; exact hP9, va_K.moved hW.alike hK9, hD9⟩, hS.F ht⟩) hS.2.2 d_Text_length_4
set_option maxHeartbeats 4000000 in
set_option maxRecDepth 100000 in
theorem c173_LF_write (l : Launch) (dC : Nat → ClassId) (dI : Nat → Nat → Nat) (sz : Nat) (a0 : Nat) (a1 : Nat) (a2 : Nat) (a3 : Nat) (a4 : Nat) (a5 : Nat) (a6 : Nat) (a7 : Nat) (a8 : Nat) (k0 : ClassId) (ev : Int64) (N : Nat) (hN : N ≤ 8) (h1 : 1 ≤ N) (hg : gd_ ev N = true) : Met l y_LF_write w_LF_write ({ frames := 2, cells := 0, slots := 0, locals := 46 }) (va_Pc [.ref a0, .long ev, .int (nI N)] (fun U => U.heap.size = sz ∧ va_P (dC, dI) vcl [(a0, .inr (0, [.ref a1, .ref a3, .ref a4, .ref a5, .ref a6, .ref a7, .ref a8, .int (-1)])), (a1, .inr (10, [.ref a2, .int 0])), (a2, .inl (k0, 240, .inl (fun _ => 0)))] U.heap ∧ va_K (dC, dI) vcl [(k0, .char)] U ∧ va_D (fun _ => True) [(a0, .inr (0, [.ref a1, .ref a3, .ref a4, .ref a5, .ref a6, .ref a7, .ref a8, .int (-1)])), (a1, .inr (10, [.ref a2, .int 0])), (a2, .inl (k0, 240, .inl (fun _ => 0)))])) (va_Qi (fun (r : Int32) (_ : Unit) => r = (nI N)) (fun _ t => ∃  (f1 : Nat → Int32), va_P (dC, dI) vcl [(a0, .inr (0, [.ref a1, .ref a3, .ref a4, .ref a5, .ref a6, .ref a7, .ref a8, .int (-1)])), (a1, .inr (10, [.ref a2, .int (nI N)])), (a2, .inl (k0, 240, .inl f1))] t.heap ∧ va_K (dC, dI) vcl [(k0, .char)] t ∧ va_D (va_A [(a0, .inr (0, [.ref a1, .ref a3, .ref a4, .ref a5, .ref a6, .ref a7, .ref a8, .int (-1)])), (a1, .inr (10, [.ref a2, .int 0])), (a2, .inl (k0, 240, .inl (fun _ => 0)))] sz) [(a0, .inr (0, [.ref a1, .ref a3, .ref a4, .ref a5, .ref a6, .ref a7, .ref a8, .int (-1)])), (a1, .inr (10, [.ref a2, .int (nI N)])), (a2, .inl (k0, 240, .inl f1))]) (va_A [(a0, .inr (0, [.ref a1, .ref a3, .ref a4, .ref a5, .ref a6, .ref a7, .ref a8, .int (-1)])), (a1, .inr (10, [.ref a2, .int 0])), (a2, .inl (k0, 240, .inl (fun _ => 0)))] sz)) 0 0 (va_A [(a0, .inr (0, [.ref a1, .ref a3, .ref a4, .ref a5, .ref a6, .ref a7, .ref a8, .int (-1)])), (a1, .inr (10, [.ref a2, .int 0])), (a2, .inl (k0, 240, .inl (fun _ => 0)))] sz) := by
  refine Met.ofW (cc := b_LF_write) (maxL := 4) (ret := (some .int)) (by decide) rfl ?_
  intro p e s m args below meth c s₁ B hml hv
  obtain ⟨rfl, hsz, hP, hK, hD0⟩ := hv
  have hx := B.exec
  have hb := B.bytes
  have hr := B.returns
  have hts := atoms_spec (ws := w_LF_write) B.pre
  have hz : ∀ w ∈ wz, w.before _ s = true := fun w h => hts w (List.mem_cons_of_mem _ h)
  have hown : s.vm.findClass R_LF = some m.cls := findClass_of_methodNamed B.named
  have hlocks := B.notSynchronized
  subst hsz
  have hD := hD0.self (sz := s.heap.size)
  generalize hAe : va_A [(a0, .inr (0, [.ref a1, .ref a3, .ref a4, .ref a5, .ref a6, .ref a7, .ref a8, .int (-1)])), (a1, .inr (10, [.ref a2, .int 0])), (a2, .inl (k0, 240, .inl (fun _ => 0)))] s.heap.size = A at hD ⊢
  have hA : ∀ q : Nat, s.heap.size ≤ q → A q := fun q h => by rw [← hAe]; exact Or.inr h
  have hS : va_S A s.heap s.heap [] := va_S.rf
  have hP : va_P (dC, dI) vcl [(a0, .inr (0, [.ref a1, .ref a3, .ref a4, .ref a5, .ref a6, .ref a7, .ref a8, .int (-1)])), (a1, .inr (10, [.ref a2, .int 0])), (a2, .inl (k0, 240, .inl (fun _ => 0)))] s.heap := hP
  have hl := lv_entry ([.ref a0, .long ev, .int (nI N)]) (n := 4) (Nat.le_of_ble_eq_true rfl)
  rw [lg_entry_eq]
  generalize (lg_sl ([.ref a0, .long ev, .int (nI N)]) ++ List.replicate (4 - (lg_sl ([.ref a0, .long ev, .int (nI N)])).length) Slot.unset).toArray = ls at hl ⊢
  have hl : lv_has ls 4 [(0, .ref a0), (1, .long ev), (3, .int (nI N))] := hl
  refine lv_iload_n hx hb d_LF_write_0 rfl (lv_at hl 2 rfl) ?_
  refine lv_iconst (v := 1) hx hb d_LF_write_1 (by decide) ?_
  refine lv_icmp_lt (tgt := 19) hx hb d_LF_write_2 (by decide) (fun h => absurd h (nI_nlt (b := 1) h1 (by omega))) (fun _ => ?_)
  refine lv_iload_n hx hb d_LF_write_5 rfl (lv_at hl 2 rfl) ?_
  refine lv_bipush (v := 8) hx hb d_LF_write_6 (by decide) ?_
  refine lv_icmp_gt (tgt := 19) hx hb d_LF_write_8 (by decide) (fun h => absurd h (nI_nlt (a := 8) hN (by decide))) (fun _ => ?_)
  refine lv_lload_n hx hb d_LF_write_11 rfl (lv_at hl 1 rfl) ?_
  refine lv_iload_n hx hb d_LF_write_12 rfl (lv_at hl 2 rfl) ?_
  refine va_calli (va_runS (As := [.long ev, .int (nI N)]) (rest := []) ⟨hx, hb, hml, hown, hz⟩ (c_chars l ev N hN) (va_cwS 2 hz (zT zm_503 zm_504 zm_78 zm_505) rfl rfl rfl (by decide +kernel) ⟨Nat.le_of_ble_eq_true rfl, Nat.le_of_ble_eq_true rfl⟩) ⟨fun a U g mk q => q, fun U hU hW => ⟨rfl, trivial⟩⟩ rfl rfl hl.1 rfl (lv_room (Nat.le_of_ble_eq_true rfl)) d_LF_write_13 ⟨by decide, by decide⟩) hS (fun _ _ h => h.elim) (fun _ h => h.elim) (fun r u t H1 locs ht hvm hw hB hz1 hk1 hS => ?_)
  obtain rfl : r = 1 := hw.trans (by rw [hg]; rfl)
  have hP : va_P (dC, dI) vcl [(a0, .inr (0, [.ref a1, .ref a3, .ref a4, .ref a5, .ref a6, .ref a7, .ref a8, .int (-1)])), (a1, .inr (10, [.ref a2, .int 0])), (a2, .inl (k0, 240, .inl (fun _ => 0)))] H1 := hP.kept (fun k q hk => hk1 q.1 ((hP k q hk).lt) (fun h => h))
  generalize H1 = H at hP hS ⊢
  refine lv_if_ne (tgt := 29) hx hb d_LF_write_16 (by decide) (fun _ => ?_) (fun h => absurd h (by decide +kernel))
  refine lv_aload_n hx hb d_LF_write_29 rfl (lv_at hl 0 rfl) ?_
  refine va_get (D := (dC, dI)) (ci := 0) (v := .ref a1) (C := R_LF) (T := F_LF) (N := 8) hx hb hz zu_LF hown hK hP 0 rfl rfl 0 (by decide) (hz (.fieldLink R_LF 12 "LayoutFront" "text" "LLayoutFront$Text;") zm_81) (fun _ h9 => h9) rfl d_LF_write_30 ?_
  refine lv_iload_n hx hb d_LF_write_33 rfl (lv_at hl 2 rfl) ?_
  have hPc := hP.sub (ws' := [(a1, .inr (10, [.ref a2, .int 0]))]) [1] rfl
  have hDc := hD.sub (ws' := [(a1, .inr (10, [.ref a2, .int 0]))]) [1] (by decide) rfl
  have hKc := hK.sub (tys' := []) [] rfl
  have hFc := va_free (wc := [(a1, .inr (10, [.ref a2, .int 0]))]) hD hS hA [1] rfl
  refine va_calli (va_runV (As := [.int (nI N)]) (rest := []) ⟨hx, hb, hml, hown, hz⟩ (c171_Text_hasRoomFor l dC dI H.size a1 a2 ev N hN h1 hg) (cwV 1 hz (zV zm_506 zm_507 zm_508 zm_78 zm_509) rfl rfl rfl (by decide +kernel) ⟨Nat.le_of_ble_eq_true rfl, Nat.le_of_ble_eq_true rfl⟩) ⟨fun a U g mk q => by obtain ⟨q0, q1, qP, qK, qD⟩ := q; exact ⟨q0, q1, qP, va_K.moved (u := U) (U := U.calling g mk a) (Vm.Alike.refl U.vm) qK, qD⟩, va_recv (q := (R_Text, F_Text, 2)) (q0 := 1) (ci := 10) hK hP rfl rfl, fun U hU hW => ⟨rfl, by rw [hU], by rw [hU]; exact hPc, va_K.moved hW.alike hKc, hDc.weaken (fun _ _ _ _ => trivial)⟩⟩ rfl rfl hl.1 rfl (lv_room (Nat.le_of_ble_eq_true rfl)) d_LF_write_34 ⟨by decide, by decide⟩) hS (fun q _ h => hFc q h) hFc (fun r u t H1 locs ht hvm hw hB hz1 hk1 hS => ?_)
  obtain ⟨hP1, hK1, hD1⟩ := hB
  subst r
  rw [ht] at hP1
  obtain ⟨hP, hD⟩ := va_join (wr := [(a0, .inr (0, [.ref a1, .ref a3, .ref a4, .ref a5, .ref a6, .ref a7, .ref a8, .int (-1)])), (a2, .inl (k0, 240, .inl (fun _ => 0)))]) (w1 := [(a1, .inr (10, [.ref a2, .int 0]))]) hP hD [1] [0, 2] rfl rfl (by decide) (by decide) hk1 hFc hP1 hD1
  generalize H1 = H at hP hS ⊢
  have hP : va_P (dC, dI) vcl [(a0, .inr (0, [.ref a1, .ref a3, .ref a4, .ref a5, .ref a6, .ref a7, .ref a8, .int (-1)])), (a2, .inl (k0, 240, .inl (fun _ => 0))), (a1, .inr (10, [.ref a2, .int 0]))] H := hP
  have hD : va_D A [(a0, .inr (0, [.ref a1, .ref a3, .ref a4, .ref a5, .ref a6, .ref a7, .ref a8, .int (-1)])), (a2, .inl (k0, 240, .inl (fun _ => 0))), (a1, .inr (10, [.ref a2, .int 0]))] := hD
  refine lv_if_ne (tgt := 50) hx hb d_LF_write_37 (by decide) (fun _ => ?_) (fun h => absurd h (by decide +kernel))
  refine lv_aload_n hx hb d_LF_write_50 rfl (lv_at hl 0 rfl) ?_
  refine va_get (D := (dC, dI)) (ci := 0) (v := .ref a1) (C := R_LF) (T := F_LF) (N := 8) hx hb hz zu_LF hown hK hP 0 rfl rfl 0 (by decide) (hz (.fieldLink R_LF 12 "LayoutFront" "text" "LLayoutFront$Text;") zm_81) (fun _ h9 => h9) rfl d_LF_write_51 ?_
  refine lv_lload_n hx hb d_LF_write_54 rfl (lv_at hl 1 rfl) ?_
  refine lv_iload_n hx hb d_LF_write_55 rfl (lv_at hl 2 rfl) ?_
  have hPc := hP.sub (ws' := [(a1, .inr (10, [.ref a2, .int 0])), (a2, .inl (k0, 240, .inl (fun _ => 0)))]) [2, 1] rfl
  have hDc := hD.sub (ws' := [(a1, .inr (10, [.ref a2, .int 0])), (a2, .inl (k0, 240, .inl (fun _ => 0)))]) [2, 1] (by decide) rfl
  have hKc := hK.sub (tys' := [(k0, .char)]) [0] rfl
  have hFc := va_free (wc := [(a1, .inr (10, [.ref a2, .int 0])), (a2, .inl (k0, 240, .inl (fun _ => 0)))]) hD hS hA [2, 1] rfl
  refine va_callv (va_runV (As := [.long ev, .int (nI N)]) (rest := []) ⟨hx, hb, hml, hown, hz⟩ (c_append l dC dI H.size a1 a2 k0 ev N hN) (cwV 2 hz (zV zm_510 zm_511 zm_512 zm_78 zm_513) rfl rfl rfl (by decide +kernel) ⟨Nat.le_of_ble_eq_true rfl, Nat.le_of_ble_eq_true rfl⟩) ⟨fun a U g mk q => by obtain ⟨q0, q1, qP, qK, qD⟩ := q; exact ⟨q0, q1, qP, va_K.moved (u := U) (U := U.calling g mk a) (Vm.Alike.refl U.vm) qK, qD⟩, va_recv (q := (R_Text, F_Text, 2)) (q0 := 2) (ci := 10) hK hP rfl rfl, fun U hU hW => ⟨rfl, by rw [hU], by rw [hU]; exact hPc, va_K.moved hW.alike hKc, hDc.weaken (fun _ _ _ _ => trivial)⟩⟩ rfl rfl hl.1 rfl (lv_room (Nat.le_of_ble_eq_true rfl)) d_LF_write_56 ⟨by decide, by decide⟩) hS (fun q _ h => hFc q h) hFc (fun u t H1 locs ht hvm hw hB hz1 hk1 hS => ?_)
  obtain ⟨f1, hP1, hK1, hD1⟩ := hB
  rw [ht] at hP1
  obtain ⟨hP, hD⟩ := va_join (wr := [(a0, .inr (0, [.ref a1, .ref a3, .ref a4, .ref a5, .ref a6, .ref a7, .ref a8, .int (-1)]))]) (w1 := [(a1, .inr (10, [.ref a2, .int (nI N)])), (a2, .inl (k0, 240, .inl f1))]) hP hD [2, 1] [0] rfl rfl (by decide) (by decide) hk1 hFc hP1 hD1
  generalize H1 = H at hP hS ⊢
  have hP : va_P (dC, dI) vcl [(a0, .inr (0, [.ref a1, .ref a3, .ref a4, .ref a5, .ref a6, .ref a7, .ref a8, .int (-1)])), (a1, .inr (10, [.ref a2, .int (nI N)])), (a2, .inl (k0, 240, .inl f1))] H := hP
  have hD : va_D A [(a0, .inr (0, [.ref a1, .ref a3, .ref a4, .ref a5, .ref a6, .ref a7, .ref a8, .int (-1)])), (a1, .inr (10, [.ref a2, .int (nI N)])), (a2, .inl (k0, 240, .inl f1))] := hD
  refine lv_aload_n hx hb d_LF_write_59 rfl (lv_at hl 0 rfl) ?_
  refine va_get (D := (dC, dI)) (ci := 0) (v := .ref a1) (C := R_LF) (T := F_LF) (N := 8) hx hb hz zu_LF hown hK hP 0 rfl rfl 0 (by decide) (hz (.fieldLink R_LF 12 "LayoutFront" "text" "LLayoutFront$Text;") zm_81) (fun _ h9 => h9) rfl d_LF_write_60 ?_
  have hPc := hP.sub (ws' := [(a1, .inr (10, [.ref a2, .int (nI N)]))]) [1] rfl
  have hDc := hD.sub (ws' := [(a1, .inr (10, [.ref a2, .int (nI N)]))]) [1] (by decide) rfl
  have hKc := hK.sub (tys' := []) [] rfl
  have hFc := va_free (wc := [(a1, .inr (10, [.ref a2, .int (nI N)]))]) hD hS hA [1] rfl
  refine va_calli (va_runV (As := []) (rest := []) ⟨hx, hb, hml, hown, hz⟩ (c172_Text_length l dC dI H.size a1 a2 ev N hN h1 hg) (cwV 0 hz (zV zm_313 zm_126 zm_127 zm_78 zm_128) rfl rfl rfl (by decide +kernel) ⟨Nat.le_of_ble_eq_true rfl, Nat.le_of_ble_eq_true rfl⟩) ⟨fun a U g mk q => by obtain ⟨q0, q1, qP, qK, qD⟩ := q; exact ⟨q0, q1, qP, va_K.moved (u := U) (U := U.calling g mk a) (Vm.Alike.refl U.vm) qK, qD⟩, va_recv (q := (R_Text, F_Text, 2)) (q0 := 1) (ci := 10) hK hP rfl rfl, fun U hU hW => ⟨rfl, by rw [hU], by rw [hU]; exact hPc, va_K.moved hW.alike hKc, hDc.weaken (fun _ _ _ _ => trivial)⟩⟩ rfl rfl hl.1 rfl (lv_room (Nat.le_of_ble_eq_true rfl)) d_LF_write_63 ⟨by decide, by decide⟩) hS (fun q _ h => hFc q h) hFc (fun r u t H1 locs ht hvm hw hB hz1 hk1 hS => ?_)
  obtain ⟨hP1, hK1, hD1⟩ := hB
  subst r
  rw [ht] at hP1
  obtain ⟨hP, hD⟩ := va_join (wr := [(a0, .inr (0, [.ref a1, .ref a3, .ref a4, .ref a5, .ref a6, .ref a7, .ref a8, .int (-1)])), (a2, .inl (k0, 240, .inl f1))]) (w1 := [(a1, .inr (10, [.ref a2, .int (nI N)]))]) hP hD [1] [0, 2] rfl rfl (by decide) (by decide) hk1 hFc hP1 hD1
  generalize H1 = H at hP hS ⊢
  have hP : va_P (dC, dI) vcl [(a0, .inr (0, [.ref a1, .ref a3, .ref a4, .ref a5, .ref a6, .ref a7, .ref a8, .int (-1)])), (a2, .inl (k0, 240, .inl f1)), (a1, .inr (10, [.ref a2, .int (nI N)]))] H := hP
  have hD : va_D A [(a0, .inr (0, [.ref a1, .ref a3, .ref a4, .ref a5, .ref a6, .ref a7, .ref a8, .int (-1)])), (a2, .inl (k0, 240, .inl f1)), (a1, .inr (10, [.ref a2, .int (nI N)]))] := hD
  have hP9 := hP.sub (ws' := [(a0, .inr (0, [.ref a1, .ref a3, .ref a4, .ref a5, .ref a6, .ref a7, .ref a8, .int (-1)])), (a1, .inr (10, [.ref a2, .int (nI N)])), (a2, .inl (k0, 240, .inl f1))]) [0, 2, 1] rfl
  have hD9 := hD.sub (ws' := [(a0, .inr (0, [.ref a1, .ref a3, .ref a4, .ref a5, .ref a6, .ref a7, .ref a8, .int (-1)])), (a1, .inr (10, [.ref a2, .int (nI N)])), (a2, .inl (k0, 240, .inl f1))]) [0, 2, 1] (by decide) rfl
  have hK9 := hK.sub (tys' := [(k0, .char)]) [0] rfl
  exact W.iret (v := (nI N)) hx hb hr (fun t ht hW => ⟨⟨(nI N), (), rfl, rfl, f1, by rw [ht]; exact hP9, va_K.moved hW.alike hK9, hD9⟩, hS.F ht⟩) hS.2.2 d_LF_write_66
set_option maxHeartbeats 4000000 in
set_option maxRecDepth 100000 in
theorem c174_Law_write (l : Launch) (dC : Nat → ClassId) (dI : Nat → Nat → Nat) (sz : Nat) (a0 : Nat) (a1 : Nat) (a2 : Nat) (a3 : Nat) (a4 : Nat) (a5 : Nat) (a6 : Nat) (a7 : Nat) (a8 : Nat) (a9 : Nat) (k0 : ClassId) (k1 : ClassId) (ev : Int64) (N : Nat) (hN : N ≤ 8) (h1 : 1 ≤ N) (hg : gd_ ev N = true) : Met l y_Law_write w_Law_write ({ frames := 3, cells := 0, slots := 0, locals := 69 }) (va_Pc [.ref a0, .long ev, .int (nI N), .ref a1] (fun U => U.heap.size = sz ∧ va_P (dC, dI) vcl [(a0, .inr (0, [.ref a2, .ref a4, .ref a5, .ref a6, .ref a7, .ref a8, .ref a9, .int (-1)])), (a2, .inr (10, [.ref a3, .int 0])), (a3, .inl (k0, 240, .inl (fun _ => 0))), (a1, .inl (k1, 1, .inr (.inl (fun _ => 0))))] U.heap ∧ va_K (dC, dI) vcl [(k0, .char), (k1, .long)] U ∧ va_D (fun _ => True) [(a0, .inr (0, [.ref a2, .ref a4, .ref a5, .ref a6, .ref a7, .ref a8, .ref a9, .int (-1)])), (a2, .inr (10, [.ref a3, .int 0])), (a3, .inl (k0, 240, .inl (fun _ => 0))), (a1, .inl (k1, 1, .inr (.inl (fun _ => 0))))])) (va_Qi (fun (r : Int32) (_ : Unit) => r = 0) (fun _ t => ∃  (f1 : Nat → Int32), va_P (dC, dI) vcl [(a0, .inr (0, [.ref a2, .ref a4, .ref a5, .ref a6, .ref a7, .ref a8, .ref a9, .int (-1)])), (a2, .inr (10, [.ref a3, .int (nI N)])), (a3, .inl (k0, 240, .inl f1)), (a1, .inl (k1, 1, .inr (.inl (vp_updL (fun _ => 0) 0 (nI N).toInt64))))] t.heap ∧ va_K (dC, dI) vcl [(k0, .char), (k1, .long)] t ∧ va_D (va_A [(a0, .inr (0, [.ref a2, .ref a4, .ref a5, .ref a6, .ref a7, .ref a8, .ref a9, .int (-1)])), (a2, .inr (10, [.ref a3, .int 0])), (a3, .inl (k0, 240, .inl (fun _ => 0))), (a1, .inl (k1, 1, .inr (.inl (fun _ => 0))))] sz) [(a0, .inr (0, [.ref a2, .ref a4, .ref a5, .ref a6, .ref a7, .ref a8, .ref a9, .int (-1)])), (a2, .inr (10, [.ref a3, .int (nI N)])), (a3, .inl (k0, 240, .inl f1)), (a1, .inl (k1, 1, .inr (.inl (vp_updL (fun _ => 0) 0 (nI N).toInt64))))]) (va_A [(a0, .inr (0, [.ref a2, .ref a4, .ref a5, .ref a6, .ref a7, .ref a8, .ref a9, .int (-1)])), (a2, .inr (10, [.ref a3, .int 0])), (a3, .inl (k0, 240, .inl (fun _ => 0))), (a1, .inl (k1, 1, .inr (.inl (fun _ => 0))))] sz)) 0 0 (va_A [(a0, .inr (0, [.ref a2, .ref a4, .ref a5, .ref a6, .ref a7, .ref a8, .ref a9, .int (-1)])), (a2, .inr (10, [.ref a3, .int 0])), (a3, .inl (k0, 240, .inl (fun _ => 0))), (a1, .inl (k1, 1, .inr (.inl (fun _ => 0))))] sz) := by
  refine va_MetW (hh := [(0, 11, 14, 13), (0, 11, 18, 15)]) (cc := b_Law_write) (maxL := 6) (ret := (some .int)) (by decide) rfl ?_
  intro p e s m args below meth c s₁ B hml hv
  obtain ⟨rfl, hsz, hP, hK, hD0⟩ := hv
  have hx := B.exec
  have hb := B.bytes
  have hr := B.returns
  have hts := atoms_spec (ws := w_Law_write) B.pre
  have hz : ∀ w ∈ wz, w.before _ s = true := fun w h => hts w (List.mem_cons_of_mem _ h)
  have hown : s.vm.findClass R_Law = some m.cls := findClass_of_methodNamed B.named
  have hlocks := B.notSynchronized
  subst hsz
  have hD := hD0.self (sz := s.heap.size)
  generalize hAe : va_A [(a0, .inr (0, [.ref a2, .ref a4, .ref a5, .ref a6, .ref a7, .ref a8, .ref a9, .int (-1)])), (a2, .inr (10, [.ref a3, .int 0])), (a3, .inl (k0, 240, .inl (fun _ => 0))), (a1, .inl (k1, 1, .inr (.inl (fun _ => 0))))] s.heap.size = A at hD ⊢
  have hA : ∀ q : Nat, s.heap.size ≤ q → A q := fun q h => by rw [← hAe]; exact Or.inr h
  have hS : va_S A s.heap s.heap [] := va_S.rf
  have hP : va_P (dC, dI) vcl [(a0, .inr (0, [.ref a2, .ref a4, .ref a5, .ref a6, .ref a7, .ref a8, .ref a9, .int (-1)])), (a2, .inr (10, [.ref a3, .int 0])), (a3, .inl (k0, 240, .inl (fun _ => 0))), (a1, .inl (k1, 1, .inr (.inl (fun _ => 0))))] s.heap := hP
  have hl := lv_entry ([.ref a0, .long ev, .int (nI N), .ref a1]) (n := 6) (Nat.le_of_ble_eq_true rfl)
  rw [lg_entry_eq]
  generalize (lg_sl ([.ref a0, .long ev, .int (nI N), .ref a1]) ++ List.replicate (6 - (lg_sl ([.ref a0, .long ev, .int (nI N), .ref a1])).length) Slot.unset).toArray = ls at hl ⊢
  have hl : lv_has ls 6 [(0, .ref a0), (1, .long ev), (3, .int (nI N)), (4, .ref a1)] := hl
  refine lv_aload hx hb d_Law_write_0 (lv_at hl 3 rfl) ?_
  refine lv_iconst (v := 0) hx hb d_Law_write_2 (by decide) ?_
  refine lv_aload_n hx hb d_Law_write_3 rfl (lv_at hl 0 rfl) ?_
  refine lv_lload_n hx hb d_Law_write_4 rfl (lv_at hl 1 rfl) ?_
  refine lv_iload_n hx hb d_Law_write_5 rfl (lv_at hl 2 rfl) ?_
  have hPc := hP.sub (ws' := [(a0, .inr (0, [.ref a2, .ref a4, .ref a5, .ref a6, .ref a7, .ref a8, .ref a9, .int (-1)])), (a2, .inr (10, [.ref a3, .int 0])), (a3, .inl (k0, 240, .inl (fun _ => 0)))]) [0, 1, 2] rfl
  have hDc := hD.sub (ws' := [(a0, .inr (0, [.ref a2, .ref a4, .ref a5, .ref a6, .ref a7, .ref a8, .ref a9, .int (-1)])), (a2, .inr (10, [.ref a3, .int 0])), (a3, .inl (k0, 240, .inl (fun _ => 0)))]) [0, 1, 2] (by decide) rfl
  have hKc := hK.sub (tys' := [(k0, .char)]) [0] rfl
  have hFc := va_free (wc := [(a0, .inr (0, [.ref a2, .ref a4, .ref a5, .ref a6, .ref a7, .ref a8, .ref a9, .int (-1)])), (a2, .inr (10, [.ref a3, .int 0])), (a3, .inl (k0, 240, .inl (fun _ => 0)))]) hD hS hA [0, 1, 2] rfl
  refine va_calli (va_runV (As := [.long ev, .int (nI N)]) (rest := [.int 0, .ref a1]) ⟨hx, hb, hml, hown, hz⟩ (c173_LF_write l dC dI s.heap.size a0 a2 a3 a4 a5 a6 a7 a8 a9 k0 ev N hN h1 hg) (cwV 2 hz (zV zm_518 zm_519 zm_520 zm_333 zm_521) rfl rfl rfl (by decide +kernel) ⟨Nat.le_of_ble_eq_true rfl, Nat.le_of_ble_eq_true rfl⟩) ⟨fun a U g mk q => by obtain ⟨q0, q1, qP, qK, qD⟩ := q; exact ⟨q0, q1, qP, va_K.moved (u := U) (U := U.calling g mk a) (Vm.Alike.refl U.vm) qK, qD⟩, va_recv (q := (R_LF, F_LF, 8)) (q0 := 0) (ci := 0) hK hP rfl rfl, fun U hU hW => ⟨rfl, by rw [hU], by rw [hU]; exact hPc, va_K.moved hW.alike hKc, hDc.weaken (fun _ _ _ _ => trivial)⟩⟩ rfl rfl hl.1 rfl (lv_room (Nat.le_of_ble_eq_true rfl)) d_Law_write_6 ⟨by decide, by decide⟩) hS (fun q _ h => hFc q h) hFc (fun r u t H1 locs ht hvm hw hB hz1 hk1 hS => ?_)
  obtain ⟨f1, hP1, hK1, hD1⟩ := hB
  subst r
  rw [ht] at hP1
  obtain ⟨hP, hD⟩ := va_join (wr := [(a1, .inl (k1, 1, .inr (.inl (fun _ => 0))))]) (w1 := [(a0, .inr (0, [.ref a2, .ref a4, .ref a5, .ref a6, .ref a7, .ref a8, .ref a9, .int (-1)])), (a2, .inr (10, [.ref a3, .int (nI N)])), (a3, .inl (k0, 240, .inl f1))]) hP hD [0, 1, 2] [3] rfl rfl (by decide) (by decide) hk1 hFc hP1 hD1
  generalize H1 = H at hP hS ⊢
  have hP : va_P (dC, dI) vcl [(a1, .inl (k1, 1, .inr (.inl (fun _ => 0)))), (a0, .inr (0, [.ref a2, .ref a4, .ref a5, .ref a6, .ref a7, .ref a8, .ref a9, .int (-1)])), (a2, .inr (10, [.ref a3, .int (nI N)])), (a3, .inl (k0, 240, .inl f1))] H := hP
  have hD : va_D A [(a1, .inl (k1, 1, .inr (.inl (fun _ => 0)))), (a0, .inr (0, [.ref a2, .ref a4, .ref a5, .ref a6, .ref a7, .ref a8, .ref a9, .int (-1)])), (a2, .inr (10, [.ref a3, .int (nI N)])), (a3, .inl (k0, 240, .inl f1))] := hD
  refine lv_i2l (v := (nI N).toInt64) hx hb d_Law_write_9 rfl ?_
  refine xr_last (j := 0) hx hb hK hP hD hS 0 1 rfl rfl (xr_in (by decide +kernel)) (by decide +kernel) d_Law_write_10 (fun H locs hP hD hS => ?_)
  have hP : va_P (dC, dI) vcl [(a1, .inl (k1, 1, .inr (.inl (vp_updL (fun _ => 0) 0 (nI N).toInt64)))), (a0, .inr (0, [.ref a2, .ref a4, .ref a5, .ref a6, .ref a7, .ref a8, .ref a9, .int (-1)])), (a2, .inr (10, [.ref a3, .int (nI N)])), (a3, .inl (k0, 240, .inl f1))] H := hP
  have hD : va_D A [(a1, .inl (k1, 1, .inr (.inl (vp_updL (fun _ => 0) 0 (nI N).toInt64)))), (a0, .inr (0, [.ref a2, .ref a4, .ref a5, .ref a6, .ref a7, .ref a8, .ref a9, .int (-1)])), (a2, .inr (10, [.ref a3, .int (nI N)])), (a3, .inl (k0, 240, .inl f1))] := hD
  refine lv_goto (tgt := 22) hx hb d_Law_write_11 (by decide) ?_
  refine lv_iconst (v := 0) hx hb d_Law_write_22 (by decide) ?_
  have hP9 := hP.sub (ws' := [(a0, .inr (0, [.ref a2, .ref a4, .ref a5, .ref a6, .ref a7, .ref a8, .ref a9, .int (-1)])), (a2, .inr (10, [.ref a3, .int (nI N)])), (a3, .inl (k0, 240, .inl f1)), (a1, .inl (k1, 1, .inr (.inl (vp_updL (fun _ => 0) 0 (nI N).toInt64))))]) [1, 2, 3, 0] rfl
  have hD9 := hD.sub (ws' := [(a0, .inr (0, [.ref a2, .ref a4, .ref a5, .ref a6, .ref a7, .ref a8, .ref a9, .int (-1)])), (a2, .inr (10, [.ref a3, .int (nI N)])), (a3, .inl (k0, 240, .inl f1)), (a1, .inl (k1, 1, .inr (.inl (vp_updL (fun _ => 0) 0 (nI N).toInt64))))]) [1, 2, 3, 0] (by decide) rfl
  have hK9 := hK.sub (tys' := [(k0, .char), (k1, .long)]) [0, 1] rfl
  exact W.iret (v := 0) hx hb hr (fun t ht hW => ⟨⟨0, (), rfl, rfl, f1, by rw [ht]; exact hP9, va_K.moved hW.alike hK9, hD9⟩, hS.F ht⟩) hS.2.2 d_Law_write_23
set_option maxHeartbeats 4000000 in
set_option maxRecDepth 100000 in
theorem c175_Model_within (l : Launch) (dC : Nat → ClassId) (dI : Nat → Nat → Nat) (sz : Nat) (ev : Int64) (N : Nat) (hN : N ≤ 8) (h1 : 1 ≤ N) (hg : gd_ ev N = true) : Met l y_Model_within w_Model_within ({ frames := 0, cells := 0, slots := 0, locals := 0 }) (va_Pc [.int (nI N), .int 1, .int 8] (fun U => U.heap.size = sz ∧ va_P (dC, dI) vcl [] U.heap ∧ va_K (dC, dI) vcl [] U ∧ va_D (fun _ => True) [])) (va_Qi (fun (r : Int32) (_ : Unit) => r = 1) (fun _ t => va_P (dC, dI) vcl [] t.heap ∧ va_K (dC, dI) vcl [] t ∧ va_D (va_A [] sz) []) (va_A [] sz)) 0 0 (va_A [] sz) := by
  refine Met.ofW (cc := b_Model_within) (maxL := 3) (ret := (some .boolean)) (by decide) rfl ?_
  intro p e s m args below meth c s₁ B hml hv
  obtain ⟨rfl, hsz, hP, hK, hD0⟩ := hv
  have hx := B.exec
  have hb := B.bytes
  have hr := B.returns
  have hts := atoms_spec (ws := w_Model_within) B.pre
  have hz : ∀ w ∈ wz, w.before _ s = true := fun w h => hts w (List.mem_cons_of_mem _ h)
  have hown : s.vm.findClass R_Model = some m.cls := findClass_of_methodNamed B.named
  have hlocks := B.notSynchronized
  subst hsz
  have hD := hD0.self (sz := s.heap.size)
  generalize hAe : va_A [] s.heap.size = A at hD ⊢
  have hA : ∀ q : Nat, s.heap.size ≤ q → A q := fun q h => by rw [← hAe]; exact Or.inr h
  have hS : va_S A s.heap s.heap [] := va_S.rf
  have hP : va_P (dC, dI) vcl [] s.heap := hP
  have hl := lv_entry ([.int (nI N), .int 1, .int 8]) (n := 3) (Nat.le_of_ble_eq_true rfl)
  rw [lg_entry_eq]
  generalize (lg_sl ([.int (nI N), .int 1, .int 8]) ++ List.replicate (3 - (lg_sl ([.int (nI N), .int 1, .int 8])).length) Slot.unset).toArray = ls at hl ⊢
  have hl : lv_has ls 3 [(0, .int (nI N)), (1, .int 1), (2, .int 8)] := hl
  refine lv_iload_n hx hb d_Model_within_0 rfl (lv_at hl 0 rfl) ?_
  refine lv_iload_n hx hb d_Model_within_1 rfl (lv_at hl 1 rfl) ?_
  refine lv_icmp_lt (tgt := 14) hx hb d_Model_within_2 (by decide) (fun h => absurd h (nI_nlt (b := 1) h1 (by omega))) (fun _ => ?_)
  refine lv_iload_n hx hb d_Model_within_5 rfl (lv_at hl 0 rfl) ?_
  refine lv_iload_n hx hb d_Model_within_6 rfl (lv_at hl 2 rfl) ?_
  refine lv_icmp_gt (tgt := 14) hx hb d_Model_within_7 (by decide) (fun h => absurd h (nI_nlt (a := 8) hN (by decide))) (fun _ => ?_)
  refine lv_iconst (v := 1) hx hb d_Model_within_10 (by decide) ?_
  refine lv_goto (tgt := 15) hx hb d_Model_within_11 (by decide) ?_
  have hP9 := hP.sub (ws' := []) [] rfl
  have hD9 := hD.sub (ws' := []) [] (by decide) rfl
  have hK9 := hK.sub (tys' := []) [] rfl
  exact W.zret (v := 1) hx hb hr (by decide +kernel) (fun t ht hW => ⟨⟨1, (), rfl, rfl, by rw [ht]; exact hP9, va_K.moved hW.alike hK9, hD9⟩, hS.F ht⟩) hS.2.2 d_Model_within_15
set_option maxHeartbeats 4000000 in
set_option maxRecDepth 100000 in
theorem c176_Model_write (l : Launch) (dC : Nat → ClassId) (dI : Nat → Nat → Nat) (sz : Nat) (a0 : Nat) (a1 : Nat) (a2 : Nat) (a3 : Nat) (a4 : Nat) (a5 : Nat) (a6 : Nat) (a7 : Nat) (a8 : Nat) (a9 : Nat) (a10 : Nat) (a11 : Nat) (a12 : Nat) (a13 : Nat) (a14 : Nat) (a15 : Nat) (a16 : Nat) (a17 : Nat) (a18 : Nat) (a19 : Nat) (a20 : Nat) (a21 : Nat) (a22 : Nat) (a23 : Nat) (a24 : Nat) (a25 : Nat) (a26 : Nat) (a27 : Nat) (k0 : ClassId) (ev : Int64) (N : Nat) (hN : N ≤ 8) (h1 : 1 ≤ N) (hg : gd_ ev N = true) : Met l y_Model_write w_Model_write ({ frames := 1, cells := 0, slots := 0, locals := 22 }) (va_Pc [.ref a0, .long ev, .int (nI N)] (fun U => U.heap.size = sz ∧ va_P (dC, dI) vcl [(a0, .inr (1, [.int 0, .int 0, .ref a1, .int 0, .int (-1), .int 0, .int 0, .ref a2, .ref a3, .ref a4, .ref a5, .ref a6, .int 0, .int 0, .ref a7, .int 0, .int 0, .ref a8, .ref a9, .ref a10, .ref a11, .ref a12, .ref a13, .int 0, .ref a14, .ref a15, .int 0, .int 0, .int 0, .int 0, .int 0, .int 0, .ref a16, .ref a17, .ref a18, .int 0, .int 0, .int 0, .int 0, .int 0, .int 0, .ref a19, .ref a20, .ref a21, .ref a22, .ref a23, .ref a24, .ref a25, .ref a26, .ref a27])), (a1, .inl (k0, 240, .inl (fun _ => 0)))] U.heap ∧ va_K (dC, dI) vcl [(k0, .int)] U ∧ va_D (fun _ => True) [(a0, .inr (1, [.int 0, .int 0, .ref a1, .int 0, .int (-1), .int 0, .int 0, .ref a2, .ref a3, .ref a4, .ref a5, .ref a6, .int 0, .int 0, .ref a7, .int 0, .int 0, .ref a8, .ref a9, .ref a10, .ref a11, .ref a12, .ref a13, .int 0, .ref a14, .ref a15, .int 0, .int 0, .int 0, .int 0, .int 0, .int 0, .ref a16, .ref a17, .ref a18, .int 0, .int 0, .int 0, .int 0, .int 0, .int 0, .ref a19, .ref a20, .ref a21, .ref a22, .ref a23, .ref a24, .ref a25, .ref a26, .ref a27])), (a1, .inl (k0, 240, .inl (fun _ => 0)))])) (va_Qi (fun (r : Int32) (_ : Unit) => r = (nI N)) (fun _ t => ∃  (f2 : Nat → Int32), va_P (dC, dI) vcl [(a0, .inr (1, [.int 0, .int (nI N), .ref a1, .int 0, .int (-1), .int 0, .int 0, .ref a2, .ref a3, .ref a4, .ref a5, .ref a6, .int 0, .int 0, .ref a7, .int 0, .int 0, .ref a8, .ref a9, .ref a10, .ref a11, .ref a12, .ref a13, .int 0, .ref a14, .ref a15, .int 0, .int 0, .int 0, .int 0, .int 0, .int 0, .ref a16, .ref a17, .ref a18, .int 0, .int 0, .int 0, .int 0, .int 0, .int 0, .ref a19, .ref a20, .ref a21, .ref a22, .ref a23, .ref a24, .ref a25, .ref a26, .ref a27])), (a1, .inl (k0, 240, .inl f2))] t.heap ∧ va_K (dC, dI) vcl [(k0, .int)] t ∧ va_D (va_A [(a0, .inr (1, [.int 0, .int 0, .ref a1, .int 0, .int (-1), .int 0, .int 0, .ref a2, .ref a3, .ref a4, .ref a5, .ref a6, .int 0, .int 0, .ref a7, .int 0, .int 0, .ref a8, .ref a9, .ref a10, .ref a11, .ref a12, .ref a13, .int 0, .ref a14, .ref a15, .int 0, .int 0, .int 0, .int 0, .int 0, .int 0, .ref a16, .ref a17, .ref a18, .int 0, .int 0, .int 0, .int 0, .int 0, .int 0, .ref a19, .ref a20, .ref a21, .ref a22, .ref a23, .ref a24, .ref a25, .ref a26, .ref a27])), (a1, .inl (k0, 240, .inl (fun _ => 0)))] sz) [(a0, .inr (1, [.int 0, .int (nI N), .ref a1, .int 0, .int (-1), .int 0, .int 0, .ref a2, .ref a3, .ref a4, .ref a5, .ref a6, .int 0, .int 0, .ref a7, .int 0, .int 0, .ref a8, .ref a9, .ref a10, .ref a11, .ref a12, .ref a13, .int 0, .ref a14, .ref a15, .int 0, .int 0, .int 0, .int 0, .int 0, .int 0, .ref a16, .ref a17, .ref a18, .int 0, .int 0, .int 0, .int 0, .int 0, .int 0, .ref a19, .ref a20, .ref a21, .ref a22, .ref a23, .ref a24, .ref a25, .ref a26, .ref a27])), (a1, .inl (k0, 240, .inl f2))]) (va_A [(a0, .inr (1, [.int 0, .int 0, .ref a1, .int 0, .int (-1), .int 0, .int 0, .ref a2, .ref a3, .ref a4, .ref a5, .ref a6, .int 0, .int 0, .ref a7, .int 0, .int 0, .ref a8, .ref a9, .ref a10, .ref a11, .ref a12, .ref a13, .int 0, .ref a14, .ref a15, .int 0, .int 0, .int 0, .int 0, .int 0, .int 0, .ref a16, .ref a17, .ref a18, .int 0, .int 0, .int 0, .int 0, .int 0, .int 0, .ref a19, .ref a20, .ref a21, .ref a22, .ref a23, .ref a24, .ref a25, .ref a26, .ref a27])), (a1, .inl (k0, 240, .inl (fun _ => 0)))] sz)) 0 0 (va_A [(a0, .inr (1, [.int 0, .int 0, .ref a1, .int 0, .int (-1), .int 0, .int 0, .ref a2, .ref a3, .ref a4, .ref a5, .ref a6, .int 0, .int 0, .ref a7, .int 0, .int 0, .ref a8, .ref a9, .ref a10, .ref a11, .ref a12, .ref a13, .int 0, .ref a14, .ref a15, .int 0, .int 0, .int 0, .int 0, .int 0, .int 0, .ref a16, .ref a17, .ref a18, .int 0, .int 0, .int 0, .int 0, .int 0, .int 0, .ref a19, .ref a20, .ref a21, .ref a22, .ref a23, .ref a24, .ref a25, .ref a26, .ref a27])), (a1, .inl (k0, 240, .inl (fun _ => 0)))] sz) := by
  refine Met.ofW (cc := b_Model_write) (maxL := 7) (ret := (some .int)) (by decide) rfl ?_
  intro p e s m args below meth c s₁ B hml hv
  obtain ⟨rfl, hsz, hP, hK, hD0⟩ := hv
  have hx := B.exec
  have hb := B.bytes
  have hr := B.returns
  have hts := atoms_spec (ws := w_Model_write) B.pre
  have hz : ∀ w ∈ wz, w.before _ s = true := fun w h => hts w (List.mem_cons_of_mem _ h)
  have hown : s.vm.findClass R_Model = some m.cls := findClass_of_methodNamed B.named
  have hlocks := B.notSynchronized
  subst hsz
  have hD := hD0.self (sz := s.heap.size)
  generalize hAe : va_A [(a0, .inr (1, [.int 0, .int 0, .ref a1, .int 0, .int (-1), .int 0, .int 0, .ref a2, .ref a3, .ref a4, .ref a5, .ref a6, .int 0, .int 0, .ref a7, .int 0, .int 0, .ref a8, .ref a9, .ref a10, .ref a11, .ref a12, .ref a13, .int 0, .ref a14, .ref a15, .int 0, .int 0, .int 0, .int 0, .int 0, .int 0, .ref a16, .ref a17, .ref a18, .int 0, .int 0, .int 0, .int 0, .int 0, .int 0, .ref a19, .ref a20, .ref a21, .ref a22, .ref a23, .ref a24, .ref a25, .ref a26, .ref a27])), (a1, .inl (k0, 240, .inl (fun _ => 0)))] s.heap.size = A at hD ⊢
  have hA : ∀ q : Nat, s.heap.size ≤ q → A q := fun q h => by rw [← hAe]; exact Or.inr h
  have hS : va_S A s.heap s.heap [] := va_S.rf
  have hP : va_P (dC, dI) vcl [(a0, .inr (1, [.int 0, .int 0, .ref a1, .int 0, .int (-1), .int 0, .int 0, .ref a2, .ref a3, .ref a4, .ref a5, .ref a6, .int 0, .int 0, .ref a7, .int 0, .int 0, .ref a8, .ref a9, .ref a10, .ref a11, .ref a12, .ref a13, .int 0, .ref a14, .ref a15, .int 0, .int 0, .int 0, .int 0, .int 0, .int 0, .ref a16, .ref a17, .ref a18, .int 0, .int 0, .int 0, .int 0, .int 0, .int 0, .ref a19, .ref a20, .ref a21, .ref a22, .ref a23, .ref a24, .ref a25, .ref a26, .ref a27])), (a1, .inl (k0, 240, .inl (fun _ => 0)))] s.heap := hP
  have hl := lv_entry ([.ref a0, .long ev, .int (nI N)]) (n := 7) (Nat.le_of_ble_eq_true rfl)
  rw [lg_entry_eq]
  generalize (lg_sl ([.ref a0, .long ev, .int (nI N)]) ++ List.replicate (7 - (lg_sl ([.ref a0, .long ev, .int (nI N)])).length) Slot.unset).toArray = ls at hl ⊢
  have hl : lv_has ls 7 [(0, .ref a0), (1, .long ev), (3, .int (nI N))] := hl
  refine lv_aload_n hx hb d_Model_write_0 rfl (lv_at hl 0 rfl) ?_
  refine lv_iconst (v := 0) hx hb d_Model_write_1 (by decide) ?_
  refine va_put (D := (dC, dI)) (ci := 1) (v := .int 0) (ty := .int) (C := R_Model) (T := F_Model) (N := 50) hx hb hz zu_Model t_Model t_Model_ok n_Model hown hK hP hD hS 0 rfl rfl 0 (by decide) (hz (.fieldLink R_Model 97 "LayoutFrontModel" "thrown" "I") zm_415) (fun _ h9 => h9) rfl (by decide +kernel) rfl rfl (Nat.le_of_ble_eq_true rfl) d_Model_write_2 (fun H locs hP hD hS => ?_)
  have hP : va_P (dC, dI) vcl [(a0, .inr (1, [.int 0, .int 0, .ref a1, .int 0, .int (-1), .int 0, .int 0, .ref a2, .ref a3, .ref a4, .ref a5, .ref a6, .int 0, .int 0, .ref a7, .int 0, .int 0, .ref a8, .ref a9, .ref a10, .ref a11, .ref a12, .ref a13, .int 0, .ref a14, .ref a15, .int 0, .int 0, .int 0, .int 0, .int 0, .int 0, .ref a16, .ref a17, .ref a18, .int 0, .int 0, .int 0, .int 0, .int 0, .int 0, .ref a19, .ref a20, .ref a21, .ref a22, .ref a23, .ref a24, .ref a25, .ref a26, .ref a27])), (a1, .inl (k0, 240, .inl (fun _ => 0)))] H := hP
  have hD : va_D A [(a0, .inr (1, [.int 0, .int 0, .ref a1, .int 0, .int (-1), .int 0, .int 0, .ref a2, .ref a3, .ref a4, .ref a5, .ref a6, .int 0, .int 0, .ref a7, .int 0, .int 0, .ref a8, .ref a9, .ref a10, .ref a11, .ref a12, .ref a13, .int 0, .ref a14, .ref a15, .int 0, .int 0, .int 0, .int 0, .int 0, .int 0, .ref a16, .ref a17, .ref a18, .int 0, .int 0, .int 0, .int 0, .int 0, .int 0, .ref a19, .ref a20, .ref a21, .ref a22, .ref a23, .ref a24, .ref a25, .ref a26, .ref a27])), (a1, .inl (k0, 240, .inl (fun _ => 0)))] := hD
  refine lv_iload_n hx hb d_Model_write_5 rfl (lv_at hl 2 rfl) ?_
  refine lv_iconst (v := 1) hx hb d_Model_write_6 (by decide) ?_
  refine lv_bipush (v := 8) hx hb d_Model_write_7 (by decide) ?_
  have hPc := hP.sub (ws' := []) [] rfl
  have hDc := hD.sub (ws' := []) [] (by decide) rfl
  have hKc := hK.sub (tys' := []) [] rfl
  have hFc := va_free (wc := []) hD hS hA [] rfl
  refine va_calli (va_runS (As := [.int (nI N), .int 1, .int 8]) (rest := []) ⟨hx, hb, hml, hown, hz⟩ (c175_Model_within l dC dI H.size ev N hN h1 hg) (cwS 3 hz (zS zm_449 zm_450 zm_374 zm_451) rfl rfl rfl (by decide +kernel) ⟨Nat.le_of_ble_eq_true rfl, Nat.le_of_ble_eq_true rfl⟩) ⟨fun a U g mk q => by obtain ⟨q0, q1, qP, qK, qD⟩ := q; exact ⟨q0, q1, qP, va_K.moved (u := U) (U := U.calling g mk a) (Vm.Alike.refl U.vm) qK, qD⟩, fun U hU hW => ⟨rfl, by rw [hU], by rw [hU]; exact hPc, va_K.moved hW.alike hKc, hDc.weaken (fun _ _ _ _ => trivial)⟩⟩ rfl rfl hl.1 rfl (lv_room (Nat.le_of_ble_eq_true rfl)) d_Model_write_9 ⟨by decide, by decide⟩) hS (fun q _ h => hFc q h) hFc (fun r u t H1 locs ht hvm hw hB hz1 hk1 hS => ?_)
  obtain ⟨hP1, hK1, hD1⟩ := hB
  subst r
  rw [ht] at hP1
  obtain ⟨hP, hD⟩ := va_join (wr := [(a0, .inr (1, [.int 0, .int 0, .ref a1, .int 0, .int (-1), .int 0, .int 0, .ref a2, .ref a3, .ref a4, .ref a5, .ref a6, .int 0, .int 0, .ref a7, .int 0, .int 0, .ref a8, .ref a9, .ref a10, .ref a11, .ref a12, .ref a13, .int 0, .ref a14, .ref a15, .int 0, .int 0, .int 0, .int 0, .int 0, .int 0, .ref a16, .ref a17, .ref a18, .int 0, .int 0, .int 0, .int 0, .int 0, .int 0, .ref a19, .ref a20, .ref a21, .ref a22, .ref a23, .ref a24, .ref a25, .ref a26, .ref a27])), (a1, .inl (k0, 240, .inl (fun _ => 0)))]) (w1 := []) hP hD [] [0, 1] rfl rfl (by decide) (by decide) hk1 hFc hP1 hD1
  generalize H1 = H at hP hS ⊢
  have hP : va_P (dC, dI) vcl [(a0, .inr (1, [.int 0, .int 0, .ref a1, .int 0, .int (-1), .int 0, .int 0, .ref a2, .ref a3, .ref a4, .ref a5, .ref a6, .int 0, .int 0, .ref a7, .int 0, .int 0, .ref a8, .ref a9, .ref a10, .ref a11, .ref a12, .ref a13, .int 0, .ref a14, .ref a15, .int 0, .int 0, .int 0, .int 0, .int 0, .int 0, .ref a16, .ref a17, .ref a18, .int 0, .int 0, .int 0, .int 0, .int 0, .int 0, .ref a19, .ref a20, .ref a21, .ref a22, .ref a23, .ref a24, .ref a25, .ref a26, .ref a27])), (a1, .inl (k0, 240, .inl (fun _ => 0)))] H := hP
  have hD : va_D A [(a0, .inr (1, [.int 0, .int 0, .ref a1, .int 0, .int (-1), .int 0, .int 0, .ref a2, .ref a3, .ref a4, .ref a5, .ref a6, .int 0, .int 0, .ref a7, .int 0, .int 0, .ref a8, .ref a9, .ref a10, .ref a11, .ref a12, .ref a13, .int 0, .ref a14, .ref a15, .int 0, .int 0, .int 0, .int 0, .int 0, .int 0, .ref a16, .ref a17, .ref a18, .int 0, .int 0, .int 0, .int 0, .int 0, .int 0, .ref a19, .ref a20, .ref a21, .ref a22, .ref a23, .ref a24, .ref a25, .ref a26, .ref a27])), (a1, .inl (k0, 240, .inl (fun _ => 0)))] := hD
  refine lv_if_ne (tgt := 21) hx hb d_Model_write_12 (by decide) (fun _ => ?_) (fun h => absurd h (by decide +kernel))
  refine lv_iconst (v := 1) hx hb d_Model_write_21 (by decide) ?_
  refine lv_istore hx hb d_Model_write_22 hl (by decide) rfl (fun ls hl => ?_)
  have hl : lv_has ls 7 [(4, .int 1), (0, .ref a0), (1, .long ev), (3, .int (nI N))] := hl
  refine lv_iconst (v := 0) hx hb d_Model_write_24 (by decide) ?_
  refine lv_istore hx hb d_Model_write_25 hl (by decide) rfl (fun ls hl => ?_)
  have hl : lv_has ls 7 [(5, .int 0), (4, .int 1), (0, .ref a0), (1, .long ev), (3, .int (nI N))] := hl
  refine lp_mw1 (v := ev) (N := N) hN (Nat.le_of_ble_eq_true rfl) (Nat.le_of_ble_eq_true rfl) (Nat.zero_le _) (Nat.zero_le _) hx hb hz hown hml (fun H locs ls hl hP hS => ?_) N 0 rfl _ _ ls hl hP hS
  rw [hg] at hl
  have hl : lv_has ls 7 [(5, .int (nI N)), (4, .int 1), (0, .ref a0), (1, .long ev), (3, .int (nI N))] := hl
  refine lv_iload hx hb d_Model_write_84 (lv_at hl 1 rfl) ?_
  refine lv_if_ne (tgt := 95) hx hb d_Model_write_86 (by decide) (fun _ => ?_) (fun h => absurd h (by decide +kernel))
  refine lv_aload_n hx hb d_Model_write_95 rfl (lv_at hl 2 rfl) ?_
  refine va_get (D := (dC, dI)) (ci := 1) (v := .int 0) (C := R_Model) (T := F_Model) (N := 50) hx hb hz zu_Model hown hK hP 0 rfl rfl 1 (by decide) (hz (.fieldLink R_Model 110 "LayoutFrontModel" "length" "I") zm_367) (fun _ h9 => h9) rfl d_Model_write_96 ?_
  refine lv_iload_n hx hb d_Model_write_99 rfl (lv_at hl 4 rfl) ?_
  refine xr_iadd (v := (nI N)) hx hb d_Model_write_100 (xr_0add _) ?_
  refine lv_sipush (v := 240) hx hb d_Model_write_101 (by decide) ?_
  refine lv_icmp_le (tgt := 113) hx hb d_Model_write_104 (by decide) (fun _ => ?_) (fun h => (h (nI_le (b := 240) (by omega) (by decide))).elim)
  refine lv_iconst (v := 0) hx hb d_Model_write_113 (by decide) ?_
  refine lv_istore hx hb d_Model_write_114 hl (by decide) rfl (fun ls hl => ?_)
  have hl : lv_has ls 7 [(5, .int 0), (4, .int 1), (0, .ref a0), (1, .long ev), (3, .int (nI N))] := hl
  refine lp_mw2 (g4 := 1) (v := ev) (N := N) hN hx hb hz hown hK rfl rfl (fun f2 H locs ls hl hP hD hS => ?_) N 0 rfl _ _ _ ls hl hP hD hS
  have hl : lv_has ls 7 [(5, .int (nI N)), (4, .int 1), (0, .ref a0), (1, .long ev), (3, .int (nI N))] := hl
  have hP : va_P (dC, dI) vcl [(a0, .inr (1, [.int 0, .int 0, .ref a1, .int 0, .int (-1), .int 0, .int 0, .ref a2, .ref a3, .ref a4, .ref a5, .ref a6, .int 0, .int 0, .ref a7, .int 0, .int 0, .ref a8, .ref a9, .ref a10, .ref a11, .ref a12, .ref a13, .int 0, .ref a14, .ref a15, .int 0, .int 0, .int 0, .int 0, .int 0, .int 0, .ref a16, .ref a17, .ref a18, .int 0, .int 0, .int 0, .int 0, .int 0, .int 0, .ref a19, .ref a20, .ref a21, .ref a22, .ref a23, .ref a24, .ref a25, .ref a26, .ref a27])), (a1, .inl (k0, 240, .inl f2))] H := hP
  have hD : va_D A [(a0, .inr (1, [.int 0, .int 0, .ref a1, .int 0, .int (-1), .int 0, .int 0, .ref a2, .ref a3, .ref a4, .ref a5, .ref a6, .int 0, .int 0, .ref a7, .int 0, .int 0, .ref a8, .ref a9, .ref a10, .ref a11, .ref a12, .ref a13, .int 0, .ref a14, .ref a15, .int 0, .int 0, .int 0, .int 0, .int 0, .int 0, .ref a16, .ref a17, .ref a18, .int 0, .int 0, .int 0, .int 0, .int 0, .int 0, .ref a19, .ref a20, .ref a21, .ref a22, .ref a23, .ref a24, .ref a25, .ref a26, .ref a27])), (a1, .inl (k0, 240, .inl f2))] := hD
  refine lv_aload_n hx hb d_Model_write_152 rfl (lv_at hl 2 rfl) ?_
  refine lv_dup hx hb d_Model_write_153 rfl ?_
  refine va_get (D := (dC, dI)) (ci := 1) (v := .int 0) (C := R_Model) (T := F_Model) (N := 50) hx hb hz zu_Model hown hK hP 0 rfl rfl 1 (by decide) (hz (.fieldLink R_Model 110 "LayoutFrontModel" "length" "I") zm_367) (fun _ h9 => h9) rfl d_Model_write_154 ?_
  refine lv_iload_n hx hb d_Model_write_157 rfl (lv_at hl 4 rfl) ?_
  refine xr_iadd (v := (nI N)) hx hb d_Model_write_158 (xr_0add _) ?_
  refine va_put (D := (dC, dI)) (ci := 1) (v := .int (nI N)) (ty := .int) (C := R_Model) (T := F_Model) (N := 50) hx hb hz zu_Model t_Model t_Model_ok n_Model hown hK hP hD hS 0 rfl rfl 1 (by decide) (hz (.fieldLink R_Model 110 "LayoutFrontModel" "length" "I") zm_367) (fun _ h9 => h9) rfl (by decide +kernel) (xr_nar _) (xr_fit _) (Nat.le_of_ble_eq_true rfl) d_Model_write_159 (fun H locs hP hD hS => ?_)
  have hP : va_P (dC, dI) vcl [(a0, .inr (1, [.int 0, .int (nI N), .ref a1, .int 0, .int (-1), .int 0, .int 0, .ref a2, .ref a3, .ref a4, .ref a5, .ref a6, .int 0, .int 0, .ref a7, .int 0, .int 0, .ref a8, .ref a9, .ref a10, .ref a11, .ref a12, .ref a13, .int 0, .ref a14, .ref a15, .int 0, .int 0, .int 0, .int 0, .int 0, .int 0, .ref a16, .ref a17, .ref a18, .int 0, .int 0, .int 0, .int 0, .int 0, .int 0, .ref a19, .ref a20, .ref a21, .ref a22, .ref a23, .ref a24, .ref a25, .ref a26, .ref a27])), (a1, .inl (k0, 240, .inl f2))] H := hP
  have hD : va_D A [(a0, .inr (1, [.int 0, .int (nI N), .ref a1, .int 0, .int (-1), .int 0, .int 0, .ref a2, .ref a3, .ref a4, .ref a5, .ref a6, .int 0, .int 0, .ref a7, .int 0, .int 0, .ref a8, .ref a9, .ref a10, .ref a11, .ref a12, .ref a13, .int 0, .ref a14, .ref a15, .int 0, .int 0, .int 0, .int 0, .int 0, .int 0, .ref a16, .ref a17, .ref a18, .int 0, .int 0, .int 0, .int 0, .int 0, .int 0, .ref a19, .ref a20, .ref a21, .ref a22, .ref a23, .ref a24, .ref a25, .ref a26, .ref a27])), (a1, .inl (k0, 240, .inl f2))] := hD
  refine lv_aload_n hx hb d_Model_write_162 rfl (lv_at hl 2 rfl) ?_
  refine va_get (D := (dC, dI)) (ci := 1) (v := .int (nI N)) (C := R_Model) (T := F_Model) (N := 50) hx hb hz zu_Model hown hK hP 0 rfl rfl 1 (by decide) (hz (.fieldLink R_Model 110 "LayoutFrontModel" "length" "I") zm_367) (fun _ h9 => h9) rfl d_Model_write_163 ?_
  have hP9 := hP.sub (ws' := [(a0, .inr (1, [.int 0, .int (nI N), .ref a1, .int 0, .int (-1), .int 0, .int 0, .ref a2, .ref a3, .ref a4, .ref a5, .ref a6, .int 0, .int 0, .ref a7, .int 0, .int 0, .ref a8, .ref a9, .ref a10, .ref a11, .ref a12, .ref a13, .int 0, .ref a14, .ref a15, .int 0, .int 0, .int 0, .int 0, .int 0, .int 0, .ref a16, .ref a17, .ref a18, .int 0, .int 0, .int 0, .int 0, .int 0, .int 0, .ref a19, .ref a20, .ref a21, .ref a22, .ref a23, .ref a24, .ref a25, .ref a26, .ref a27])), (a1, .inl (k0, 240, .inl f2))]) [0, 1] rfl
  have hD9 := hD.sub (ws' := [(a0, .inr (1, [.int 0, .int (nI N), .ref a1, .int 0, .int (-1), .int 0, .int 0, .ref a2, .ref a3, .ref a4, .ref a5, .ref a6, .int 0, .int 0, .ref a7, .int 0, .int 0, .ref a8, .ref a9, .ref a10, .ref a11, .ref a12, .ref a13, .int 0, .ref a14, .ref a15, .int 0, .int 0, .int 0, .int 0, .int 0, .int 0, .ref a16, .ref a17, .ref a18, .int 0, .int 0, .int 0, .int 0, .int 0, .int 0, .ref a19, .ref a20, .ref a21, .ref a22, .ref a23, .ref a24, .ref a25, .ref a26, .ref a27])), (a1, .inl (k0, 240, .inl f2))]) [0, 1] (by decide) rfl
  have hK9 := hK.sub (tys' := [(k0, .int)]) [0] rfl
  exact W.iret (v := (nI N)) hx hb hr (fun t ht hW => ⟨⟨(nI N), (), rfl, rfl, f2, by rw [ht]; exact hP9, va_K.moved hW.alike hK9, hD9⟩, hS.F ht⟩) hS.2.2 d_Model_write_166
set_option maxHeartbeats 4000000 in
set_option maxRecDepth 100000 in
theorem c177_Model_within (l : Launch) (dC : Nat → ClassId) (dI : Nat → Nat → Nat) (sz : Nat) (ev : Int64) (N : Nat) (hN : N ≤ 8) (h1 : 1 ≤ N) (hg : gd_ ev N = false) : Met l y_Model_within w_Model_within ({ frames := 0, cells := 0, slots := 0, locals := 0 }) (va_Pc [.int (nI N), .int 1, .int 8] (fun U => U.heap.size = sz ∧ va_P (dC, dI) vcl [] U.heap ∧ va_K (dC, dI) vcl [] U ∧ va_D (fun _ => True) [])) (va_Qi (fun (r : Int32) (_ : Unit) => r = 1) (fun _ t => va_P (dC, dI) vcl [] t.heap ∧ va_K (dC, dI) vcl [] t ∧ va_D (va_A [] sz) []) (va_A [] sz)) 0 0 (va_A [] sz) := by
  refine Met.ofW (cc := b_Model_within) (maxL := 3) (ret := (some .boolean)) (by decide) rfl ?_
  intro p e s m args below meth c s₁ B hml hv
  obtain ⟨rfl, hsz, hP, hK, hD0⟩ := hv
  have hx := B.exec
  have hb := B.bytes
  have hr := B.returns
  have hts := atoms_spec (ws := w_Model_within) B.pre
  have hz : ∀ w ∈ wz, w.before _ s = true := fun w h => hts w (List.mem_cons_of_mem _ h)
  have hown : s.vm.findClass R_Model = some m.cls := findClass_of_methodNamed B.named
  have hlocks := B.notSynchronized
  subst hsz
  have hD := hD0.self (sz := s.heap.size)
  generalize hAe : va_A [] s.heap.size = A at hD ⊢
  have hA : ∀ q : Nat, s.heap.size ≤ q → A q := fun q h => by rw [← hAe]; exact Or.inr h
  have hS : va_S A s.heap s.heap [] := va_S.rf
  have hP : va_P (dC, dI) vcl [] s.heap := hP
  have hl := lv_entry ([.int (nI N), .int 1, .int 8]) (n := 3) (Nat.le_of_ble_eq_true rfl)
  rw [lg_entry_eq]
  generalize (lg_sl ([.int (nI N), .int 1, .int 8]) ++ List.replicate (3 - (lg_sl ([.int (nI N), .int 1, .int 8])).length) Slot.unset).toArray = ls at hl ⊢
  have hl : lv_has ls 3 [(0, .int (nI N)), (1, .int 1), (2, .int 8)] := hl
  refine lv_iload_n hx hb d_Model_within_0 rfl (lv_at hl 0 rfl) ?_
  refine lv_iload_n hx hb d_Model_within_1 rfl (lv_at hl 1 rfl) ?_
  refine lv_icmp_lt (tgt := 14) hx hb d_Model_within_2 (by decide) (fun h => absurd h (nI_nlt (b := 1) h1 (by omega))) (fun _ => ?_)
  refine lv_iload_n hx hb d_Model_within_5 rfl (lv_at hl 0 rfl) ?_
  refine lv_iload_n hx hb d_Model_within_6 rfl (lv_at hl 2 rfl) ?_
  refine lv_icmp_gt (tgt := 14) hx hb d_Model_within_7 (by decide) (fun h => absurd h (nI_nlt (a := 8) hN (by decide))) (fun _ => ?_)
  refine lv_iconst (v := 1) hx hb d_Model_within_10 (by decide) ?_
  refine lv_goto (tgt := 15) hx hb d_Model_within_11 (by decide) ?_
  have hP9 := hP.sub (ws' := []) [] rfl
  have hD9 := hD.sub (ws' := []) [] (by decide) rfl
  have hK9 := hK.sub (tys' := []) [] rfl
  exact W.zret (v := 1) hx hb hr (by decide +kernel) (fun t ht hW => ⟨⟨1, (), rfl, rfl, by rw [ht]; exact hP9, va_K.moved hW.alike hK9, hD9⟩, hS.F ht⟩) hS.2.2 d_Model_within_15
set_option maxHeartbeats 4000000 in
set_option maxRecDepth 100000 in
theorem c178_Model_write (l : Launch) (dC : Nat → ClassId) (dI : Nat → Nat → Nat) (sz : Nat) (a0 : Nat) (a1 : Nat) (a2 : Nat) (a3 : Nat) (a4 : Nat) (a5 : Nat) (a6 : Nat) (a7 : Nat) (a8 : Nat) (a9 : Nat) (a10 : Nat) (a11 : Nat) (a12 : Nat) (a13 : Nat) (a14 : Nat) (a15 : Nat) (a16 : Nat) (a17 : Nat) (a18 : Nat) (a19 : Nat) (a20 : Nat) (a21 : Nat) (a22 : Nat) (a23 : Nat) (a24 : Nat) (a25 : Nat) (a26 : Nat) (a27 : Nat) (ev : Int64) (N : Nat) (hN : N ≤ 8) (h1 : 1 ≤ N) (hg : gd_ ev N = false) : Met l y_Model_write w_Model_write ({ frames := 1, cells := 0, slots := 0, locals := 22 }) (va_Pc [.ref a0, .long ev, .int (nI N)] (fun U => U.heap.size = sz ∧ va_P (dC, dI) vcl [(a0, .inr (1, [.int 0, .int 0, .ref a1, .int 0, .int (-1), .int 0, .int 0, .ref a2, .ref a3, .ref a4, .ref a5, .ref a6, .int 0, .int 0, .ref a7, .int 0, .int 0, .ref a8, .ref a9, .ref a10, .ref a11, .ref a12, .ref a13, .int 0, .ref a14, .ref a15, .int 0, .int 0, .int 0, .int 0, .int 0, .int 0, .ref a16, .ref a17, .ref a18, .int 0, .int 0, .int 0, .int 0, .int 0, .int 0, .ref a19, .ref a20, .ref a21, .ref a22, .ref a23, .ref a24, .ref a25, .ref a26, .ref a27]))] U.heap ∧ va_K (dC, dI) vcl [] U ∧ va_D (fun _ => True) [(a0, .inr (1, [.int 0, .int 0, .ref a1, .int 0, .int (-1), .int 0, .int 0, .ref a2, .ref a3, .ref a4, .ref a5, .ref a6, .int 0, .int 0, .ref a7, .int 0, .int 0, .ref a8, .ref a9, .ref a10, .ref a11, .ref a12, .ref a13, .int 0, .ref a14, .ref a15, .int 0, .int 0, .int 0, .int 0, .int 0, .int 0, .ref a16, .ref a17, .ref a18, .int 0, .int 0, .int 0, .int 0, .int 0, .int 0, .ref a19, .ref a20, .ref a21, .ref a22, .ref a23, .ref a24, .ref a25, .ref a26, .ref a27]))])) (va_Qi (fun (r : Int32) (_ : Unit) => r = 0) (fun _ t => va_P (dC, dI) vcl [(a0, .inr (1, [.int 1, .int 0, .ref a1, .int 0, .int (-1), .int 0, .int 0, .ref a2, .ref a3, .ref a4, .ref a5, .ref a6, .int 0, .int 0, .ref a7, .int 0, .int 0, .ref a8, .ref a9, .ref a10, .ref a11, .ref a12, .ref a13, .int 0, .ref a14, .ref a15, .int 0, .int 0, .int 0, .int 0, .int 0, .int 0, .ref a16, .ref a17, .ref a18, .int 0, .int 0, .int 0, .int 0, .int 0, .int 0, .ref a19, .ref a20, .ref a21, .ref a22, .ref a23, .ref a24, .ref a25, .ref a26, .ref a27]))] t.heap ∧ va_K (dC, dI) vcl [] t ∧ va_D (va_A [(a0, .inr (1, [.int 0, .int 0, .ref a1, .int 0, .int (-1), .int 0, .int 0, .ref a2, .ref a3, .ref a4, .ref a5, .ref a6, .int 0, .int 0, .ref a7, .int 0, .int 0, .ref a8, .ref a9, .ref a10, .ref a11, .ref a12, .ref a13, .int 0, .ref a14, .ref a15, .int 0, .int 0, .int 0, .int 0, .int 0, .int 0, .ref a16, .ref a17, .ref a18, .int 0, .int 0, .int 0, .int 0, .int 0, .int 0, .ref a19, .ref a20, .ref a21, .ref a22, .ref a23, .ref a24, .ref a25, .ref a26, .ref a27]))] sz) [(a0, .inr (1, [.int 1, .int 0, .ref a1, .int 0, .int (-1), .int 0, .int 0, .ref a2, .ref a3, .ref a4, .ref a5, .ref a6, .int 0, .int 0, .ref a7, .int 0, .int 0, .ref a8, .ref a9, .ref a10, .ref a11, .ref a12, .ref a13, .int 0, .ref a14, .ref a15, .int 0, .int 0, .int 0, .int 0, .int 0, .int 0, .ref a16, .ref a17, .ref a18, .int 0, .int 0, .int 0, .int 0, .int 0, .int 0, .ref a19, .ref a20, .ref a21, .ref a22, .ref a23, .ref a24, .ref a25, .ref a26, .ref a27]))]) (va_A [(a0, .inr (1, [.int 0, .int 0, .ref a1, .int 0, .int (-1), .int 0, .int 0, .ref a2, .ref a3, .ref a4, .ref a5, .ref a6, .int 0, .int 0, .ref a7, .int 0, .int 0, .ref a8, .ref a9, .ref a10, .ref a11, .ref a12, .ref a13, .int 0, .ref a14, .ref a15, .int 0, .int 0, .int 0, .int 0, .int 0, .int 0, .ref a16, .ref a17, .ref a18, .int 0, .int 0, .int 0, .int 0, .int 0, .int 0, .ref a19, .ref a20, .ref a21, .ref a22, .ref a23, .ref a24, .ref a25, .ref a26, .ref a27]))] sz)) 0 0 (va_A [(a0, .inr (1, [.int 0, .int 0, .ref a1, .int 0, .int (-1), .int 0, .int 0, .ref a2, .ref a3, .ref a4, .ref a5, .ref a6, .int 0, .int 0, .ref a7, .int 0, .int 0, .ref a8, .ref a9, .ref a10, .ref a11, .ref a12, .ref a13, .int 0, .ref a14, .ref a15, .int 0, .int 0, .int 0, .int 0, .int 0, .int 0, .ref a16, .ref a17, .ref a18, .int 0, .int 0, .int 0, .int 0, .int 0, .int 0, .ref a19, .ref a20, .ref a21, .ref a22, .ref a23, .ref a24, .ref a25, .ref a26, .ref a27]))] sz) := by
  refine Met.ofW (cc := b_Model_write) (maxL := 7) (ret := (some .int)) (by decide) rfl ?_
  intro p e s m args below meth c s₁ B hml hv
  obtain ⟨rfl, hsz, hP, hK, hD0⟩ := hv
  have hx := B.exec
  have hb := B.bytes
  have hr := B.returns
  have hts := atoms_spec (ws := w_Model_write) B.pre
  have hz : ∀ w ∈ wz, w.before _ s = true := fun w h => hts w (List.mem_cons_of_mem _ h)
  have hown : s.vm.findClass R_Model = some m.cls := findClass_of_methodNamed B.named
  have hlocks := B.notSynchronized
  subst hsz
  have hD := hD0.self (sz := s.heap.size)
  generalize hAe : va_A [(a0, .inr (1, [.int 0, .int 0, .ref a1, .int 0, .int (-1), .int 0, .int 0, .ref a2, .ref a3, .ref a4, .ref a5, .ref a6, .int 0, .int 0, .ref a7, .int 0, .int 0, .ref a8, .ref a9, .ref a10, .ref a11, .ref a12, .ref a13, .int 0, .ref a14, .ref a15, .int 0, .int 0, .int 0, .int 0, .int 0, .int 0, .ref a16, .ref a17, .ref a18, .int 0, .int 0, .int 0, .int 0, .int 0, .int 0, .ref a19, .ref a20, .ref a21, .ref a22, .ref a23, .ref a24, .ref a25, .ref a26, .ref a27]))] s.heap.size = A at hD ⊢
  have hA : ∀ q : Nat, s.heap.size ≤ q → A q := fun q h => by rw [← hAe]; exact Or.inr h
  have hS : va_S A s.heap s.heap [] := va_S.rf
  have hP : va_P (dC, dI) vcl [(a0, .inr (1, [.int 0, .int 0, .ref a1, .int 0, .int (-1), .int 0, .int 0, .ref a2, .ref a3, .ref a4, .ref a5, .ref a6, .int 0, .int 0, .ref a7, .int 0, .int 0, .ref a8, .ref a9, .ref a10, .ref a11, .ref a12, .ref a13, .int 0, .ref a14, .ref a15, .int 0, .int 0, .int 0, .int 0, .int 0, .int 0, .ref a16, .ref a17, .ref a18, .int 0, .int 0, .int 0, .int 0, .int 0, .int 0, .ref a19, .ref a20, .ref a21, .ref a22, .ref a23, .ref a24, .ref a25, .ref a26, .ref a27]))] s.heap := hP
  have hl := lv_entry ([.ref a0, .long ev, .int (nI N)]) (n := 7) (Nat.le_of_ble_eq_true rfl)
  rw [lg_entry_eq]
  generalize (lg_sl ([.ref a0, .long ev, .int (nI N)]) ++ List.replicate (7 - (lg_sl ([.ref a0, .long ev, .int (nI N)])).length) Slot.unset).toArray = ls at hl ⊢
  have hl : lv_has ls 7 [(0, .ref a0), (1, .long ev), (3, .int (nI N))] := hl
  refine lv_aload_n hx hb d_Model_write_0 rfl (lv_at hl 0 rfl) ?_
  refine lv_iconst (v := 0) hx hb d_Model_write_1 (by decide) ?_
  refine va_put (D := (dC, dI)) (ci := 1) (v := .int 0) (ty := .int) (C := R_Model) (T := F_Model) (N := 50) hx hb hz zu_Model t_Model t_Model_ok n_Model hown hK hP hD hS 0 rfl rfl 0 (by decide) (hz (.fieldLink R_Model 97 "LayoutFrontModel" "thrown" "I") zm_415) (fun _ h9 => h9) rfl (by decide +kernel) rfl rfl (Nat.le_of_ble_eq_true rfl) d_Model_write_2 (fun H locs hP hD hS => ?_)
  have hP : va_P (dC, dI) vcl [(a0, .inr (1, [.int 0, .int 0, .ref a1, .int 0, .int (-1), .int 0, .int 0, .ref a2, .ref a3, .ref a4, .ref a5, .ref a6, .int 0, .int 0, .ref a7, .int 0, .int 0, .ref a8, .ref a9, .ref a10, .ref a11, .ref a12, .ref a13, .int 0, .ref a14, .ref a15, .int 0, .int 0, .int 0, .int 0, .int 0, .int 0, .ref a16, .ref a17, .ref a18, .int 0, .int 0, .int 0, .int 0, .int 0, .int 0, .ref a19, .ref a20, .ref a21, .ref a22, .ref a23, .ref a24, .ref a25, .ref a26, .ref a27]))] H := hP
  have hD : va_D A [(a0, .inr (1, [.int 0, .int 0, .ref a1, .int 0, .int (-1), .int 0, .int 0, .ref a2, .ref a3, .ref a4, .ref a5, .ref a6, .int 0, .int 0, .ref a7, .int 0, .int 0, .ref a8, .ref a9, .ref a10, .ref a11, .ref a12, .ref a13, .int 0, .ref a14, .ref a15, .int 0, .int 0, .int 0, .int 0, .int 0, .int 0, .ref a16, .ref a17, .ref a18, .int 0, .int 0, .int 0, .int 0, .int 0, .int 0, .ref a19, .ref a20, .ref a21, .ref a22, .ref a23, .ref a24, .ref a25, .ref a26, .ref a27]))] := hD
  refine lv_iload_n hx hb d_Model_write_5 rfl (lv_at hl 2 rfl) ?_
  refine lv_iconst (v := 1) hx hb d_Model_write_6 (by decide) ?_
  refine lv_bipush (v := 8) hx hb d_Model_write_7 (by decide) ?_
  have hPc := hP.sub (ws' := []) [] rfl
  have hDc := hD.sub (ws' := []) [] (by decide) rfl
  have hKc := hK.sub (tys' := []) [] rfl
  have hFc := va_free (wc := []) hD hS hA [] rfl
  refine va_calli (va_runS (As := [.int (nI N), .int 1, .int 8]) (rest := []) ⟨hx, hb, hml, hown, hz⟩ (c177_Model_within l dC dI H.size ev N hN h1 hg) (cwS 3 hz (zS zm_449 zm_450 zm_374 zm_451) rfl rfl rfl (by decide +kernel) ⟨Nat.le_of_ble_eq_true rfl, Nat.le_of_ble_eq_true rfl⟩) ⟨fun a U g mk q => by obtain ⟨q0, q1, qP, qK, qD⟩ := q; exact ⟨q0, q1, qP, va_K.moved (u := U) (U := U.calling g mk a) (Vm.Alike.refl U.vm) qK, qD⟩, fun U hU hW => ⟨rfl, by rw [hU], by rw [hU]; exact hPc, va_K.moved hW.alike hKc, hDc.weaken (fun _ _ _ _ => trivial)⟩⟩ rfl rfl hl.1 rfl (lv_room (Nat.le_of_ble_eq_true rfl)) d_Model_write_9 ⟨by decide, by decide⟩) hS (fun q _ h => hFc q h) hFc (fun r u t H1 locs ht hvm hw hB hz1 hk1 hS => ?_)
  obtain ⟨hP1, hK1, hD1⟩ := hB
  subst r
  rw [ht] at hP1
  obtain ⟨hP, hD⟩ := va_join (wr := [(a0, .inr (1, [.int 0, .int 0, .ref a1, .int 0, .int (-1), .int 0, .int 0, .ref a2, .ref a3, .ref a4, .ref a5, .ref a6, .int 0, .int 0, .ref a7, .int 0, .int 0, .ref a8, .ref a9, .ref a10, .ref a11, .ref a12, .ref a13, .int 0, .ref a14, .ref a15, .int 0, .int 0, .int 0, .int 0, .int 0, .int 0, .ref a16, .ref a17, .ref a18, .int 0, .int 0, .int 0, .int 0, .int 0, .int 0, .ref a19, .ref a20, .ref a21, .ref a22, .ref a23, .ref a24, .ref a25, .ref a26, .ref a27]))]) (w1 := []) hP hD [] [0] rfl rfl (by decide) (by decide) hk1 hFc hP1 hD1
  generalize H1 = H at hP hS ⊢
  have hP : va_P (dC, dI) vcl [(a0, .inr (1, [.int 0, .int 0, .ref a1, .int 0, .int (-1), .int 0, .int 0, .ref a2, .ref a3, .ref a4, .ref a5, .ref a6, .int 0, .int 0, .ref a7, .int 0, .int 0, .ref a8, .ref a9, .ref a10, .ref a11, .ref a12, .ref a13, .int 0, .ref a14, .ref a15, .int 0, .int 0, .int 0, .int 0, .int 0, .int 0, .ref a16, .ref a17, .ref a18, .int 0, .int 0, .int 0, .int 0, .int 0, .int 0, .ref a19, .ref a20, .ref a21, .ref a22, .ref a23, .ref a24, .ref a25, .ref a26, .ref a27]))] H := hP
  have hD : va_D A [(a0, .inr (1, [.int 0, .int 0, .ref a1, .int 0, .int (-1), .int 0, .int 0, .ref a2, .ref a3, .ref a4, .ref a5, .ref a6, .int 0, .int 0, .ref a7, .int 0, .int 0, .ref a8, .ref a9, .ref a10, .ref a11, .ref a12, .ref a13, .int 0, .ref a14, .ref a15, .int 0, .int 0, .int 0, .int 0, .int 0, .int 0, .ref a16, .ref a17, .ref a18, .int 0, .int 0, .int 0, .int 0, .int 0, .int 0, .ref a19, .ref a20, .ref a21, .ref a22, .ref a23, .ref a24, .ref a25, .ref a26, .ref a27]))] := hD
  refine lv_if_ne (tgt := 21) hx hb d_Model_write_12 (by decide) (fun _ => ?_) (fun h => absurd h (by decide +kernel))
  refine lv_iconst (v := 1) hx hb d_Model_write_21 (by decide) ?_
  refine lv_istore hx hb d_Model_write_22 hl (by decide) rfl (fun ls hl => ?_)
  have hl : lv_has ls 7 [(4, .int 1), (0, .ref a0), (1, .long ev), (3, .int (nI N))] := hl
  refine lv_iconst (v := 0) hx hb d_Model_write_24 (by decide) ?_
  refine lv_istore hx hb d_Model_write_25 hl (by decide) rfl (fun ls hl => ?_)
  have hl : lv_has ls 7 [(5, .int 0), (4, .int 1), (0, .ref a0), (1, .long ev), (3, .int (nI N))] := hl
  refine lp_mw1 (v := ev) (N := N) hN (Nat.le_of_ble_eq_true rfl) (Nat.le_of_ble_eq_true rfl) (Nat.zero_le _) (Nat.zero_le _) hx hb hz hown hml (fun H locs ls hl hP hS => ?_) N 0 rfl _ _ ls hl hP hS
  rw [hg] at hl
  have hl : lv_has ls 7 [(5, .int (nI N)), (4, .int 0), (0, .ref a0), (1, .long ev), (3, .int (nI N))] := hl
  refine lv_iload hx hb d_Model_write_84 (lv_at hl 1 rfl) ?_
  refine lv_if_ne (tgt := 95) hx hb d_Model_write_86 (by decide) (fun h => (h (by decide +kernel)).elim) (fun _ => ?_)
  refine lv_aload_n hx hb d_Model_write_89 rfl (lv_at hl 2 rfl) ?_
  refine lv_iconst (v := 1) hx hb d_Model_write_90 (by decide) ?_
  have hPc := hP.sub (ws' := [(a0, .inr (1, [.int 0, .int 0, .ref a1, .int 0, .int (-1), .int 0, .int 0, .ref a2, .ref a3, .ref a4, .ref a5, .ref a6, .int 0, .int 0, .ref a7, .int 0, .int 0, .ref a8, .ref a9, .ref a10, .ref a11, .ref a12, .ref a13, .int 0, .ref a14, .ref a15, .int 0, .int 0, .int 0, .int 0, .int 0, .int 0, .ref a16, .ref a17, .ref a18, .int 0, .int 0, .int 0, .int 0, .int 0, .int 0, .ref a19, .ref a20, .ref a21, .ref a22, .ref a23, .ref a24, .ref a25, .ref a26, .ref a27]))]) [0] rfl
  have hDc := hD.sub (ws' := [(a0, .inr (1, [.int 0, .int 0, .ref a1, .int 0, .int (-1), .int 0, .int 0, .ref a2, .ref a3, .ref a4, .ref a5, .ref a6, .int 0, .int 0, .ref a7, .int 0, .int 0, .ref a8, .ref a9, .ref a10, .ref a11, .ref a12, .ref a13, .int 0, .ref a14, .ref a15, .int 0, .int 0, .int 0, .int 0, .int 0, .int 0, .ref a16, .ref a17, .ref a18, .int 0, .int 0, .int 0, .int 0, .int 0, .int 0, .ref a19, .ref a20, .ref a21, .ref a22, .ref a23, .ref a24, .ref a25, .ref a26, .ref a27]))]) [0] (by decide) rfl
  have hKc := hK.sub (tys' := []) [] rfl
  have hFc := va_free (wc := [(a0, .inr (1, [.int 0, .int 0, .ref a1, .int 0, .int (-1), .int 0, .int 0, .ref a2, .ref a3, .ref a4, .ref a5, .ref a6, .int 0, .int 0, .ref a7, .int 0, .int 0, .ref a8, .ref a9, .ref a10, .ref a11, .ref a12, .ref a13, .int 0, .ref a14, .ref a15, .int 0, .int 0, .int 0, .int 0, .int 0, .int 0, .ref a16, .ref a17, .ref a18, .int 0, .int 0, .int 0, .int 0, .int 0, .int 0, .ref a19, .ref a20, .ref a21, .ref a22, .ref a23, .ref a24, .ref a25, .ref a26, .ref a27]))]) hD hS hA [0] rfl
  refine va_calli (va_runV (As := [.int 1]) (rest := []) ⟨hx, hb, hml, hown, hz⟩ (c139_Model_fail l dC dI H.size a0 a1 a2 a3 a4 a5 a6 a7 a8 a9 a10 a11 a12 a13 a14 a15 a16 a17 a18 a19 a20 a21 a22 a23 a24 a25 a26 a27) (cwV 1 hz (zV zm_452 zm_453 zm_454 zm_374 zm_455) rfl rfl rfl (by decide +kernel) ⟨Nat.le_of_ble_eq_true rfl, Nat.le_of_ble_eq_true rfl⟩) ⟨fun a U g mk q => by obtain ⟨q0, q1, qP, qK, qD⟩ := q; exact ⟨q0, q1, qP, va_K.moved (u := U) (U := U.calling g mk a) (Vm.Alike.refl U.vm) qK, qD⟩, va_recv (q := (R_Model, F_Model, 50)) (q0 := 0) (ci := 1) hK hP rfl rfl, fun U hU hW => ⟨rfl, by rw [hU], by rw [hU]; exact hPc, va_K.moved hW.alike hKc, hDc.weaken (fun _ _ _ _ => trivial)⟩⟩ rfl rfl hl.1 rfl (lv_room (Nat.le_of_ble_eq_true rfl)) d_Model_write_91 ⟨by decide, by decide⟩) hS (fun q _ h => hFc q h) hFc (fun r u t H1 locs ht hvm hw hB hz1 hk1 hS => ?_)
  obtain ⟨hP1, hK1, hD1⟩ := hB
  subst r
  rw [ht] at hP1
  obtain ⟨hP, hD⟩ := va_join (wr := []) (w1 := [(a0, .inr (1, [.int 1, .int 0, .ref a1, .int 0, .int (-1), .int 0, .int 0, .ref a2, .ref a3, .ref a4, .ref a5, .ref a6, .int 0, .int 0, .ref a7, .int 0, .int 0, .ref a8, .ref a9, .ref a10, .ref a11, .ref a12, .ref a13, .int 0, .ref a14, .ref a15, .int 0, .int 0, .int 0, .int 0, .int 0, .int 0, .ref a16, .ref a17, .ref a18, .int 0, .int 0, .int 0, .int 0, .int 0, .int 0, .ref a19, .ref a20, .ref a21, .ref a22, .ref a23, .ref a24, .ref a25, .ref a26, .ref a27]))]) hP hD [0] [] rfl rfl (by decide) (by decide) hk1 hFc hP1 hD1
  generalize H1 = H at hP hS ⊢
  have hP : va_P (dC, dI) vcl [(a0, .inr (1, [.int 1, .int 0, .ref a1, .int 0, .int (-1), .int 0, .int 0, .ref a2, .ref a3, .ref a4, .ref a5, .ref a6, .int 0, .int 0, .ref a7, .int 0, .int 0, .ref a8, .ref a9, .ref a10, .ref a11, .ref a12, .ref a13, .int 0, .ref a14, .ref a15, .int 0, .int 0, .int 0, .int 0, .int 0, .int 0, .ref a16, .ref a17, .ref a18, .int 0, .int 0, .int 0, .int 0, .int 0, .int 0, .ref a19, .ref a20, .ref a21, .ref a22, .ref a23, .ref a24, .ref a25, .ref a26, .ref a27]))] H := hP
  have hD : va_D A [(a0, .inr (1, [.int 1, .int 0, .ref a1, .int 0, .int (-1), .int 0, .int 0, .ref a2, .ref a3, .ref a4, .ref a5, .ref a6, .int 0, .int 0, .ref a7, .int 0, .int 0, .ref a8, .ref a9, .ref a10, .ref a11, .ref a12, .ref a13, .int 0, .ref a14, .ref a15, .int 0, .int 0, .int 0, .int 0, .int 0, .int 0, .ref a16, .ref a17, .ref a18, .int 0, .int 0, .int 0, .int 0, .int 0, .int 0, .ref a19, .ref a20, .ref a21, .ref a22, .ref a23, .ref a24, .ref a25, .ref a26, .ref a27]))] := hD
  have hP9 := hP.sub (ws' := [(a0, .inr (1, [.int 1, .int 0, .ref a1, .int 0, .int (-1), .int 0, .int 0, .ref a2, .ref a3, .ref a4, .ref a5, .ref a6, .int 0, .int 0, .ref a7, .int 0, .int 0, .ref a8, .ref a9, .ref a10, .ref a11, .ref a12, .ref a13, .int 0, .ref a14, .ref a15, .int 0, .int 0, .int 0, .int 0, .int 0, .int 0, .ref a16, .ref a17, .ref a18, .int 0, .int 0, .int 0, .int 0, .int 0, .int 0, .ref a19, .ref a20, .ref a21, .ref a22, .ref a23, .ref a24, .ref a25, .ref a26, .ref a27]))]) [0] rfl
  have hD9 := hD.sub (ws' := [(a0, .inr (1, [.int 1, .int 0, .ref a1, .int 0, .int (-1), .int 0, .int 0, .ref a2, .ref a3, .ref a4, .ref a5, .ref a6, .int 0, .int 0, .ref a7, .int 0, .int 0, .ref a8, .ref a9, .ref a10, .ref a11, .ref a12, .ref a13, .int 0, .ref a14, .ref a15, .int 0, .int 0, .int 0, .int 0, .int 0, .int 0, .ref a16, .ref a17, .ref a18, .int 0, .int 0, .int 0, .int 0, .int 0, .int 0, .ref a19, .ref a20, .ref a21, .ref a22, .ref a23, .ref a24, .ref a25, .ref a26, .ref a27]))]) [0] (by decide) rfl
  have hK9 := hK.sub (tys' := []) [] rfl
  exact W.iret (v := 0) hx hb hr (fun t ht hW => ⟨⟨0, (), rfl, rfl, by rw [ht]; exact hP9, va_K.moved hW.alike hK9, hD9⟩, hS.F ht⟩) hS.2.2 d_Model_write_94
set_option maxHeartbeats 4000000 in
set_option maxRecDepth 100000 in
theorem c179_Model_within (l : Launch) (dC : Nat → ClassId) (dI : Nat → Nat → Nat) (sz : Nat) (ev : Int64) (ix : Int32) (gi : ix < 1) : Met l y_Model_within w_Model_within ({ frames := 0, cells := 0, slots := 0, locals := 0 }) (va_Pc [.int ix, .int 1, .int 8] (fun U => U.heap.size = sz ∧ va_P (dC, dI) vcl [] U.heap ∧ va_K (dC, dI) vcl [] U ∧ va_D (fun _ => True) [])) (va_Qi (fun (r : Int32) (_ : Unit) => r = 0) (fun _ t => va_P (dC, dI) vcl [] t.heap ∧ va_K (dC, dI) vcl [] t ∧ va_D (va_A [] sz) []) (va_A [] sz)) 0 0 (va_A [] sz) := by
  refine Met.ofW (cc := b_Model_within) (maxL := 3) (ret := (some .boolean)) (by decide) rfl ?_
  intro p e s m args below meth c s₁ B hml hv
  obtain ⟨rfl, hsz, hP, hK, hD0⟩ := hv
  have hx := B.exec
  have hb := B.bytes
  have hr := B.returns
  have hts := atoms_spec (ws := w_Model_within) B.pre
  have hz : ∀ w ∈ wz, w.before _ s = true := fun w h => hts w (List.mem_cons_of_mem _ h)
  have hown : s.vm.findClass R_Model = some m.cls := findClass_of_methodNamed B.named
  have hlocks := B.notSynchronized
  subst hsz
  have hD := hD0.self (sz := s.heap.size)
  generalize hAe : va_A [] s.heap.size = A at hD ⊢
  have hA : ∀ q : Nat, s.heap.size ≤ q → A q := fun q h => by rw [← hAe]; exact Or.inr h
  have hS : va_S A s.heap s.heap [] := va_S.rf
  have hP : va_P (dC, dI) vcl [] s.heap := hP
  have hl := lv_entry ([.int ix, .int 1, .int 8]) (n := 3) (Nat.le_of_ble_eq_true rfl)
  rw [lg_entry_eq]
  generalize (lg_sl ([.int ix, .int 1, .int 8]) ++ List.replicate (3 - (lg_sl ([.int ix, .int 1, .int 8])).length) Slot.unset).toArray = ls at hl ⊢
  have hl : lv_has ls 3 [(0, .int ix), (1, .int 1), (2, .int 8)] := hl
  refine lv_iload_n hx hb d_Model_within_0 rfl (lv_at hl 0 rfl) ?_
  refine lv_iload_n hx hb d_Model_within_1 rfl (lv_at hl 1 rfl) ?_
  refine lv_icmp_lt (tgt := 14) hx hb d_Model_within_2 (by decide) (fun _ => ?_) (fun h => (h gi).elim)
  refine lv_iconst (v := 0) hx hb d_Model_within_14 (by decide) ?_
  have hP9 := hP.sub (ws' := []) [] rfl
  have hD9 := hD.sub (ws' := []) [] (by decide) rfl
  have hK9 := hK.sub (tys' := []) [] rfl
  exact W.zret (v := 0) hx hb hr (by decide +kernel) (fun t ht hW => ⟨⟨0, (), rfl, rfl, by rw [ht]; exact hP9, va_K.moved hW.alike hK9, hD9⟩, hS.F ht⟩) hS.2.2 d_Model_within_15
set_option maxHeartbeats 4000000 in
set_option maxRecDepth 100000 in
theorem c180_Model_write (l : Launch) (dC : Nat → ClassId) (dI : Nat → Nat → Nat) (sz : Nat) (a0 : Nat) (a1 : Nat) (a2 : Nat) (a3 : Nat) (a4 : Nat) (a5 : Nat) (a6 : Nat) (a7 : Nat) (a8 : Nat) (a9 : Nat) (a10 : Nat) (a11 : Nat) (a12 : Nat) (a13 : Nat) (a14 : Nat) (a15 : Nat) (a16 : Nat) (a17 : Nat) (a18 : Nat) (a19 : Nat) (a20 : Nat) (a21 : Nat) (a22 : Nat) (a23 : Nat) (a24 : Nat) (a25 : Nat) (a26 : Nat) (a27 : Nat) (ev : Int64) (ix : Int32) (gi : ix < 1) : Met l y_Model_write w_Model_write ({ frames := 1, cells := 0, slots := 0, locals := 22 }) (va_Pc [.ref a0, .long ev, .int ix] (fun U => U.heap.size = sz ∧ va_P (dC, dI) vcl [(a0, .inr (1, [.int 0, .int 0, .ref a1, .int 0, .int (-1), .int 0, .int 0, .ref a2, .ref a3, .ref a4, .ref a5, .ref a6, .int 0, .int 0, .ref a7, .int 0, .int 0, .ref a8, .ref a9, .ref a10, .ref a11, .ref a12, .ref a13, .int 0, .ref a14, .ref a15, .int 0, .int 0, .int 0, .int 0, .int 0, .int 0, .ref a16, .ref a17, .ref a18, .int 0, .int 0, .int 0, .int 0, .int 0, .int 0, .ref a19, .ref a20, .ref a21, .ref a22, .ref a23, .ref a24, .ref a25, .ref a26, .ref a27]))] U.heap ∧ va_K (dC, dI) vcl [] U ∧ va_D (fun _ => True) [(a0, .inr (1, [.int 0, .int 0, .ref a1, .int 0, .int (-1), .int 0, .int 0, .ref a2, .ref a3, .ref a4, .ref a5, .ref a6, .int 0, .int 0, .ref a7, .int 0, .int 0, .ref a8, .ref a9, .ref a10, .ref a11, .ref a12, .ref a13, .int 0, .ref a14, .ref a15, .int 0, .int 0, .int 0, .int 0, .int 0, .int 0, .ref a16, .ref a17, .ref a18, .int 0, .int 0, .int 0, .int 0, .int 0, .int 0, .ref a19, .ref a20, .ref a21, .ref a22, .ref a23, .ref a24, .ref a25, .ref a26, .ref a27]))])) (va_Qi (fun (r : Int32) (_ : Unit) => r = 0) (fun _ t => va_P (dC, dI) vcl [(a0, .inr (1, [.int 1, .int 0, .ref a1, .int 0, .int (-1), .int 0, .int 0, .ref a2, .ref a3, .ref a4, .ref a5, .ref a6, .int 0, .int 0, .ref a7, .int 0, .int 0, .ref a8, .ref a9, .ref a10, .ref a11, .ref a12, .ref a13, .int 0, .ref a14, .ref a15, .int 0, .int 0, .int 0, .int 0, .int 0, .int 0, .ref a16, .ref a17, .ref a18, .int 0, .int 0, .int 0, .int 0, .int 0, .int 0, .ref a19, .ref a20, .ref a21, .ref a22, .ref a23, .ref a24, .ref a25, .ref a26, .ref a27]))] t.heap ∧ va_K (dC, dI) vcl [] t ∧ va_D (va_A [(a0, .inr (1, [.int 0, .int 0, .ref a1, .int 0, .int (-1), .int 0, .int 0, .ref a2, .ref a3, .ref a4, .ref a5, .ref a6, .int 0, .int 0, .ref a7, .int 0, .int 0, .ref a8, .ref a9, .ref a10, .ref a11, .ref a12, .ref a13, .int 0, .ref a14, .ref a15, .int 0, .int 0, .int 0, .int 0, .int 0, .int 0, .ref a16, .ref a17, .ref a18, .int 0, .int 0, .int 0, .int 0, .int 0, .int 0, .ref a19, .ref a20, .ref a21, .ref a22, .ref a23, .ref a24, .ref a25, .ref a26, .ref a27]))] sz) [(a0, .inr (1, [.int 1, .int 0, .ref a1, .int 0, .int (-1), .int 0, .int 0, .ref a2, .ref a3, .ref a4, .ref a5, .ref a6, .int 0, .int 0, .ref a7, .int 0, .int 0, .ref a8, .ref a9, .ref a10, .ref a11, .ref a12, .ref a13, .int 0, .ref a14, .ref a15, .int 0, .int 0, .int 0, .int 0, .int 0, .int 0, .ref a16, .ref a17, .ref a18, .int 0, .int 0, .int 0, .int 0, .int 0, .int 0, .ref a19, .ref a20, .ref a21, .ref a22, .ref a23, .ref a24, .ref a25, .ref a26, .ref a27]))]) (va_A [(a0, .inr (1, [.int 0, .int 0, .ref a1, .int 0, .int (-1), .int 0, .int 0, .ref a2, .ref a3, .ref a4, .ref a5, .ref a6, .int 0, .int 0, .ref a7, .int 0, .int 0, .ref a8, .ref a9, .ref a10, .ref a11, .ref a12, .ref a13, .int 0, .ref a14, .ref a15, .int 0, .int 0, .int 0, .int 0, .int 0, .int 0, .ref a16, .ref a17, .ref a18, .int 0, .int 0, .int 0, .int 0, .int 0, .int 0, .ref a19, .ref a20, .ref a21, .ref a22, .ref a23, .ref a24, .ref a25, .ref a26, .ref a27]))] sz)) 0 0 (va_A [(a0, .inr (1, [.int 0, .int 0, .ref a1, .int 0, .int (-1), .int 0, .int 0, .ref a2, .ref a3, .ref a4, .ref a5, .ref a6, .int 0, .int 0, .ref a7, .int 0, .int 0, .ref a8, .ref a9, .ref a10, .ref a11, .ref a12, .ref a13, .int 0, .ref a14, .ref a15, .int 0, .int 0, .int 0, .int 0, .int 0, .int 0, .ref a16, .ref a17, .ref a18, .int 0, .int 0, .int 0, .int 0, .int 0, .int 0, .ref a19, .ref a20, .ref a21, .ref a22, .ref a23, .ref a24, .ref a25, .ref a26, .ref a27]))] sz) := by
  refine Met.ofW (cc := b_Model_write) (maxL := 7) (ret := (some .int)) (by decide) rfl ?_
  intro p e s m args below meth c s₁ B hml hv
  obtain ⟨rfl, hsz, hP, hK, hD0⟩ := hv
  have hx := B.exec
  have hb := B.bytes
  have hr := B.returns
  have hts := atoms_spec (ws := w_Model_write) B.pre
  have hz : ∀ w ∈ wz, w.before _ s = true := fun w h => hts w (List.mem_cons_of_mem _ h)
  have hown : s.vm.findClass R_Model = some m.cls := findClass_of_methodNamed B.named
  have hlocks := B.notSynchronized
  subst hsz
  have hD := hD0.self (sz := s.heap.size)
  generalize hAe : va_A [(a0, .inr (1, [.int 0, .int 0, .ref a1, .int 0, .int (-1), .int 0, .int 0, .ref a2, .ref a3, .ref a4, .ref a5, .ref a6, .int 0, .int 0, .ref a7, .int 0, .int 0, .ref a8, .ref a9, .ref a10, .ref a11, .ref a12, .ref a13, .int 0, .ref a14, .ref a15, .int 0, .int 0, .int 0, .int 0, .int 0, .int 0, .ref a16, .ref a17, .ref a18, .int 0, .int 0, .int 0, .int 0, .int 0, .int 0, .ref a19, .ref a20, .ref a21, .ref a22, .ref a23, .ref a24, .ref a25, .ref a26, .ref a27]))] s.heap.size = A at hD ⊢
  have hA : ∀ q : Nat, s.heap.size ≤ q → A q := fun q h => by rw [← hAe]; exact Or.inr h
  have hS : va_S A s.heap s.heap [] := va_S.rf
  have hP : va_P (dC, dI) vcl [(a0, .inr (1, [.int 0, .int 0, .ref a1, .int 0, .int (-1), .int 0, .int 0, .ref a2, .ref a3, .ref a4, .ref a5, .ref a6, .int 0, .int 0, .ref a7, .int 0, .int 0, .ref a8, .ref a9, .ref a10, .ref a11, .ref a12, .ref a13, .int 0, .ref a14, .ref a15, .int 0, .int 0, .int 0, .int 0, .int 0, .int 0, .ref a16, .ref a17, .ref a18, .int 0, .int 0, .int 0, .int 0, .int 0, .int 0, .ref a19, .ref a20, .ref a21, .ref a22, .ref a23, .ref a24, .ref a25, .ref a26, .ref a27]))] s.heap := hP
  have hl := lv_entry ([.ref a0, .long ev, .int ix]) (n := 7) (Nat.le_of_ble_eq_true rfl)
  rw [lg_entry_eq]
  generalize (lg_sl ([.ref a0, .long ev, .int ix]) ++ List.replicate (7 - (lg_sl ([.ref a0, .long ev, .int ix])).length) Slot.unset).toArray = ls at hl ⊢
  have hl : lv_has ls 7 [(0, .ref a0), (1, .long ev), (3, .int ix)] := hl
  refine lv_aload_n hx hb d_Model_write_0 rfl (lv_at hl 0 rfl) ?_
  refine lv_iconst (v := 0) hx hb d_Model_write_1 (by decide) ?_
  refine va_put (D := (dC, dI)) (ci := 1) (v := .int 0) (ty := .int) (C := R_Model) (T := F_Model) (N := 50) hx hb hz zu_Model t_Model t_Model_ok n_Model hown hK hP hD hS 0 rfl rfl 0 (by decide) (hz (.fieldLink R_Model 97 "LayoutFrontModel" "thrown" "I") zm_415) (fun _ h9 => h9) rfl (by decide +kernel) rfl rfl (Nat.le_of_ble_eq_true rfl) d_Model_write_2 (fun H locs hP hD hS => ?_)
  have hP : va_P (dC, dI) vcl [(a0, .inr (1, [.int 0, .int 0, .ref a1, .int 0, .int (-1), .int 0, .int 0, .ref a2, .ref a3, .ref a4, .ref a5, .ref a6, .int 0, .int 0, .ref a7, .int 0, .int 0, .ref a8, .ref a9, .ref a10, .ref a11, .ref a12, .ref a13, .int 0, .ref a14, .ref a15, .int 0, .int 0, .int 0, .int 0, .int 0, .int 0, .ref a16, .ref a17, .ref a18, .int 0, .int 0, .int 0, .int 0, .int 0, .int 0, .ref a19, .ref a20, .ref a21, .ref a22, .ref a23, .ref a24, .ref a25, .ref a26, .ref a27]))] H := hP
  have hD : va_D A [(a0, .inr (1, [.int 0, .int 0, .ref a1, .int 0, .int (-1), .int 0, .int 0, .ref a2, .ref a3, .ref a4, .ref a5, .ref a6, .int 0, .int 0, .ref a7, .int 0, .int 0, .ref a8, .ref a9, .ref a10, .ref a11, .ref a12, .ref a13, .int 0, .ref a14, .ref a15, .int 0, .int 0, .int 0, .int 0, .int 0, .int 0, .ref a16, .ref a17, .ref a18, .int 0, .int 0, .int 0, .int 0, .int 0, .int 0, .ref a19, .ref a20, .ref a21, .ref a22, .ref a23, .ref a24, .ref a25, .ref a26, .ref a27]))] := hD
  refine lv_iload_n hx hb d_Model_write_5 rfl (lv_at hl 2 rfl) ?_
  refine lv_iconst (v := 1) hx hb d_Model_write_6 (by decide) ?_
  refine lv_bipush (v := 8) hx hb d_Model_write_7 (by decide) ?_
  have hPc := hP.sub (ws' := []) [] rfl
  have hDc := hD.sub (ws' := []) [] (by decide) rfl
  have hKc := hK.sub (tys' := []) [] rfl
  have hFc := va_free (wc := []) hD hS hA [] rfl
  refine va_calli (va_runS (As := [.int ix, .int 1, .int 8]) (rest := []) ⟨hx, hb, hml, hown, hz⟩ (c179_Model_within l dC dI H.size ev ix gi) (cwS 3 hz (zS zm_449 zm_450 zm_374 zm_451) rfl rfl rfl (by decide +kernel) ⟨Nat.le_of_ble_eq_true rfl, Nat.le_of_ble_eq_true rfl⟩) ⟨fun a U g mk q => by obtain ⟨q0, q1, qP, qK, qD⟩ := q; exact ⟨q0, q1, qP, va_K.moved (u := U) (U := U.calling g mk a) (Vm.Alike.refl U.vm) qK, qD⟩, fun U hU hW => ⟨rfl, by rw [hU], by rw [hU]; exact hPc, va_K.moved hW.alike hKc, hDc.weaken (fun _ _ _ _ => trivial)⟩⟩ rfl rfl hl.1 rfl (lv_room (Nat.le_of_ble_eq_true rfl)) d_Model_write_9 ⟨by decide, by decide⟩) hS (fun q _ h => hFc q h) hFc (fun r u t H1 locs ht hvm hw hB hz1 hk1 hS => ?_)
  obtain ⟨hP1, hK1, hD1⟩ := hB
  subst r
  rw [ht] at hP1
  obtain ⟨hP, hD⟩ := va_join (wr := [(a0, .inr (1, [.int 0, .int 0, .ref a1, .int 0, .int (-1), .int 0, .int 0, .ref a2, .ref a3, .ref a4, .ref a5, .ref a6, .int 0, .int 0, .ref a7, .int 0, .int 0, .ref a8, .ref a9, .ref a10, .ref a11, .ref a12, .ref a13, .int 0, .ref a14, .ref a15, .int 0, .int 0, .int 0, .int 0, .int 0, .int 0, .ref a16, .ref a17, .ref a18, .int 0, .int 0, .int 0, .int 0, .int 0, .int 0, .ref a19, .ref a20, .ref a21, .ref a22, .ref a23, .ref a24, .ref a25, .ref a26, .ref a27]))]) (w1 := []) hP hD [] [0] rfl rfl (by decide) (by decide) hk1 hFc hP1 hD1
  generalize H1 = H at hP hS ⊢
  have hP : va_P (dC, dI) vcl [(a0, .inr (1, [.int 0, .int 0, .ref a1, .int 0, .int (-1), .int 0, .int 0, .ref a2, .ref a3, .ref a4, .ref a5, .ref a6, .int 0, .int 0, .ref a7, .int 0, .int 0, .ref a8, .ref a9, .ref a10, .ref a11, .ref a12, .ref a13, .int 0, .ref a14, .ref a15, .int 0, .int 0, .int 0, .int 0, .int 0, .int 0, .ref a16, .ref a17, .ref a18, .int 0, .int 0, .int 0, .int 0, .int 0, .int 0, .ref a19, .ref a20, .ref a21, .ref a22, .ref a23, .ref a24, .ref a25, .ref a26, .ref a27]))] H := hP
  have hD : va_D A [(a0, .inr (1, [.int 0, .int 0, .ref a1, .int 0, .int (-1), .int 0, .int 0, .ref a2, .ref a3, .ref a4, .ref a5, .ref a6, .int 0, .int 0, .ref a7, .int 0, .int 0, .ref a8, .ref a9, .ref a10, .ref a11, .ref a12, .ref a13, .int 0, .ref a14, .ref a15, .int 0, .int 0, .int 0, .int 0, .int 0, .int 0, .ref a16, .ref a17, .ref a18, .int 0, .int 0, .int 0, .int 0, .int 0, .int 0, .ref a19, .ref a20, .ref a21, .ref a22, .ref a23, .ref a24, .ref a25, .ref a26, .ref a27]))] := hD
  refine lv_if_ne (tgt := 21) hx hb d_Model_write_12 (by decide) (fun h => (h (by decide +kernel)).elim) (fun _ => ?_)
  refine lv_aload_n hx hb d_Model_write_15 rfl (lv_at hl 0 rfl) ?_
  refine lv_iconst (v := 1) hx hb d_Model_write_16 (by decide) ?_
  have hPc := hP.sub (ws' := [(a0, .inr (1, [.int 0, .int 0, .ref a1, .int 0, .int (-1), .int 0, .int 0, .ref a2, .ref a3, .ref a4, .ref a5, .ref a6, .int 0, .int 0, .ref a7, .int 0, .int 0, .ref a8, .ref a9, .ref a10, .ref a11, .ref a12, .ref a13, .int 0, .ref a14, .ref a15, .int 0, .int 0, .int 0, .int 0, .int 0, .int 0, .ref a16, .ref a17, .ref a18, .int 0, .int 0, .int 0, .int 0, .int 0, .int 0, .ref a19, .ref a20, .ref a21, .ref a22, .ref a23, .ref a24, .ref a25, .ref a26, .ref a27]))]) [0] rfl
  have hDc := hD.sub (ws' := [(a0, .inr (1, [.int 0, .int 0, .ref a1, .int 0, .int (-1), .int 0, .int 0, .ref a2, .ref a3, .ref a4, .ref a5, .ref a6, .int 0, .int 0, .ref a7, .int 0, .int 0, .ref a8, .ref a9, .ref a10, .ref a11, .ref a12, .ref a13, .int 0, .ref a14, .ref a15, .int 0, .int 0, .int 0, .int 0, .int 0, .int 0, .ref a16, .ref a17, .ref a18, .int 0, .int 0, .int 0, .int 0, .int 0, .int 0, .ref a19, .ref a20, .ref a21, .ref a22, .ref a23, .ref a24, .ref a25, .ref a26, .ref a27]))]) [0] (by decide) rfl
  have hKc := hK.sub (tys' := []) [] rfl
  have hFc := va_free (wc := [(a0, .inr (1, [.int 0, .int 0, .ref a1, .int 0, .int (-1), .int 0, .int 0, .ref a2, .ref a3, .ref a4, .ref a5, .ref a6, .int 0, .int 0, .ref a7, .int 0, .int 0, .ref a8, .ref a9, .ref a10, .ref a11, .ref a12, .ref a13, .int 0, .ref a14, .ref a15, .int 0, .int 0, .int 0, .int 0, .int 0, .int 0, .ref a16, .ref a17, .ref a18, .int 0, .int 0, .int 0, .int 0, .int 0, .int 0, .ref a19, .ref a20, .ref a21, .ref a22, .ref a23, .ref a24, .ref a25, .ref a26, .ref a27]))]) hD hS hA [0] rfl
  refine va_calli (va_runV (As := [.int 1]) (rest := []) ⟨hx, hb, hml, hown, hz⟩ (c139_Model_fail l dC dI H.size a0 a1 a2 a3 a4 a5 a6 a7 a8 a9 a10 a11 a12 a13 a14 a15 a16 a17 a18 a19 a20 a21 a22 a23 a24 a25 a26 a27) (cwV 1 hz (zV zm_452 zm_453 zm_454 zm_374 zm_455) rfl rfl rfl (by decide +kernel) ⟨Nat.le_of_ble_eq_true rfl, Nat.le_of_ble_eq_true rfl⟩) ⟨fun a U g mk q => by obtain ⟨q0, q1, qP, qK, qD⟩ := q; exact ⟨q0, q1, qP, va_K.moved (u := U) (U := U.calling g mk a) (Vm.Alike.refl U.vm) qK, qD⟩, va_recv (q := (R_Model, F_Model, 50)) (q0 := 0) (ci := 1) hK hP rfl rfl, fun U hU hW => ⟨rfl, by rw [hU], by rw [hU]; exact hPc, va_K.moved hW.alike hKc, hDc.weaken (fun _ _ _ _ => trivial)⟩⟩ rfl rfl hl.1 rfl (lv_room (Nat.le_of_ble_eq_true rfl)) d_Model_write_17 ⟨by decide, by decide⟩) hS (fun q _ h => hFc q h) hFc (fun r u t H1 locs ht hvm hw hB hz1 hk1 hS => ?_)
  obtain ⟨hP1, hK1, hD1⟩ := hB
  subst r
  rw [ht] at hP1
  obtain ⟨hP, hD⟩ := va_join (wr := []) (w1 := [(a0, .inr (1, [.int 1, .int 0, .ref a1, .int 0, .int (-1), .int 0, .int 0, .ref a2, .ref a3, .ref a4, .ref a5, .ref a6, .int 0, .int 0, .ref a7, .int 0, .int 0, .ref a8, .ref a9, .ref a10, .ref a11, .ref a12, .ref a13, .int 0, .ref a14, .ref a15, .int 0, .int 0, .int 0, .int 0, .int 0, .int 0, .ref a16, .ref a17, .ref a18, .int 0, .int 0, .int 0, .int 0, .int 0, .int 0, .ref a19, .ref a20, .ref a21, .ref a22, .ref a23, .ref a24, .ref a25, .ref a26, .ref a27]))]) hP hD [0] [] rfl rfl (by decide) (by decide) hk1 hFc hP1 hD1
  generalize H1 = H at hP hS ⊢
  have hP : va_P (dC, dI) vcl [(a0, .inr (1, [.int 1, .int 0, .ref a1, .int 0, .int (-1), .int 0, .int 0, .ref a2, .ref a3, .ref a4, .ref a5, .ref a6, .int 0, .int 0, .ref a7, .int 0, .int 0, .ref a8, .ref a9, .ref a10, .ref a11, .ref a12, .ref a13, .int 0, .ref a14, .ref a15, .int 0, .int 0, .int 0, .int 0, .int 0, .int 0, .ref a16, .ref a17, .ref a18, .int 0, .int 0, .int 0, .int 0, .int 0, .int 0, .ref a19, .ref a20, .ref a21, .ref a22, .ref a23, .ref a24, .ref a25, .ref a26, .ref a27]))] H := hP
  have hD : va_D A [(a0, .inr (1, [.int 1, .int 0, .ref a1, .int 0, .int (-1), .int 0, .int 0, .ref a2, .ref a3, .ref a4, .ref a5, .ref a6, .int 0, .int 0, .ref a7, .int 0, .int 0, .ref a8, .ref a9, .ref a10, .ref a11, .ref a12, .ref a13, .int 0, .ref a14, .ref a15, .int 0, .int 0, .int 0, .int 0, .int 0, .int 0, .ref a16, .ref a17, .ref a18, .int 0, .int 0, .int 0, .int 0, .int 0, .int 0, .ref a19, .ref a20, .ref a21, .ref a22, .ref a23, .ref a24, .ref a25, .ref a26, .ref a27]))] := hD
  have hP9 := hP.sub (ws' := [(a0, .inr (1, [.int 1, .int 0, .ref a1, .int 0, .int (-1), .int 0, .int 0, .ref a2, .ref a3, .ref a4, .ref a5, .ref a6, .int 0, .int 0, .ref a7, .int 0, .int 0, .ref a8, .ref a9, .ref a10, .ref a11, .ref a12, .ref a13, .int 0, .ref a14, .ref a15, .int 0, .int 0, .int 0, .int 0, .int 0, .int 0, .ref a16, .ref a17, .ref a18, .int 0, .int 0, .int 0, .int 0, .int 0, .int 0, .ref a19, .ref a20, .ref a21, .ref a22, .ref a23, .ref a24, .ref a25, .ref a26, .ref a27]))]) [0] rfl
  have hD9 := hD.sub (ws' := [(a0, .inr (1, [.int 1, .int 0, .ref a1, .int 0, .int (-1), .int 0, .int 0, .ref a2, .ref a3, .ref a4, .ref a5, .ref a6, .int 0, .int 0, .ref a7, .int 0, .int 0, .ref a8, .ref a9, .ref a10, .ref a11, .ref a12, .ref a13, .int 0, .ref a14, .ref a15, .int 0, .int 0, .int 0, .int 0, .int 0, .int 0, .ref a16, .ref a17, .ref a18, .int 0, .int 0, .int 0, .int 0, .int 0, .int 0, .ref a19, .ref a20, .ref a21, .ref a22, .ref a23, .ref a24, .ref a25, .ref a26, .ref a27]))]) [0] (by decide) rfl
  have hK9 := hK.sub (tys' := []) [] rfl
  exact W.iret (v := 0) hx hb hr (fun t ht hW => ⟨⟨0, (), rfl, rfl, by rw [ht]; exact hP9, va_K.moved hW.alike hK9, hD9⟩, hS.F ht⟩) hS.2.2 d_Model_write_20
set_option maxHeartbeats 4000000 in
set_option maxRecDepth 100000 in
theorem c181_Model_within (l : Launch) (dC : Nat → ClassId) (dI : Nat → Nat → Nat) (sz : Nat) (ev : Int64) (ix : Int32) (gi : ¬ ix < 1) (g8 : 8 < ix) : Met l y_Model_within w_Model_within ({ frames := 0, cells := 0, slots := 0, locals := 0 }) (va_Pc [.int ix, .int 1, .int 8] (fun U => U.heap.size = sz ∧ va_P (dC, dI) vcl [] U.heap ∧ va_K (dC, dI) vcl [] U ∧ va_D (fun _ => True) [])) (va_Qi (fun (r : Int32) (_ : Unit) => r = 0) (fun _ t => va_P (dC, dI) vcl [] t.heap ∧ va_K (dC, dI) vcl [] t ∧ va_D (va_A [] sz) []) (va_A [] sz)) 0 0 (va_A [] sz) := by
  refine Met.ofW (cc := b_Model_within) (maxL := 3) (ret := (some .boolean)) (by decide) rfl ?_
  intro p e s m args below meth c s₁ B hml hv
  obtain ⟨rfl, hsz, hP, hK, hD0⟩ := hv
  have hx := B.exec
  have hb := B.bytes
  have hr := B.returns
  have hts := atoms_spec (ws := w_Model_within) B.pre
  have hz : ∀ w ∈ wz, w.before _ s = true := fun w h => hts w (List.mem_cons_of_mem _ h)
  have hown : s.vm.findClass R_Model = some m.cls := findClass_of_methodNamed B.named
  have hlocks := B.notSynchronized
  subst hsz
  have hD := hD0.self (sz := s.heap.size)
  generalize hAe : va_A [] s.heap.size = A at hD ⊢
  have hA : ∀ q : Nat, s.heap.size ≤ q → A q := fun q h => by rw [← hAe]; exact Or.inr h
  have hS : va_S A s.heap s.heap [] := va_S.rf
  have hP : va_P (dC, dI) vcl [] s.heap := hP
  have hl := lv_entry ([.int ix, .int 1, .int 8]) (n := 3) (Nat.le_of_ble_eq_true rfl)
  rw [lg_entry_eq]
  generalize (lg_sl ([.int ix, .int 1, .int 8]) ++ List.replicate (3 - (lg_sl ([.int ix, .int 1, .int 8])).length) Slot.unset).toArray = ls at hl ⊢
  have hl : lv_has ls 3 [(0, .int ix), (1, .int 1), (2, .int 8)] := hl
  refine lv_iload_n hx hb d_Model_within_0 rfl (lv_at hl 0 rfl) ?_
  refine lv_iload_n hx hb d_Model_within_1 rfl (lv_at hl 1 rfl) ?_
  refine lv_icmp_lt (tgt := 14) hx hb d_Model_within_2 (by decide) (fun h => absurd h gi) (fun _ => ?_)
  refine lv_iload_n hx hb d_Model_within_5 rfl (lv_at hl 0 rfl) ?_
  refine lv_iload_n hx hb d_Model_within_6 rfl (lv_at hl 2 rfl) ?_
  refine lv_icmp_gt (tgt := 14) hx hb d_Model_within_7 (by decide) (fun _ => ?_) (fun h => (h g8).elim)
  refine lv_iconst (v := 0) hx hb d_Model_within_14 (by decide) ?_
  have hP9 := hP.sub (ws' := []) [] rfl
  have hD9 := hD.sub (ws' := []) [] (by decide) rfl
  have hK9 := hK.sub (tys' := []) [] rfl
  exact W.zret (v := 0) hx hb hr (by decide +kernel) (fun t ht hW => ⟨⟨0, (), rfl, rfl, by rw [ht]; exact hP9, va_K.moved hW.alike hK9, hD9⟩, hS.F ht⟩) hS.2.2 d_Model_within_15
set_option maxHeartbeats 4000000 in
set_option maxRecDepth 100000 in
theorem c182_Model_write (l : Launch) (dC : Nat → ClassId) (dI : Nat → Nat → Nat) (sz : Nat) (a0 : Nat) (a1 : Nat) (a2 : Nat) (a3 : Nat) (a4 : Nat) (a5 : Nat) (a6 : Nat) (a7 : Nat) (a8 : Nat) (a9 : Nat) (a10 : Nat) (a11 : Nat) (a12 : Nat) (a13 : Nat) (a14 : Nat) (a15 : Nat) (a16 : Nat) (a17 : Nat) (a18 : Nat) (a19 : Nat) (a20 : Nat) (a21 : Nat) (a22 : Nat) (a23 : Nat) (a24 : Nat) (a25 : Nat) (a26 : Nat) (a27 : Nat) (ev : Int64) (ix : Int32) (gi : ¬ ix < 1) (g8 : 8 < ix) : Met l y_Model_write w_Model_write ({ frames := 1, cells := 0, slots := 0, locals := 22 }) (va_Pc [.ref a0, .long ev, .int ix] (fun U => U.heap.size = sz ∧ va_P (dC, dI) vcl [(a0, .inr (1, [.int 0, .int 0, .ref a1, .int 0, .int (-1), .int 0, .int 0, .ref a2, .ref a3, .ref a4, .ref a5, .ref a6, .int 0, .int 0, .ref a7, .int 0, .int 0, .ref a8, .ref a9, .ref a10, .ref a11, .ref a12, .ref a13, .int 0, .ref a14, .ref a15, .int 0, .int 0, .int 0, .int 0, .int 0, .int 0, .ref a16, .ref a17, .ref a18, .int 0, .int 0, .int 0, .int 0, .int 0, .int 0, .ref a19, .ref a20, .ref a21, .ref a22, .ref a23, .ref a24, .ref a25, .ref a26, .ref a27]))] U.heap ∧ va_K (dC, dI) vcl [] U ∧ va_D (fun _ => True) [(a0, .inr (1, [.int 0, .int 0, .ref a1, .int 0, .int (-1), .int 0, .int 0, .ref a2, .ref a3, .ref a4, .ref a5, .ref a6, .int 0, .int 0, .ref a7, .int 0, .int 0, .ref a8, .ref a9, .ref a10, .ref a11, .ref a12, .ref a13, .int 0, .ref a14, .ref a15, .int 0, .int 0, .int 0, .int 0, .int 0, .int 0, .ref a16, .ref a17, .ref a18, .int 0, .int 0, .int 0, .int 0, .int 0, .int 0, .ref a19, .ref a20, .ref a21, .ref a22, .ref a23, .ref a24, .ref a25, .ref a26, .ref a27]))])) (va_Qi (fun (r : Int32) (_ : Unit) => r = 0) (fun _ t => va_P (dC, dI) vcl [(a0, .inr (1, [.int 1, .int 0, .ref a1, .int 0, .int (-1), .int 0, .int 0, .ref a2, .ref a3, .ref a4, .ref a5, .ref a6, .int 0, .int 0, .ref a7, .int 0, .int 0, .ref a8, .ref a9, .ref a10, .ref a11, .ref a12, .ref a13, .int 0, .ref a14, .ref a15, .int 0, .int 0, .int 0, .int 0, .int 0, .int 0, .ref a16, .ref a17, .ref a18, .int 0, .int 0, .int 0, .int 0, .int 0, .int 0, .ref a19, .ref a20, .ref a21, .ref a22, .ref a23, .ref a24, .ref a25, .ref a26, .ref a27]))] t.heap ∧ va_K (dC, dI) vcl [] t ∧ va_D (va_A [(a0, .inr (1, [.int 0, .int 0, .ref a1, .int 0, .int (-1), .int 0, .int 0, .ref a2, .ref a3, .ref a4, .ref a5, .ref a6, .int 0, .int 0, .ref a7, .int 0, .int 0, .ref a8, .ref a9, .ref a10, .ref a11, .ref a12, .ref a13, .int 0, .ref a14, .ref a15, .int 0, .int 0, .int 0, .int 0, .int 0, .int 0, .ref a16, .ref a17, .ref a18, .int 0, .int 0, .int 0, .int 0, .int 0, .int 0, .ref a19, .ref a20, .ref a21, .ref a22, .ref a23, .ref a24, .ref a25, .ref a26, .ref a27]))] sz) [(a0, .inr (1, [.int 1, .int 0, .ref a1, .int 0, .int (-1), .int 0, .int 0, .ref a2, .ref a3, .ref a4, .ref a5, .ref a6, .int 0, .int 0, .ref a7, .int 0, .int 0, .ref a8, .ref a9, .ref a10, .ref a11, .ref a12, .ref a13, .int 0, .ref a14, .ref a15, .int 0, .int 0, .int 0, .int 0, .int 0, .int 0, .ref a16, .ref a17, .ref a18, .int 0, .int 0, .int 0, .int 0, .int 0, .int 0, .ref a19, .ref a20, .ref a21, .ref a22, .ref a23, .ref a24, .ref a25, .ref a26, .ref a27]))]) (va_A [(a0, .inr (1, [.int 0, .int 0, .ref a1, .int 0, .int (-1), .int 0, .int 0, .ref a2, .ref a3, .ref a4, .ref a5, .ref a6, .int 0, .int 0, .ref a7, .int 0, .int 0, .ref a8, .ref a9, .ref a10, .ref a11, .ref a12, .ref a13, .int 0, .ref a14, .ref a15, .int 0, .int 0, .int 0, .int 0, .int 0, .int 0, .ref a16, .ref a17, .ref a18, .int 0, .int 0, .int 0, .int 0, .int 0, .int 0, .ref a19, .ref a20, .ref a21, .ref a22, .ref a23, .ref a24, .ref a25, .ref a26, .ref a27]))] sz)) 0 0 (va_A [(a0, .inr (1, [.int 0, .int 0, .ref a1, .int 0, .int (-1), .int 0, .int 0, .ref a2, .ref a3, .ref a4, .ref a5, .ref a6, .int 0, .int 0, .ref a7, .int 0, .int 0, .ref a8, .ref a9, .ref a10, .ref a11, .ref a12, .ref a13, .int 0, .ref a14, .ref a15, .int 0, .int 0, .int 0, .int 0, .int 0, .int 0, .ref a16, .ref a17, .ref a18, .int 0, .int 0, .int 0, .int 0, .int 0, .int 0, .ref a19, .ref a20, .ref a21, .ref a22, .ref a23, .ref a24, .ref a25, .ref a26, .ref a27]))] sz) := by
  refine Met.ofW (cc := b_Model_write) (maxL := 7) (ret := (some .int)) (by decide) rfl ?_
  intro p e s m args below meth c s₁ B hml hv
  obtain ⟨rfl, hsz, hP, hK, hD0⟩ := hv
  have hx := B.exec
  have hb := B.bytes
  have hr := B.returns
  have hts := atoms_spec (ws := w_Model_write) B.pre
  have hz : ∀ w ∈ wz, w.before _ s = true := fun w h => hts w (List.mem_cons_of_mem _ h)
  have hown : s.vm.findClass R_Model = some m.cls := findClass_of_methodNamed B.named
  have hlocks := B.notSynchronized
  subst hsz
  have hD := hD0.self (sz := s.heap.size)
  generalize hAe : va_A [(a0, .inr (1, [.int 0, .int 0, .ref a1, .int 0, .int (-1), .int 0, .int 0, .ref a2, .ref a3, .ref a4, .ref a5, .ref a6, .int 0, .int 0, .ref a7, .int 0, .int 0, .ref a8, .ref a9, .ref a10, .ref a11, .ref a12, .ref a13, .int 0, .ref a14, .ref a15, .int 0, .int 0, .int 0, .int 0, .int 0, .int 0, .ref a16, .ref a17, .ref a18, .int 0, .int 0, .int 0, .int 0, .int 0, .int 0, .ref a19, .ref a20, .ref a21, .ref a22, .ref a23, .ref a24, .ref a25, .ref a26, .ref a27]))] s.heap.size = A at hD ⊢
  have hA : ∀ q : Nat, s.heap.size ≤ q → A q := fun q h => by rw [← hAe]; exact Or.inr h
  have hS : va_S A s.heap s.heap [] := va_S.rf
  have hP : va_P (dC, dI) vcl [(a0, .inr (1, [.int 0, .int 0, .ref a1, .int 0, .int (-1), .int 0, .int 0, .ref a2, .ref a3, .ref a4, .ref a5, .ref a6, .int 0, .int 0, .ref a7, .int 0, .int 0, .ref a8, .ref a9, .ref a10, .ref a11, .ref a12, .ref a13, .int 0, .ref a14, .ref a15, .int 0, .int 0, .int 0, .int 0, .int 0, .int 0, .ref a16, .ref a17, .ref a18, .int 0, .int 0, .int 0, .int 0, .int 0, .int 0, .ref a19, .ref a20, .ref a21, .ref a22, .ref a23, .ref a24, .ref a25, .ref a26, .ref a27]))] s.heap := hP
  have hl := lv_entry ([.ref a0, .long ev, .int ix]) (n := 7) (Nat.le_of_ble_eq_true rfl)
  rw [lg_entry_eq]
  generalize (lg_sl ([.ref a0, .long ev, .int ix]) ++ List.replicate (7 - (lg_sl ([.ref a0, .long ev, .int ix])).length) Slot.unset).toArray = ls at hl ⊢
  have hl : lv_has ls 7 [(0, .ref a0), (1, .long ev), (3, .int ix)] := hl
  refine lv_aload_n hx hb d_Model_write_0 rfl (lv_at hl 0 rfl) ?_
  refine lv_iconst (v := 0) hx hb d_Model_write_1 (by decide) ?_
  refine va_put (D := (dC, dI)) (ci := 1) (v := .int 0) (ty := .int) (C := R_Model) (T := F_Model) (N := 50) hx hb hz zu_Model t_Model t_Model_ok n_Model hown hK hP hD hS 0 rfl rfl 0 (by decide) (hz (.fieldLink R_Model 97 "LayoutFrontModel" "thrown" "I") zm_415) (fun _ h9 => h9) rfl (by decide +kernel) rfl rfl (Nat.le_of_ble_eq_true rfl) d_Model_write_2 (fun H locs hP hD hS => ?_)
  have hP : va_P (dC, dI) vcl [(a0, .inr (1, [.int 0, .int 0, .ref a1, .int 0, .int (-1), .int 0, .int 0, .ref a2, .ref a3, .ref a4, .ref a5, .ref a6, .int 0, .int 0, .ref a7, .int 0, .int 0, .ref a8, .ref a9, .ref a10, .ref a11, .ref a12, .ref a13, .int 0, .ref a14, .ref a15, .int 0, .int 0, .int 0, .int 0, .int 0, .int 0, .ref a16, .ref a17, .ref a18, .int 0, .int 0, .int 0, .int 0, .int 0, .int 0, .ref a19, .ref a20, .ref a21, .ref a22, .ref a23, .ref a24, .ref a25, .ref a26, .ref a27]))] H := hP
  have hD : va_D A [(a0, .inr (1, [.int 0, .int 0, .ref a1, .int 0, .int (-1), .int 0, .int 0, .ref a2, .ref a3, .ref a4, .ref a5, .ref a6, .int 0, .int 0, .ref a7, .int 0, .int 0, .ref a8, .ref a9, .ref a10, .ref a11, .ref a12, .ref a13, .int 0, .ref a14, .ref a15, .int 0, .int 0, .int 0, .int 0, .int 0, .int 0, .ref a16, .ref a17, .ref a18, .int 0, .int 0, .int 0, .int 0, .int 0, .int 0, .ref a19, .ref a20, .ref a21, .ref a22, .ref a23, .ref a24, .ref a25, .ref a26, .ref a27]))] := hD
  refine lv_iload_n hx hb d_Model_write_5 rfl (lv_at hl 2 rfl) ?_
  refine lv_iconst (v := 1) hx hb d_Model_write_6 (by decide) ?_
  refine lv_bipush (v := 8) hx hb d_Model_write_7 (by decide) ?_
  have hPc := hP.sub (ws' := []) [] rfl
  have hDc := hD.sub (ws' := []) [] (by decide) rfl
  have hKc := hK.sub (tys' := []) [] rfl
  have hFc := va_free (wc := []) hD hS hA [] rfl
  refine va_calli (va_runS (As := [.int ix, .int 1, .int 8]) (rest := []) ⟨hx, hb, hml, hown, hz⟩ (c181_Model_within l dC dI H.size ev ix gi g8) (cwS 3 hz (zS zm_449 zm_450 zm_374 zm_451) rfl rfl rfl (by decide +kernel) ⟨Nat.le_of_ble_eq_true rfl, Nat.le_of_ble_eq_true rfl⟩) ⟨fun a U g mk q => by obtain ⟨q0, q1, qP, qK, qD⟩ := q; exact ⟨q0, q1, qP, va_K.moved (u := U) (U := U.calling g mk a) (Vm.Alike.refl U.vm) qK, qD⟩, fun U hU hW => ⟨rfl, by rw [hU], by rw [hU]; exact hPc, va_K.moved hW.alike hKc, hDc.weaken (fun _ _ _ _ => trivial)⟩⟩ rfl rfl hl.1 rfl (lv_room (Nat.le_of_ble_eq_true rfl)) d_Model_write_9 ⟨by decide, by decide⟩) hS (fun q _ h => hFc q h) hFc (fun r u t H1 locs ht hvm hw hB hz1 hk1 hS => ?_)
  obtain ⟨hP1, hK1, hD1⟩ := hB
  subst r
  rw [ht] at hP1
  obtain ⟨hP, hD⟩ := va_join (wr := [(a0, .inr (1, [.int 0, .int 0, .ref a1, .int 0, .int (-1), .int 0, .int 0, .ref a2, .ref a3, .ref a4, .ref a5, .ref a6, .int 0, .int 0, .ref a7, .int 0, .int 0, .ref a8, .ref a9, .ref a10, .ref a11, .ref a12, .ref a13, .int 0, .ref a14, .ref a15, .int 0, .int 0, .int 0, .int 0, .int 0, .int 0, .ref a16, .ref a17, .ref a18, .int 0, .int 0, .int 0, .int 0, .int 0, .int 0, .ref a19, .ref a20, .ref a21, .ref a22, .ref a23, .ref a24, .ref a25, .ref a26, .ref a27]))]) (w1 := []) hP hD [] [0] rfl rfl (by decide) (by decide) hk1 hFc hP1 hD1
  generalize H1 = H at hP hS ⊢
  have hP : va_P (dC, dI) vcl [(a0, .inr (1, [.int 0, .int 0, .ref a1, .int 0, .int (-1), .int 0, .int 0, .ref a2, .ref a3, .ref a4, .ref a5, .ref a6, .int 0, .int 0, .ref a7, .int 0, .int 0, .ref a8, .ref a9, .ref a10, .ref a11, .ref a12, .ref a13, .int 0, .ref a14, .ref a15, .int 0, .int 0, .int 0, .int 0, .int 0, .int 0, .ref a16, .ref a17, .ref a18, .int 0, .int 0, .int 0, .int 0, .int 0, .int 0, .ref a19, .ref a20, .ref a21, .ref a22, .ref a23, .ref a24, .ref a25, .ref a26, .ref a27]))] H := hP
  have hD : va_D A [(a0, .inr (1, [.int 0, .int 0, .ref a1, .int 0, .int (-1), .int 0, .int 0, .ref a2, .ref a3, .ref a4, .ref a5, .ref a6, .int 0, .int 0, .ref a7, .int 0, .int 0, .ref a8, .ref a9, .ref a10, .ref a11, .ref a12, .ref a13, .int 0, .ref a14, .ref a15, .int 0, .int 0, .int 0, .int 0, .int 0, .int 0, .ref a16, .ref a17, .ref a18, .int 0, .int 0, .int 0, .int 0, .int 0, .int 0, .ref a19, .ref a20, .ref a21, .ref a22, .ref a23, .ref a24, .ref a25, .ref a26, .ref a27]))] := hD
  refine lv_if_ne (tgt := 21) hx hb d_Model_write_12 (by decide) (fun h => (h (by decide +kernel)).elim) (fun _ => ?_)
  refine lv_aload_n hx hb d_Model_write_15 rfl (lv_at hl 0 rfl) ?_
  refine lv_iconst (v := 1) hx hb d_Model_write_16 (by decide) ?_
  have hPc := hP.sub (ws' := [(a0, .inr (1, [.int 0, .int 0, .ref a1, .int 0, .int (-1), .int 0, .int 0, .ref a2, .ref a3, .ref a4, .ref a5, .ref a6, .int 0, .int 0, .ref a7, .int 0, .int 0, .ref a8, .ref a9, .ref a10, .ref a11, .ref a12, .ref a13, .int 0, .ref a14, .ref a15, .int 0, .int 0, .int 0, .int 0, .int 0, .int 0, .ref a16, .ref a17, .ref a18, .int 0, .int 0, .int 0, .int 0, .int 0, .int 0, .ref a19, .ref a20, .ref a21, .ref a22, .ref a23, .ref a24, .ref a25, .ref a26, .ref a27]))]) [0] rfl
  have hDc := hD.sub (ws' := [(a0, .inr (1, [.int 0, .int 0, .ref a1, .int 0, .int (-1), .int 0, .int 0, .ref a2, .ref a3, .ref a4, .ref a5, .ref a6, .int 0, .int 0, .ref a7, .int 0, .int 0, .ref a8, .ref a9, .ref a10, .ref a11, .ref a12, .ref a13, .int 0, .ref a14, .ref a15, .int 0, .int 0, .int 0, .int 0, .int 0, .int 0, .ref a16, .ref a17, .ref a18, .int 0, .int 0, .int 0, .int 0, .int 0, .int 0, .ref a19, .ref a20, .ref a21, .ref a22, .ref a23, .ref a24, .ref a25, .ref a26, .ref a27]))]) [0] (by decide) rfl
  have hKc := hK.sub (tys' := []) [] rfl
  have hFc := va_free (wc := [(a0, .inr (1, [.int 0, .int 0, .ref a1, .int 0, .int (-1), .int 0, .int 0, .ref a2, .ref a3, .ref a4, .ref a5, .ref a6, .int 0, .int 0, .ref a7, .int 0, .int 0, .ref a8, .ref a9, .ref a10, .ref a11, .ref a12, .ref a13, .int 0, .ref a14, .ref a15, .int 0, .int 0, .int 0, .int 0, .int 0, .int 0, .ref a16, .ref a17, .ref a18, .int 0, .int 0, .int 0, .int 0, .int 0, .int 0, .ref a19, .ref a20, .ref a21, .ref a22, .ref a23, .ref a24, .ref a25, .ref a26, .ref a27]))]) hD hS hA [0] rfl
  refine va_calli (va_runV (As := [.int 1]) (rest := []) ⟨hx, hb, hml, hown, hz⟩ (c139_Model_fail l dC dI H.size a0 a1 a2 a3 a4 a5 a6 a7 a8 a9 a10 a11 a12 a13 a14 a15 a16 a17 a18 a19 a20 a21 a22 a23 a24 a25 a26 a27) (cwV 1 hz (zV zm_452 zm_453 zm_454 zm_374 zm_455) rfl rfl rfl (by decide +kernel) ⟨Nat.le_of_ble_eq_true rfl, Nat.le_of_ble_eq_true rfl⟩) ⟨fun a U g mk q => by obtain ⟨q0, q1, qP, qK, qD⟩ := q; exact ⟨q0, q1, qP, va_K.moved (u := U) (U := U.calling g mk a) (Vm.Alike.refl U.vm) qK, qD⟩, va_recv (q := (R_Model, F_Model, 50)) (q0 := 0) (ci := 1) hK hP rfl rfl, fun U hU hW => ⟨rfl, by rw [hU], by rw [hU]; exact hPc, va_K.moved hW.alike hKc, hDc.weaken (fun _ _ _ _ => trivial)⟩⟩ rfl rfl hl.1 rfl (lv_room (Nat.le_of_ble_eq_true rfl)) d_Model_write_17 ⟨by decide, by decide⟩) hS (fun q _ h => hFc q h) hFc (fun r u t H1 locs ht hvm hw hB hz1 hk1 hS => ?_)
  obtain ⟨hP1, hK1, hD1⟩ := hB
  subst r
  rw [ht] at hP1
  obtain ⟨hP, hD⟩ := va_join (wr := []) (w1 := [(a0, .inr (1, [.int 1, .int 0, .ref a1, .int 0, .int (-1), .int 0, .int 0, .ref a2, .ref a3, .ref a4, .ref a5, .ref a6, .int 0, .int 0, .ref a7, .int 0, .int 0, .ref a8, .ref a9, .ref a10, .ref a11, .ref a12, .ref a13, .int 0, .ref a14, .ref a15, .int 0, .int 0, .int 0, .int 0, .int 0, .int 0, .ref a16, .ref a17, .ref a18, .int 0, .int 0, .int 0, .int 0, .int 0, .int 0, .ref a19, .ref a20, .ref a21, .ref a22, .ref a23, .ref a24, .ref a25, .ref a26, .ref a27]))]) hP hD [0] [] rfl rfl (by decide) (by decide) hk1 hFc hP1 hD1
  generalize H1 = H at hP hS ⊢
  have hP : va_P (dC, dI) vcl [(a0, .inr (1, [.int 1, .int 0, .ref a1, .int 0, .int (-1), .int 0, .int 0, .ref a2, .ref a3, .ref a4, .ref a5, .ref a6, .int 0, .int 0, .ref a7, .int 0, .int 0, .ref a8, .ref a9, .ref a10, .ref a11, .ref a12, .ref a13, .int 0, .ref a14, .ref a15, .int 0, .int 0, .int 0, .int 0, .int 0, .int 0, .ref a16, .ref a17, .ref a18, .int 0, .int 0, .int 0, .int 0, .int 0, .int 0, .ref a19, .ref a20, .ref a21, .ref a22, .ref a23, .ref a24, .ref a25, .ref a26, .ref a27]))] H := hP
  have hD : va_D A [(a0, .inr (1, [.int 1, .int 0, .ref a1, .int 0, .int (-1), .int 0, .int 0, .ref a2, .ref a3, .ref a4, .ref a5, .ref a6, .int 0, .int 0, .ref a7, .int 0, .int 0, .ref a8, .ref a9, .ref a10, .ref a11, .ref a12, .ref a13, .int 0, .ref a14, .ref a15, .int 0, .int 0, .int 0, .int 0, .int 0, .int 0, .ref a16, .ref a17, .ref a18, .int 0, .int 0, .int 0, .int 0, .int 0, .int 0, .ref a19, .ref a20, .ref a21, .ref a22, .ref a23, .ref a24, .ref a25, .ref a26, .ref a27]))] := hD
  have hP9 := hP.sub (ws' := [(a0, .inr (1, [.int 1, .int 0, .ref a1, .int 0, .int (-1), .int 0, .int 0, .ref a2, .ref a3, .ref a4, .ref a5, .ref a6, .int 0, .int 0, .ref a7, .int 0, .int 0, .ref a8, .ref a9, .ref a10, .ref a11, .ref a12, .ref a13, .int 0, .ref a14, .ref a15, .int 0, .int 0, .int 0, .int 0, .int 0, .int 0, .ref a16, .ref a17, .ref a18, .int 0, .int 0, .int 0, .int 0, .int 0, .int 0, .ref a19, .ref a20, .ref a21, .ref a22, .ref a23, .ref a24, .ref a25, .ref a26, .ref a27]))]) [0] rfl
  have hD9 := hD.sub (ws' := [(a0, .inr (1, [.int 1, .int 0, .ref a1, .int 0, .int (-1), .int 0, .int 0, .ref a2, .ref a3, .ref a4, .ref a5, .ref a6, .int 0, .int 0, .ref a7, .int 0, .int 0, .ref a8, .ref a9, .ref a10, .ref a11, .ref a12, .ref a13, .int 0, .ref a14, .ref a15, .int 0, .int 0, .int 0, .int 0, .int 0, .int 0, .ref a16, .ref a17, .ref a18, .int 0, .int 0, .int 0, .int 0, .int 0, .int 0, .ref a19, .ref a20, .ref a21, .ref a22, .ref a23, .ref a24, .ref a25, .ref a26, .ref a27]))]) [0] (by decide) rfl
  have hK9 := hK.sub (tys' := []) [] rfl
  exact W.iret (v := 0) hx hb hr (fun t ht hW => ⟨⟨0, (), rfl, rfl, by rw [ht]; exact hP9, va_K.moved hW.alike hK9, hD9⟩, hS.F ht⟩) hS.2.2 d_Model_write_20
set_option maxHeartbeats 4000000 in
set_option maxRecDepth 100000 in
theorem ct_write_wlo (l : Launch) (hnt : l.stackTraces = false) (dC : Nat → ClassId) (dI : Nat → Nat → Nat) (a0 : Nat) (ev : Int64) (ix : Int32) (gi : ix < 1) : tx_Met l y_LF_write w_LF_write ({ frames := 7, cells := 1, slots := 6, locals := 120 }) (va_Pc [.ref a0, .long ev, .int ix] (fun U => va_P (dC, dI) vcl [] U.heap ∧ va_K (dC, dI) vcl [] U ∧ tx_C U)) xIAE 1 6 := by
  refine tx_ofW (cc := b_LF_write) (maxL := 4) (ret := (some .int)) (by decide) rfl ?_
  intro p e s m args below meth c s₁ B hml hv
  obtain ⟨rfl, hP, hK, hC⟩ := hv
  have hx := B.exec
  have hb := B.bytes
  have hr := B.returns
  have hts := atoms_spec (ws := w_LF_write) B.pre
  have hz : ∀ w ∈ wz, w.before _ s = true := fun w h => hts w (List.mem_cons_of_mem _ h)
  have hown : s.vm.findClass R_LF = some m.cls := findClass_of_methodNamed B.named
  have hlocks := B.notSynchronized
  have hS : va_S (fun q => s.heap.size ≤ q) s.heap s.heap [] := va_S.rf
  have hl := lv_entry ([.ref a0, .long ev, .int ix]) (n := 4) (Nat.le_of_ble_eq_true rfl)
  rw [lg_entry_eq]
  generalize (lg_sl ([.ref a0, .long ev, .int ix]) ++ List.replicate (4 - (lg_sl ([.ref a0, .long ev, .int ix])).length) Slot.unset).toArray = ls at hl ⊢
  have hl : lv_has ls 4 [(0, .ref a0), (1, .long ev), (3, .int ix)] := hl
  refine lv_iload_n hx hb d_LF_write_0 rfl (lv_at hl 2 rfl) ?_
  refine lv_iconst (v := 1) hx hb d_LF_write_1 (by decide) ?_
  refine lv_icmp_lt (tgt := 19) hx hb d_LF_write_2 (by decide) (fun _ => ?_) (fun h => (h gi).elim)
  obtain ⟨sa, hsa⟩ := hC.2.2.1
  exact tx_throw hx hb hnt hlocks (hl.1.trans hml.symm) hS.1 hown (by decide +kernel) (by decide +kernel) (tx_hIAE hz hC) (hz (.classLink R_LF 65 xIAE) zm_490) (hz (.instantiable xIAE 6) zm_491) (hz (.initialized xIAE) zm_492) hsa d_LF_write_19 d_LF_write_22 d_LF_write_23 d_LF_write_25 d_LF_write_28 (covers_of_empty (B.noHandlers (hts _ List.mem_cons_self)) _) (by decide) (by decide) (by decide) (by decide)
set_option maxHeartbeats 4000000 in
set_option maxRecDepth 100000 in
theorem ct_write_whi (l : Launch) (hnt : l.stackTraces = false) (dC : Nat → ClassId) (dI : Nat → Nat → Nat) (a0 : Nat) (ev : Int64) (ix : Int32) (gi : ¬ ix < 1) (g8 : 8 < ix) : tx_Met l y_LF_write w_LF_write ({ frames := 7, cells := 1, slots := 6, locals := 120 }) (va_Pc [.ref a0, .long ev, .int ix] (fun U => va_P (dC, dI) vcl [] U.heap ∧ va_K (dC, dI) vcl [] U ∧ tx_C U)) xIAE 1 6 := by
  refine tx_ofW (cc := b_LF_write) (maxL := 4) (ret := (some .int)) (by decide) rfl ?_
  intro p e s m args below meth c s₁ B hml hv
  obtain ⟨rfl, hP, hK, hC⟩ := hv
  have hx := B.exec
  have hb := B.bytes
  have hr := B.returns
  have hts := atoms_spec (ws := w_LF_write) B.pre
  have hz : ∀ w ∈ wz, w.before _ s = true := fun w h => hts w (List.mem_cons_of_mem _ h)
  have hown : s.vm.findClass R_LF = some m.cls := findClass_of_methodNamed B.named
  have hlocks := B.notSynchronized
  have hS : va_S (fun q => s.heap.size ≤ q) s.heap s.heap [] := va_S.rf
  have hl := lv_entry ([.ref a0, .long ev, .int ix]) (n := 4) (Nat.le_of_ble_eq_true rfl)
  rw [lg_entry_eq]
  generalize (lg_sl ([.ref a0, .long ev, .int ix]) ++ List.replicate (4 - (lg_sl ([.ref a0, .long ev, .int ix])).length) Slot.unset).toArray = ls at hl ⊢
  have hl : lv_has ls 4 [(0, .ref a0), (1, .long ev), (3, .int ix)] := hl
  refine lv_iload_n hx hb d_LF_write_0 rfl (lv_at hl 2 rfl) ?_
  refine lv_iconst (v := 1) hx hb d_LF_write_1 (by decide) ?_
  refine lv_icmp_lt (tgt := 19) hx hb d_LF_write_2 (by decide) (fun h => absurd h gi) (fun _ => ?_)
  refine lv_iload_n hx hb d_LF_write_5 rfl (lv_at hl 2 rfl) ?_
  refine lv_bipush (v := 8) hx hb d_LF_write_6 (by decide) ?_
  refine lv_icmp_gt (tgt := 19) hx hb d_LF_write_8 (by decide) (fun _ => ?_) (fun h => (h g8).elim)
  obtain ⟨sa, hsa⟩ := hC.2.2.1
  exact tx_throw hx hb hnt hlocks (hl.1.trans hml.symm) hS.1 hown (by decide +kernel) (by decide +kernel) (tx_hIAE hz hC) (hz (.classLink R_LF 65 xIAE) zm_490) (hz (.instantiable xIAE 6) zm_491) (hz (.initialized xIAE) zm_492) hsa d_LF_write_19 d_LF_write_22 d_LF_write_23 d_LF_write_25 d_LF_write_28 (covers_of_empty (B.noHandlers (hts _ List.mem_cons_self)) _) (by decide) (by decide) (by decide) (by decide)
set_option maxHeartbeats 4000000 in
set_option maxRecDepth 100000 in
theorem ct_write_wch (l : Launch) (hnt : l.stackTraces = false) (dC : Nat → ClassId) (dI : Nat → Nat → Nat) (a0 : Nat) (ev : Int64) (N : Nat) (hN : N ≤ 8) (h1 : 1 ≤ N) (hg : gd_ ev N = false) : tx_Met l y_LF_write w_LF_write ({ frames := 7, cells := 1, slots := 6, locals := 120 }) (va_Pc [.ref a0, .long ev, .int (nI N)] (fun U => va_P (dC, dI) vcl [] U.heap ∧ va_K (dC, dI) vcl [] U ∧ tx_C U)) xIAE 1 6 := by
  refine tx_ofW (cc := b_LF_write) (maxL := 4) (ret := (some .int)) (by decide) rfl ?_
  intro p e s m args below meth c s₁ B hml hv
  obtain ⟨rfl, hP, hK, hC⟩ := hv
  have hx := B.exec
  have hb := B.bytes
  have hr := B.returns
  have hts := atoms_spec (ws := w_LF_write) B.pre
  have hz : ∀ w ∈ wz, w.before _ s = true := fun w h => hts w (List.mem_cons_of_mem _ h)
  have hown : s.vm.findClass R_LF = some m.cls := findClass_of_methodNamed B.named
  have hlocks := B.notSynchronized
  have hS : va_S (fun q => s.heap.size ≤ q) s.heap s.heap [] := va_S.rf
  have hl := lv_entry ([.ref a0, .long ev, .int (nI N)]) (n := 4) (Nat.le_of_ble_eq_true rfl)
  rw [lg_entry_eq]
  generalize (lg_sl ([.ref a0, .long ev, .int (nI N)]) ++ List.replicate (4 - (lg_sl ([.ref a0, .long ev, .int (nI N)])).length) Slot.unset).toArray = ls at hl ⊢
  have hl : lv_has ls 4 [(0, .ref a0), (1, .long ev), (3, .int (nI N))] := hl
  refine lv_iload_n hx hb d_LF_write_0 rfl (lv_at hl 2 rfl) ?_
  refine lv_iconst (v := 1) hx hb d_LF_write_1 (by decide) ?_
  refine lv_icmp_lt (tgt := 19) hx hb d_LF_write_2 (by decide) (fun h => absurd h (nI_nlt (b := 1) h1 (by omega))) (fun _ => ?_)
  refine lv_iload_n hx hb d_LF_write_5 rfl (lv_at hl 2 rfl) ?_
  refine lv_bipush (v := 8) hx hb d_LF_write_6 (by decide) ?_
  refine lv_icmp_gt (tgt := 19) hx hb d_LF_write_8 (by decide) (fun h => absurd h (nI_nlt (a := 8) hN (by decide))) (fun _ => ?_)
  refine lv_lload_n hx hb d_LF_write_11 rfl (lv_at hl 1 rfl) ?_
  refine lv_iload_n hx hb d_LF_write_12 rfl (lv_at hl 2 rfl) ?_
  refine va_calli (va_runS (As := [.long ev, .int (nI N)]) (rest := []) ⟨hx, hb, hml, hown, hz⟩ (c_chars l ev N hN) (va_cwS 2 hz (zT zm_503 zm_504 zm_78 zm_505) rfl rfl rfl (by decide +kernel) ⟨Nat.le_of_ble_eq_true rfl, Nat.le_of_ble_eq_true rfl⟩) ⟨fun a U g mk q => q, fun U hU hW => ⟨rfl, trivial⟩⟩ rfl rfl hl.1 rfl (lv_room (Nat.le_of_ble_eq_true rfl)) d_LF_write_13 ⟨by decide, by decide⟩) hS (fun _ _ h => h.elim) (fun _ h => h.elim) (fun r u t H1 locs ht hvm hw hB hz1 hk1 hS => ?_)
  obtain rfl : r = 0 := hw.trans (by rw [hg]; rfl)
  have hP : va_P (dC, dI) vcl [] H1 := hP.kept (fun k q hk => hk1 q.1 ((hP k q hk).lt) (fun h => h))
  refine va_forget (fun q hq => hS.2.2 q hq) ?_
  have hS : va_S (fun q => s.heap.size ≤ q) s.heap H1 [] := ⟨hS.1, hS.2.1, fun _ h => nomatch h⟩
  refine lv_if_ne (tgt := 29) hx hb d_LF_write_16 (by decide) (fun h => (h (by decide +kernel)).elim) (fun _ => ?_)
  obtain ⟨sa, hsa⟩ := hC.2.2.1
  exact tx_throw hx hb hnt hlocks (hl.1.trans hml.symm) hS.1 hown (by decide +kernel) (by decide +kernel) (tx_hIAE hz hC) (hz (.classLink R_LF 65 xIAE) zm_490) (hz (.instantiable xIAE 6) zm_491) (hz (.initialized xIAE) zm_492) hsa d_LF_write_19 d_LF_write_22 d_LF_write_23 d_LF_write_25 d_LF_write_28 (covers_of_empty (B.noHandlers (hts _ List.mem_cons_self)) _) (by decide) (by decide) (by decide) (by decide)
set_option maxHeartbeats 4000000 in
set_option maxRecDepth 100000 in
theorem cw_write_wlo (l : Launch) (hnt : l.stackTraces = false) (dC : Nat → ClassId) (dI : Nat → Nat → Nat) (a0 : Nat) (a1 : Nat) (a3 : Nat) (a7 : Nat) (a15 : Nat) (a21 : Nat) (a38 : Nat) (a41 : Nat) (ao : Nat) (ev : Int64) (ix : Int32) (gi : ix < 1) : Met l y_Law_write w_Law_write ({ frames := 8, cells := 1, slots := 6, locals := 143 }) (va_Pc [.ref a0, .long ev, .int ix, .ref ao] (fun U => va_P (dC, dI) vcl [(a0, .inr (0, [.ref a1, .ref a3, .ref a7, .ref a15, .ref a21, .ref a38, .ref a41, .int (-1)]))] U.heap ∧ va_K (dC, dI) vcl [] U ∧ tx_C U)) (va_Qi (fun (r : Int32) (_ : Unit) => r = 1) (fun _ _ => True) (fun _ => False)) 1 6 (fun _ => False) := by
  refine va_MetW (hh := [(0, 11, 14, 13), (0, 11, 18, 15)]) (cc := b_Law_write) (maxL := 6) (ret := (some .int)) (by decide) rfl ?_
  intro p e s m args below meth c s₁ B hml hv
  obtain ⟨rfl, hP, hK, hC⟩ := hv
  have hx := B.exec
  have hb := B.bytes
  have hr := B.returns
  have hts := atoms_spec (ws := w_Law_write) B.pre
  have hz : ∀ w ∈ wz, w.before _ s = true := fun w h => hts w (List.mem_cons_of_mem _ h)
  have hown : s.vm.findClass R_Law = some m.cls := findClass_of_methodNamed B.named
  have hlocks := B.notSynchronized
  have hS : va_S (fun q => s.heap.size ≤ q) s.heap s.heap [] := va_S.rf
  have hl := lv_entry ([.ref a0, .long ev, .int ix, .ref ao]) (n := 6) (Nat.le_of_ble_eq_true rfl)
  rw [lg_entry_eq]
  generalize (lg_sl ([.ref a0, .long ev, .int ix, .ref ao]) ++ List.replicate (6 - (lg_sl ([.ref a0, .long ev, .int ix, .ref ao])).length) Slot.unset).toArray = ls at hl ⊢
  have hl : lv_has ls 6 [(0, .ref a0), (1, .long ev), (3, .int ix), (4, .ref ao)] := hl
  have hhand := tx_hand B (hts _ List.mem_cons_self)
  obtain ⟨x, suf, hsplit, hxe, -⟩ := List.map_eq_cons_iff.mp hhand
  simp only [Prod.mk.injEq] at hxe
  obtain ⟨e1, e2, e3, e4⟩ := hxe
  refine lv_aload hx hb d_Law_write_0 (lv_at hl 3 rfl) ?_
  refine lv_iconst (v := 0) hx hb d_Law_write_2 (by decide) ?_
  refine lv_aload_n hx hb d_Law_write_3 rfl (lv_at hl 0 rfl) ?_
  refine lv_lload_n hx hb d_Law_write_4 rfl (lv_at hl 1 rfl) ?_
  refine lv_iload_n hx hb d_Law_write_5 rfl (lv_at hl 2 rfl) ?_
  have hPc := hP.sub (ws' := []) [] rfl
  refine tx_callV (x := x) (nm := xIAE) (As := [.long ev, .int ix]) (rest := [.int 0, .ref ao]) ⟨hx, hb, hml, hown, hz⟩ (ct_write_wlo l hnt dC dI a0 ev ix gi) (cwV 2 hz (zV zm_518 zm_519 zm_520 zm_333 zm_521) rfl rfl rfl (by decide +kernel) ⟨Nat.le_of_ble_eq_true rfl, Nat.le_of_ble_eq_true rfl⟩) ⟨fun a U g mk q => by obtain ⟨q0, qP, qK, qC⟩ := q; exact ⟨q0, qP, va_K.moved (u := U) (U := U.calling g mk a) (Vm.Alike.refl U.vm) qK, tx_C.same (u := U) (U := U.calling g mk a) rfl rfl qC⟩, va_recv (q := (R_LF, F_LF, 8)) (q0 := 0) (ci := 0) hK hP rfl rfl, fun U hU hW => ⟨rfl, by rw [hU]; exact hPc, va_K.moved hW.alike hK, hC.warm hW (fun z _ => by rw [hU])⟩⟩ rfl hl.1 (lv_room (Nat.le_of_ble_eq_true rfl)) d_Law_write_6 ⟨by decide, by decide⟩ hsplit (by simp [covers, e1, e2]) (by rw [e4]; decide) (by rw [e4]; exact (hz (.classLink R_Law 13 xIAE) zm_502)) (va_Nw.use rfl (hC.2.1 (.castable xIAE xIAE) (by decide +kernel))) (fun q H1 hz1 hk1 => ?_)
  rw [e3]
  refine lv_astore hx hb d_Law_write_14 hl (by decide) rfl (fun ls hl => ?_)
  refine lv_iconst (v := 1) hx hb d_Law_write_16 (by decide) ?_
  exact W.iret (v := 1) hx hb hr (fun t ht hW => ⟨⟨1, (), rfl, rfl, trivial⟩, ⟨by rw [ht]; exact hz1, fun q h1 _ => by rw [ht]; exact hk1 q h1⟩⟩) (fun _ h => nomatch h) d_Law_write_17
set_option maxHeartbeats 4000000 in
set_option maxRecDepth 100000 in
theorem cw_write_whi (l : Launch) (hnt : l.stackTraces = false) (dC : Nat → ClassId) (dI : Nat → Nat → Nat) (a0 : Nat) (a1 : Nat) (a3 : Nat) (a7 : Nat) (a15 : Nat) (a21 : Nat) (a38 : Nat) (a41 : Nat) (ao : Nat) (ev : Int64) (ix : Int32) (gi : ¬ ix < 1) (g8 : 8 < ix) : Met l y_Law_write w_Law_write ({ frames := 8, cells := 1, slots := 6, locals := 143 }) (va_Pc [.ref a0, .long ev, .int ix, .ref ao] (fun U => va_P (dC, dI) vcl [(a0, .inr (0, [.ref a1, .ref a3, .ref a7, .ref a15, .ref a21, .ref a38, .ref a41, .int (-1)]))] U.heap ∧ va_K (dC, dI) vcl [] U ∧ tx_C U)) (va_Qi (fun (r : Int32) (_ : Unit) => r = 1) (fun _ _ => True) (fun _ => False)) 1 6 (fun _ => False) := by
  refine va_MetW (hh := [(0, 11, 14, 13), (0, 11, 18, 15)]) (cc := b_Law_write) (maxL := 6) (ret := (some .int)) (by decide) rfl ?_
  intro p e s m args below meth c s₁ B hml hv
  obtain ⟨rfl, hP, hK, hC⟩ := hv
  have hx := B.exec
  have hb := B.bytes
  have hr := B.returns
  have hts := atoms_spec (ws := w_Law_write) B.pre
  have hz : ∀ w ∈ wz, w.before _ s = true := fun w h => hts w (List.mem_cons_of_mem _ h)
  have hown : s.vm.findClass R_Law = some m.cls := findClass_of_methodNamed B.named
  have hlocks := B.notSynchronized
  have hS : va_S (fun q => s.heap.size ≤ q) s.heap s.heap [] := va_S.rf
  have hl := lv_entry ([.ref a0, .long ev, .int ix, .ref ao]) (n := 6) (Nat.le_of_ble_eq_true rfl)
  rw [lg_entry_eq]
  generalize (lg_sl ([.ref a0, .long ev, .int ix, .ref ao]) ++ List.replicate (6 - (lg_sl ([.ref a0, .long ev, .int ix, .ref ao])).length) Slot.unset).toArray = ls at hl ⊢
  have hl : lv_has ls 6 [(0, .ref a0), (1, .long ev), (3, .int ix), (4, .ref ao)] := hl
  have hhand := tx_hand B (hts _ List.mem_cons_self)
  obtain ⟨x, suf, hsplit, hxe, -⟩ := List.map_eq_cons_iff.mp hhand
  simp only [Prod.mk.injEq] at hxe
  obtain ⟨e1, e2, e3, e4⟩ := hxe
  refine lv_aload hx hb d_Law_write_0 (lv_at hl 3 rfl) ?_
  refine lv_iconst (v := 0) hx hb d_Law_write_2 (by decide) ?_
  refine lv_aload_n hx hb d_Law_write_3 rfl (lv_at hl 0 rfl) ?_
  refine lv_lload_n hx hb d_Law_write_4 rfl (lv_at hl 1 rfl) ?_
  refine lv_iload_n hx hb d_Law_write_5 rfl (lv_at hl 2 rfl) ?_
  have hPc := hP.sub (ws' := []) [] rfl
  refine tx_callV (x := x) (nm := xIAE) (As := [.long ev, .int ix]) (rest := [.int 0, .ref ao]) ⟨hx, hb, hml, hown, hz⟩ (ct_write_whi l hnt dC dI a0 ev ix gi g8) (cwV 2 hz (zV zm_518 zm_519 zm_520 zm_333 zm_521) rfl rfl rfl (by decide +kernel) ⟨Nat.le_of_ble_eq_true rfl, Nat.le_of_ble_eq_true rfl⟩) ⟨fun a U g mk q => by obtain ⟨q0, qP, qK, qC⟩ := q; exact ⟨q0, qP, va_K.moved (u := U) (U := U.calling g mk a) (Vm.Alike.refl U.vm) qK, tx_C.same (u := U) (U := U.calling g mk a) rfl rfl qC⟩, va_recv (q := (R_LF, F_LF, 8)) (q0 := 0) (ci := 0) hK hP rfl rfl, fun U hU hW => ⟨rfl, by rw [hU]; exact hPc, va_K.moved hW.alike hK, hC.warm hW (fun z _ => by rw [hU])⟩⟩ rfl hl.1 (lv_room (Nat.le_of_ble_eq_true rfl)) d_Law_write_6 ⟨by decide, by decide⟩ hsplit (by simp [covers, e1, e2]) (by rw [e4]; decide) (by rw [e4]; exact (hz (.classLink R_Law 13 xIAE) zm_502)) (va_Nw.use rfl (hC.2.1 (.castable xIAE xIAE) (by decide +kernel))) (fun q H1 hz1 hk1 => ?_)
  rw [e3]
  refine lv_astore hx hb d_Law_write_14 hl (by decide) rfl (fun ls hl => ?_)
  refine lv_iconst (v := 1) hx hb d_Law_write_16 (by decide) ?_
  exact W.iret (v := 1) hx hb hr (fun t ht hW => ⟨⟨1, (), rfl, rfl, trivial⟩, ⟨by rw [ht]; exact hz1, fun q h1 _ => by rw [ht]; exact hk1 q h1⟩⟩) (fun _ h => nomatch h) d_Law_write_17
set_option maxHeartbeats 4000000 in
set_option maxRecDepth 100000 in
theorem cw_write_wch (l : Launch) (hnt : l.stackTraces = false) (dC : Nat → ClassId) (dI : Nat → Nat → Nat) (a0 : Nat) (a1 : Nat) (a3 : Nat) (a7 : Nat) (a15 : Nat) (a21 : Nat) (a38 : Nat) (a41 : Nat) (ao : Nat) (ev : Int64) (N : Nat) (hN : N ≤ 8) (h1 : 1 ≤ N) (hg : gd_ ev N = false) : Met l y_Law_write w_Law_write ({ frames := 8, cells := 1, slots := 6, locals := 143 }) (va_Pc [.ref a0, .long ev, .int (nI N), .ref ao] (fun U => va_P (dC, dI) vcl [(a0, .inr (0, [.ref a1, .ref a3, .ref a7, .ref a15, .ref a21, .ref a38, .ref a41, .int (-1)]))] U.heap ∧ va_K (dC, dI) vcl [] U ∧ tx_C U)) (va_Qi (fun (r : Int32) (_ : Unit) => r = 1) (fun _ _ => True) (fun _ => False)) 1 6 (fun _ => False) := by
  refine va_MetW (hh := [(0, 11, 14, 13), (0, 11, 18, 15)]) (cc := b_Law_write) (maxL := 6) (ret := (some .int)) (by decide) rfl ?_
  intro p e s m args below meth c s₁ B hml hv
  obtain ⟨rfl, hP, hK, hC⟩ := hv
  have hx := B.exec
  have hb := B.bytes
  have hr := B.returns
  have hts := atoms_spec (ws := w_Law_write) B.pre
  have hz : ∀ w ∈ wz, w.before _ s = true := fun w h => hts w (List.mem_cons_of_mem _ h)
  have hown : s.vm.findClass R_Law = some m.cls := findClass_of_methodNamed B.named
  have hlocks := B.notSynchronized
  have hS : va_S (fun q => s.heap.size ≤ q) s.heap s.heap [] := va_S.rf
  have hl := lv_entry ([.ref a0, .long ev, .int (nI N), .ref ao]) (n := 6) (Nat.le_of_ble_eq_true rfl)
  rw [lg_entry_eq]
  generalize (lg_sl ([.ref a0, .long ev, .int (nI N), .ref ao]) ++ List.replicate (6 - (lg_sl ([.ref a0, .long ev, .int (nI N), .ref ao])).length) Slot.unset).toArray = ls at hl ⊢
  have hl : lv_has ls 6 [(0, .ref a0), (1, .long ev), (3, .int (nI N)), (4, .ref ao)] := hl
  have hhand := tx_hand B (hts _ List.mem_cons_self)
  obtain ⟨x, suf, hsplit, hxe, -⟩ := List.map_eq_cons_iff.mp hhand
  simp only [Prod.mk.injEq] at hxe
  obtain ⟨e1, e2, e3, e4⟩ := hxe
  refine lv_aload hx hb d_Law_write_0 (lv_at hl 3 rfl) ?_
  refine lv_iconst (v := 0) hx hb d_Law_write_2 (by decide) ?_
  refine lv_aload_n hx hb d_Law_write_3 rfl (lv_at hl 0 rfl) ?_
  refine lv_lload_n hx hb d_Law_write_4 rfl (lv_at hl 1 rfl) ?_
  refine lv_iload_n hx hb d_Law_write_5 rfl (lv_at hl 2 rfl) ?_
  have hPc := hP.sub (ws' := []) [] rfl
  refine tx_callV (x := x) (nm := xIAE) (As := [.long ev, .int (nI N)]) (rest := [.int 0, .ref ao]) ⟨hx, hb, hml, hown, hz⟩ (ct_write_wch l hnt dC dI a0 ev N hN h1 hg) (cwV 2 hz (zV zm_518 zm_519 zm_520 zm_333 zm_521) rfl rfl rfl (by decide +kernel) ⟨Nat.le_of_ble_eq_true rfl, Nat.le_of_ble_eq_true rfl⟩) ⟨fun a U g mk q => by obtain ⟨q0, qP, qK, qC⟩ := q; exact ⟨q0, qP, va_K.moved (u := U) (U := U.calling g mk a) (Vm.Alike.refl U.vm) qK, tx_C.same (u := U) (U := U.calling g mk a) rfl rfl qC⟩, va_recv (q := (R_LF, F_LF, 8)) (q0 := 0) (ci := 0) hK hP rfl rfl, fun U hU hW => ⟨rfl, by rw [hU]; exact hPc, va_K.moved hW.alike hK, hC.warm hW (fun z _ => by rw [hU])⟩⟩ rfl hl.1 (lv_room (Nat.le_of_ble_eq_true rfl)) d_Law_write_6 ⟨by decide, by decide⟩ hsplit (by simp [covers, e1, e2]) (by rw [e4]; decide) (by rw [e4]; exact (hz (.classLink R_Law 13 xIAE) zm_502)) (va_Nw.use rfl (hC.2.1 (.castable xIAE xIAE) (by decide +kernel))) (fun q H1 hz1 hk1 => ?_)
  rw [e3]
  refine lv_astore hx hb d_Law_write_14 hl (by decide) rfl (fun ls hl => ?_)
  refine lv_iconst (v := 1) hx hb d_Law_write_16 (by decide) ?_
  exact W.iret (v := 1) hx hb hr (fun t ht hW => ⟨⟨1, (), rfl, rfl, trivial⟩, ⟨by rw [ht]; exact hz1, fun q h1 _ => by rw [ht]; exact hk1 q h1⟩⟩) (fun _ h => nomatch h) d_Law_write_17
