set_option maxHeartbeats 4000000 in
set_option maxRecDepth 100000 in
theorem c34_Blocks_putIn (l : Launch) (dC : Nat → ClassId) (dI : Nat → Nat → Nat) (sz : Nat) (a0 : Nat) (a1 : Nat) (a2 : Nat) (a3 : Nat) (a4 : Nat) (k0 : ClassId) (k1 : ClassId) : Met l y_Blocks_putIn w_Blocks_putIn ({ frames := 1, cells := 0, slots := 0, locals := 23 }) (va_Pc [.ref a0, .int 125] (fun U => U.heap.size = sz ∧ va_P (dC, dI) vcl [(a0, .inr (2, [.ref a4, .ref a1, .int 1])), (a1, .inr (11, [.ref a2, .ref a3, .int 1])), (a2, .inl (k0, 362, .inl (upd (fun _ => 0) 0 4))), (a3, .inl (k1, 362, .inr (.inl (vp_updL (fun _ => 0) 0 123))))] U.heap ∧ va_K (dC, dI) vcl [(k0, .int), (k1, .long)] U ∧ va_D (fun _ => True) [(a0, .inr (2, [.ref a4, .ref a1, .int 1])), (a1, .inr (11, [.ref a2, .ref a3, .int 1])), (a2, .inl (k0, 362, .inl (upd (fun _ => 0) 0 4))), (a3, .inl (k1, 362, .inr (.inl (vp_updL (fun _ => 0) 0 123))))])) (va_Qv (fun (_ : Unit) => True) (fun _ t => va_P (dC, dI) vcl [(a0, .inr (2, [.ref a4, .ref a1, .int 1])), (a1, .inr (11, [.ref a2, .ref a3, .int 2])), (a2, .inl (k0, 362, .inl (upd (upd (fun _ => 0) 0 4) 1 4))), (a3, .inl (k1, 362, .inr (.inl (vp_updL (vp_updL (fun _ => 0) 0 123) 1 125))))] t.heap ∧ va_K (dC, dI) vcl [(k0, .int), (k1, .long)] t ∧ va_D (va_A [(a0, .inr (2, [.ref a4, .ref a1, .int 1])), (a1, .inr (11, [.ref a2, .ref a3, .int 1])), (a2, .inl (k0, 362, .inl (upd (fun _ => 0) 0 4))), (a3, .inl (k1, 362, .inr (.inl (vp_updL (fun _ => 0) 0 123))))] sz) [(a0, .inr (2, [.ref a4, .ref a1, .int 1])), (a1, .inr (11, [.ref a2, .ref a3, .int 2])), (a2, .inl (k0, 362, .inl (upd (upd (fun _ => 0) 0 4) 1 4))), (a3, .inl (k1, 362, .inr (.inl (vp_updL (vp_updL (fun _ => 0) 0 123) 1 125))))]) (va_A [(a0, .inr (2, [.ref a4, .ref a1, .int 1])), (a1, .inr (11, [.ref a2, .ref a3, .int 1])), (a2, .inl (k0, 362, .inl (upd (fun _ => 0) 0 4))), (a3, .inl (k1, 362, .inr (.inl (vp_updL (fun _ => 0) 0 123))))] sz)) 0 0 (va_A [(a0, .inr (2, [.ref a4, .ref a1, .int 1])), (a1, .inr (11, [.ref a2, .ref a3, .int 1])), (a2, .inl (k0, 362, .inl (upd (fun _ => 0) 0 4))), (a3, .inl (k1, 362, .inr (.inl (vp_updL (fun _ => 0) 0 123))))] sz) := by
  refine Met.ofW (cc := b_Blocks_putIn) (maxL := 2) (ret := none) (by decide) rfl ?_
  intro p e s m args below meth c s₁ B hml hv
  obtain ⟨rfl, hsz, hP, hK, hD0⟩ := hv
  have hx := B.exec
  have hb := B.bytes
  have hr := B.returns
  have hts := atoms_spec (ws := w_Blocks_putIn) B.pre
  have hz : ∀ w ∈ wz, w.before _ s = true := fun w h => hts w (List.mem_cons_of_mem _ h)
  have hown : s.vm.findClass R_Blocks = some m.cls := findClass_of_methodNamed B.named
  have hlocks := B.notSynchronized
  subst hsz
  have hD := hD0.self (sz := s.heap.size)
  generalize hAe : va_A [(a0, .inr (2, [.ref a4, .ref a1, .int 1])), (a1, .inr (11, [.ref a2, .ref a3, .int 1])), (a2, .inl (k0, 362, .inl (upd (fun _ => 0) 0 4))), (a3, .inl (k1, 362, .inr (.inl (vp_updL (fun _ => 0) 0 123))))] s.heap.size = A at hD ⊢
  have hA : ∀ q : Nat, s.heap.size ≤ q → A q := fun q h => by rw [← hAe]; exact Or.inr h
  have hS : va_S A s.heap s.heap [] := va_S.rf
  have hP : va_P (dC, dI) vcl [(a0, .inr (2, [.ref a4, .ref a1, .int 1])), (a1, .inr (11, [.ref a2, .ref a3, .int 1])), (a2, .inl (k0, 362, .inl (upd (fun _ => 0) 0 4))), (a3, .inl (k1, 362, .inr (.inl (vp_updL (fun _ => 0) 0 123))))] s.heap := hP
  have hl := lv_entry ([.ref a0, .int 125]) (n := 2) (Nat.le_of_ble_eq_true rfl)
  rw [lg_entry_eq]
  generalize (lg_sl ([.ref a0, .int 125]) ++ List.replicate (2 - (lg_sl ([.ref a0, .int 125])).length) Slot.unset).toArray = ls at hl ⊢
  have hl : lv_has ls 2 [(0, .ref a0), (1, .int 125)] := hl
  refine lv_aload_n hx hb d_Blocks_putIn_0 rfl (lv_at hl 0 rfl) ?_
  refine va_get (D := (dC, dI)) (ci := 2) (v := .ref a1) (C := R_Blocks) (T := F_Blocks) (N := 3) hx hb hz zu_Blocks hown hK hP 0 rfl rfl 1 (by decide) (hz (.fieldLink R_Blocks 23 "LayoutFront$Blocks" "laid" "LLayoutFront$Tokens;") zm_45) (fun _ h9 => h9) rfl d_Blocks_putIn_1 ?_
  refine lv_iconst (v := 4) hx hb d_Blocks_putIn_4 (by decide) ?_
  refine lv_iload_n hx hb d_Blocks_putIn_5 rfl (lv_at hl 1 rfl) ?_
  refine lv_i2l (v := 125) hx hb d_Blocks_putIn_6 (by decide +kernel) ?_
  have hPc := hP.sub (ws' := [(a1, .inr (11, [.ref a2, .ref a3, .int 1])), (a2, .inl (k0, 362, .inl (upd (fun _ => 0) 0 4))), (a3, .inl (k1, 362, .inr (.inl (vp_updL (fun _ => 0) 0 123))))]) [1, 2, 3] rfl
  have hDc := hD.sub (ws' := [(a1, .inr (11, [.ref a2, .ref a3, .int 1])), (a2, .inl (k0, 362, .inl (upd (fun _ => 0) 0 4))), (a3, .inl (k1, 362, .inr (.inl (vp_updL (fun _ => 0) 0 123))))]) [1, 2, 3] (by decide) rfl
  have hKc := hK.sub (tys' := [(k0, .int), (k1, .long)]) [0, 1] rfl
  have hFc := va_free (wc := [(a1, .inr (11, [.ref a2, .ref a3, .int 1])), (a2, .inl (k0, 362, .inl (upd (fun _ => 0) 0 4))), (a3, .inl (k1, 362, .inr (.inl (vp_updL (fun _ => 0) 0 123))))]) hD hS hA [1, 2, 3] rfl
  refine va_callv (va_runV (As := [.int 4, .long 125]) (rest := []) ⟨hx, hb, hml, hown, hz⟩ (c33_Tokens_add l dC dI s.heap.size a1 a2 a3 k0 k1) (cwV 2 hz (zV zm_148 zm_149 zm_150 zm_17 zm_151) rfl rfl rfl (by decide +kernel) ⟨Nat.le_of_ble_eq_true rfl, Nat.le_of_ble_eq_true rfl⟩) ⟨fun a U g mk q => by obtain ⟨q0, q1, qP, qK, qD⟩ := q; exact ⟨q0, q1, qP, va_K.moved (u := U) (U := U.calling g mk a) (Vm.Alike.refl U.vm) qK, qD⟩, va_recv (q := (R_Tokens, F_Tokens, 3)) (q0 := 1) (ci := 11) hK hP rfl rfl, fun U hU hW => ⟨rfl, by rw [hU], by rw [hU]; exact hPc, va_K.moved hW.alike hKc, hDc.weaken (fun _ _ _ _ => trivial)⟩⟩ rfl rfl hl.1 rfl (lv_room (Nat.le_of_ble_eq_true rfl)) d_Blocks_putIn_7 ⟨by decide, by decide⟩) hS (fun q _ h => hFc q h) hFc (fun u t H1 locs ht hvm hw hB hz1 hk1 hS => ?_)
  obtain ⟨hP1, hK1, hD1⟩ := hB
  rw [ht] at hP1
  obtain ⟨hP, hD⟩ := va_join (wr := [(a0, .inr (2, [.ref a4, .ref a1, .int 1]))]) (w1 := [(a1, .inr (11, [.ref a2, .ref a3, .int 2])), (a2, .inl (k0, 362, .inl (upd (upd (fun _ => 0) 0 4) 1 4))), (a3, .inl (k1, 362, .inr (.inl (vp_updL (vp_updL (fun _ => 0) 0 123) 1 125))))]) hP hD [1, 2, 3] [0] rfl rfl (by decide) (by decide) hk1 hFc hP1 hD1
  generalize H1 = H at hP hS ⊢
  have hP : va_P (dC, dI) vcl [(a0, .inr (2, [.ref a4, .ref a1, .int 1])), (a1, .inr (11, [.ref a2, .ref a3, .int 2])), (a2, .inl (k0, 362, .inl (upd (upd (fun _ => 0) 0 4) 1 4))), (a3, .inl (k1, 362, .inr (.inl (vp_updL (vp_updL (fun _ => 0) 0 123) 1 125))))] H := hP
  have hD : va_D A [(a0, .inr (2, [.ref a4, .ref a1, .int 1])), (a1, .inr (11, [.ref a2, .ref a3, .int 2])), (a2, .inl (k0, 362, .inl (upd (upd (fun _ => 0) 0 4) 1 4))), (a3, .inl (k1, 362, .inr (.inl (vp_updL (vp_updL (fun _ => 0) 0 123) 1 125))))] := hD
  have hP9 := hP.sub (ws' := [(a0, .inr (2, [.ref a4, .ref a1, .int 1])), (a1, .inr (11, [.ref a2, .ref a3, .int 2])), (a2, .inl (k0, 362, .inl (upd (upd (fun _ => 0) 0 4) 1 4))), (a3, .inl (k1, 362, .inr (.inl (vp_updL (vp_updL (fun _ => 0) 0 123) 1 125))))]) [0, 1, 2, 3] rfl
  have hD9 := hD.sub (ws' := [(a0, .inr (2, [.ref a4, .ref a1, .int 1])), (a1, .inr (11, [.ref a2, .ref a3, .int 2])), (a2, .inl (k0, 362, .inl (upd (upd (fun _ => 0) 0 4) 1 4))), (a3, .inl (k1, 362, .inr (.inl (vp_updL (vp_updL (fun _ => 0) 0 123) 1 125))))]) [0, 1, 2, 3] (by decide) rfl
  have hK9 := hK.sub (tys' := [(k0, .int), (k1, .long)]) [0, 1] rfl
  exact W.vret hx hb hr (fun t ht hW => ⟨⟨(), rfl, trivial, by rw [ht]; exact hP9, va_K.moved hW.alike hK9, hD9⟩, hS.F ht⟩) hS.2.2 d_Blocks_putIn_10
set_option maxHeartbeats 4000000 in
set_option maxRecDepth 100000 in
theorem c35_Blocks_begin (l : Launch) (dC : Nat → ClassId) (dI : Nat → Nat → Nat) (sz : Nat) (a0 : Nat) (a1 : Nat) (a2 : Nat) (a3 : Nat) (a4 : Nat) (a5 : Nat) (k0 : ClassId) (k1 : ClassId) : Met l y_Blocks_begin w_Blocks_begin ({ frames := 2, cells := 0, slots := 0, locals := 44 }) (va_Pc [.ref a0, .int 0] (fun U => U.heap.size = sz ∧ va_P (dC, dI) vcl [(a0, .inr (2, [.ref a1, .ref a2, .int 0])), (a1, .inr (6, [.ref a5, .int 0, .int 0])), (a2, .inr (11, [.ref a3, .ref a4, .int 0])), (a3, .inl (k0, 362, .inl (fun _ => 0))), (a4, .inl (k1, 362, .inr (.inl (fun _ => 0))))] U.heap ∧ va_K (dC, dI) vcl [(k0, .int), (k1, .long)] U ∧ va_D (fun _ => True) [(a0, .inr (2, [.ref a1, .ref a2, .int 0])), (a1, .inr (6, [.ref a5, .int 0, .int 0])), (a2, .inr (11, [.ref a3, .ref a4, .int 0])), (a3, .inl (k0, 362, .inl (fun _ => 0))), (a4, .inl (k1, 362, .inr (.inl (fun _ => 0))))])) (va_Qv (fun (_ : Unit) => True) (fun _ t => va_P (dC, dI) vcl [(a0, .inr (2, [.ref a1, .ref a2, .int 1])), (a1, .inr (6, [.ref a5, .int 0, .int 0])), (a2, .inr (11, [.ref a3, .ref a4, .int 2])), (a3, .inl (k0, 362, .inl (upd (upd (fun _ => 0) 0 4) 1 4))), (a4, .inl (k1, 362, .inr (.inl (vp_updL (vp_updL (fun _ => 0) 0 123) 1 125))))] t.heap ∧ va_K (dC, dI) vcl [(k0, .int), (k1, .long)] t ∧ va_D (va_A [(a0, .inr (2, [.ref a1, .ref a2, .int 0])), (a1, .inr (6, [.ref a5, .int 0, .int 0])), (a2, .inr (11, [.ref a3, .ref a4, .int 0])), (a3, .inl (k0, 362, .inl (fun _ => 0))), (a4, .inl (k1, 362, .inr (.inl (fun _ => 0))))] sz) [(a0, .inr (2, [.ref a1, .ref a2, .int 1])), (a1, .inr (6, [.ref a5, .int 0, .int 0])), (a2, .inr (11, [.ref a3, .ref a4, .int 2])), (a3, .inl (k0, 362, .inl (upd (upd (fun _ => 0) 0 4) 1 4))), (a4, .inl (k1, 362, .inr (.inl (vp_updL (vp_updL (fun _ => 0) 0 123) 1 125))))]) (va_A [(a0, .inr (2, [.ref a1, .ref a2, .int 0])), (a1, .inr (6, [.ref a5, .int 0, .int 0])), (a2, .inr (11, [.ref a3, .ref a4, .int 0])), (a3, .inl (k0, 362, .inl (fun _ => 0))), (a4, .inl (k1, 362, .inr (.inl (fun _ => 0))))] sz)) 0 0 (va_A [(a0, .inr (2, [.ref a1, .ref a2, .int 0])), (a1, .inr (6, [.ref a5, .int 0, .int 0])), (a2, .inr (11, [.ref a3, .ref a4, .int 0])), (a3, .inl (k0, 362, .inl (fun _ => 0))), (a4, .inl (k1, 362, .inr (.inl (fun _ => 0))))] sz) := by
  refine Met.ofW (cc := b_Blocks_begin) (maxL := 2) (ret := none) (by decide) rfl ?_
  intro p e s m args below meth c s₁ B hml hv
  obtain ⟨rfl, hsz, hP, hK, hD0⟩ := hv
  have hx := B.exec
  have hb := B.bytes
  have hr := B.returns
  have hts := atoms_spec (ws := w_Blocks_begin) B.pre
  have hz : ∀ w ∈ wz, w.before _ s = true := fun w h => hts w (List.mem_cons_of_mem _ h)
  have hown : s.vm.findClass R_Blocks = some m.cls := findClass_of_methodNamed B.named
  have hlocks := B.notSynchronized
  subst hsz
  have hD := hD0.self (sz := s.heap.size)
  generalize hAe : va_A [(a0, .inr (2, [.ref a1, .ref a2, .int 0])), (a1, .inr (6, [.ref a5, .int 0, .int 0])), (a2, .inr (11, [.ref a3, .ref a4, .int 0])), (a3, .inl (k0, 362, .inl (fun _ => 0))), (a4, .inl (k1, 362, .inr (.inl (fun _ => 0))))] s.heap.size = A at hD ⊢
  have hA : ∀ q : Nat, s.heap.size ≤ q → A q := fun q h => by rw [← hAe]; exact Or.inr h
  have hS : va_S A s.heap s.heap [] := va_S.rf
  have hP : va_P (dC, dI) vcl [(a0, .inr (2, [.ref a1, .ref a2, .int 0])), (a1, .inr (6, [.ref a5, .int 0, .int 0])), (a2, .inr (11, [.ref a3, .ref a4, .int 0])), (a3, .inl (k0, 362, .inl (fun _ => 0))), (a4, .inl (k1, 362, .inr (.inl (fun _ => 0))))] s.heap := hP
  have hl := lv_entry ([.ref a0, .int 0]) (n := 2) (Nat.le_of_ble_eq_true rfl)
  rw [lg_entry_eq]
  generalize (lg_sl ([.ref a0, .int 0]) ++ List.replicate (2 - (lg_sl ([.ref a0, .int 0])).length) Slot.unset).toArray = ls at hl ⊢
  have hl : lv_has ls 2 [(0, .ref a0), (1, .int 0)] := hl
  refine lv_aload_n hx hb d_Blocks_begin_0 rfl (lv_at hl 0 rfl) ?_
  refine lv_dup hx hb d_Blocks_begin_1 rfl ?_
  refine va_get (D := (dC, dI)) (ci := 2) (v := .int 0) (C := R_Blocks) (T := F_Blocks) (N := 3) hx hb hz zu_Blocks hown hK hP 0 rfl rfl 2 (by decide) (hz (.fieldLink R_Blocks 27 "LayoutFront$Blocks" "begun" "I") zm_152) (fun _ h9 => h9) rfl d_Blocks_begin_2 ?_
  refine lv_iconst (v := 1) hx hb d_Blocks_begin_5 (by decide) ?_
  refine xr_iadd (v := 1) hx hb d_Blocks_begin_6 (by decide +kernel) ?_
  refine va_put (D := (dC, dI)) (ci := 2) (v := .int 1) (ty := .int) (C := R_Blocks) (T := F_Blocks) (N := 3) hx hb hz zu_Blocks t_Blocks t_Blocks_ok n_Blocks hown hK hP hD hS 0 rfl rfl 2 (by decide) (hz (.fieldLink R_Blocks 27 "LayoutFront$Blocks" "begun" "I") zm_152) (fun _ h9 => h9) rfl (by decide +kernel) rfl rfl (Nat.le_of_ble_eq_true rfl) d_Blocks_begin_7 (fun H locs hP hD hS => ?_)
  have hP : va_P (dC, dI) vcl [(a0, .inr (2, [.ref a1, .ref a2, .int 1])), (a1, .inr (6, [.ref a5, .int 0, .int 0])), (a2, .inr (11, [.ref a3, .ref a4, .int 0])), (a3, .inl (k0, 362, .inl (fun _ => 0))), (a4, .inl (k1, 362, .inr (.inl (fun _ => 0))))] H := hP
  have hD : va_D A [(a0, .inr (2, [.ref a1, .ref a2, .int 1])), (a1, .inr (6, [.ref a5, .int 0, .int 0])), (a2, .inr (11, [.ref a3, .ref a4, .int 0])), (a3, .inl (k0, 362, .inl (fun _ => 0))), (a4, .inl (k1, 362, .inr (.inl (fun _ => 0))))] := hD
  refine lv_aload_n hx hb d_Blocks_begin_10 rfl (lv_at hl 0 rfl) ?_
  refine lv_bipush (v := 123) hx hb d_Blocks_begin_11 (by decide) ?_
  have hPc := hP.sub (ws' := [(a0, .inr (2, [.ref a1, .ref a2, .int 1])), (a2, .inr (11, [.ref a3, .ref a4, .int 0])), (a3, .inl (k0, 362, .inl (fun _ => 0))), (a4, .inl (k1, 362, .inr (.inl (fun _ => 0))))]) [0, 2, 3, 4] rfl
  have hDc := hD.sub (ws' := [(a0, .inr (2, [.ref a1, .ref a2, .int 1])), (a2, .inr (11, [.ref a3, .ref a4, .int 0])), (a3, .inl (k0, 362, .inl (fun _ => 0))), (a4, .inl (k1, 362, .inr (.inl (fun _ => 0))))]) [0, 2, 3, 4] (by decide) rfl
  have hKc := hK.sub (tys' := [(k0, .int), (k1, .long)]) [0, 1] rfl
  have hFc := va_free (wc := [(a0, .inr (2, [.ref a1, .ref a2, .int 1])), (a2, .inr (11, [.ref a3, .ref a4, .int 0])), (a3, .inl (k0, 362, .inl (fun _ => 0))), (a4, .inl (k1, 362, .inr (.inl (fun _ => 0))))]) hD hS hA [0, 2, 3, 4] rfl
  refine va_callv (va_runV (As := [.int 123]) (rest := []) ⟨hx, hb, hml, hown, hz⟩ (c31_Blocks_putIn l dC dI H.size a0 a2 a3 a4 a1 k0 k1) (cwV 1 hz (zV zm_153 zm_154 zm_155 zm_96 zm_156) rfl rfl rfl (by decide +kernel) ⟨Nat.le_of_ble_eq_true rfl, Nat.le_of_ble_eq_true rfl⟩) ⟨fun a U g mk q => by obtain ⟨q0, q1, qP, qK, qD⟩ := q; exact ⟨q0, q1, qP, va_K.moved (u := U) (U := U.calling g mk a) (Vm.Alike.refl U.vm) qK, qD⟩, va_recv (q := (R_Blocks, F_Blocks, 3)) (q0 := 0) (ci := 2) hK hP rfl rfl, fun U hU hW => ⟨rfl, by rw [hU], by rw [hU]; exact hPc, va_K.moved hW.alike hKc, hDc.weaken (fun _ _ _ _ => trivial)⟩⟩ rfl rfl hl.1 rfl (lv_room (Nat.le_of_ble_eq_true rfl)) d_Blocks_begin_13 ⟨by decide, by decide⟩) hS (fun q _ h => hFc q h) hFc (fun u t H1 locs ht hvm hw hB hz1 hk1 hS => ?_)
  obtain ⟨hP1, hK1, hD1⟩ := hB
  rw [ht] at hP1
  obtain ⟨hP, hD⟩ := va_join (wr := [(a1, .inr (6, [.ref a5, .int 0, .int 0]))]) (w1 := [(a0, .inr (2, [.ref a1, .ref a2, .int 1])), (a2, .inr (11, [.ref a3, .ref a4, .int 1])), (a3, .inl (k0, 362, .inl (upd (fun _ => 0) 0 4))), (a4, .inl (k1, 362, .inr (.inl (vp_updL (fun _ => 0) 0 123))))]) hP hD [0, 2, 3, 4] [1] rfl rfl (by decide) (by decide) hk1 hFc hP1 hD1
  generalize H1 = H at hP hS ⊢
  have hP : va_P (dC, dI) vcl [(a1, .inr (6, [.ref a5, .int 0, .int 0])), (a0, .inr (2, [.ref a1, .ref a2, .int 1])), (a2, .inr (11, [.ref a3, .ref a4, .int 1])), (a3, .inl (k0, 362, .inl (upd (fun _ => 0) 0 4))), (a4, .inl (k1, 362, .inr (.inl (vp_updL (fun _ => 0) 0 123))))] H := hP
  have hD : va_D A [(a1, .inr (6, [.ref a5, .int 0, .int 0])), (a0, .inr (2, [.ref a1, .ref a2, .int 1])), (a2, .inr (11, [.ref a3, .ref a4, .int 1])), (a3, .inl (k0, 362, .inl (upd (fun _ => 0) 0 4))), (a4, .inl (k1, 362, .inr (.inl (vp_updL (fun _ => 0) 0 123))))] := hD
  refine lv_iload_n hx hb d_Blocks_begin_16 rfl (lv_at hl 1 rfl) ?_
  refine lv_aload_n hx hb d_Blocks_begin_17 rfl (lv_at hl 0 rfl) ?_
  refine va_get (D := (dC, dI)) (ci := 2) (v := .ref a1) (C := R_Blocks) (T := F_Blocks) (N := 3) hx hb hz zu_Blocks hown hK hP 1 rfl rfl 0 (by decide) (hz (.fieldLink R_Blocks 12 "LayoutFront$Blocks" "open" "LLayoutFront$Open;") zm_42) (fun _ h9 => h9) rfl d_Blocks_begin_18 ?_
  have hPc := hP.sub (ws' := [(a1, .inr (6, [.ref a5, .int 0, .int 0]))]) [0] rfl
  have hDc := hD.sub (ws' := [(a1, .inr (6, [.ref a5, .int 0, .int 0]))]) [0] (by decide) rfl
  have hKc := hK.sub (tys' := []) [] rfl
  have hFc := va_free (wc := [(a1, .inr (6, [.ref a5, .int 0, .int 0]))]) hD hS hA [0] rfl
  refine va_calli (va_runV (As := []) (rest := [.int 0]) ⟨hx, hb, hml, hown, hz⟩ (c32_Open_latestColumn l dC dI H.size a1 a5) (cwV 0 hz (zV zm_157 zm_158 zm_159 zm_39 zm_160) rfl rfl rfl (by decide +kernel) ⟨Nat.le_of_ble_eq_true rfl, Nat.le_of_ble_eq_true rfl⟩) ⟨fun a U g mk q => by obtain ⟨q0, q1, qP, qK, qD⟩ := q; exact ⟨q0, q1, qP, va_K.moved (u := U) (U := U.calling g mk a) (Vm.Alike.refl U.vm) qK, qD⟩, va_recv (q := (R_Open, F_Open, 3)) (q0 := 0) (ci := 6) hK hP rfl rfl, fun U hU hW => ⟨rfl, by rw [hU], by rw [hU]; exact hPc, va_K.moved hW.alike hKc, hDc.weaken (fun _ _ _ _ => trivial)⟩⟩ rfl rfl hl.1 rfl (lv_room (Nat.le_of_ble_eq_true rfl)) d_Blocks_begin_21 ⟨by decide, by decide⟩) hS (fun q _ h => hFc q h) hFc (fun r u t H1 locs ht hvm hw hB hz1 hk1 hS => ?_)
  obtain ⟨hP1, hK1, hD1⟩ := hB
  subst r
  rw [ht] at hP1
  obtain ⟨hP, hD⟩ := va_join (wr := [(a0, .inr (2, [.ref a1, .ref a2, .int 1])), (a2, .inr (11, [.ref a3, .ref a4, .int 1])), (a3, .inl (k0, 362, .inl (upd (fun _ => 0) 0 4))), (a4, .inl (k1, 362, .inr (.inl (vp_updL (fun _ => 0) 0 123))))]) (w1 := [(a1, .inr (6, [.ref a5, .int 0, .int 0]))]) hP hD [0] [1, 2, 3, 4] rfl rfl (by decide) (by decide) hk1 hFc hP1 hD1
  generalize H1 = H at hP hS ⊢
  have hP : va_P (dC, dI) vcl [(a0, .inr (2, [.ref a1, .ref a2, .int 1])), (a2, .inr (11, [.ref a3, .ref a4, .int 1])), (a3, .inl (k0, 362, .inl (upd (fun _ => 0) 0 4))), (a4, .inl (k1, 362, .inr (.inl (vp_updL (fun _ => 0) 0 123)))), (a1, .inr (6, [.ref a5, .int 0, .int 0]))] H := hP
  have hD : va_D A [(a0, .inr (2, [.ref a1, .ref a2, .int 1])), (a2, .inr (11, [.ref a3, .ref a4, .int 1])), (a3, .inl (k0, 362, .inl (upd (fun _ => 0) 0 4))), (a4, .inl (k1, 362, .inr (.inl (vp_updL (fun _ => 0) 0 123)))), (a1, .inr (6, [.ref a5, .int 0, .int 0]))] := hD
  refine lv_icmp_le (tgt := 38) hx hb d_Blocks_begin_24 (by decide) (fun _ => ?_) (fun h => (h (by decide +kernel)).elim)
  refine lv_aload_n hx hb d_Blocks_begin_38 rfl (lv_at hl 0 rfl) ?_
  refine lv_bipush (v := 125) hx hb d_Blocks_begin_39 (by decide) ?_
  have hPc := hP.sub (ws' := [(a0, .inr (2, [.ref a1, .ref a2, .int 1])), (a2, .inr (11, [.ref a3, .ref a4, .int 1])), (a3, .inl (k0, 362, .inl (upd (fun _ => 0) 0 4))), (a4, .inl (k1, 362, .inr (.inl (vp_updL (fun _ => 0) 0 123))))]) [0, 1, 2, 3] rfl
  have hDc := hD.sub (ws' := [(a0, .inr (2, [.ref a1, .ref a2, .int 1])), (a2, .inr (11, [.ref a3, .ref a4, .int 1])), (a3, .inl (k0, 362, .inl (upd (fun _ => 0) 0 4))), (a4, .inl (k1, 362, .inr (.inl (vp_updL (fun _ => 0) 0 123))))]) [0, 1, 2, 3] (by decide) rfl
  have hKc := hK.sub (tys' := [(k0, .int), (k1, .long)]) [0, 1] rfl
  have hFc := va_free (wc := [(a0, .inr (2, [.ref a1, .ref a2, .int 1])), (a2, .inr (11, [.ref a3, .ref a4, .int 1])), (a3, .inl (k0, 362, .inl (upd (fun _ => 0) 0 4))), (a4, .inl (k1, 362, .inr (.inl (vp_updL (fun _ => 0) 0 123))))]) hD hS hA [0, 1, 2, 3] rfl
  refine va_callv (va_runV (As := [.int 125]) (rest := []) ⟨hx, hb, hml, hown, hz⟩ (c34_Blocks_putIn l dC dI H.size a0 a2 a3 a4 a1 k0 k1) (cwV 1 hz (zV zm_153 zm_154 zm_155 zm_96 zm_156) rfl rfl rfl (by decide +kernel) ⟨Nat.le_of_ble_eq_true rfl, Nat.le_of_ble_eq_true rfl⟩) ⟨fun a U g mk q => by obtain ⟨q0, q1, qP, qK, qD⟩ := q; exact ⟨q0, q1, qP, va_K.moved (u := U) (U := U.calling g mk a) (Vm.Alike.refl U.vm) qK, qD⟩, va_recv (q := (R_Blocks, F_Blocks, 3)) (q0 := 0) (ci := 2) hK hP rfl rfl, fun U hU hW => ⟨rfl, by rw [hU], by rw [hU]; exact hPc, va_K.moved hW.alike hKc, hDc.weaken (fun _ _ _ _ => trivial)⟩⟩ rfl rfl hl.1 rfl (lv_room (Nat.le_of_ble_eq_true rfl)) d_Blocks_begin_41 ⟨by decide, by decide⟩) hS (fun q _ h => hFc q h) hFc (fun u t H1 locs ht hvm hw hB hz1 hk1 hS => ?_)
  obtain ⟨hP1, hK1, hD1⟩ := hB
  rw [ht] at hP1
  obtain ⟨hP, hD⟩ := va_join (wr := [(a1, .inr (6, [.ref a5, .int 0, .int 0]))]) (w1 := [(a0, .inr (2, [.ref a1, .ref a2, .int 1])), (a2, .inr (11, [.ref a3, .ref a4, .int 2])), (a3, .inl (k0, 362, .inl (upd (upd (fun _ => 0) 0 4) 1 4))), (a4, .inl (k1, 362, .inr (.inl (vp_updL (vp_updL (fun _ => 0) 0 123) 1 125))))]) hP hD [0, 1, 2, 3] [4] rfl rfl (by decide) (by decide) hk1 hFc hP1 hD1
  generalize H1 = H at hP hS ⊢
  have hP : va_P (dC, dI) vcl [(a1, .inr (6, [.ref a5, .int 0, .int 0])), (a0, .inr (2, [.ref a1, .ref a2, .int 1])), (a2, .inr (11, [.ref a3, .ref a4, .int 2])), (a3, .inl (k0, 362, .inl (upd (upd (fun _ => 0) 0 4) 1 4))), (a4, .inl (k1, 362, .inr (.inl (vp_updL (vp_updL (fun _ => 0) 0 123) 1 125))))] H := hP
  have hD : va_D A [(a1, .inr (6, [.ref a5, .int 0, .int 0])), (a0, .inr (2, [.ref a1, .ref a2, .int 1])), (a2, .inr (11, [.ref a3, .ref a4, .int 2])), (a3, .inl (k0, 362, .inl (upd (upd (fun _ => 0) 0 4) 1 4))), (a4, .inl (k1, 362, .inr (.inl (vp_updL (vp_updL (fun _ => 0) 0 123) 1 125))))] := hD
  refine lv_iload_n hx hb d_Blocks_begin_44 rfl (lv_at hl 1 rfl) ?_
  refine lv_if_le (tgt := 53) hx hb d_Blocks_begin_45 (by decide) (fun _ => ?_) (fun h => (h (by decide +kernel)).elim)
  have hP9 := hP.sub (ws' := [(a0, .inr (2, [.ref a1, .ref a2, .int 1])), (a1, .inr (6, [.ref a5, .int 0, .int 0])), (a2, .inr (11, [.ref a3, .ref a4, .int 2])), (a3, .inl (k0, 362, .inl (upd (upd (fun _ => 0) 0 4) 1 4))), (a4, .inl (k1, 362, .inr (.inl (vp_updL (vp_updL (fun _ => 0) 0 123) 1 125))))]) [1, 0, 2, 3, 4] rfl
  have hD9 := hD.sub (ws' := [(a0, .inr (2, [.ref a1, .ref a2, .int 1])), (a1, .inr (6, [.ref a5, .int 0, .int 0])), (a2, .inr (11, [.ref a3, .ref a4, .int 2])), (a3, .inl (k0, 362, .inl (upd (upd (fun _ => 0) 0 4) 1 4))), (a4, .inl (k1, 362, .inr (.inl (vp_updL (vp_updL (fun _ => 0) 0 123) 1 125))))]) [1, 0, 2, 3, 4] (by decide) rfl
  have hK9 := hK.sub (tys' := [(k0, .int), (k1, .long)]) [0, 1] rfl
  exact W.vret hx hb hr (fun t ht hW => ⟨⟨(), rfl, trivial, by rw [ht]; exact hP9, va_K.moved hW.alike hK9, hD9⟩, hS.F ht⟩) hS.2.2 d_Blocks_begin_53
set_option maxHeartbeats 4000000 in
set_option maxRecDepth 100000 in
theorem c36_Blocks_putBefore (l : Launch) (dC : Nat → ClassId) (dI : Nat → Nat → Nat) (sz : Nat) (a0 : Nat) (a1 : Nat) (a2 : Nat) (a3 : Nat) (a4 : Nat) (a5 : Nat) (a6 : Nat) (a7 : Nat) (a8 : Nat) (a9 : Nat) (a10 : Nat) (a11 : Nat) (a12 : Nat) (k0 : ClassId) (k1 : ClassId) : Met l y_Blocks_putBefore w_Blocks_putBefore ({ frames := 3, cells := 0, slots := 0, locals := 65 }) (va_Pc [.ref a0, .ref a1, .int 0] (fun U => U.heap.size = sz ∧ va_P (dC, dI) vcl [(a1, .inr (5, [.ref a2, .ref a7, .ref a8, .ref a9])), (a2, .inr (11, [.ref a10, .ref a11, .int 0])), (a0, .inr (2, [.ref a3, .ref a4, .int 0])), (a3, .inr (6, [.ref a12, .int 0, .int 0])), (a4, .inr (11, [.ref a5, .ref a6, .int 0])), (a5, .inl (k0, 362, .inl (fun _ => 0))), (a6, .inl (k1, 362, .inr (.inl (fun _ => 0))))] U.heap ∧ va_K (dC, dI) vcl [(k0, .int), (k1, .long)] U ∧ va_D (fun _ => True) [(a1, .inr (5, [.ref a2, .ref a7, .ref a8, .ref a9])), (a2, .inr (11, [.ref a10, .ref a11, .int 0])), (a0, .inr (2, [.ref a3, .ref a4, .int 0])), (a3, .inr (6, [.ref a12, .int 0, .int 0])), (a4, .inr (11, [.ref a5, .ref a6, .int 0])), (a5, .inl (k0, 362, .inl (fun _ => 0))), (a6, .inl (k1, 362, .inr (.inl (fun _ => 0))))])) (va_Qv (fun (_ : Unit) => True) (fun _ t => va_P (dC, dI) vcl [(a1, .inr (5, [.ref a2, .ref a7, .ref a8, .ref a9])), (a2, .inr (11, [.ref a10, .ref a11, .int 0])), (a0, .inr (2, [.ref a3, .ref a4, .int 1])), (a3, .inr (6, [.ref a12, .int 0, .int 0])), (a4, .inr (11, [.ref a5, .ref a6, .int 2])), (a5, .inl (k0, 362, .inl (upd (upd (fun _ => 0) 0 4) 1 4))), (a6, .inl (k1, 362, .inr (.inl (vp_updL (vp_updL (fun _ => 0) 0 123) 1 125))))] t.heap ∧ va_K (dC, dI) vcl [(k0, .int), (k1, .long)] t ∧ va_D (va_A [(a1, .inr (5, [.ref a2, .ref a7, .ref a8, .ref a9])), (a2, .inr (11, [.ref a10, .ref a11, .int 0])), (a0, .inr (2, [.ref a3, .ref a4, .int 0])), (a3, .inr (6, [.ref a12, .int 0, .int 0])), (a4, .inr (11, [.ref a5, .ref a6, .int 0])), (a5, .inl (k0, 362, .inl (fun _ => 0))), (a6, .inl (k1, 362, .inr (.inl (fun _ => 0))))] sz) [(a1, .inr (5, [.ref a2, .ref a7, .ref a8, .ref a9])), (a2, .inr (11, [.ref a10, .ref a11, .int 0])), (a0, .inr (2, [.ref a3, .ref a4, .int 1])), (a3, .inr (6, [.ref a12, .int 0, .int 0])), (a4, .inr (11, [.ref a5, .ref a6, .int 2])), (a5, .inl (k0, 362, .inl (upd (upd (fun _ => 0) 0 4) 1 4))), (a6, .inl (k1, 362, .inr (.inl (vp_updL (vp_updL (fun _ => 0) 0 123) 1 125))))]) (va_A [(a1, .inr (5, [.ref a2, .ref a7, .ref a8, .ref a9])), (a2, .inr (11, [.ref a10, .ref a11, .int 0])), (a0, .inr (2, [.ref a3, .ref a4, .int 0])), (a3, .inr (6, [.ref a12, .int 0, .int 0])), (a4, .inr (11, [.ref a5, .ref a6, .int 0])), (a5, .inl (k0, 362, .inl (fun _ => 0))), (a6, .inl (k1, 362, .inr (.inl (fun _ => 0))))] sz)) 0 0 (va_A [(a1, .inr (5, [.ref a2, .ref a7, .ref a8, .ref a9])), (a2, .inr (11, [.ref a10, .ref a11, .int 0])), (a0, .inr (2, [.ref a3, .ref a4, .int 0])), (a3, .inr (6, [.ref a12, .int 0, .int 0])), (a4, .inr (11, [.ref a5, .ref a6, .int 0])), (a5, .inl (k0, 362, .inl (fun _ => 0))), (a6, .inl (k1, 362, .inr (.inl (fun _ => 0))))] sz) := by
  refine Met.ofW (cc := b_Blocks_putBefore) (maxL := 3) (ret := none) (by decide) rfl ?_
  intro p e s m args below meth c s₁ B hml hv
  obtain ⟨rfl, hsz, hP, hK, hD0⟩ := hv
  have hx := B.exec
  have hb := B.bytes
  have hr := B.returns
  have hts := atoms_spec (ws := w_Blocks_putBefore) B.pre
  have hz : ∀ w ∈ wz, w.before _ s = true := fun w h => hts w (List.mem_cons_of_mem _ h)
  have hown : s.vm.findClass R_Blocks = some m.cls := findClass_of_methodNamed B.named
  have hlocks := B.notSynchronized
  subst hsz
  have hD := hD0.self (sz := s.heap.size)
  generalize hAe : va_A [(a1, .inr (5, [.ref a2, .ref a7, .ref a8, .ref a9])), (a2, .inr (11, [.ref a10, .ref a11, .int 0])), (a0, .inr (2, [.ref a3, .ref a4, .int 0])), (a3, .inr (6, [.ref a12, .int 0, .int 0])), (a4, .inr (11, [.ref a5, .ref a6, .int 0])), (a5, .inl (k0, 362, .inl (fun _ => 0))), (a6, .inl (k1, 362, .inr (.inl (fun _ => 0))))] s.heap.size = A at hD ⊢
  have hA : ∀ q : Nat, s.heap.size ≤ q → A q := fun q h => by rw [← hAe]; exact Or.inr h
  have hS : va_S A s.heap s.heap [] := va_S.rf
  have hP : va_P (dC, dI) vcl [(a1, .inr (5, [.ref a2, .ref a7, .ref a8, .ref a9])), (a2, .inr (11, [.ref a10, .ref a11, .int 0])), (a0, .inr (2, [.ref a3, .ref a4, .int 0])), (a3, .inr (6, [.ref a12, .int 0, .int 0])), (a4, .inr (11, [.ref a5, .ref a6, .int 0])), (a5, .inl (k0, 362, .inl (fun _ => 0))), (a6, .inl (k1, 362, .inr (.inl (fun _ => 0))))] s.heap := hP
  have hl := lv_entry ([.ref a0, .ref a1, .int 0]) (n := 3) (Nat.le_of_ble_eq_true rfl)
  rw [lg_entry_eq]
  generalize (lg_sl ([.ref a0, .ref a1, .int 0]) ++ List.replicate (3 - (lg_sl ([.ref a0, .ref a1, .int 0])).length) Slot.unset).toArray = ls at hl ⊢
  have hl : lv_has ls 3 [(0, .ref a0), (1, .ref a1), (2, .int 0)] := hl
  refine lv_aload_n hx hb d_Blocks_putBefore_0 rfl (lv_at hl 1 rfl) ?_
  have hPc := hP.sub (ws' := [(a1, .inr (5, [.ref a2, .ref a7, .ref a8, .ref a9]))]) [0] rfl
  have hDc := hD.sub (ws' := [(a1, .inr (5, [.ref a2, .ref a7, .ref a8, .ref a9]))]) [0] (by decide) rfl
  have hKc := hK.sub (tys' := []) [] rfl
  have hFc := va_free (wc := [(a1, .inr (5, [.ref a2, .ref a7, .ref a8, .ref a9]))]) hD hS hA [0] rfl
  refine va_callr (va_runV (As := []) (rest := []) ⟨hx, hb, hml, hown, hz⟩ (c23_Lexemes_tokens l dC dI s.heap.size a1 a2 a7 a8 a9) (cwV 0 hz (zV zm_161 zm_162 zm_163 zm_29 zm_164) rfl rfl rfl (by decide +kernel) ⟨Nat.le_of_ble_eq_true rfl, Nat.le_of_ble_eq_true rfl⟩) ⟨fun a U g mk q => by obtain ⟨q0, q1, qP, qK, qD⟩ := q; exact ⟨q0, q1, qP, va_K.moved (u := U) (U := U.calling g mk a) (Vm.Alike.refl U.vm) qK, qD⟩, va_recv (q := (R_Lexemes, F_Lexemes, 4)) (q0 := 0) (ci := 5) hK hP rfl rfl, fun U hU hW => ⟨rfl, by rw [hU], by rw [hU]; exact hPc, va_K.moved hW.alike hKc, hDc.weaken (fun _ _ _ _ => trivial)⟩⟩ rfl rfl hl.1 rfl (lv_room (Nat.le_of_ble_eq_true rfl)) d_Blocks_putBefore_1 ⟨by decide, by decide⟩) hS (fun q _ h => hFc q h) hFc (fun u ra t H1 locs ht hvm hw hB hz1 hk1 hS => ?_)
  obtain ⟨hra, hP1, hK1, hD1⟩ := hB
  subst ra
  rw [ht] at hP1
  obtain ⟨hP, hD⟩ := va_join (wr := [(a2, .inr (11, [.ref a10, .ref a11, .int 0])), (a0, .inr (2, [.ref a3, .ref a4, .int 0])), (a3, .inr (6, [.ref a12, .int 0, .int 0])), (a4, .inr (11, [.ref a5, .ref a6, .int 0])), (a5, .inl (k0, 362, .inl (fun _ => 0))), (a6, .inl (k1, 362, .inr (.inl (fun _ => 0))))]) (w1 := [(a1, .inr (5, [.ref a2, .ref a7, .ref a8, .ref a9]))]) hP hD [0] [1, 2, 3, 4, 5, 6] rfl rfl (by decide) (by decide) hk1 hFc hP1 hD1
  generalize H1 = H at hP hS ⊢
  have hP : va_P (dC, dI) vcl [(a2, .inr (11, [.ref a10, .ref a11, .int 0])), (a0, .inr (2, [.ref a3, .ref a4, .int 0])), (a3, .inr (6, [.ref a12, .int 0, .int 0])), (a4, .inr (11, [.ref a5, .ref a6, .int 0])), (a5, .inl (k0, 362, .inl (fun _ => 0))), (a6, .inl (k1, 362, .inr (.inl (fun _ => 0)))), (a1, .inr (5, [.ref a2, .ref a7, .ref a8, .ref a9]))] H := hP
  have hD : va_D A [(a2, .inr (11, [.ref a10, .ref a11, .int 0])), (a0, .inr (2, [.ref a3, .ref a4, .int 0])), (a3, .inr (6, [.ref a12, .int 0, .int 0])), (a4, .inr (11, [.ref a5, .ref a6, .int 0])), (a5, .inl (k0, 362, .inl (fun _ => 0))), (a6, .inl (k1, 362, .inr (.inl (fun _ => 0)))), (a1, .inr (5, [.ref a2, .ref a7, .ref a8, .ref a9]))] := hD
  refine lv_iload_n hx hb d_Blocks_putBefore_4 rfl (lv_at hl 2 rfl) ?_
  have hPc := hP.sub (ws' := [(a2, .inr (11, [.ref a10, .ref a11, .int 0]))]) [0] rfl
  have hDc := hD.sub (ws' := [(a2, .inr (11, [.ref a10, .ref a11, .int 0]))]) [0] (by decide) rfl
  have hKc := hK.sub (tys' := []) [] rfl
  have hFc := va_free (wc := [(a2, .inr (11, [.ref a10, .ref a11, .int 0]))]) hD hS hA [0] rfl
  refine va_calli (va_runS (As := [.ref a2, .int 0]) (rest := []) ⟨hx, hb, hml, hown, hz⟩ (c27_Blocks_beginsBlock l dC dI H.size a2 a10 a11) (cwS 2 hz (zS zm_165 zm_166 zm_96 zm_167) rfl rfl rfl (by decide +kernel) ⟨Nat.le_of_ble_eq_true rfl, Nat.le_of_ble_eq_true rfl⟩) ⟨fun a U g mk q => by obtain ⟨q0, q1, qP, qK, qD⟩ := q; exact ⟨q0, q1, qP, va_K.moved (u := U) (U := U.calling g mk a) (Vm.Alike.refl U.vm) qK, qD⟩, fun U hU hW => ⟨rfl, by rw [hU], by rw [hU]; exact hPc, va_K.moved hW.alike hKc, hDc.weaken (fun _ _ _ _ => trivial)⟩⟩ rfl rfl hl.1 rfl (lv_room (Nat.le_of_ble_eq_true rfl)) d_Blocks_putBefore_5 ⟨by decide, by decide⟩) hS (fun q _ h => hFc q h) hFc (fun r u t H1 locs ht hvm hw hB hz1 hk1 hS => ?_)
  obtain ⟨hP1, hK1, hD1⟩ := hB
  subst r
  rw [ht] at hP1
  obtain ⟨hP, hD⟩ := va_join (wr := [(a0, .inr (2, [.ref a3, .ref a4, .int 0])), (a3, .inr (6, [.ref a12, .int 0, .int 0])), (a4, .inr (11, [.ref a5, .ref a6, .int 0])), (a5, .inl (k0, 362, .inl (fun _ => 0))), (a6, .inl (k1, 362, .inr (.inl (fun _ => 0)))), (a1, .inr (5, [.ref a2, .ref a7, .ref a8, .ref a9]))]) (w1 := [(a2, .inr (11, [.ref a10, .ref a11, .int 0]))]) hP hD [0] [1, 2, 3, 4, 5, 6] rfl rfl (by decide) (by decide) hk1 hFc hP1 hD1
  generalize H1 = H at hP hS ⊢
  have hP : va_P (dC, dI) vcl [(a0, .inr (2, [.ref a3, .ref a4, .int 0])), (a3, .inr (6, [.ref a12, .int 0, .int 0])), (a4, .inr (11, [.ref a5, .ref a6, .int 0])), (a5, .inl (k0, 362, .inl (fun _ => 0))), (a6, .inl (k1, 362, .inr (.inl (fun _ => 0)))), (a1, .inr (5, [.ref a2, .ref a7, .ref a8, .ref a9])), (a2, .inr (11, [.ref a10, .ref a11, .int 0]))] H := hP
  have hD : va_D A [(a0, .inr (2, [.ref a3, .ref a4, .int 0])), (a3, .inr (6, [.ref a12, .int 0, .int 0])), (a4, .inr (11, [.ref a5, .ref a6, .int 0])), (a5, .inl (k0, 362, .inl (fun _ => 0))), (a6, .inl (k1, 362, .inr (.inl (fun _ => 0)))), (a1, .inr (5, [.ref a2, .ref a7, .ref a8, .ref a9])), (a2, .inr (11, [.ref a10, .ref a11, .int 0]))] := hD
  refine lv_if_eq (tgt := 23) hx hb d_Blocks_putBefore_8 (by decide) (fun h => absurd h (by decide +kernel)) (fun _ => ?_)
  refine lv_aload_n hx hb d_Blocks_putBefore_11 rfl (lv_at hl 0 rfl) ?_
  refine lv_aload_n hx hb d_Blocks_putBefore_12 rfl (lv_at hl 1 rfl) ?_
  refine lv_iload_n hx hb d_Blocks_putBefore_13 rfl (lv_at hl 2 rfl) ?_
  have hPc := hP.sub (ws' := [(a1, .inr (5, [.ref a2, .ref a7, .ref a8, .ref a9])), (a2, .inr (11, [.ref a10, .ref a11, .int 0]))]) [5, 6] rfl
  have hDc := hD.sub (ws' := [(a1, .inr (5, [.ref a2, .ref a7, .ref a8, .ref a9])), (a2, .inr (11, [.ref a10, .ref a11, .int 0]))]) [5, 6] (by decide) rfl
  have hKc := hK.sub (tys' := []) [] rfl
  have hFc := va_free (wc := [(a1, .inr (5, [.ref a2, .ref a7, .ref a8, .ref a9])), (a2, .inr (11, [.ref a10, .ref a11, .int 0]))]) hD hS hA [5, 6] rfl
  refine va_calli (va_runV (As := [.int 0]) (rest := [.ref a0]) ⟨hx, hb, hml, hown, hz⟩ (c29_Lexemes_columnAt l dC dI H.size a1 a2 a7 a8 a9 a10 a11) (cwV 1 hz (zV zm_168 zm_169 zm_170 zm_29 zm_171) rfl rfl rfl (by decide +kernel) ⟨Nat.le_of_ble_eq_true rfl, Nat.le_of_ble_eq_true rfl⟩) ⟨fun a U g mk q => by obtain ⟨q0, q1, qP, qK, qD⟩ := q; exact ⟨q0, q1, qP, va_K.moved (u := U) (U := U.calling g mk a) (Vm.Alike.refl U.vm) qK, qD⟩, va_recv (q := (R_Lexemes, F_Lexemes, 4)) (q0 := 5) (ci := 5) hK hP rfl rfl, fun U hU hW => ⟨rfl, by rw [hU], by rw [hU]; exact hPc, va_K.moved hW.alike hKc, hDc.weaken (fun _ _ _ _ => trivial)⟩⟩ rfl rfl hl.1 rfl (lv_room (Nat.le_of_ble_eq_true rfl)) d_Blocks_putBefore_14 ⟨by decide, by decide⟩) hS (fun q _ h => hFc q h) hFc (fun r u t H1 locs ht hvm hw hB hz1 hk1 hS => ?_)
  obtain ⟨hP1, hK1, hD1⟩ := hB
  subst r
  rw [ht] at hP1
  obtain ⟨hP, hD⟩ := va_join (wr := [(a0, .inr (2, [.ref a3, .ref a4, .int 0])), (a3, .inr (6, [.ref a12, .int 0, .int 0])), (a4, .inr (11, [.ref a5, .ref a6, .int 0])), (a5, .inl (k0, 362, .inl (fun _ => 0))), (a6, .inl (k1, 362, .inr (.inl (fun _ => 0))))]) (w1 := [(a1, .inr (5, [.ref a2, .ref a7, .ref a8, .ref a9])), (a2, .inr (11, [.ref a10, .ref a11, .int 0]))]) hP hD [5, 6] [0, 1, 2, 3, 4] rfl rfl (by decide) (by decide) hk1 hFc hP1 hD1
  generalize H1 = H at hP hS ⊢
  have hP : va_P (dC, dI) vcl [(a0, .inr (2, [.ref a3, .ref a4, .int 0])), (a3, .inr (6, [.ref a12, .int 0, .int 0])), (a4, .inr (11, [.ref a5, .ref a6, .int 0])), (a5, .inl (k0, 362, .inl (fun _ => 0))), (a6, .inl (k1, 362, .inr (.inl (fun _ => 0)))), (a1, .inr (5, [.ref a2, .ref a7, .ref a8, .ref a9])), (a2, .inr (11, [.ref a10, .ref a11, .int 0]))] H := hP
  have hD : va_D A [(a0, .inr (2, [.ref a3, .ref a4, .int 0])), (a3, .inr (6, [.ref a12, .int 0, .int 0])), (a4, .inr (11, [.ref a5, .ref a6, .int 0])), (a5, .inl (k0, 362, .inl (fun _ => 0))), (a6, .inl (k1, 362, .inr (.inl (fun _ => 0)))), (a1, .inr (5, [.ref a2, .ref a7, .ref a8, .ref a9])), (a2, .inr (11, [.ref a10, .ref a11, .int 0]))] := hD
  have hPc := hP.sub (ws' := [(a0, .inr (2, [.ref a3, .ref a4, .int 0])), (a3, .inr (6, [.ref a12, .int 0, .int 0])), (a4, .inr (11, [.ref a5, .ref a6, .int 0])), (a5, .inl (k0, 362, .inl (fun _ => 0))), (a6, .inl (k1, 362, .inr (.inl (fun _ => 0))))]) [0, 1, 2, 3, 4] rfl
  have hDc := hD.sub (ws' := [(a0, .inr (2, [.ref a3, .ref a4, .int 0])), (a3, .inr (6, [.ref a12, .int 0, .int 0])), (a4, .inr (11, [.ref a5, .ref a6, .int 0])), (a5, .inl (k0, 362, .inl (fun _ => 0))), (a6, .inl (k1, 362, .inr (.inl (fun _ => 0))))]) [0, 1, 2, 3, 4] (by decide) rfl
  have hKc := hK.sub (tys' := [(k0, .int), (k1, .long)]) [0, 1] rfl
  have hFc := va_free (wc := [(a0, .inr (2, [.ref a3, .ref a4, .int 0])), (a3, .inr (6, [.ref a12, .int 0, .int 0])), (a4, .inr (11, [.ref a5, .ref a6, .int 0])), (a5, .inl (k0, 362, .inl (fun _ => 0))), (a6, .inl (k1, 362, .inr (.inl (fun _ => 0))))]) hD hS hA [0, 1, 2, 3, 4] rfl
  refine va_callv (va_runV (As := [.int 0]) (rest := []) ⟨hx, hb, hml, hown, hz⟩ (c35_Blocks_begin l dC dI H.size a0 a3 a4 a5 a6 a12 k0 k1) (cwV 1 hz (zV zm_172 zm_173 zm_174 zm_96 zm_175) rfl rfl rfl (by decide +kernel) ⟨Nat.le_of_ble_eq_true rfl, Nat.le_of_ble_eq_true rfl⟩) ⟨fun a U g mk q => by obtain ⟨q0, q1, qP, qK, qD⟩ := q; exact ⟨q0, q1, qP, va_K.moved (u := U) (U := U.calling g mk a) (Vm.Alike.refl U.vm) qK, qD⟩, va_recv (q := (R_Blocks, F_Blocks, 3)) (q0 := 0) (ci := 2) hK hP rfl rfl, fun U hU hW => ⟨rfl, by rw [hU], by rw [hU]; exact hPc, va_K.moved hW.alike hKc, hDc.weaken (fun _ _ _ _ => trivial)⟩⟩ rfl rfl hl.1 rfl (lv_room (Nat.le_of_ble_eq_true rfl)) d_Blocks_putBefore_17 ⟨by decide, by decide⟩) hS (fun q _ h => hFc q h) hFc (fun u t H1 locs ht hvm hw hB hz1 hk1 hS => ?_)
  obtain ⟨hP1, hK1, hD1⟩ := hB
  rw [ht] at hP1
  obtain ⟨hP, hD⟩ := va_join (wr := [(a1, .inr (5, [.ref a2, .ref a7, .ref a8, .ref a9])), (a2, .inr (11, [.ref a10, .ref a11, .int 0]))]) (w1 := [(a0, .inr (2, [.ref a3, .ref a4, .int 1])), (a3, .inr (6, [.ref a12, .int 0, .int 0])), (a4, .inr (11, [.ref a5, .ref a6, .int 2])), (a5, .inl (k0, 362, .inl (upd (upd (fun _ => 0) 0 4) 1 4))), (a6, .inl (k1, 362, .inr (.inl (vp_updL (vp_updL (fun _ => 0) 0 123) 1 125))))]) hP hD [0, 1, 2, 3, 4] [5, 6] rfl rfl (by decide) (by decide) hk1 hFc hP1 hD1
  generalize H1 = H at hP hS ⊢
  have hP : va_P (dC, dI) vcl [(a1, .inr (5, [.ref a2, .ref a7, .ref a8, .ref a9])), (a2, .inr (11, [.ref a10, .ref a11, .int 0])), (a0, .inr (2, [.ref a3, .ref a4, .int 1])), (a3, .inr (6, [.ref a12, .int 0, .int 0])), (a4, .inr (11, [.ref a5, .ref a6, .int 2])), (a5, .inl (k0, 362, .inl (upd (upd (fun _ => 0) 0 4) 1 4))), (a6, .inl (k1, 362, .inr (.inl (vp_updL (vp_updL (fun _ => 0) 0 123) 1 125))))] H := hP
  have hD : va_D A [(a1, .inr (5, [.ref a2, .ref a7, .ref a8, .ref a9])), (a2, .inr (11, [.ref a10, .ref a11, .int 0])), (a0, .inr (2, [.ref a3, .ref a4, .int 1])), (a3, .inr (6, [.ref a12, .int 0, .int 0])), (a4, .inr (11, [.ref a5, .ref a6, .int 2])), (a5, .inl (k0, 362, .inl (upd (upd (fun _ => 0) 0 4) 1 4))), (a6, .inl (k1, 362, .inr (.inl (vp_updL (vp_updL (fun _ => 0) 0 123) 1 125))))] := hD
  refine lv_goto (tgt := 44) hx hb d_Blocks_putBefore_20 (by decide) ?_
  have hP9 := hP.sub (ws' := [(a1, .inr (5, [.ref a2, .ref a7, .ref a8, .ref a9])), (a2, .inr (11, [.ref a10, .ref a11, .int 0])), (a0, .inr (2, [.ref a3, .ref a4, .int 1])), (a3, .inr (6, [.ref a12, .int 0, .int 0])), (a4, .inr (11, [.ref a5, .ref a6, .int 2])), (a5, .inl (k0, 362, .inl (upd (upd (fun _ => 0) 0 4) 1 4))), (a6, .inl (k1, 362, .inr (.inl (vp_updL (vp_updL (fun _ => 0) 0 123) 1 125))))]) [0, 1, 2, 3, 4, 5, 6] rfl
  have hD9 := hD.sub (ws' := [(a1, .inr (5, [.ref a2, .ref a7, .ref a8, .ref a9])), (a2, .inr (11, [.ref a10, .ref a11, .int 0])), (a0, .inr (2, [.ref a3, .ref a4, .int 1])), (a3, .inr (6, [.ref a12, .int 0, .int 0])), (a4, .inr (11, [.ref a5, .ref a6, .int 2])), (a5, .inl (k0, 362, .inl (upd (upd (fun _ => 0) 0 4) 1 4))), (a6, .inl (k1, 362, .inr (.inl (vp_updL (vp_updL (fun _ => 0) 0 123) 1 125))))]) [0, 1, 2, 3, 4, 5, 6] (by decide) rfl
  have hK9 := hK.sub (tys' := [(k0, .int), (k1, .long)]) [0, 1] rfl
  exact W.vret hx hb hr (fun t ht hW => ⟨⟨(), rfl, trivial, by rw [ht]; exact hP9, va_K.moved hW.alike hK9, hD9⟩, hS.F ht⟩) hS.2.2 d_Blocks_putBefore_44
set_option maxHeartbeats 4000000 in
set_option maxRecDepth 100000 in
theorem c37_Open_size (l : Launch) (dC : Nat → ClassId) (dI : Nat → Nat → Nat) (sz : Nat) (a0 : Nat) (a1 : Nat) : Met l y_Open_size w_Open_size ({ frames := 0, cells := 0, slots := 0, locals := 0 }) (va_Pc [.ref a0] (fun U => U.heap.size = sz ∧ va_P (dC, dI) vcl [(a0, .inr (6, [.ref a1, .int 0, .int 0]))] U.heap ∧ va_K (dC, dI) vcl [] U ∧ va_D (fun _ => True) [(a0, .inr (6, [.ref a1, .int 0, .int 0]))])) (va_Qi (fun (r : Int32) (_ : Unit) => r = 0) (fun _ t => va_P (dC, dI) vcl [(a0, .inr (6, [.ref a1, .int 0, .int 0]))] t.heap ∧ va_K (dC, dI) vcl [] t ∧ va_D (va_A [(a0, .inr (6, [.ref a1, .int 0, .int 0]))] sz) [(a0, .inr (6, [.ref a1, .int 0, .int 0]))]) (va_A [(a0, .inr (6, [.ref a1, .int 0, .int 0]))] sz)) 0 0 (va_A [(a0, .inr (6, [.ref a1, .int 0, .int 0]))] sz) := by
  refine Met.ofW (cc := b_Open_size) (maxL := 1) (ret := (some .int)) (by decide) rfl ?_
  intro p e s m args below meth c s₁ B hml hv
  obtain ⟨rfl, hsz, hP, hK, hD0⟩ := hv
  have hx := B.exec
  have hb := B.bytes
  have hr := B.returns
  have hts := atoms_spec (ws := w_Open_size) B.pre
  have hz : ∀ w ∈ wz, w.before _ s = true := fun w h => hts w (List.mem_cons_of_mem _ h)
  have hown : s.vm.findClass R_Open = some m.cls := findClass_of_methodNamed B.named
  have hlocks := B.notSynchronized
  subst hsz
  have hD := hD0.self (sz := s.heap.size)
  generalize hAe : va_A [(a0, .inr (6, [.ref a1, .int 0, .int 0]))] s.heap.size = A at hD ⊢
  have hA : ∀ q : Nat, s.heap.size ≤ q → A q := fun q h => by rw [← hAe]; exact Or.inr h
  have hS : va_S A s.heap s.heap [] := va_S.rf
  have hP : va_P (dC, dI) vcl [(a0, .inr (6, [.ref a1, .int 0, .int 0]))] s.heap := hP
  have hl := lv_entry ([.ref a0]) (n := 1) (Nat.le_of_ble_eq_true rfl)
  rw [lg_entry_eq]
  generalize (lg_sl ([.ref a0]) ++ List.replicate (1 - (lg_sl ([.ref a0])).length) Slot.unset).toArray = ls at hl ⊢
  have hl : lv_has ls 1 [(0, .ref a0)] := hl
  refine lv_aload_n hx hb d_Open_size_0 rfl (lv_at hl 0 rfl) ?_
  refine va_get (D := (dC, dI)) (ci := 6) (v := .int 0) (C := R_Open) (T := F_Open) (N := 3) hx hb hz zu_Open hown hK hP 0 rfl rfl 1 (by decide) (hz (.fieldLink R_Open 15 "LayoutFront$Open" "size" "I") zm_129) (fun _ h9 => h9) rfl d_Open_size_1 ?_
  have hP9 := hP.sub (ws' := [(a0, .inr (6, [.ref a1, .int 0, .int 0]))]) [0] rfl
  have hD9 := hD.sub (ws' := [(a0, .inr (6, [.ref a1, .int 0, .int 0]))]) [0] (by decide) rfl
  have hK9 := hK.sub (tys' := []) [] rfl
  exact W.iret (v := 0) hx hb hr (fun t ht hW => ⟨⟨0, (), rfl, rfl, by rw [ht]; exact hP9, va_K.moved hW.alike hK9, hD9⟩, hS.F ht⟩) hS.2.2 d_Open_size_4
set_option maxHeartbeats 4000000 in
set_option maxRecDepth 100000 in
theorem c38_Blocks_closeBlocks (l : Launch) (dC : Nat → ClassId) (dI : Nat → Nat → Nat) (sz : Nat) (a0 : Nat) (a1 : Nat) (a2 : Nat) (a3 : Nat) : Met l y_Blocks_closeBlocks w_Blocks_closeBlocks ({ frames := 1, cells := 0, slots := 0, locals := 20 }) (va_Pc [.ref a0, .int 1] (fun U => U.heap.size = sz ∧ va_P (dC, dI) vcl [(a0, .inr (2, [.ref a1, .ref a2, .int 1])), (a1, .inr (6, [.ref a3, .int 0, .int 0]))] U.heap ∧ va_K (dC, dI) vcl [] U ∧ va_D (fun _ => True) [(a0, .inr (2, [.ref a1, .ref a2, .int 1])), (a1, .inr (6, [.ref a3, .int 0, .int 0]))])) (va_Qv (fun (_ : Unit) => True) (fun _ t => va_P (dC, dI) vcl [(a0, .inr (2, [.ref a1, .ref a2, .int 1])), (a1, .inr (6, [.ref a3, .int 0, .int 0]))] t.heap ∧ va_K (dC, dI) vcl [] t ∧ va_D (va_A [(a0, .inr (2, [.ref a1, .ref a2, .int 1])), (a1, .inr (6, [.ref a3, .int 0, .int 0]))] sz) [(a0, .inr (2, [.ref a1, .ref a2, .int 1])), (a1, .inr (6, [.ref a3, .int 0, .int 0]))]) (va_A [(a0, .inr (2, [.ref a1, .ref a2, .int 1])), (a1, .inr (6, [.ref a3, .int 0, .int 0]))] sz)) 0 0 (va_A [(a0, .inr (2, [.ref a1, .ref a2, .int 1])), (a1, .inr (6, [.ref a3, .int 0, .int 0]))] sz) := by
  refine Met.ofW (cc := b_Blocks_closeBlocks) (maxL := 3) (ret := none) (by decide) rfl ?_
  intro p e s m args below meth c s₁ B hml hv
  obtain ⟨rfl, hsz, hP, hK, hD0⟩ := hv
  have hx := B.exec
  have hb := B.bytes
  have hr := B.returns
  have hts := atoms_spec (ws := w_Blocks_closeBlocks) B.pre
  have hz : ∀ w ∈ wz, w.before _ s = true := fun w h => hts w (List.mem_cons_of_mem _ h)
  have hown : s.vm.findClass R_Blocks = some m.cls := findClass_of_methodNamed B.named
  have hlocks := B.notSynchronized
  subst hsz
  have hD := hD0.self (sz := s.heap.size)
  generalize hAe : va_A [(a0, .inr (2, [.ref a1, .ref a2, .int 1])), (a1, .inr (6, [.ref a3, .int 0, .int 0]))] s.heap.size = A at hD ⊢
  have hA : ∀ q : Nat, s.heap.size ≤ q → A q := fun q h => by rw [← hAe]; exact Or.inr h
  have hS : va_S A s.heap s.heap [] := va_S.rf
  have hP : va_P (dC, dI) vcl [(a0, .inr (2, [.ref a1, .ref a2, .int 1])), (a1, .inr (6, [.ref a3, .int 0, .int 0]))] s.heap := hP
  have hl := lv_entry ([.ref a0, .int 1]) (n := 3) (Nat.le_of_ble_eq_true rfl)
  rw [lg_entry_eq]
  generalize (lg_sl ([.ref a0, .int 1]) ++ List.replicate (3 - (lg_sl ([.ref a0, .int 1])).length) Slot.unset).toArray = ls at hl ⊢
  have hl : lv_has ls 3 [(0, .ref a0), (1, .int 1)] := hl
  refine lv_aload_n hx hb d_Blocks_closeBlocks_0 rfl (lv_at hl 0 rfl) ?_
  refine va_get (D := (dC, dI)) (ci := 2) (v := .ref a1) (C := R_Blocks) (T := F_Blocks) (N := 3) hx hb hz zu_Blocks hown hK hP 0 rfl rfl 0 (by decide) (hz (.fieldLink R_Blocks 12 "LayoutFront$Blocks" "open" "LLayoutFront$Open;") zm_42) (fun _ h9 => h9) rfl d_Blocks_closeBlocks_1 ?_
  have hPc := hP.sub (ws' := [(a1, .inr (6, [.ref a3, .int 0, .int 0]))]) [1] rfl
  have hDc := hD.sub (ws' := [(a1, .inr (6, [.ref a3, .int 0, .int 0]))]) [1] (by decide) rfl
  have hKc := hK.sub (tys' := []) [] rfl
  have hFc := va_free (wc := [(a1, .inr (6, [.ref a3, .int 0, .int 0]))]) hD hS hA [1] rfl
  refine va_calli (va_runV (As := []) (rest := []) ⟨hx, hb, hml, hown, hz⟩ (c37_Open_size l dC dI s.heap.size a1 a3) (cwV 0 hz (zV zm_176 zm_177 zm_178 zm_39 zm_179) rfl rfl rfl (by decide +kernel) ⟨Nat.le_of_ble_eq_true rfl, Nat.le_of_ble_eq_true rfl⟩) ⟨fun a U g mk q => by obtain ⟨q0, q1, qP, qK, qD⟩ := q; exact ⟨q0, q1, qP, va_K.moved (u := U) (U := U.calling g mk a) (Vm.Alike.refl U.vm) qK, qD⟩, va_recv (q := (R_Open, F_Open, 3)) (q0 := 1) (ci := 6) hK hP rfl rfl, fun U hU hW => ⟨rfl, by rw [hU], by rw [hU]; exact hPc, va_K.moved hW.alike hKc, hDc.weaken (fun _ _ _ _ => trivial)⟩⟩ rfl rfl hl.1 rfl (lv_room (Nat.le_of_ble_eq_true rfl)) d_Blocks_closeBlocks_4 ⟨by decide, by decide⟩) hS (fun q _ h => hFc q h) hFc (fun r u t H1 locs ht hvm hw hB hz1 hk1 hS => ?_)
  obtain ⟨hP1, hK1, hD1⟩ := hB
  subst r
  rw [ht] at hP1
  obtain ⟨hP, hD⟩ := va_join (wr := [(a0, .inr (2, [.ref a1, .ref a2, .int 1]))]) (w1 := [(a1, .inr (6, [.ref a3, .int 0, .int 0]))]) hP hD [1] [0] rfl rfl (by decide) (by decide) hk1 hFc hP1 hD1
  generalize H1 = H at hP hS ⊢
  have hP : va_P (dC, dI) vcl [(a0, .inr (2, [.ref a1, .ref a2, .int 1])), (a1, .inr (6, [.ref a3, .int 0, .int 0]))] H := hP
  have hD : va_D A [(a0, .inr (2, [.ref a1, .ref a2, .int 1])), (a1, .inr (6, [.ref a3, .int 0, .int 0]))] := hD
  refine lv_istore_n hx hb d_Blocks_closeBlocks_7 rfl hl (by decide) rfl (fun ls hl => ?_)
  have hl : lv_has ls 3 [(2, .int 0), (0, .ref a0), (1, .int 1)] := hl
  refine lv_iload_n hx hb d_Blocks_closeBlocks_8 rfl (lv_at hl 0 rfl) ?_
  refine lv_if_le (tgt := 62) hx hb d_Blocks_closeBlocks_9 (by decide) (fun _ => ?_) (fun h => (h (by decide +kernel)).elim)
  have hP9 := hP.sub (ws' := [(a0, .inr (2, [.ref a1, .ref a2, .int 1])), (a1, .inr (6, [.ref a3, .int 0, .int 0]))]) [0, 1] rfl
  have hD9 := hD.sub (ws' := [(a0, .inr (2, [.ref a1, .ref a2, .int 1])), (a1, .inr (6, [.ref a3, .int 0, .int 0]))]) [0, 1] (by decide) rfl
  have hK9 := hK.sub (tys' := []) [] rfl
  exact W.vret hx hb hr (fun t ht hW => ⟨⟨(), rfl, trivial, by rw [ht]; exact hP9, va_K.moved hW.alike hK9, hD9⟩, hS.F ht⟩) hS.2.2 d_Blocks_closeBlocks_62
set_option maxHeartbeats 4000000 in
set_option maxRecDepth 100000 in
theorem c39_Blocks_lay (l : Launch) (dC : Nat → ClassId) (dI : Nat → Nat → Nat) (sz : Nat) (a0 : Nat) (a1 : Nat) (a2 : Nat) (a3 : Nat) (a4 : Nat) (a5 : Nat) (a6 : Nat) (a7 : Nat) (a8 : Nat) (a9 : Nat) (a10 : Nat) (a11 : Nat) (a12 : Nat) (k0 : ClassId) (k1 : ClassId) : Met l y_Blocks_lay w_Blocks_lay ({ frames := 4, cells := 0, slots := 0, locals := 87 }) (va_Pc [.ref a0, .ref a1, .int 0] (fun U => U.heap.size = sz ∧ va_P (dC, dI) vcl [(a1, .inr (5, [.ref a2, .ref a7, .ref a8, .ref a9])), (a2, .inr (11, [.ref a10, .ref a11, .int 0])), (a0, .inr (2, [.ref a3, .ref a4, .int 0])), (a3, .inr (6, [.ref a12, .int 0, .int 0])), (a4, .inr (11, [.ref a5, .ref a6, .int 0])), (a5, .inl (k0, 362, .inl (fun _ => 0))), (a6, .inl (k1, 362, .inr (.inl (fun _ => 0))))] U.heap ∧ va_K (dC, dI) vcl [(k0, .int), (k1, .long)] U ∧ va_D (fun _ => True) [(a1, .inr (5, [.ref a2, .ref a7, .ref a8, .ref a9])), (a2, .inr (11, [.ref a10, .ref a11, .int 0])), (a0, .inr (2, [.ref a3, .ref a4, .int 0])), (a3, .inr (6, [.ref a12, .int 0, .int 0])), (a4, .inr (11, [.ref a5, .ref a6, .int 0])), (a5, .inl (k0, 362, .inl (fun _ => 0))), (a6, .inl (k1, 362, .inr (.inl (fun _ => 0))))])) (va_Qi (fun (r : Int32) (_ : Unit) => r = (-1)) (fun _ t => va_P (dC, dI) vcl [(a1, .inr (5, [.ref a2, .ref a7, .ref a8, .ref a9])), (a2, .inr (11, [.ref a10, .ref a11, .int 0])), (a0, .inr (2, [.ref a3, .ref a4, .int 1])), (a3, .inr (6, [.ref a12, .int 0, .int 0])), (a4, .inr (11, [.ref a5, .ref a6, .int 2])), (a5, .inl (k0, 362, .inl (upd (upd (fun _ => 0) 0 4) 1 4))), (a6, .inl (k1, 362, .inr (.inl (vp_updL (vp_updL (fun _ => 0) 0 123) 1 125))))] t.heap ∧ va_K (dC, dI) vcl [(k0, .int), (k1, .long)] t ∧ va_D (va_A [(a1, .inr (5, [.ref a2, .ref a7, .ref a8, .ref a9])), (a2, .inr (11, [.ref a10, .ref a11, .int 0])), (a0, .inr (2, [.ref a3, .ref a4, .int 0])), (a3, .inr (6, [.ref a12, .int 0, .int 0])), (a4, .inr (11, [.ref a5, .ref a6, .int 0])), (a5, .inl (k0, 362, .inl (fun _ => 0))), (a6, .inl (k1, 362, .inr (.inl (fun _ => 0))))] sz) [(a1, .inr (5, [.ref a2, .ref a7, .ref a8, .ref a9])), (a2, .inr (11, [.ref a10, .ref a11, .int 0])), (a0, .inr (2, [.ref a3, .ref a4, .int 1])), (a3, .inr (6, [.ref a12, .int 0, .int 0])), (a4, .inr (11, [.ref a5, .ref a6, .int 2])), (a5, .inl (k0, 362, .inl (upd (upd (fun _ => 0) 0 4) 1 4))), (a6, .inl (k1, 362, .inr (.inl (vp_updL (vp_updL (fun _ => 0) 0 123) 1 125))))]) (va_A [(a1, .inr (5, [.ref a2, .ref a7, .ref a8, .ref a9])), (a2, .inr (11, [.ref a10, .ref a11, .int 0])), (a0, .inr (2, [.ref a3, .ref a4, .int 0])), (a3, .inr (6, [.ref a12, .int 0, .int 0])), (a4, .inr (11, [.ref a5, .ref a6, .int 0])), (a5, .inl (k0, 362, .inl (fun _ => 0))), (a6, .inl (k1, 362, .inr (.inl (fun _ => 0))))] sz)) 0 0 (va_A [(a1, .inr (5, [.ref a2, .ref a7, .ref a8, .ref a9])), (a2, .inr (11, [.ref a10, .ref a11, .int 0])), (a0, .inr (2, [.ref a3, .ref a4, .int 0])), (a3, .inr (6, [.ref a12, .int 0, .int 0])), (a4, .inr (11, [.ref a5, .ref a6, .int 0])), (a5, .inl (k0, 362, .inl (fun _ => 0))), (a6, .inl (k1, 362, .inr (.inl (fun _ => 0))))] sz) := by
  refine Met.ofW (cc := b_Blocks_lay) (maxL := 8) (ret := (some .int)) (by decide) rfl ?_
  intro p e s m args below meth c s₁ B hml hv
  obtain ⟨rfl, hsz, hP, hK, hD0⟩ := hv
  have hx := B.exec
  have hb := B.bytes
  have hr := B.returns
  have hts := atoms_spec (ws := w_Blocks_lay) B.pre
  have hz : ∀ w ∈ wz, w.before _ s = true := fun w h => hts w (List.mem_cons_of_mem _ h)
  have hown : s.vm.findClass R_Blocks = some m.cls := findClass_of_methodNamed B.named
  have hlocks := B.notSynchronized
  subst hsz
  have hD := hD0.self (sz := s.heap.size)
  generalize hAe : va_A [(a1, .inr (5, [.ref a2, .ref a7, .ref a8, .ref a9])), (a2, .inr (11, [.ref a10, .ref a11, .int 0])), (a0, .inr (2, [.ref a3, .ref a4, .int 0])), (a3, .inr (6, [.ref a12, .int 0, .int 0])), (a4, .inr (11, [.ref a5, .ref a6, .int 0])), (a5, .inl (k0, 362, .inl (fun _ => 0))), (a6, .inl (k1, 362, .inr (.inl (fun _ => 0))))] s.heap.size = A at hD ⊢
  have hA : ∀ q : Nat, s.heap.size ≤ q → A q := fun q h => by rw [← hAe]; exact Or.inr h
  have hS : va_S A s.heap s.heap [] := va_S.rf
  have hP : va_P (dC, dI) vcl [(a1, .inr (5, [.ref a2, .ref a7, .ref a8, .ref a9])), (a2, .inr (11, [.ref a10, .ref a11, .int 0])), (a0, .inr (2, [.ref a3, .ref a4, .int 0])), (a3, .inr (6, [.ref a12, .int 0, .int 0])), (a4, .inr (11, [.ref a5, .ref a6, .int 0])), (a5, .inl (k0, 362, .inl (fun _ => 0))), (a6, .inl (k1, 362, .inr (.inl (fun _ => 0))))] s.heap := hP
  have hl := lv_entry ([.ref a0, .ref a1, .int 0]) (n := 8) (Nat.le_of_ble_eq_true rfl)
  rw [lg_entry_eq]
  generalize (lg_sl ([.ref a0, .ref a1, .int 0]) ++ List.replicate (8 - (lg_sl ([.ref a0, .ref a1, .int 0])).length) Slot.unset).toArray = ls at hl ⊢
  have hl : lv_has ls 8 [(0, .ref a0), (1, .ref a1), (2, .int 0)] := hl
  refine lv_aload_n hx hb d_Blocks_lay_0 rfl (lv_at hl 0 rfl) ?_
  refine va_get (D := (dC, dI)) (ci := 2) (v := .ref a3) (C := R_Blocks) (T := F_Blocks) (N := 3) hx hb hz zu_Blocks hown hK hP 2 rfl rfl 0 (by decide) (hz (.fieldLink R_Blocks 12 "LayoutFront$Blocks" "open" "LLayoutFront$Open;") zm_42) (fun _ h9 => h9) rfl d_Blocks_lay_1 ?_
  have hPc := hP.sub (ws' := [(a3, .inr (6, [.ref a12, .int 0, .int 0]))]) [3] rfl
  have hDc := hD.sub (ws' := [(a3, .inr (6, [.ref a12, .int 0, .int 0]))]) [3] (by decide) rfl
  have hKc := hK.sub (tys' := []) [] rfl
  have hFc := va_free (wc := [(a3, .inr (6, [.ref a12, .int 0, .int 0]))]) hD hS hA [3] rfl
  refine va_callv (va_runV (As := []) (rest := []) ⟨hx, hb, hml, hown, hz⟩ (c20_Open_clear l dC dI s.heap.size a3 a12) (cwV 0 hz (zV zm_180 zm_181 zm_182 zm_39 zm_183) rfl rfl rfl (by decide +kernel) ⟨Nat.le_of_ble_eq_true rfl, Nat.le_of_ble_eq_true rfl⟩) ⟨fun a U g mk q => by obtain ⟨q0, q1, qP, qK, qD⟩ := q; exact ⟨q0, q1, qP, va_K.moved (u := U) (U := U.calling g mk a) (Vm.Alike.refl U.vm) qK, qD⟩, va_recv (q := (R_Open, F_Open, 3)) (q0 := 3) (ci := 6) hK hP rfl rfl, fun U hU hW => ⟨rfl, by rw [hU], by rw [hU]; exact hPc, va_K.moved hW.alike hKc, hDc.weaken (fun _ _ _ _ => trivial)⟩⟩ rfl rfl hl.1 rfl (lv_room (Nat.le_of_ble_eq_true rfl)) d_Blocks_lay_4 ⟨by decide, by decide⟩) hS (fun q _ h => hFc q h) hFc (fun u t H1 locs ht hvm hw hB hz1 hk1 hS => ?_)
  obtain ⟨hP1, hK1, hD1⟩ := hB
  rw [ht] at hP1
  obtain ⟨hP, hD⟩ := va_join (wr := [(a1, .inr (5, [.ref a2, .ref a7, .ref a8, .ref a9])), (a2, .inr (11, [.ref a10, .ref a11, .int 0])), (a0, .inr (2, [.ref a3, .ref a4, .int 0])), (a4, .inr (11, [.ref a5, .ref a6, .int 0])), (a5, .inl (k0, 362, .inl (fun _ => 0))), (a6, .inl (k1, 362, .inr (.inl (fun _ => 0))))]) (w1 := [(a3, .inr (6, [.ref a12, .int 0, .int 0]))]) hP hD [3] [0, 1, 2, 4, 5, 6] rfl rfl (by decide) (by decide) hk1 hFc hP1 hD1
  generalize H1 = H at hP hS ⊢
  have hP : va_P (dC, dI) vcl [(a1, .inr (5, [.ref a2, .ref a7, .ref a8, .ref a9])), (a2, .inr (11, [.ref a10, .ref a11, .int 0])), (a0, .inr (2, [.ref a3, .ref a4, .int 0])), (a4, .inr (11, [.ref a5, .ref a6, .int 0])), (a5, .inl (k0, 362, .inl (fun _ => 0))), (a6, .inl (k1, 362, .inr (.inl (fun _ => 0)))), (a3, .inr (6, [.ref a12, .int 0, .int 0]))] H := hP
  have hD : va_D A [(a1, .inr (5, [.ref a2, .ref a7, .ref a8, .ref a9])), (a2, .inr (11, [.ref a10, .ref a11, .int 0])), (a0, .inr (2, [.ref a3, .ref a4, .int 0])), (a4, .inr (11, [.ref a5, .ref a6, .int 0])), (a5, .inl (k0, 362, .inl (fun _ => 0))), (a6, .inl (k1, 362, .inr (.inl (fun _ => 0)))), (a3, .inr (6, [.ref a12, .int 0, .int 0]))] := hD
  refine lv_aload_n hx hb d_Blocks_lay_7 rfl (lv_at hl 0 rfl) ?_
  refine va_get (D := (dC, dI)) (ci := 2) (v := .ref a4) (C := R_Blocks) (T := F_Blocks) (N := 3) hx hb hz zu_Blocks hown hK hP 2 rfl rfl 1 (by decide) (hz (.fieldLink R_Blocks 23 "LayoutFront$Blocks" "laid" "LLayoutFront$Tokens;") zm_45) (fun _ h9 => h9) rfl d_Blocks_lay_8 ?_
  have hPc := hP.sub (ws' := [(a4, .inr (11, [.ref a5, .ref a6, .int 0]))]) [3] rfl
  have hDc := hD.sub (ws' := [(a4, .inr (11, [.ref a5, .ref a6, .int 0]))]) [3] (by decide) rfl
  have hKc := hK.sub (tys' := []) [] rfl
  have hFc := va_free (wc := [(a4, .inr (11, [.ref a5, .ref a6, .int 0]))]) hD hS hA [3] rfl
  refine va_callv (va_runV (As := []) (rest := []) ⟨hx, hb, hml, hown, hz⟩ (c14_Tokens_clear l dC dI H.size a4 a5 a6) (cwV 0 hz (zV zm_184 zm_113 zm_114 zm_17 zm_115) rfl rfl rfl (by decide +kernel) ⟨Nat.le_of_ble_eq_true rfl, Nat.le_of_ble_eq_true rfl⟩) ⟨fun a U g mk q => by obtain ⟨q0, q1, qP, qK, qD⟩ := q; exact ⟨q0, q1, qP, va_K.moved (u := U) (U := U.calling g mk a) (Vm.Alike.refl U.vm) qK, qD⟩, va_recv (q := (R_Tokens, F_Tokens, 3)) (q0 := 3) (ci := 11) hK hP rfl rfl, fun U hU hW => ⟨rfl, by rw [hU], by rw [hU]; exact hPc, va_K.moved hW.alike hKc, hDc.weaken (fun _ _ _ _ => trivial)⟩⟩ rfl rfl hl.1 rfl (lv_room (Nat.le_of_ble_eq_true rfl)) d_Blocks_lay_11 ⟨by decide, by decide⟩) hS (fun q _ h => hFc q h) hFc (fun u t H1 locs ht hvm hw hB hz1 hk1 hS => ?_)
  obtain ⟨hP1, hK1, hD1⟩ := hB
  rw [ht] at hP1
  obtain ⟨hP, hD⟩ := va_join (wr := [(a1, .inr (5, [.ref a2, .ref a7, .ref a8, .ref a9])), (a2, .inr (11, [.ref a10, .ref a11, .int 0])), (a0, .inr (2, [.ref a3, .ref a4, .int 0])), (a5, .inl (k0, 362, .inl (fun _ => 0))), (a6, .inl (k1, 362, .inr (.inl (fun _ => 0)))), (a3, .inr (6, [.ref a12, .int 0, .int 0]))]) (w1 := [(a4, .inr (11, [.ref a5, .ref a6, .int 0]))]) hP hD [3] [0, 1, 2, 4, 5, 6] rfl rfl (by decide) (by decide) hk1 hFc hP1 hD1
  generalize H1 = H at hP hS ⊢
  have hP : va_P (dC, dI) vcl [(a1, .inr (5, [.ref a2, .ref a7, .ref a8, .ref a9])), (a2, .inr (11, [.ref a10, .ref a11, .int 0])), (a0, .inr (2, [.ref a3, .ref a4, .int 0])), (a5, .inl (k0, 362, .inl (fun _ => 0))), (a6, .inl (k1, 362, .inr (.inl (fun _ => 0)))), (a3, .inr (6, [.ref a12, .int 0, .int 0])), (a4, .inr (11, [.ref a5, .ref a6, .int 0]))] H := hP
  have hD : va_D A [(a1, .inr (5, [.ref a2, .ref a7, .ref a8, .ref a9])), (a2, .inr (11, [.ref a10, .ref a11, .int 0])), (a0, .inr (2, [.ref a3, .ref a4, .int 0])), (a5, .inl (k0, 362, .inl (fun _ => 0))), (a6, .inl (k1, 362, .inr (.inl (fun _ => 0)))), (a3, .inr (6, [.ref a12, .int 0, .int 0])), (a4, .inr (11, [.ref a5, .ref a6, .int 0]))] := hD
  refine lv_aload_n hx hb d_Blocks_lay_14 rfl (lv_at hl 0 rfl) ?_
  refine lv_iconst (v := 0) hx hb d_Blocks_lay_15 (by decide) ?_
  refine va_put (D := (dC, dI)) (ci := 2) (v := .int 0) (ty := .int) (C := R_Blocks) (T := F_Blocks) (N := 3) hx hb hz zu_Blocks t_Blocks t_Blocks_ok n_Blocks hown hK hP hD hS 2 rfl rfl 2 (by decide) (hz (.fieldLink R_Blocks 27 "LayoutFront$Blocks" "begun" "I") zm_152) (fun _ h9 => h9) rfl (by decide +kernel) rfl rfl (Nat.le_of_ble_eq_true rfl) d_Blocks_lay_16 (fun H locs hP hD hS => ?_)
  have hP : va_P (dC, dI) vcl [(a1, .inr (5, [.ref a2, .ref a7, .ref a8, .ref a9])), (a2, .inr (11, [.ref a10, .ref a11, .int 0])), (a0, .inr (2, [.ref a3, .ref a4, .int 0])), (a5, .inl (k0, 362, .inl (fun _ => 0))), (a6, .inl (k1, 362, .inr (.inl (fun _ => 0)))), (a3, .inr (6, [.ref a12, .int 0, .int 0])), (a4, .inr (11, [.ref a5, .ref a6, .int 0]))] H := hP
  have hD : va_D A [(a1, .inr (5, [.ref a2, .ref a7, .ref a8, .ref a9])), (a2, .inr (11, [.ref a10, .ref a11, .int 0])), (a0, .inr (2, [.ref a3, .ref a4, .int 0])), (a5, .inl (k0, 362, .inl (fun _ => 0))), (a6, .inl (k1, 362, .inr (.inl (fun _ => 0)))), (a3, .inr (6, [.ref a12, .int 0, .int 0])), (a4, .inr (11, [.ref a5, .ref a6, .int 0]))] := hD
  refine lv_iconst (v := 0) hx hb d_Blocks_lay_19 (by decide) ?_
  refine lv_istore_n hx hb d_Blocks_lay_20 rfl hl (by decide) rfl (fun ls hl => ?_)
  have hl : lv_has ls 8 [(3, .int 0), (0, .ref a0), (1, .ref a1), (2, .int 0)] := hl
  refine lv_iload_n hx hb d_Blocks_lay_21 rfl (lv_at hl 0 rfl) ?_
  refine lv_aload_n hx hb d_Blocks_lay_22 rfl (lv_at hl 2 rfl) ?_
  have hPc := hP.sub (ws' := [(a1, .inr (5, [.ref a2, .ref a7, .ref a8, .ref a9])), (a2, .inr (11, [.ref a10, .ref a11, .int 0]))]) [0, 1] rfl
  have hDc := hD.sub (ws' := [(a1, .inr (5, [.ref a2, .ref a7, .ref a8, .ref a9])), (a2, .inr (11, [.ref a10, .ref a11, .int 0]))]) [0, 1] (by decide) rfl
  have hKc := hK.sub (tys' := []) [] rfl
  have hFc := va_free (wc := [(a1, .inr (5, [.ref a2, .ref a7, .ref a8, .ref a9])), (a2, .inr (11, [.ref a10, .ref a11, .int 0]))]) hD hS hA [0, 1] rfl
  refine va_calli (va_runV (As := []) (rest := [.int 0]) ⟨hx, hb, hml, hown, hz⟩ (c22_Lexemes_size l dC dI H.size a1 a2 a7 a8 a9 a10 a11) (cwV 0 hz (zV zm_185 zm_186 zm_187 zm_29 zm_188) rfl rfl rfl (by decide +kernel) ⟨Nat.le_of_ble_eq_true rfl, Nat.le_of_ble_eq_true rfl⟩) ⟨fun a U g mk q => by obtain ⟨q0, q1, qP, qK, qD⟩ := q; exact ⟨q0, q1, qP, va_K.moved (u := U) (U := U.calling g mk a) (Vm.Alike.refl U.vm) qK, qD⟩, va_recv (q := (R_Lexemes, F_Lexemes, 4)) (q0 := 0) (ci := 5) hK hP rfl rfl, fun U hU hW => ⟨rfl, by rw [hU], by rw [hU]; exact hPc, va_K.moved hW.alike hKc, hDc.weaken (fun _ _ _ _ => trivial)⟩⟩ rfl rfl hl.1 rfl (lv_room (Nat.le_of_ble_eq_true rfl)) d_Blocks_lay_23 ⟨by decide, by decide⟩) hS (fun q _ h => hFc q h) hFc (fun r u t H1 locs ht hvm hw hB hz1 hk1 hS => ?_)
  obtain ⟨hP1, hK1, hD1⟩ := hB
  subst r
  rw [ht] at hP1
  obtain ⟨hP, hD⟩ := va_join (wr := [(a0, .inr (2, [.ref a3, .ref a4, .int 0])), (a5, .inl (k0, 362, .inl (fun _ => 0))), (a6, .inl (k1, 362, .inr (.inl (fun _ => 0)))), (a3, .inr (6, [.ref a12, .int 0, .int 0])), (a4, .inr (11, [.ref a5, .ref a6, .int 0]))]) (w1 := [(a1, .inr (5, [.ref a2, .ref a7, .ref a8, .ref a9])), (a2, .inr (11, [.ref a10, .ref a11, .int 0]))]) hP hD [0, 1] [2, 3, 4, 5, 6] rfl rfl (by decide) (by decide) hk1 hFc hP1 hD1
  generalize H1 = H at hP hS ⊢
  have hP : va_P (dC, dI) vcl [(a0, .inr (2, [.ref a3, .ref a4, .int 0])), (a5, .inl (k0, 362, .inl (fun _ => 0))), (a6, .inl (k1, 362, .inr (.inl (fun _ => 0)))), (a3, .inr (6, [.ref a12, .int 0, .int 0])), (a4, .inr (11, [.ref a5, .ref a6, .int 0])), (a1, .inr (5, [.ref a2, .ref a7, .ref a8, .ref a9])), (a2, .inr (11, [.ref a10, .ref a11, .int 0]))] H := hP
  have hD : va_D A [(a0, .inr (2, [.ref a3, .ref a4, .int 0])), (a5, .inl (k0, 362, .inl (fun _ => 0))), (a6, .inl (k1, 362, .inr (.inl (fun _ => 0)))), (a3, .inr (6, [.ref a12, .int 0, .int 0])), (a4, .inr (11, [.ref a5, .ref a6, .int 0])), (a1, .inr (5, [.ref a2, .ref a7, .ref a8, .ref a9])), (a2, .inr (11, [.ref a10, .ref a11, .int 0]))] := hD
  refine lv_icmp_ge (tgt := 114) hx hb d_Blocks_lay_26 (by decide) (fun _ => ?_) (fun h => (h (by decide +kernel)).elim)
  refine lv_aload_n hx hb d_Blocks_lay_114 rfl (lv_at hl 1 rfl) ?_
  refine lv_aload_n hx hb d_Blocks_lay_115 rfl (lv_at hl 2 rfl) ?_
  refine lv_aload_n hx hb d_Blocks_lay_116 rfl (lv_at hl 2 rfl) ?_
  have hPc := hP.sub (ws' := [(a1, .inr (5, [.ref a2, .ref a7, .ref a8, .ref a9])), (a2, .inr (11, [.ref a10, .ref a11, .int 0]))]) [5, 6] rfl
  have hDc := hD.sub (ws' := [(a1, .inr (5, [.ref a2, .ref a7, .ref a8, .ref a9])), (a2, .inr (11, [.ref a10, .ref a11, .int 0]))]) [5, 6] (by decide) rfl
  have hKc := hK.sub (tys' := []) [] rfl
  have hFc := va_free (wc := [(a1, .inr (5, [.ref a2, .ref a7, .ref a8, .ref a9])), (a2, .inr (11, [.ref a10, .ref a11, .int 0]))]) hD hS hA [5, 6] rfl
  refine va_calli (va_runV (As := []) (rest := [.ref a1, .ref a0]) ⟨hx, hb, hml, hown, hz⟩ (c22_Lexemes_size l dC dI H.size a1 a2 a7 a8 a9 a10 a11) (cwV 0 hz (zV zm_185 zm_186 zm_187 zm_29 zm_188) rfl rfl rfl (by decide +kernel) ⟨Nat.le_of_ble_eq_true rfl, Nat.le_of_ble_eq_true rfl⟩) ⟨fun a U g mk q => by obtain ⟨q0, q1, qP, qK, qD⟩ := q; exact ⟨q0, q1, qP, va_K.moved (u := U) (U := U.calling g mk a) (Vm.Alike.refl U.vm) qK, qD⟩, va_recv (q := (R_Lexemes, F_Lexemes, 4)) (q0 := 5) (ci := 5) hK hP rfl rfl, fun U hU hW => ⟨rfl, by rw [hU], by rw [hU]; exact hPc, va_K.moved hW.alike hKc, hDc.weaken (fun _ _ _ _ => trivial)⟩⟩ rfl rfl hl.1 rfl (lv_room (Nat.le_of_ble_eq_true rfl)) d_Blocks_lay_117 ⟨by decide, by decide⟩) hS (fun q _ h => hFc q h) hFc (fun r u t H1 locs ht hvm hw hB hz1 hk1 hS => ?_)
  obtain ⟨hP1, hK1, hD1⟩ := hB
  subst r
  rw [ht] at hP1
  obtain ⟨hP, hD⟩ := va_join (wr := [(a0, .inr (2, [.ref a3, .ref a4, .int 0])), (a5, .inl (k0, 362, .inl (fun _ => 0))), (a6, .inl (k1, 362, .inr (.inl (fun _ => 0)))), (a3, .inr (6, [.ref a12, .int 0, .int 0])), (a4, .inr (11, [.ref a5, .ref a6, .int 0]))]) (w1 := [(a1, .inr (5, [.ref a2, .ref a7, .ref a8, .ref a9])), (a2, .inr (11, [.ref a10, .ref a11, .int 0]))]) hP hD [5, 6] [0, 1, 2, 3, 4] rfl rfl (by decide) (by decide) hk1 hFc hP1 hD1
  generalize H1 = H at hP hS ⊢
  have hP : va_P (dC, dI) vcl [(a0, .inr (2, [.ref a3, .ref a4, .int 0])), (a5, .inl (k0, 362, .inl (fun _ => 0))), (a6, .inl (k1, 362, .inr (.inl (fun _ => 0)))), (a3, .inr (6, [.ref a12, .int 0, .int 0])), (a4, .inr (11, [.ref a5, .ref a6, .int 0])), (a1, .inr (5, [.ref a2, .ref a7, .ref a8, .ref a9])), (a2, .inr (11, [.ref a10, .ref a11, .int 0]))] H := hP
  have hD : va_D A [(a0, .inr (2, [.ref a3, .ref a4, .int 0])), (a5, .inl (k0, 362, .inl (fun _ => 0))), (a6, .inl (k1, 362, .inr (.inl (fun _ => 0)))), (a3, .inr (6, [.ref a12, .int 0, .int 0])), (a4, .inr (11, [.ref a5, .ref a6, .int 0])), (a1, .inr (5, [.ref a2, .ref a7, .ref a8, .ref a9])), (a2, .inr (11, [.ref a10, .ref a11, .int 0]))] := hD
  have hPc := hP.sub (ws' := [(a1, .inr (5, [.ref a2, .ref a7, .ref a8, .ref a9])), (a2, .inr (11, [.ref a10, .ref a11, .int 0])), (a0, .inr (2, [.ref a3, .ref a4, .int 0])), (a3, .inr (6, [.ref a12, .int 0, .int 0])), (a4, .inr (11, [.ref a5, .ref a6, .int 0])), (a5, .inl (k0, 362, .inl (fun _ => 0))), (a6, .inl (k1, 362, .inr (.inl (fun _ => 0))))]) [5, 6, 0, 3, 4, 1, 2] rfl
  have hDc := hD.sub (ws' := [(a1, .inr (5, [.ref a2, .ref a7, .ref a8, .ref a9])), (a2, .inr (11, [.ref a10, .ref a11, .int 0])), (a0, .inr (2, [.ref a3, .ref a4, .int 0])), (a3, .inr (6, [.ref a12, .int 0, .int 0])), (a4, .inr (11, [.ref a5, .ref a6, .int 0])), (a5, .inl (k0, 362, .inl (fun _ => 0))), (a6, .inl (k1, 362, .inr (.inl (fun _ => 0))))]) [5, 6, 0, 3, 4, 1, 2] (by decide) rfl
  have hKc := hK.sub (tys' := [(k0, .int), (k1, .long)]) [0, 1] rfl
  have hFc := va_free (wc := [(a1, .inr (5, [.ref a2, .ref a7, .ref a8, .ref a9])), (a2, .inr (11, [.ref a10, .ref a11, .int 0])), (a0, .inr (2, [.ref a3, .ref a4, .int 0])), (a3, .inr (6, [.ref a12, .int 0, .int 0])), (a4, .inr (11, [.ref a5, .ref a6, .int 0])), (a5, .inl (k0, 362, .inl (fun _ => 0))), (a6, .inl (k1, 362, .inr (.inl (fun _ => 0))))]) hD hS hA [5, 6, 0, 3, 4, 1, 2] rfl
  refine va_callv (va_runV (As := [.ref a1, .int 0]) (rest := []) ⟨hx, hb, hml, hown, hz⟩ (c36_Blocks_putBefore l dC dI H.size a0 a1 a2 a3 a4 a5 a6 a7 a8 a9 a10 a11 a12 k0 k1) (cwV 2 hz (zV zm_189 zm_190 zm_191 zm_96 zm_192) rfl rfl rfl (by decide +kernel) ⟨Nat.le_of_ble_eq_true rfl, Nat.le_of_ble_eq_true rfl⟩) ⟨fun a U g mk q => by obtain ⟨q0, q1, qP, qK, qD⟩ := q; exact ⟨q0, q1, qP, va_K.moved (u := U) (U := U.calling g mk a) (Vm.Alike.refl U.vm) qK, qD⟩, va_recv (q := (R_Blocks, F_Blocks, 3)) (q0 := 0) (ci := 2) hK hP rfl rfl, fun U hU hW => ⟨rfl, by rw [hU], by rw [hU]; exact hPc, va_K.moved hW.alike hKc, hDc.weaken (fun _ _ _ _ => trivial)⟩⟩ rfl rfl hl.1 rfl (lv_room (Nat.le_of_ble_eq_true rfl)) d_Blocks_lay_120 ⟨by decide, by decide⟩) hS (fun q _ h => hFc q h) hFc (fun u t H1 locs ht hvm hw hB hz1 hk1 hS => ?_)
  obtain ⟨hP1, hK1, hD1⟩ := hB
  rw [ht] at hP1
  obtain ⟨hP, hD⟩ := va_join (wr := []) (w1 := [(a1, .inr (5, [.ref a2, .ref a7, .ref a8, .ref a9])), (a2, .inr (11, [.ref a10, .ref a11, .int 0])), (a0, .inr (2, [.ref a3, .ref a4, .int 1])), (a3, .inr (6, [.ref a12, .int 0, .int 0])), (a4, .inr (11, [.ref a5, .ref a6, .int 2])), (a5, .inl (k0, 362, .inl (upd (upd (fun _ => 0) 0 4) 1 4))), (a6, .inl (k1, 362, .inr (.inl (vp_updL (vp_updL (fun _ => 0) 0 123) 1 125))))]) hP hD [5, 6, 0, 3, 4, 1, 2] [] rfl rfl (by decide) (by decide) hk1 hFc hP1 hD1
  generalize H1 = H at hP hS ⊢
  have hP : va_P (dC, dI) vcl [(a1, .inr (5, [.ref a2, .ref a7, .ref a8, .ref a9])), (a2, .inr (11, [.ref a10, .ref a11, .int 0])), (a0, .inr (2, [.ref a3, .ref a4, .int 1])), (a3, .inr (6, [.ref a12, .int 0, .int 0])), (a4, .inr (11, [.ref a5, .ref a6, .int 2])), (a5, .inl (k0, 362, .inl (upd (upd (fun _ => 0) 0 4) 1 4))), (a6, .inl (k1, 362, .inr (.inl (vp_updL (vp_updL (fun _ => 0) 0 123) 1 125))))] H := hP
  have hD : va_D A [(a1, .inr (5, [.ref a2, .ref a7, .ref a8, .ref a9])), (a2, .inr (11, [.ref a10, .ref a11, .int 0])), (a0, .inr (2, [.ref a3, .ref a4, .int 1])), (a3, .inr (6, [.ref a12, .int 0, .int 0])), (a4, .inr (11, [.ref a5, .ref a6, .int 2])), (a5, .inl (k0, 362, .inl (upd (upd (fun _ => 0) 0 4) 1 4))), (a6, .inl (k1, 362, .inr (.inl (vp_updL (vp_updL (fun _ => 0) 0 123) 1 125))))] := hD
  refine lv_aload_n hx hb d_Blocks_lay_123 rfl (lv_at hl 1 rfl) ?_
  refine lv_iconst (v := 1) hx hb d_Blocks_lay_124 (by decide) ?_
  have hPc := hP.sub (ws' := [(a0, .inr (2, [.ref a3, .ref a4, .int 1])), (a3, .inr (6, [.ref a12, .int 0, .int 0]))]) [2, 3] rfl
  have hDc := hD.sub (ws' := [(a0, .inr (2, [.ref a3, .ref a4, .int 1])), (a3, .inr (6, [.ref a12, .int 0, .int 0]))]) [2, 3] (by decide) rfl
  have hKc := hK.sub (tys' := []) [] rfl
  have hFc := va_free (wc := [(a0, .inr (2, [.ref a3, .ref a4, .int 1])), (a3, .inr (6, [.ref a12, .int 0, .int 0]))]) hD hS hA [2, 3] rfl
  refine va_callv (va_runV (As := [.int 1]) (rest := []) ⟨hx, hb, hml, hown, hz⟩ (c38_Blocks_closeBlocks l dC dI H.size a0 a3 a4 a12) (cwV 1 hz (zV zm_193 zm_194 zm_195 zm_96 zm_196) rfl rfl rfl (by decide +kernel) ⟨Nat.le_of_ble_eq_true rfl, Nat.le_of_ble_eq_true rfl⟩) ⟨fun a U g mk q => by obtain ⟨q0, q1, qP, qK, qD⟩ := q; exact ⟨q0, q1, qP, va_K.moved (u := U) (U := U.calling g mk a) (Vm.Alike.refl U.vm) qK, qD⟩, va_recv (q := (R_Blocks, F_Blocks, 3)) (q0 := 2) (ci := 2) hK hP rfl rfl, fun U hU hW => ⟨rfl, by rw [hU], by rw [hU]; exact hPc, va_K.moved hW.alike hKc, hDc.weaken (fun _ _ _ _ => trivial)⟩⟩ rfl rfl hl.1 rfl (lv_room (Nat.le_of_ble_eq_true rfl)) d_Blocks_lay_125 ⟨by decide, by decide⟩) hS (fun q _ h => hFc q h) hFc (fun u t H1 locs ht hvm hw hB hz1 hk1 hS => ?_)
  obtain ⟨hP1, hK1, hD1⟩ := hB
  rw [ht] at hP1
  obtain ⟨hP, hD⟩ := va_join (wr := [(a1, .inr (5, [.ref a2, .ref a7, .ref a8, .ref a9])), (a2, .inr (11, [.ref a10, .ref a11, .int 0])), (a4, .inr (11, [.ref a5, .ref a6, .int 2])), (a5, .inl (k0, 362, .inl (upd (upd (fun _ => 0) 0 4) 1 4))), (a6, .inl (k1, 362, .inr (.inl (vp_updL (vp_updL (fun _ => 0) 0 123) 1 125))))]) (w1 := [(a0, .inr (2, [.ref a3, .ref a4, .int 1])), (a3, .inr (6, [.ref a12, .int 0, .int 0]))]) hP hD [2, 3] [0, 1, 4, 5, 6] rfl rfl (by decide) (by decide) hk1 hFc hP1 hD1
  generalize H1 = H at hP hS ⊢
  have hP : va_P (dC, dI) vcl [(a1, .inr (5, [.ref a2, .ref a7, .ref a8, .ref a9])), (a2, .inr (11, [.ref a10, .ref a11, .int 0])), (a4, .inr (11, [.ref a5, .ref a6, .int 2])), (a5, .inl (k0, 362, .inl (upd (upd (fun _ => 0) 0 4) 1 4))), (a6, .inl (k1, 362, .inr (.inl (vp_updL (vp_updL (fun _ => 0) 0 123) 1 125)))), (a0, .inr (2, [.ref a3, .ref a4, .int 1])), (a3, .inr (6, [.ref a12, .int 0, .int 0]))] H := hP
  have hD : va_D A [(a1, .inr (5, [.ref a2, .ref a7, .ref a8, .ref a9])), (a2, .inr (11, [.ref a10, .ref a11, .int 0])), (a4, .inr (11, [.ref a5, .ref a6, .int 2])), (a5, .inl (k0, 362, .inl (upd (upd (fun _ => 0) 0 4) 1 4))), (a6, .inl (k1, 362, .inr (.inl (vp_updL (vp_updL (fun _ => 0) 0 123) 1 125)))), (a0, .inr (2, [.ref a3, .ref a4, .int 1])), (a3, .inr (6, [.ref a12, .int 0, .int 0]))] := hD
  refine lv_aload_n hx hb d_Blocks_lay_128 rfl (lv_at hl 1 rfl) ?_
  refine va_get (D := (dC, dI)) (ci := 2) (v := .ref a3) (C := R_Blocks) (T := F_Blocks) (N := 3) hx hb hz zu_Blocks hown hK hP 5 rfl rfl 0 (by decide) (hz (.fieldLink R_Blocks 12 "LayoutFront$Blocks" "open" "LLayoutFront$Open;") zm_42) (fun _ h9 => h9) rfl d_Blocks_lay_129 ?_
  have hPc := hP.sub (ws' := [(a3, .inr (6, [.ref a12, .int 0, .int 0]))]) [6] rfl
  have hDc := hD.sub (ws' := [(a3, .inr (6, [.ref a12, .int 0, .int 0]))]) [6] (by decide) rfl
  have hKc := hK.sub (tys' := []) [] rfl
  have hFc := va_free (wc := [(a3, .inr (6, [.ref a12, .int 0, .int 0]))]) hD hS hA [6] rfl
  refine va_calli (va_runV (As := []) (rest := []) ⟨hx, hb, hml, hown, hz⟩ (c37_Open_size l dC dI H.size a3 a12) (cwV 0 hz (zV zm_176 zm_177 zm_178 zm_39 zm_179) rfl rfl rfl (by decide +kernel) ⟨Nat.le_of_ble_eq_true rfl, Nat.le_of_ble_eq_true rfl⟩) ⟨fun a U g mk q => by obtain ⟨q0, q1, qP, qK, qD⟩ := q; exact ⟨q0, q1, qP, va_K.moved (u := U) (U := U.calling g mk a) (Vm.Alike.refl U.vm) qK, qD⟩, va_recv (q := (R_Open, F_Open, 3)) (q0 := 6) (ci := 6) hK hP rfl rfl, fun U hU hW => ⟨rfl, by rw [hU], by rw [hU]; exact hPc, va_K.moved hW.alike hKc, hDc.weaken (fun _ _ _ _ => trivial)⟩⟩ rfl rfl hl.1 rfl (lv_room (Nat.le_of_ble_eq_true rfl)) d_Blocks_lay_132 ⟨by decide, by decide⟩) hS (fun q _ h => hFc q h) hFc (fun r u t H1 locs ht hvm hw hB hz1 hk1 hS => ?_)
  obtain ⟨hP1, hK1, hD1⟩ := hB
  subst r
  rw [ht] at hP1
  obtain ⟨hP, hD⟩ := va_join (wr := [(a1, .inr (5, [.ref a2, .ref a7, .ref a8, .ref a9])), (a2, .inr (11, [.ref a10, .ref a11, .int 0])), (a4, .inr (11, [.ref a5, .ref a6, .int 2])), (a5, .inl (k0, 362, .inl (upd (upd (fun _ => 0) 0 4) 1 4))), (a6, .inl (k1, 362, .inr (.inl (vp_updL (vp_updL (fun _ => 0) 0 123) 1 125)))), (a0, .inr (2, [.ref a3, .ref a4, .int 1]))]) (w1 := [(a3, .inr (6, [.ref a12, .int 0, .int 0]))]) hP hD [6] [0, 1, 2, 3, 4, 5] rfl rfl (by decide) (by decide) hk1 hFc hP1 hD1
  generalize H1 = H at hP hS ⊢
  have hP : va_P (dC, dI) vcl [(a1, .inr (5, [.ref a2, .ref a7, .ref a8, .ref a9])), (a2, .inr (11, [.ref a10, .ref a11, .int 0])), (a4, .inr (11, [.ref a5, .ref a6, .int 2])), (a5, .inl (k0, 362, .inl (upd (upd (fun _ => 0) 0 4) 1 4))), (a6, .inl (k1, 362, .inr (.inl (vp_updL (vp_updL (fun _ => 0) 0 123) 1 125)))), (a0, .inr (2, [.ref a3, .ref a4, .int 1])), (a3, .inr (6, [.ref a12, .int 0, .int 0]))] H := hP
  have hD : va_D A [(a1, .inr (5, [.ref a2, .ref a7, .ref a8, .ref a9])), (a2, .inr (11, [.ref a10, .ref a11, .int 0])), (a4, .inr (11, [.ref a5, .ref a6, .int 2])), (a5, .inl (k0, 362, .inl (upd (upd (fun _ => 0) 0 4) 1 4))), (a6, .inl (k1, 362, .inr (.inl (vp_updL (vp_updL (fun _ => 0) 0 123) 1 125)))), (a0, .inr (2, [.ref a3, .ref a4, .int 1])), (a3, .inr (6, [.ref a12, .int 0, .int 0]))] := hD
  refine lv_if_ne (tgt := 142) hx hb d_Blocks_lay_135 (by decide) (fun h => (h (by decide +kernel)).elim) (fun _ => ?_)
  refine lv_iconst (v := (-1)) hx hb d_Blocks_lay_138 (by decide) ?_
  refine lv_goto (tgt := 143) hx hb d_Blocks_lay_139 (by decide) ?_
  have hP9 := hP.sub (ws' := [(a1, .inr (5, [.ref a2, .ref a7, .ref a8, .ref a9])), (a2, .inr (11, [.ref a10, .ref a11, .int 0])), (a0, .inr (2, [.ref a3, .ref a4, .int 1])), (a3, .inr (6, [.ref a12, .int 0, .int 0])), (a4, .inr (11, [.ref a5, .ref a6, .int 2])), (a5, .inl (k0, 362, .inl (upd (upd (fun _ => 0) 0 4) 1 4))), (a6, .inl (k1, 362, .inr (.inl (vp_updL (vp_updL (fun _ => 0) 0 123) 1 125))))]) [0, 1, 5, 6, 2, 3, 4] rfl
  have hD9 := hD.sub (ws' := [(a1, .inr (5, [.ref a2, .ref a7, .ref a8, .ref a9])), (a2, .inr (11, [.ref a10, .ref a11, .int 0])), (a0, .inr (2, [.ref a3, .ref a4, .int 1])), (a3, .inr (6, [.ref a12, .int 0, .int 0])), (a4, .inr (11, [.ref a5, .ref a6, .int 2])), (a5, .inl (k0, 362, .inl (upd (upd (fun _ => 0) 0 4) 1 4))), (a6, .inl (k1, 362, .inr (.inl (vp_updL (vp_updL (fun _ => 0) 0 123) 1 125))))]) [0, 1, 5, 6, 2, 3, 4] (by decide) rfl
  have hK9 := hK.sub (tys' := [(k0, .int), (k1, .long)]) [0, 1] rfl
  exact W.iret (v := (-1)) hx hb hr (fun t ht hW => ⟨⟨(-1), (), rfl, rfl, by rw [ht]; exact hP9, va_K.moved hW.alike hK9, hD9⟩, hS.F ht⟩) hS.2.2 d_Blocks_lay_143
set_option maxHeartbeats 4000000 in
set_option maxRecDepth 100000 in
theorem c40_Blocks_laid (l : Launch) (dC : Nat → ClassId) (dI : Nat → Nat → Nat) (sz : Nat) (a0 : Nat) (a1 : Nat) (a2 : Nat) : Met l y_Blocks_laid w_Blocks_laid ({ frames := 0, cells := 0, slots := 0, locals := 0 }) (va_Pc [.ref a0] (fun U => U.heap.size = sz ∧ va_P (dC, dI) vcl [(a0, .inr (2, [.ref a1, .ref a2, .int 1]))] U.heap ∧ va_K (dC, dI) vcl [] U ∧ va_D (fun _ => True) [(a0, .inr (2, [.ref a1, .ref a2, .int 1]))])) (va_Qr (fun (_ : Unit) => True) (fun _ ra t => ra = a2 ∧ va_P (dC, dI) vcl [(a0, .inr (2, [.ref a1, .ref a2, .int 1]))] t.heap ∧ va_K (dC, dI) vcl [] t ∧ va_D (va_A [(a0, .inr (2, [.ref a1, .ref a2, .int 1]))] sz) [(a0, .inr (2, [.ref a1, .ref a2, .int 1]))]) (va_A [(a0, .inr (2, [.ref a1, .ref a2, .int 1]))] sz)) 0 0 (va_A [(a0, .inr (2, [.ref a1, .ref a2, .int 1]))] sz) := by
  refine Met.ofW (cc := b_Blocks_laid) (maxL := 1) (ret := (some (.object "LayoutFront$Tokens"))) (by decide) rfl ?_
  intro p e s m args below meth c s₁ B hml hv
  obtain ⟨rfl, hsz, hP, hK, hD0⟩ := hv
  have hx := B.exec
  have hb := B.bytes
  have hr := B.returns
  have hts := atoms_spec (ws := w_Blocks_laid) B.pre
  have hz : ∀ w ∈ wz, w.before _ s = true := fun w h => hts w (List.mem_cons_of_mem _ h)
  have hown : s.vm.findClass R_Blocks = some m.cls := findClass_of_methodNamed B.named
  have hlocks := B.notSynchronized
  subst hsz
  have hD := hD0.self (sz := s.heap.size)
  generalize hAe : va_A [(a0, .inr (2, [.ref a1, .ref a2, .int 1]))] s.heap.size = A at hD ⊢
  have hA : ∀ q : Nat, s.heap.size ≤ q → A q := fun q h => by rw [← hAe]; exact Or.inr h
  have hS : va_S A s.heap s.heap [] := va_S.rf
  have hP : va_P (dC, dI) vcl [(a0, .inr (2, [.ref a1, .ref a2, .int 1]))] s.heap := hP
  have hl := lv_entry ([.ref a0]) (n := 1) (Nat.le_of_ble_eq_true rfl)
  rw [lg_entry_eq]
  generalize (lg_sl ([.ref a0]) ++ List.replicate (1 - (lg_sl ([.ref a0])).length) Slot.unset).toArray = ls at hl ⊢
  have hl : lv_has ls 1 [(0, .ref a0)] := hl
  refine lv_aload_n hx hb d_Blocks_laid_0 rfl (lv_at hl 0 rfl) ?_
  refine va_get (D := (dC, dI)) (ci := 2) (v := .ref a2) (C := R_Blocks) (T := F_Blocks) (N := 3) hx hb hz zu_Blocks hown hK hP 0 rfl rfl 1 (by decide) (hz (.fieldLink R_Blocks 23 "LayoutFront$Blocks" "laid" "LLayoutFront$Tokens;") zm_45) (fun _ h9 => h9) rfl d_Blocks_laid_1 ?_
  have hP9 := hP.sub (ws' := [(a0, .inr (2, [.ref a1, .ref a2, .int 1]))]) [0] rfl
  have hD9 := hD.sub (ws' := [(a0, .inr (2, [.ref a1, .ref a2, .int 1]))]) [0] (by decide) rfl
  have hK9 := hK.sub (tys' := []) [] rfl
  exact W.aret (v := .ref a2) hx hb hr (Or.inl ⟨_, rfl⟩) (Or.inr ⟨_, rfl⟩) (fun t ht hW => ⟨⟨(), a2, rfl, trivial, rfl, by rw [ht]; exact hP9, va_K.moved hW.alike hK9, hD9⟩, hS.F ht⟩) hS.2.2 d_Blocks_laid_4
set_option maxHeartbeats 4000000 in
set_option maxRecDepth 100000 in
theorem c41_Resolver_startRow (l : Launch) (dC : Nat → ClassId) (dI : Nat → Nat → Nat) (sz : Nat) (a0 : Nat) (a1 : Nat) (a2 : Nat) (a3 : Nat) (a4 : Nat) (a5 : Nat) (a6 : Nat) (a7 : Nat) : Met l y_Resolver_startRow w_Resolver_startRow ({ frames := 0, cells := 0, slots := 0, locals := 0 }) (va_Pc [.ref a0] (fun U => U.heap.size = sz ∧ va_P (dC, dI) vcl [(a0, .inr (7, [.ref a1, .ref a2, .int 0, .int 0, .ref a3, .ref a4, .int 0, .ref a5, .ref a6, .ref a7, .int 0]))] U.heap ∧ va_K (dC, dI) vcl [] U ∧ va_D (fun _ => True) [(a0, .inr (7, [.ref a1, .ref a2, .int 0, .int 0, .ref a3, .ref a4, .int 0, .ref a5, .ref a6, .ref a7, .int 0]))])) (va_Qv (fun (_ : Unit) => True) (fun _ t => va_P (dC, dI) vcl [(a0, .inr (7, [.ref a1, .ref a2, .int 0, .int 0, .ref a3, .ref a4, .int 0, .ref a5, .ref a6, .ref a7, .int 0]))] t.heap ∧ va_K (dC, dI) vcl [] t ∧ va_D (va_A [(a0, .inr (7, [.ref a1, .ref a2, .int 0, .int 0, .ref a3, .ref a4, .int 0, .ref a5, .ref a6, .ref a7, .int 0]))] sz) [(a0, .inr (7, [.ref a1, .ref a2, .int 0, .int 0, .ref a3, .ref a4, .int 0, .ref a5, .ref a6, .ref a7, .int 0]))]) (va_A [(a0, .inr (7, [.ref a1, .ref a2, .int 0, .int 0, .ref a3, .ref a4, .int 0, .ref a5, .ref a6, .ref a7, .int 0]))] sz)) 0 0 (va_A [(a0, .inr (7, [.ref a1, .ref a2, .int 0, .int 0, .ref a3, .ref a4, .int 0, .ref a5, .ref a6, .ref a7, .int 0]))] sz) := by
  refine Met.ofW (cc := b_Resolver_startRow) (maxL := 1) (ret := none) (by decide) rfl ?_
  intro p e s m args below meth c s₁ B hml hv
  obtain ⟨rfl, hsz, hP, hK, hD0⟩ := hv
  have hx := B.exec
  have hb := B.bytes
  have hr := B.returns
  have hts := atoms_spec (ws := w_Resolver_startRow) B.pre
  have hz : ∀ w ∈ wz, w.before _ s = true := fun w h => hts w (List.mem_cons_of_mem _ h)
  have hown : s.vm.findClass R_Resolver = some m.cls := findClass_of_methodNamed B.named
  have hlocks := B.notSynchronized
  subst hsz
  have hD := hD0.self (sz := s.heap.size)
  generalize hAe : va_A [(a0, .inr (7, [.ref a1, .ref a2, .int 0, .int 0, .ref a3, .ref a4, .int 0, .ref a5, .ref a6, .ref a7, .int 0]))] s.heap.size = A at hD ⊢
  have hA : ∀ q : Nat, s.heap.size ≤ q → A q := fun q h => by rw [← hAe]; exact Or.inr h
  have hS : va_S A s.heap s.heap [] := va_S.rf
  have hP : va_P (dC, dI) vcl [(a0, .inr (7, [.ref a1, .ref a2, .int 0, .int 0, .ref a3, .ref a4, .int 0, .ref a5, .ref a6, .ref a7, .int 0]))] s.heap := hP
  have hl := lv_entry ([.ref a0]) (n := 1) (Nat.le_of_ble_eq_true rfl)
  rw [lg_entry_eq]
  generalize (lg_sl ([.ref a0]) ++ List.replicate (1 - (lg_sl ([.ref a0])).length) Slot.unset).toArray = ls at hl ⊢
  have hl : lv_has ls 1 [(0, .ref a0)] := hl
  refine lv_aload_n hx hb d_Resolver_startRow_0 rfl (lv_at hl 0 rfl) ?_
  refine lv_aload_n hx hb d_Resolver_startRow_1 rfl (lv_at hl 0 rfl) ?_
  refine va_get (D := (dC, dI)) (ci := 7) (v := .int 0) (C := R_Resolver) (T := F_Resolver) (N := 11) hx hb hz zu_Resolver hown hK hP 0 rfl rfl 2 (by decide) (hz (.fieldLink R_Resolver 33 "LayoutFront$Resolver" "pairs" "I") zm_197) (fun _ h9 => h9) rfl d_Resolver_startRow_2 ?_
  refine va_put (D := (dC, dI)) (ci := 7) (v := .int 0) (ty := .int) (C := R_Resolver) (T := F_Resolver) (N := 11) hx hb hz zu_Resolver t_Resolver t_Resolver_ok n_Resolver hown hK hP hD hS 0 rfl rfl 3 (by decide) (hz (.fieldLink R_Resolver 40 "LayoutFront$Resolver" "pairsBefore" "I") zm_198) (fun _ h9 => h9) rfl (by decide +kernel) rfl rfl (Nat.le_of_ble_eq_true rfl) d_Resolver_startRow_5 (fun H locs hP hD hS => ?_)
  have hP : va_P (dC, dI) vcl [(a0, .inr (7, [.ref a1, .ref a2, .int 0, .int 0, .ref a3, .ref a4, .int 0, .ref a5, .ref a6, .ref a7, .int 0]))] H := hP
  have hD : va_D A [(a0, .inr (7, [.ref a1, .ref a2, .int 0, .int 0, .ref a3, .ref a4, .int 0, .ref a5, .ref a6, .ref a7, .int 0]))] := hD
  refine lv_aload_n hx hb d_Resolver_startRow_8 rfl (lv_at hl 0 rfl) ?_
  refine lv_iconst (v := 0) hx hb d_Resolver_startRow_9 (by decide) ?_
  refine va_put (D := (dC, dI)) (ci := 7) (v := .int 0) (ty := .int) (C := R_Resolver) (T := F_Resolver) (N := 11) hx hb hz zu_Resolver t_Resolver t_Resolver_ok n_Resolver hown hK hP hD hS 0 rfl rfl 6 (by decide) (hz (.fieldLink R_Resolver 43 "LayoutFront$Resolver" "operands" "I") zm_199) (fun _ h9 => h9) rfl (by decide +kernel) rfl rfl (Nat.le_of_ble_eq_true rfl) d_Resolver_startRow_10 (fun H locs hP hD hS => ?_)
  have hP : va_P (dC, dI) vcl [(a0, .inr (7, [.ref a1, .ref a2, .int 0, .int 0, .ref a3, .ref a4, .int 0, .ref a5, .ref a6, .ref a7, .int 0]))] H := hP
  have hD : va_D A [(a0, .inr (7, [.ref a1, .ref a2, .int 0, .int 0, .ref a3, .ref a4, .int 0, .ref a5, .ref a6, .ref a7, .int 0]))] := hD
  refine lv_aload_n hx hb d_Resolver_startRow_13 rfl (lv_at hl 0 rfl) ?_
  refine lv_iconst (v := 0) hx hb d_Resolver_startRow_14 (by decide) ?_
  refine va_put (D := (dC, dI)) (ci := 7) (v := .int 0) (ty := .int) (C := R_Resolver) (T := F_Resolver) (N := 11) hx hb hz zu_Resolver t_Resolver t_Resolver_ok n_Resolver hown hK hP hD hS 0 rfl rfl 10 (by decide) (hz (.fieldLink R_Resolver 46 "LayoutFront$Resolver" "waiting" "I") zm_200) (fun _ h9 => h9) rfl (by decide +kernel) rfl rfl (Nat.le_of_ble_eq_true rfl) d_Resolver_startRow_15 (fun H locs hP hD hS => ?_)
  have hP : va_P (dC, dI) vcl [(a0, .inr (7, [.ref a1, .ref a2, .int 0, .int 0, .ref a3, .ref a4, .int 0, .ref a5, .ref a6, .ref a7, .int 0]))] H := hP
  have hD : va_D A [(a0, .inr (7, [.ref a1, .ref a2, .int 0, .int 0, .ref a3, .ref a4, .int 0, .ref a5, .ref a6, .ref a7, .int 0]))] := hD
  have hP9 := hP.sub (ws' := [(a0, .inr (7, [.ref a1, .ref a2, .int 0, .int 0, .ref a3, .ref a4, .int 0, .ref a5, .ref a6, .ref a7, .int 0]))]) [0] rfl
  have hD9 := hD.sub (ws' := [(a0, .inr (7, [.ref a1, .ref a2, .int 0, .int 0, .ref a3, .ref a4, .int 0, .ref a5, .ref a6, .ref a7, .int 0]))]) [0] (by decide) rfl
  have hK9 := hK.sub (tys' := []) [] rfl
  exact W.vret hx hb hr (fun t ht hW => ⟨⟨(), rfl, trivial, by rw [ht]; exact hP9, va_K.moved hW.alike hK9, hD9⟩, hS.F ht⟩) hS.2.2 d_Resolver_startRow_18
set_option maxHeartbeats 4000000 in
set_option maxRecDepth 100000 in
theorem c42_Resolver_clear (l : Launch) (dC : Nat → ClassId) (dI : Nat → Nat → Nat) (sz : Nat) (a0 : Nat) (a1 : Nat) (a2 : Nat) (a3 : Nat) (a4 : Nat) (a5 : Nat) (a6 : Nat) (a7 : Nat) : Met l y_Resolver_clear w_Resolver_clear ({ frames := 1, cells := 0, slots := 0, locals := 20 }) (va_Pc [.ref a0] (fun U => U.heap.size = sz ∧ va_P (dC, dI) vcl [(a0, .inr (7, [.ref a1, .ref a2, .int 0, .int 0, .ref a3, .ref a4, .int 0, .ref a5, .ref a6, .ref a7, .int 0]))] U.heap ∧ va_K (dC, dI) vcl [] U ∧ va_D (fun _ => True) [(a0, .inr (7, [.ref a1, .ref a2, .int 0, .int 0, .ref a3, .ref a4, .int 0, .ref a5, .ref a6, .ref a7, .int 0]))])) (va_Qv (fun (_ : Unit) => True) (fun _ t => va_P (dC, dI) vcl [(a0, .inr (7, [.ref a1, .ref a2, .int 0, .int 0, .ref a3, .ref a4, .int 0, .ref a5, .ref a6, .ref a7, .int 0]))] t.heap ∧ va_K (dC, dI) vcl [] t ∧ va_D (va_A [(a0, .inr (7, [.ref a1, .ref a2, .int 0, .int 0, .ref a3, .ref a4, .int 0, .ref a5, .ref a6, .ref a7, .int 0]))] sz) [(a0, .inr (7, [.ref a1, .ref a2, .int 0, .int 0, .ref a3, .ref a4, .int 0, .ref a5, .ref a6, .ref a7, .int 0]))]) (va_A [(a0, .inr (7, [.ref a1, .ref a2, .int 0, .int 0, .ref a3, .ref a4, .int 0, .ref a5, .ref a6, .ref a7, .int 0]))] sz)) 0 0 (va_A [(a0, .inr (7, [.ref a1, .ref a2, .int 0, .int 0, .ref a3, .ref a4, .int 0, .ref a5, .ref a6, .ref a7, .int 0]))] sz) := by
  refine Met.ofW (cc := b_Resolver_clear) (maxL := 1) (ret := none) (by decide) rfl ?_
  intro p e s m args below meth c s₁ B hml hv
  obtain ⟨rfl, hsz, hP, hK, hD0⟩ := hv
  have hx := B.exec
  have hb := B.bytes
  have hr := B.returns
  have hts := atoms_spec (ws := w_Resolver_clear) B.pre
  have hz : ∀ w ∈ wz, w.before _ s = true := fun w h => hts w (List.mem_cons_of_mem _ h)
  have hown : s.vm.findClass R_Resolver = some m.cls := findClass_of_methodNamed B.named
  have hlocks := B.notSynchronized
  subst hsz
  have hD := hD0.self (sz := s.heap.size)
  generalize hAe : va_A [(a0, .inr (7, [.ref a1, .ref a2, .int 0, .int 0, .ref a3, .ref a4, .int 0, .ref a5, .ref a6, .ref a7, .int 0]))] s.heap.size = A at hD ⊢
  have hA : ∀ q : Nat, s.heap.size ≤ q → A q := fun q h => by rw [← hAe]; exact Or.inr h
  have hS : va_S A s.heap s.heap [] := va_S.rf
  have hP : va_P (dC, dI) vcl [(a0, .inr (7, [.ref a1, .ref a2, .int 0, .int 0, .ref a3, .ref a4, .int 0, .ref a5, .ref a6, .ref a7, .int 0]))] s.heap := hP
  have hl := lv_entry ([.ref a0]) (n := 1) (Nat.le_of_ble_eq_true rfl)
  rw [lg_entry_eq]
  generalize (lg_sl ([.ref a0]) ++ List.replicate (1 - (lg_sl ([.ref a0])).length) Slot.unset).toArray = ls at hl ⊢
  have hl : lv_has ls 1 [(0, .ref a0)] := hl
  refine lv_aload_n hx hb d_Resolver_clear_0 rfl (lv_at hl 0 rfl) ?_
  refine lv_iconst (v := 0) hx hb d_Resolver_clear_1 (by decide) ?_
  refine va_put (D := (dC, dI)) (ci := 7) (v := .int 0) (ty := .int) (C := R_Resolver) (T := F_Resolver) (N := 11) hx hb hz zu_Resolver t_Resolver t_Resolver_ok n_Resolver hown hK hP hD hS 0 rfl rfl 2 (by decide) (hz (.fieldLink R_Resolver 33 "LayoutFront$Resolver" "pairs" "I") zm_197) (fun _ h9 => h9) rfl (by decide +kernel) rfl rfl (Nat.le_of_ble_eq_true rfl) d_Resolver_clear_2 (fun H locs hP hD hS => ?_)
  have hP : va_P (dC, dI) vcl [(a0, .inr (7, [.ref a1, .ref a2, .int 0, .int 0, .ref a3, .ref a4, .int 0, .ref a5, .ref a6, .ref a7, .int 0]))] H := hP
  have hD : va_D A [(a0, .inr (7, [.ref a1, .ref a2, .int 0, .int 0, .ref a3, .ref a4, .int 0, .ref a5, .ref a6, .ref a7, .int 0]))] := hD
  refine lv_aload_n hx hb d_Resolver_clear_5 rfl (lv_at hl 0 rfl) ?_
  have hPc := hP.sub (ws' := [(a0, .inr (7, [.ref a1, .ref a2, .int 0, .int 0, .ref a3, .ref a4, .int 0, .ref a5, .ref a6, .ref a7, .int 0]))]) [0] rfl
  have hDc := hD.sub (ws' := [(a0, .inr (7, [.ref a1, .ref a2, .int 0, .int 0, .ref a3, .ref a4, .int 0, .ref a5, .ref a6, .ref a7, .int 0]))]) [0] (by decide) rfl
  have hKc := hK.sub (tys' := []) [] rfl
  have hFc := va_free (wc := [(a0, .inr (7, [.ref a1, .ref a2, .int 0, .int 0, .ref a3, .ref a4, .int 0, .ref a5, .ref a6, .ref a7, .int 0]))]) hD hS hA [0] rfl
  refine va_callv (va_runV (As := []) (rest := []) ⟨hx, hb, hml, hown, hz⟩ (c41_Resolver_startRow l dC dI H.size a0 a1 a2 a3 a4 a5 a6 a7) (cwV 0 hz (zV zm_201 zm_202 zm_203 zm_71 zm_204) rfl rfl rfl (by decide +kernel) ⟨Nat.le_of_ble_eq_true rfl, Nat.le_of_ble_eq_true rfl⟩) ⟨fun a U g mk q => by obtain ⟨q0, q1, qP, qK, qD⟩ := q; exact ⟨q0, q1, qP, va_K.moved (u := U) (U := U.calling g mk a) (Vm.Alike.refl U.vm) qK, qD⟩, va_recv (q := (R_Resolver, F_Resolver, 11)) (q0 := 0) (ci := 7) hK hP rfl rfl, fun U hU hW => ⟨rfl, by rw [hU], by rw [hU]; exact hPc, va_K.moved hW.alike hKc, hDc.weaken (fun _ _ _ _ => trivial)⟩⟩ rfl rfl hl.1 rfl (lv_room (Nat.le_of_ble_eq_true rfl)) d_Resolver_clear_6 ⟨by decide, by decide⟩) hS (fun q _ h => hFc q h) hFc (fun u t H1 locs ht hvm hw hB hz1 hk1 hS => ?_)
  obtain ⟨hP1, hK1, hD1⟩ := hB
  rw [ht] at hP1
  obtain ⟨hP, hD⟩ := va_join (wr := []) (w1 := [(a0, .inr (7, [.ref a1, .ref a2, .int 0, .int 0, .ref a3, .ref a4, .int 0, .ref a5, .ref a6, .ref a7, .int 0]))]) hP hD [0] [] rfl rfl (by decide) (by decide) hk1 hFc hP1 hD1
  generalize H1 = H at hP hS ⊢
  have hP : va_P (dC, dI) vcl [(a0, .inr (7, [.ref a1, .ref a2, .int 0, .int 0, .ref a3, .ref a4, .int 0, .ref a5, .ref a6, .ref a7, .int 0]))] H := hP
  have hD : va_D A [(a0, .inr (7, [.ref a1, .ref a2, .int 0, .int 0, .ref a3, .ref a4, .int 0, .ref a5, .ref a6, .ref a7, .int 0]))] := hD
  have hP9 := hP.sub (ws' := [(a0, .inr (7, [.ref a1, .ref a2, .int 0, .int 0, .ref a3, .ref a4, .int 0, .ref a5, .ref a6, .ref a7, .int 0]))]) [0] rfl
  have hD9 := hD.sub (ws' := [(a0, .inr (7, [.ref a1, .ref a2, .int 0, .int 0, .ref a3, .ref a4, .int 0, .ref a5, .ref a6, .ref a7, .int 0]))]) [0] (by decide) rfl
  have hK9 := hK.sub (tys' := []) [] rfl
  exact W.vret hx hb hr (fun t ht hW => ⟨⟨(), rfl, trivial, by rw [ht]; exact hP9, va_K.moved hW.alike hK9, hD9⟩, hS.F ht⟩) hS.2.2 d_Resolver_clear_9
set_option maxHeartbeats 4000000 in
set_option maxRecDepth 100000 in
theorem c43_Tokens_size (l : Launch) (dC : Nat → ClassId) (dI : Nat → Nat → Nat) (sz : Nat) (a0 : Nat) (a1 : Nat) (a2 : Nat) : Met l y_Tokens_size w_Tokens_size ({ frames := 0, cells := 0, slots := 0, locals := 0 }) (va_Pc [.ref a0] (fun U => U.heap.size = sz ∧ va_P (dC, dI) vcl [(a0, .inr (11, [.ref a1, .ref a2, .int 2]))] U.heap ∧ va_K (dC, dI) vcl [] U ∧ va_D (fun _ => True) [(a0, .inr (11, [.ref a1, .ref a2, .int 2]))])) (va_Qi (fun (r : Int32) (_ : Unit) => r = 2) (fun _ t => va_P (dC, dI) vcl [(a0, .inr (11, [.ref a1, .ref a2, .int 2]))] t.heap ∧ va_K (dC, dI) vcl [] t ∧ va_D (va_A [(a0, .inr (11, [.ref a1, .ref a2, .int 2]))] sz) [(a0, .inr (11, [.ref a1, .ref a2, .int 2]))]) (va_A [(a0, .inr (11, [.ref a1, .ref a2, .int 2]))] sz)) 0 0 (va_A [(a0, .inr (11, [.ref a1, .ref a2, .int 2]))] sz) := by
  refine Met.ofW (cc := b_Tokens_size) (maxL := 1) (ret := (some .int)) (by decide) rfl ?_
  intro p e s m args below meth c s₁ B hml hv
  obtain ⟨rfl, hsz, hP, hK, hD0⟩ := hv
  have hx := B.exec
  have hb := B.bytes
  have hr := B.returns
  have hts := atoms_spec (ws := w_Tokens_size) B.pre
  have hz : ∀ w ∈ wz, w.before _ s = true := fun w h => hts w (List.mem_cons_of_mem _ h)
  have hown : s.vm.findClass R_Tokens = some m.cls := findClass_of_methodNamed B.named
  have hlocks := B.notSynchronized
  subst hsz
  have hD := hD0.self (sz := s.heap.size)
  generalize hAe : va_A [(a0, .inr (11, [.ref a1, .ref a2, .int 2]))] s.heap.size = A at hD ⊢
  have hA : ∀ q : Nat, s.heap.size ≤ q → A q := fun q h => by rw [← hAe]; exact Or.inr h
  have hS : va_S A s.heap s.heap [] := va_S.rf
  have hP : va_P (dC, dI) vcl [(a0, .inr (11, [.ref a1, .ref a2, .int 2]))] s.heap := hP
  have hl := lv_entry ([.ref a0]) (n := 1) (Nat.le_of_ble_eq_true rfl)
  rw [lg_entry_eq]
  generalize (lg_sl ([.ref a0]) ++ List.replicate (1 - (lg_sl ([.ref a0])).length) Slot.unset).toArray = ls at hl ⊢
  have hl : lv_has ls 1 [(0, .ref a0)] := hl
  refine lv_aload_n hx hb d_Tokens_size_0 rfl (lv_at hl 0 rfl) ?_
  refine va_get (D := (dC, dI)) (ci := 11) (v := .int 2) (C := R_Tokens) (T := F_Tokens) (N := 3) hx hb hz zu_Tokens hown hK hP 0 rfl rfl 2 (by decide) (hz (.fieldLink R_Tokens 19 "LayoutFront$Tokens" "size" "I") zm_111) (fun _ h9 => h9) rfl d_Tokens_size_1 ?_
  have hP9 := hP.sub (ws' := [(a0, .inr (11, [.ref a1, .ref a2, .int 2]))]) [0] rfl
  have hD9 := hD.sub (ws' := [(a0, .inr (11, [.ref a1, .ref a2, .int 2]))]) [0] (by decide) rfl
  have hK9 := hK.sub (tys' := []) [] rfl
  exact W.iret (v := 2) hx hb hr (fun t ht hW => ⟨⟨2, (), rfl, rfl, by rw [ht]; exact hP9, va_K.moved hW.alike hK9, hD9⟩, hS.F ht⟩) hS.2.2 d_Tokens_size_4
set_option maxHeartbeats 4000000 in
set_option maxRecDepth 100000 in
theorem c44_Tokens_isSign (l : Launch) (dC : Nat → ClassId) (dI : Nat → Nat → Nat) (sz : Nat) (a0 : Nat) (a1 : Nat) (a2 : Nat) (k0 : ClassId) : Met l y_Tokens_isSign w_Tokens_isSign ({ frames := 0, cells := 0, slots := 0, locals := 0 }) (va_Pc [.ref a0, .int 0, .int 40] (fun U => U.heap.size = sz ∧ va_P (dC, dI) vcl [(a0, .inr (11, [.ref a1, .ref a2, .int 2])), (a1, .inl (k0, 362, .inl (upd (upd (fun _ => 0) 0 4) 1 4)))] U.heap ∧ va_K (dC, dI) vcl [(k0, .int)] U ∧ va_D (fun _ => True) [(a0, .inr (11, [.ref a1, .ref a2, .int 2])), (a1, .inl (k0, 362, .inl (upd (upd (fun _ => 0) 0 4) 1 4)))])) (va_Qi (fun (r : Int32) (_ : Unit) => r = 0) (fun _ t => va_P (dC, dI) vcl [(a0, .inr (11, [.ref a1, .ref a2, .int 2])), (a1, .inl (k0, 362, .inl (upd (upd (fun _ => 0) 0 4) 1 4)))] t.heap ∧ va_K (dC, dI) vcl [(k0, .int)] t ∧ va_D (va_A [(a0, .inr (11, [.ref a1, .ref a2, .int 2])), (a1, .inl (k0, 362, .inl (upd (upd (fun _ => 0) 0 4) 1 4)))] sz) [(a0, .inr (11, [.ref a1, .ref a2, .int 2])), (a1, .inl (k0, 362, .inl (upd (upd (fun _ => 0) 0 4) 1 4)))]) (va_A [(a0, .inr (11, [.ref a1, .ref a2, .int 2])), (a1, .inl (k0, 362, .inl (upd (upd (fun _ => 0) 0 4) 1 4)))] sz)) 0 0 (va_A [(a0, .inr (11, [.ref a1, .ref a2, .int 2])), (a1, .inl (k0, 362, .inl (upd (upd (fun _ => 0) 0 4) 1 4)))] sz) := by
  refine Met.ofW (cc := b_Tokens_isSign) (maxL := 3) (ret := (some .boolean)) (by decide) rfl ?_
  intro p e s m args below meth c s₁ B hml hv
  obtain ⟨rfl, hsz, hP, hK, hD0⟩ := hv
  have hx := B.exec
  have hb := B.bytes
  have hr := B.returns
  have hts := atoms_spec (ws := w_Tokens_isSign) B.pre
  have hz : ∀ w ∈ wz, w.before _ s = true := fun w h => hts w (List.mem_cons_of_mem _ h)
  have hown : s.vm.findClass R_Tokens = some m.cls := findClass_of_methodNamed B.named
  have hlocks := B.notSynchronized
  subst hsz
  have hD := hD0.self (sz := s.heap.size)
  generalize hAe : va_A [(a0, .inr (11, [.ref a1, .ref a2, .int 2])), (a1, .inl (k0, 362, .inl (upd (upd (fun _ => 0) 0 4) 1 4)))] s.heap.size = A at hD ⊢
  have hA : ∀ q : Nat, s.heap.size ≤ q → A q := fun q h => by rw [← hAe]; exact Or.inr h
  have hS : va_S A s.heap s.heap [] := va_S.rf
  have hP : va_P (dC, dI) vcl [(a0, .inr (11, [.ref a1, .ref a2, .int 2])), (a1, .inl (k0, 362, .inl (upd (upd (fun _ => 0) 0 4) 1 4)))] s.heap := hP
  have hl := lv_entry ([.ref a0, .int 0, .int 40]) (n := 3) (Nat.le_of_ble_eq_true rfl)
  rw [lg_entry_eq]
  generalize (lg_sl ([.ref a0, .int 0, .int 40]) ++ List.replicate (3 - (lg_sl ([.ref a0, .int 0, .int 40])).length) Slot.unset).toArray = ls at hl ⊢
  have hl : lv_has ls 3 [(0, .ref a0), (1, .int 0), (2, .int 40)] := hl
  refine lv_iload_n hx hb d_Tokens_isSign_0 rfl (lv_at hl 1 rfl) ?_
  refine lv_if_lt (tgt := 38) hx hb d_Tokens_isSign_1 (by decide) (fun h => absurd h (by decide +kernel)) (fun _ => ?_)
  refine lv_iload_n hx hb d_Tokens_isSign_4 rfl (lv_at hl 1 rfl) ?_
  refine lv_aload_n hx hb d_Tokens_isSign_5 rfl (lv_at hl 0 rfl) ?_
  refine va_get (D := (dC, dI)) (ci := 11) (v := .int 2) (C := R_Tokens) (T := F_Tokens) (N := 3) hx hb hz zu_Tokens hown hK hP 0 rfl rfl 2 (by decide) (hz (.fieldLink R_Tokens 19 "LayoutFront$Tokens" "size" "I") zm_111) (fun _ h9 => h9) rfl d_Tokens_isSign_6 ?_
  refine lv_icmp_ge (tgt := 38) hx hb d_Tokens_isSign_9 (by decide) (fun h => absurd h (by decide +kernel)) (fun _ => ?_)
  refine lv_aload_n hx hb d_Tokens_isSign_12 rfl (lv_at hl 0 rfl) ?_
  refine va_get (D := (dC, dI)) (ci := 11) (v := .ref a1) (C := R_Tokens) (T := F_Tokens) (N := 3) hx hb hz zu_Tokens hown hK hP 0 rfl rfl 0 (by decide) (hz (.fieldLink R_Tokens 9 "LayoutFront$Tokens" "kinds" "[I") zm_12) (fun _ h9 => h9) rfl d_Tokens_isSign_13 ?_
  refine lv_iload_n hx hb d_Tokens_isSign_16 rfl (lv_at hl 1 rfl) ?_
  refine xr_iald (v := 4) hx hb hK hP 1 0 rfl rfl (xr_in (by decide +kernel)) (by decide +kernel) d_Tokens_isSign_17 ?_
  refine lv_iconst (v := 3) hx hb d_Tokens_isSign_18 (by decide) ?_
  refine lv_icmp_ne (tgt := 38) hx hb d_Tokens_isSign_19 (by decide) (fun _ => ?_) (fun h => absurd h (by decide +kernel))
  refine lv_iconst (v := 0) hx hb d_Tokens_isSign_38 (by decide) ?_
  have hP9 := hP.sub (ws' := [(a0, .inr (11, [.ref a1, .ref a2, .int 2])), (a1, .inl (k0, 362, .inl (upd (upd (fun _ => 0) 0 4) 1 4)))]) [0, 1] rfl
  have hD9 := hD.sub (ws' := [(a0, .inr (11, [.ref a1, .ref a2, .int 2])), (a1, .inl (k0, 362, .inl (upd (upd (fun _ => 0) 0 4) 1 4)))]) [0, 1] (by decide) rfl
  have hK9 := hK.sub (tys' := [(k0, .int)]) [0] rfl
  exact W.zret (v := 0) hx hb hr (by decide +kernel) (fun t ht hW => ⟨⟨0, (), rfl, rfl, by rw [ht]; exact hP9, va_K.moved hW.alike hK9, hD9⟩, hS.F ht⟩) hS.2.2 d_Tokens_isSign_39
set_option maxHeartbeats 4000000 in
set_option maxRecDepth 100000 in
theorem c45_Tokens_isSign (l : Launch) (dC : Nat → ClassId) (dI : Nat → Nat → Nat) (sz : Nat) (a0 : Nat) (a1 : Nat) (a2 : Nat) (k0 : ClassId) : Met l y_Tokens_isSign w_Tokens_isSign ({ frames := 0, cells := 0, slots := 0, locals := 0 }) (va_Pc [.ref a0, .int 0, .int 91] (fun U => U.heap.size = sz ∧ va_P (dC, dI) vcl [(a0, .inr (11, [.ref a1, .ref a2, .int 2])), (a1, .inl (k0, 362, .inl (upd (upd (fun _ => 0) 0 4) 1 4)))] U.heap ∧ va_K (dC, dI) vcl [(k0, .int)] U ∧ va_D (fun _ => True) [(a0, .inr (11, [.ref a1, .ref a2, .int 2])), (a1, .inl (k0, 362, .inl (upd (upd (fun _ => 0) 0 4) 1 4)))])) (va_Qi (fun (r : Int32) (_ : Unit) => r = 0) (fun _ t => va_P (dC, dI) vcl [(a0, .inr (11, [.ref a1, .ref a2, .int 2])), (a1, .inl (k0, 362, .inl (upd (upd (fun _ => 0) 0 4) 1 4)))] t.heap ∧ va_K (dC, dI) vcl [(k0, .int)] t ∧ va_D (va_A [(a0, .inr (11, [.ref a1, .ref a2, .int 2])), (a1, .inl (k0, 362, .inl (upd (upd (fun _ => 0) 0 4) 1 4)))] sz) [(a0, .inr (11, [.ref a1, .ref a2, .int 2])), (a1, .inl (k0, 362, .inl (upd (upd (fun _ => 0) 0 4) 1 4)))]) (va_A [(a0, .inr (11, [.ref a1, .ref a2, .int 2])), (a1, .inl (k0, 362, .inl (upd (upd (fun _ => 0) 0 4) 1 4)))] sz)) 0 0 (va_A [(a0, .inr (11, [.ref a1, .ref a2, .int 2])), (a1, .inl (k0, 362, .inl (upd (upd (fun _ => 0) 0 4) 1 4)))] sz) := by
  refine Met.ofW (cc := b_Tokens_isSign) (maxL := 3) (ret := (some .boolean)) (by decide) rfl ?_
  intro p e s m args below meth c s₁ B hml hv
  obtain ⟨rfl, hsz, hP, hK, hD0⟩ := hv
  have hx := B.exec
  have hb := B.bytes
  have hr := B.returns
  have hts := atoms_spec (ws := w_Tokens_isSign) B.pre
  have hz : ∀ w ∈ wz, w.before _ s = true := fun w h => hts w (List.mem_cons_of_mem _ h)
  have hown : s.vm.findClass R_Tokens = some m.cls := findClass_of_methodNamed B.named
  have hlocks := B.notSynchronized
  subst hsz
  have hD := hD0.self (sz := s.heap.size)
  generalize hAe : va_A [(a0, .inr (11, [.ref a1, .ref a2, .int 2])), (a1, .inl (k0, 362, .inl (upd (upd (fun _ => 0) 0 4) 1 4)))] s.heap.size = A at hD ⊢
  have hA : ∀ q : Nat, s.heap.size ≤ q → A q := fun q h => by rw [← hAe]; exact Or.inr h
  have hS : va_S A s.heap s.heap [] := va_S.rf
  have hP : va_P (dC, dI) vcl [(a0, .inr (11, [.ref a1, .ref a2, .int 2])), (a1, .inl (k0, 362, .inl (upd (upd (fun _ => 0) 0 4) 1 4)))] s.heap := hP
  have hl := lv_entry ([.ref a0, .int 0, .int 91]) (n := 3) (Nat.le_of_ble_eq_true rfl)
  rw [lg_entry_eq]
  generalize (lg_sl ([.ref a0, .int 0, .int 91]) ++ List.replicate (3 - (lg_sl ([.ref a0, .int 0, .int 91])).length) Slot.unset).toArray = ls at hl ⊢
  have hl : lv_has ls 3 [(0, .ref a0), (1, .int 0), (2, .int 91)] := hl
  refine lv_iload_n hx hb d_Tokens_isSign_0 rfl (lv_at hl 1 rfl) ?_
  refine lv_if_lt (tgt := 38) hx hb d_Tokens_isSign_1 (by decide) (fun h => absurd h (by decide +kernel)) (fun _ => ?_)
  refine lv_iload_n hx hb d_Tokens_isSign_4 rfl (lv_at hl 1 rfl) ?_
  refine lv_aload_n hx hb d_Tokens_isSign_5 rfl (lv_at hl 0 rfl) ?_
  refine va_get (D := (dC, dI)) (ci := 11) (v := .int 2) (C := R_Tokens) (T := F_Tokens) (N := 3) hx hb hz zu_Tokens hown hK hP 0 rfl rfl 2 (by decide) (hz (.fieldLink R_Tokens 19 "LayoutFront$Tokens" "size" "I") zm_111) (fun _ h9 => h9) rfl d_Tokens_isSign_6 ?_
  refine lv_icmp_ge (tgt := 38) hx hb d_Tokens_isSign_9 (by decide) (fun h => absurd h (by decide +kernel)) (fun _ => ?_)
  refine lv_aload_n hx hb d_Tokens_isSign_12 rfl (lv_at hl 0 rfl) ?_
  refine va_get (D := (dC, dI)) (ci := 11) (v := .ref a1) (C := R_Tokens) (T := F_Tokens) (N := 3) hx hb hz zu_Tokens hown hK hP 0 rfl rfl 0 (by decide) (hz (.fieldLink R_Tokens 9 "LayoutFront$Tokens" "kinds" "[I") zm_12) (fun _ h9 => h9) rfl d_Tokens_isSign_13 ?_
  refine lv_iload_n hx hb d_Tokens_isSign_16 rfl (lv_at hl 1 rfl) ?_
  refine xr_iald (v := 4) hx hb hK hP 1 0 rfl rfl (xr_in (by decide +kernel)) (by decide +kernel) d_Tokens_isSign_17 ?_
  refine lv_iconst (v := 3) hx hb d_Tokens_isSign_18 (by decide) ?_
  refine lv_icmp_ne (tgt := 38) hx hb d_Tokens_isSign_19 (by decide) (fun _ => ?_) (fun h => absurd h (by decide +kernel))
  refine lv_iconst (v := 0) hx hb d_Tokens_isSign_38 (by decide) ?_
  have hP9 := hP.sub (ws' := [(a0, .inr (11, [.ref a1, .ref a2, .int 2])), (a1, .inl (k0, 362, .inl (upd (upd (fun _ => 0) 0 4) 1 4)))]) [0, 1] rfl
  have hD9 := hD.sub (ws' := [(a0, .inr (11, [.ref a1, .ref a2, .int 2])), (a1, .inl (k0, 362, .inl (upd (upd (fun _ => 0) 0 4) 1 4)))]) [0, 1] (by decide) rfl
  have hK9 := hK.sub (tys' := [(k0, .int)]) [0] rfl
  exact W.zret (v := 0) hx hb hr (by decide +kernel) (fun t ht hW => ⟨⟨0, (), rfl, rfl, by rw [ht]; exact hP9, va_K.moved hW.alike hK9, hD9⟩, hS.F ht⟩) hS.2.2 d_Tokens_isSign_39
set_option maxHeartbeats 4000000 in
set_option maxRecDepth 100000 in
theorem c46_Tokens_opensBracket (l : Launch) (dC : Nat → ClassId) (dI : Nat → Nat → Nat) (sz : Nat) (a0 : Nat) (a1 : Nat) (a2 : Nat) (k0 : ClassId) : Met l y_Tokens_opensBracket w_Tokens_opensBracket ({ frames := 1, cells := 0, slots := 0, locals := 22 }) (va_Pc [.ref a0, .int 0] (fun U => U.heap.size = sz ∧ va_P (dC, dI) vcl [(a0, .inr (11, [.ref a1, .ref a2, .int 2])), (a1, .inl (k0, 362, .inl (upd (upd (fun _ => 0) 0 4) 1 4)))] U.heap ∧ va_K (dC, dI) vcl [(k0, .int)] U ∧ va_D (fun _ => True) [(a0, .inr (11, [.ref a1, .ref a2, .int 2])), (a1, .inl (k0, 362, .inl (upd (upd (fun _ => 0) 0 4) 1 4)))])) (va_Qi (fun (r : Int32) (_ : Unit) => r = 0) (fun _ t => va_P (dC, dI) vcl [(a0, .inr (11, [.ref a1, .ref a2, .int 2])), (a1, .inl (k0, 362, .inl (upd (upd (fun _ => 0) 0 4) 1 4)))] t.heap ∧ va_K (dC, dI) vcl [(k0, .int)] t ∧ va_D (va_A [(a0, .inr (11, [.ref a1, .ref a2, .int 2])), (a1, .inl (k0, 362, .inl (upd (upd (fun _ => 0) 0 4) 1 4)))] sz) [(a0, .inr (11, [.ref a1, .ref a2, .int 2])), (a1, .inl (k0, 362, .inl (upd (upd (fun _ => 0) 0 4) 1 4)))]) (va_A [(a0, .inr (11, [.ref a1, .ref a2, .int 2])), (a1, .inl (k0, 362, .inl (upd (upd (fun _ => 0) 0 4) 1 4)))] sz)) 0 0 (va_A [(a0, .inr (11, [.ref a1, .ref a2, .int 2])), (a1, .inl (k0, 362, .inl (upd (upd (fun _ => 0) 0 4) 1 4)))] sz) := by
  refine Met.ofW (cc := b_Tokens_opensBracket) (maxL := 2) (ret := (some .boolean)) (by decide) rfl ?_
  intro p e s m args below meth c s₁ B hml hv
  obtain ⟨rfl, hsz, hP, hK, hD0⟩ := hv
  have hx := B.exec
  have hb := B.bytes
  have hr := B.returns
  have hts := atoms_spec (ws := w_Tokens_opensBracket) B.pre
  have hz : ∀ w ∈ wz, w.before _ s = true := fun w h => hts w (List.mem_cons_of_mem _ h)
  have hown : s.vm.findClass R_Tokens = some m.cls := findClass_of_methodNamed B.named
  have hlocks := B.notSynchronized
  subst hsz
  have hD := hD0.self (sz := s.heap.size)
  generalize hAe : va_A [(a0, .inr (11, [.ref a1, .ref a2, .int 2])), (a1, .inl (k0, 362, .inl (upd (upd (fun _ => 0) 0 4) 1 4)))] s.heap.size = A at hD ⊢
  have hA : ∀ q : Nat, s.heap.size ≤ q → A q := fun q h => by rw [← hAe]; exact Or.inr h
  have hS : va_S A s.heap s.heap [] := va_S.rf
  have hP : va_P (dC, dI) vcl [(a0, .inr (11, [.ref a1, .ref a2, .int 2])), (a1, .inl (k0, 362, .inl (upd (upd (fun _ => 0) 0 4) 1 4)))] s.heap := hP
  have hl := lv_entry ([.ref a0, .int 0]) (n := 2) (Nat.le_of_ble_eq_true rfl)
  rw [lg_entry_eq]
  generalize (lg_sl ([.ref a0, .int 0]) ++ List.replicate (2 - (lg_sl ([.ref a0, .int 0])).length) Slot.unset).toArray = ls at hl ⊢
  have hl : lv_has ls 2 [(0, .ref a0), (1, .int 0)] := hl
  refine lv_aload_n hx hb d_Tokens_opensBracket_0 rfl (lv_at hl 0 rfl) ?_
  refine lv_iload_n hx hb d_Tokens_opensBracket_1 rfl (lv_at hl 1 rfl) ?_
  refine lv_bipush (v := 40) hx hb d_Tokens_opensBracket_2 (by decide) ?_
  have hPc := hP.sub (ws' := [(a0, .inr (11, [.ref a1, .ref a2, .int 2])), (a1, .inl (k0, 362, .inl (upd (upd (fun _ => 0) 0 4) 1 4)))]) [0, 1] rfl
  have hDc := hD.sub (ws' := [(a0, .inr (11, [.ref a1, .ref a2, .int 2])), (a1, .inl (k0, 362, .inl (upd (upd (fun _ => 0) 0 4) 1 4)))]) [0, 1] (by decide) rfl
  have hKc := hK.sub (tys' := [(k0, .int)]) [0] rfl
  have hFc := va_free (wc := [(a0, .inr (11, [.ref a1, .ref a2, .int 2])), (a1, .inl (k0, 362, .inl (upd (upd (fun _ => 0) 0 4) 1 4)))]) hD hS hA [0, 1] rfl
  refine va_calli (va_runV (As := [.int 0, .int 40]) (rest := []) ⟨hx, hb, hml, hown, hz⟩ (c44_Tokens_isSign l dC dI s.heap.size a0 a1 a2 k0) (cwV 2 hz (zV zm_205 zm_140 zm_141 zm_17 zm_142) rfl rfl rfl (by decide +kernel) ⟨Nat.le_of_ble_eq_true rfl, Nat.le_of_ble_eq_true rfl⟩) ⟨fun a U g mk q => by obtain ⟨q0, q1, qP, qK, qD⟩ := q; exact ⟨q0, q1, qP, va_K.moved (u := U) (U := U.calling g mk a) (Vm.Alike.refl U.vm) qK, qD⟩, va_recv (q := (R_Tokens, F_Tokens, 3)) (q0 := 0) (ci := 11) hK hP rfl rfl, fun U hU hW => ⟨rfl, by rw [hU], by rw [hU]; exact hPc, va_K.moved hW.alike hKc, hDc.weaken (fun _ _ _ _ => trivial)⟩⟩ rfl rfl hl.1 rfl (lv_room (Nat.le_of_ble_eq_true rfl)) d_Tokens_opensBracket_4 ⟨by decide, by decide⟩) hS (fun q _ h => hFc q h) hFc (fun r u t H1 locs ht hvm hw hB hz1 hk1 hS => ?_)
  obtain ⟨hP1, hK1, hD1⟩ := hB
  subst r
  rw [ht] at hP1
  obtain ⟨hP, hD⟩ := va_join (wr := []) (w1 := [(a0, .inr (11, [.ref a1, .ref a2, .int 2])), (a1, .inl (k0, 362, .inl (upd (upd (fun _ => 0) 0 4) 1 4)))]) hP hD [0, 1] [] rfl rfl (by decide) (by decide) hk1 hFc hP1 hD1
  generalize H1 = H at hP hS ⊢
  have hP : va_P (dC, dI) vcl [(a0, .inr (11, [.ref a1, .ref a2, .int 2])), (a1, .inl (k0, 362, .inl (upd (upd (fun _ => 0) 0 4) 1 4)))] H := hP
  have hD : va_D A [(a0, .inr (11, [.ref a1, .ref a2, .int 2])), (a1, .inl (k0, 362, .inl (upd (upd (fun _ => 0) 0 4) 1 4)))] := hD
  refine lv_if_ne (tgt := 20) hx hb d_Tokens_opensBracket_7 (by decide) (fun h => (h (by decide +kernel)).elim) (fun _ => ?_)
  refine lv_aload_n hx hb d_Tokens_opensBracket_10 rfl (lv_at hl 0 rfl) ?_
  refine lv_iload_n hx hb d_Tokens_opensBracket_11 rfl (lv_at hl 1 rfl) ?_
  refine lv_bipush (v := 91) hx hb d_Tokens_opensBracket_12 (by decide) ?_
  have hPc := hP.sub (ws' := [(a0, .inr (11, [.ref a1, .ref a2, .int 2])), (a1, .inl (k0, 362, .inl (upd (upd (fun _ => 0) 0 4) 1 4)))]) [0, 1] rfl
  have hDc := hD.sub (ws' := [(a0, .inr (11, [.ref a1, .ref a2, .int 2])), (a1, .inl (k0, 362, .inl (upd (upd (fun _ => 0) 0 4) 1 4)))]) [0, 1] (by decide) rfl
  have hKc := hK.sub (tys' := [(k0, .int)]) [0] rfl
  have hFc := va_free (wc := [(a0, .inr (11, [.ref a1, .ref a2, .int 2])), (a1, .inl (k0, 362, .inl (upd (upd (fun _ => 0) 0 4) 1 4)))]) hD hS hA [0, 1] rfl
  refine va_calli (va_runV (As := [.int 0, .int 91]) (rest := []) ⟨hx, hb, hml, hown, hz⟩ (c45_Tokens_isSign l dC dI H.size a0 a1 a2 k0) (cwV 2 hz (zV zm_205 zm_140 zm_141 zm_17 zm_142) rfl rfl rfl (by decide +kernel) ⟨Nat.le_of_ble_eq_true rfl, Nat.le_of_ble_eq_true rfl⟩) ⟨fun a U g mk q => by obtain ⟨q0, q1, qP, qK, qD⟩ := q; exact ⟨q0, q1, qP, va_K.moved (u := U) (U := U.calling g mk a) (Vm.Alike.refl U.vm) qK, qD⟩, va_recv (q := (R_Tokens, F_Tokens, 3)) (q0 := 0) (ci := 11) hK hP rfl rfl, fun U hU hW => ⟨rfl, by rw [hU], by rw [hU]; exact hPc, va_K.moved hW.alike hKc, hDc.weaken (fun _ _ _ _ => trivial)⟩⟩ rfl rfl hl.1 rfl (lv_room (Nat.le_of_ble_eq_true rfl)) d_Tokens_opensBracket_14 ⟨by decide, by decide⟩) hS (fun q _ h => hFc q h) hFc (fun r u t H1 locs ht hvm hw hB hz1 hk1 hS => ?_)
  obtain ⟨hP1, hK1, hD1⟩ := hB
  subst r
  rw [ht] at hP1
  obtain ⟨hP, hD⟩ := va_join (wr := []) (w1 := [(a0, .inr (11, [.ref a1, .ref a2, .int 2])), (a1, .inl (k0, 362, .inl (upd (upd (fun _ => 0) 0 4) 1 4)))]) hP hD [0, 1] [] rfl rfl (by decide) (by decide) hk1 hFc hP1 hD1
  generalize H1 = H at hP hS ⊢
  have hP : va_P (dC, dI) vcl [(a0, .inr (11, [.ref a1, .ref a2, .int 2])), (a1, .inl (k0, 362, .inl (upd (upd (fun _ => 0) 0 4) 1 4)))] H := hP
  have hD : va_D A [(a0, .inr (11, [.ref a1, .ref a2, .int 2])), (a1, .inl (k0, 362, .inl (upd (upd (fun _ => 0) 0 4) 1 4)))] := hD
  refine lv_if_eq (tgt := 24) hx hb d_Tokens_opensBracket_17 (by decide) (fun _ => ?_) (fun h => (h (by decide +kernel)).elim)
  refine lv_iconst (v := 0) hx hb d_Tokens_opensBracket_24 (by decide) ?_
  have hP9 := hP.sub (ws' := [(a0, .inr (11, [.ref a1, .ref a2, .int 2])), (a1, .inl (k0, 362, .inl (upd (upd (fun _ => 0) 0 4) 1 4)))]) [0, 1] rfl
  have hD9 := hD.sub (ws' := [(a0, .inr (11, [.ref a1, .ref a2, .int 2])), (a1, .inl (k0, 362, .inl (upd (upd (fun _ => 0) 0 4) 1 4)))]) [0, 1] (by decide) rfl
  have hK9 := hK.sub (tys' := [(k0, .int)]) [0] rfl
  exact W.zret (v := 0) hx hb hr (by decide +kernel) (fun t ht hW => ⟨⟨0, (), rfl, rfl, by rw [ht]; exact hP9, va_K.moved hW.alike hK9, hD9⟩, hS.F ht⟩) hS.2.2 d_Tokens_opensBracket_25
set_option maxHeartbeats 4000000 in
set_option maxRecDepth 100000 in
theorem c47_Tokens_isSign (l : Launch) (dC : Nat → ClassId) (dI : Nat → Nat → Nat) (sz : Nat) (a0 : Nat) (a1 : Nat) (a2 : Nat) (k0 : ClassId) : Met l y_Tokens_isSign w_Tokens_isSign ({ frames := 0, cells := 0, slots := 0, locals := 0 }) (va_Pc [.ref a0, .int 0, .int 41] (fun U => U.heap.size = sz ∧ va_P (dC, dI) vcl [(a0, .inr (11, [.ref a1, .ref a2, .int 2])), (a1, .inl (k0, 362, .inl (upd (upd (fun _ => 0) 0 4) 1 4)))] U.heap ∧ va_K (dC, dI) vcl [(k0, .int)] U ∧ va_D (fun _ => True) [(a0, .inr (11, [.ref a1, .ref a2, .int 2])), (a1, .inl (k0, 362, .inl (upd (upd (fun _ => 0) 0 4) 1 4)))])) (va_Qi (fun (r : Int32) (_ : Unit) => r = 0) (fun _ t => va_P (dC, dI) vcl [(a0, .inr (11, [.ref a1, .ref a2, .int 2])), (a1, .inl (k0, 362, .inl (upd (upd (fun _ => 0) 0 4) 1 4)))] t.heap ∧ va_K (dC, dI) vcl [(k0, .int)] t ∧ va_D (va_A [(a0, .inr (11, [.ref a1, .ref a2, .int 2])), (a1, .inl (k0, 362, .inl (upd (upd (fun _ => 0) 0 4) 1 4)))] sz) [(a0, .inr (11, [.ref a1, .ref a2, .int 2])), (a1, .inl (k0, 362, .inl (upd (upd (fun _ => 0) 0 4) 1 4)))]) (va_A [(a0, .inr (11, [.ref a1, .ref a2, .int 2])), (a1, .inl (k0, 362, .inl (upd (upd (fun _ => 0) 0 4) 1 4)))] sz)) 0 0 (va_A [(a0, .inr (11, [.ref a1, .ref a2, .int 2])), (a1, .inl (k0, 362, .inl (upd (upd (fun _ => 0) 0 4) 1 4)))] sz) := by
  refine Met.ofW (cc := b_Tokens_isSign) (maxL := 3) (ret := (some .boolean)) (by decide) rfl ?_
  intro p e s m args below meth c s₁ B hml hv
  obtain ⟨rfl, hsz, hP, hK, hD0⟩ := hv
  have hx := B.exec
  have hb := B.bytes
  have hr := B.returns
  have hts := atoms_spec (ws := w_Tokens_isSign) B.pre
  have hz : ∀ w ∈ wz, w.before _ s = true := fun w h => hts w (List.mem_cons_of_mem _ h)
  have hown : s.vm.findClass R_Tokens = some m.cls := findClass_of_methodNamed B.named
  have hlocks := B.notSynchronized
  subst hsz
  have hD := hD0.self (sz := s.heap.size)
  generalize hAe : va_A [(a0, .inr (11, [.ref a1, .ref a2, .int 2])), (a1, .inl (k0, 362, .inl (upd (upd (fun _ => 0) 0 4) 1 4)))] s.heap.size = A at hD ⊢
  have hA : ∀ q : Nat, s.heap.size ≤ q → A q := fun q h => by rw [← hAe]; exact Or.inr h
  have hS : va_S A s.heap s.heap [] := va_S.rf
  have hP : va_P (dC, dI) vcl [(a0, .inr (11, [.ref a1, .ref a2, .int 2])), (a1, .inl (k0, 362, .inl (upd (upd (fun _ => 0) 0 4) 1 4)))] s.heap := hP
  have hl := lv_entry ([.ref a0, .int 0, .int 41]) (n := 3) (Nat.le_of_ble_eq_true rfl)
  rw [lg_entry_eq]
  generalize (lg_sl ([.ref a0, .int 0, .int 41]) ++ List.replicate (3 - (lg_sl ([.ref a0, .int 0, .int 41])).length) Slot.unset).toArray = ls at hl ⊢
  have hl : lv_has ls 3 [(0, .ref a0), (1, .int 0), (2, .int 41)] := hl
  refine lv_iload_n hx hb d_Tokens_isSign_0 rfl (lv_at hl 1 rfl) ?_
  refine lv_if_lt (tgt := 38) hx hb d_Tokens_isSign_1 (by decide) (fun h => absurd h (by decide +kernel)) (fun _ => ?_)
  refine lv_iload_n hx hb d_Tokens_isSign_4 rfl (lv_at hl 1 rfl) ?_
  refine lv_aload_n hx hb d_Tokens_isSign_5 rfl (lv_at hl 0 rfl) ?_
  refine va_get (D := (dC, dI)) (ci := 11) (v := .int 2) (C := R_Tokens) (T := F_Tokens) (N := 3) hx hb hz zu_Tokens hown hK hP 0 rfl rfl 2 (by decide) (hz (.fieldLink R_Tokens 19 "LayoutFront$Tokens" "size" "I") zm_111) (fun _ h9 => h9) rfl d_Tokens_isSign_6 ?_
  refine lv_icmp_ge (tgt := 38) hx hb d_Tokens_isSign_9 (by decide) (fun h => absurd h (by decide +kernel)) (fun _ => ?_)
  refine lv_aload_n hx hb d_Tokens_isSign_12 rfl (lv_at hl 0 rfl) ?_
  refine va_get (D := (dC, dI)) (ci := 11) (v := .ref a1) (C := R_Tokens) (T := F_Tokens) (N := 3) hx hb hz zu_Tokens hown hK hP 0 rfl rfl 0 (by decide) (hz (.fieldLink R_Tokens 9 "LayoutFront$Tokens" "kinds" "[I") zm_12) (fun _ h9 => h9) rfl d_Tokens_isSign_13 ?_
  refine lv_iload_n hx hb d_Tokens_isSign_16 rfl (lv_at hl 1 rfl) ?_
  refine xr_iald (v := 4) hx hb hK hP 1 0 rfl rfl (xr_in (by decide +kernel)) (by decide +kernel) d_Tokens_isSign_17 ?_
  refine lv_iconst (v := 3) hx hb d_Tokens_isSign_18 (by decide) ?_
  refine lv_icmp_ne (tgt := 38) hx hb d_Tokens_isSign_19 (by decide) (fun _ => ?_) (fun h => absurd h (by decide +kernel))
  refine lv_iconst (v := 0) hx hb d_Tokens_isSign_38 (by decide) ?_
  have hP9 := hP.sub (ws' := [(a0, .inr (11, [.ref a1, .ref a2, .int 2])), (a1, .inl (k0, 362, .inl (upd (upd (fun _ => 0) 0 4) 1 4)))]) [0, 1] rfl
  have hD9 := hD.sub (ws' := [(a0, .inr (11, [.ref a1, .ref a2, .int 2])), (a1, .inl (k0, 362, .inl (upd (upd (fun _ => 0) 0 4) 1 4)))]) [0, 1] (by decide) rfl
  have hK9 := hK.sub (tys' := [(k0, .int)]) [0] rfl
  exact W.zret (v := 0) hx hb hr (by decide +kernel) (fun t ht hW => ⟨⟨0, (), rfl, rfl, by rw [ht]; exact hP9, va_K.moved hW.alike hK9, hD9⟩, hS.F ht⟩) hS.2.2 d_Tokens_isSign_39
set_option maxHeartbeats 4000000 in
set_option maxRecDepth 100000 in
theorem c48_Tokens_isSign (l : Launch) (dC : Nat → ClassId) (dI : Nat → Nat → Nat) (sz : Nat) (a0 : Nat) (a1 : Nat) (a2 : Nat) (k0 : ClassId) : Met l y_Tokens_isSign w_Tokens_isSign ({ frames := 0, cells := 0, slots := 0, locals := 0 }) (va_Pc [.ref a0, .int 0, .int 93] (fun U => U.heap.size = sz ∧ va_P (dC, dI) vcl [(a0, .inr (11, [.ref a1, .ref a2, .int 2])), (a1, .inl (k0, 362, .inl (upd (upd (fun _ => 0) 0 4) 1 4)))] U.heap ∧ va_K (dC, dI) vcl [(k0, .int)] U ∧ va_D (fun _ => True) [(a0, .inr (11, [.ref a1, .ref a2, .int 2])), (a1, .inl (k0, 362, .inl (upd (upd (fun _ => 0) 0 4) 1 4)))])) (va_Qi (fun (r : Int32) (_ : Unit) => r = 0) (fun _ t => va_P (dC, dI) vcl [(a0, .inr (11, [.ref a1, .ref a2, .int 2])), (a1, .inl (k0, 362, .inl (upd (upd (fun _ => 0) 0 4) 1 4)))] t.heap ∧ va_K (dC, dI) vcl [(k0, .int)] t ∧ va_D (va_A [(a0, .inr (11, [.ref a1, .ref a2, .int 2])), (a1, .inl (k0, 362, .inl (upd (upd (fun _ => 0) 0 4) 1 4)))] sz) [(a0, .inr (11, [.ref a1, .ref a2, .int 2])), (a1, .inl (k0, 362, .inl (upd (upd (fun _ => 0) 0 4) 1 4)))]) (va_A [(a0, .inr (11, [.ref a1, .ref a2, .int 2])), (a1, .inl (k0, 362, .inl (upd (upd (fun _ => 0) 0 4) 1 4)))] sz)) 0 0 (va_A [(a0, .inr (11, [.ref a1, .ref a2, .int 2])), (a1, .inl (k0, 362, .inl (upd (upd (fun _ => 0) 0 4) 1 4)))] sz) := by
  refine Met.ofW (cc := b_Tokens_isSign) (maxL := 3) (ret := (some .boolean)) (by decide) rfl ?_
  intro p e s m args below meth c s₁ B hml hv
  obtain ⟨rfl, hsz, hP, hK, hD0⟩ := hv
  have hx := B.exec
  have hb := B.bytes
  have hr := B.returns
  have hts := atoms_spec (ws := w_Tokens_isSign) B.pre
  have hz : ∀ w ∈ wz, w.before _ s = true := fun w h => hts w (List.mem_cons_of_mem _ h)
  have hown : s.vm.findClass R_Tokens = some m.cls := findClass_of_methodNamed B.named
  have hlocks := B.notSynchronized
  subst hsz
  have hD := hD0.self (sz := s.heap.size)
  generalize hAe : va_A [(a0, .inr (11, [.ref a1, .ref a2, .int 2])), (a1, .inl (k0, 362, .inl (upd (upd (fun _ => 0) 0 4) 1 4)))] s.heap.size = A at hD ⊢
  have hA : ∀ q : Nat, s.heap.size ≤ q → A q := fun q h => by rw [← hAe]; exact Or.inr h
  have hS : va_S A s.heap s.heap [] := va_S.rf
  have hP : va_P (dC, dI) vcl [(a0, .inr (11, [.ref a1, .ref a2, .int 2])), (a1, .inl (k0, 362, .inl (upd (upd (fun _ => 0) 0 4) 1 4)))] s.heap := hP
  have hl := lv_entry ([.ref a0, .int 0, .int 93]) (n := 3) (Nat.le_of_ble_eq_true rfl)
  rw [lg_entry_eq]
  generalize (lg_sl ([.ref a0, .int 0, .int 93]) ++ List.replicate (3 - (lg_sl ([.ref a0, .int 0, .int 93])).length) Slot.unset).toArray = ls at hl ⊢
  have hl : lv_has ls 3 [(0, .ref a0), (1, .int 0), (2, .int 93)] := hl
  refine lv_iload_n hx hb d_Tokens_isSign_0 rfl (lv_at hl 1 rfl) ?_
  refine lv_if_lt (tgt := 38) hx hb d_Tokens_isSign_1 (by decide) (fun h => absurd h (by decide +kernel)) (fun _ => ?_)
  refine lv_iload_n hx hb d_Tokens_isSign_4 rfl (lv_at hl 1 rfl) ?_
  refine lv_aload_n hx hb d_Tokens_isSign_5 rfl (lv_at hl 0 rfl) ?_
  refine va_get (D := (dC, dI)) (ci := 11) (v := .int 2) (C := R_Tokens) (T := F_Tokens) (N := 3) hx hb hz zu_Tokens hown hK hP 0 rfl rfl 2 (by decide) (hz (.fieldLink R_Tokens 19 "LayoutFront$Tokens" "size" "I") zm_111) (fun _ h9 => h9) rfl d_Tokens_isSign_6 ?_
  refine lv_icmp_ge (tgt := 38) hx hb d_Tokens_isSign_9 (by decide) (fun h => absurd h (by decide +kernel)) (fun _ => ?_)
  refine lv_aload_n hx hb d_Tokens_isSign_12 rfl (lv_at hl 0 rfl) ?_
  refine va_get (D := (dC, dI)) (ci := 11) (v := .ref a1) (C := R_Tokens) (T := F_Tokens) (N := 3) hx hb hz zu_Tokens hown hK hP 0 rfl rfl 0 (by decide) (hz (.fieldLink R_Tokens 9 "LayoutFront$Tokens" "kinds" "[I") zm_12) (fun _ h9 => h9) rfl d_Tokens_isSign_13 ?_
  refine lv_iload_n hx hb d_Tokens_isSign_16 rfl (lv_at hl 1 rfl) ?_
  refine xr_iald (v := 4) hx hb hK hP 1 0 rfl rfl (xr_in (by decide +kernel)) (by decide +kernel) d_Tokens_isSign_17 ?_
  refine lv_iconst (v := 3) hx hb d_Tokens_isSign_18 (by decide) ?_
  refine lv_icmp_ne (tgt := 38) hx hb d_Tokens_isSign_19 (by decide) (fun _ => ?_) (fun h => absurd h (by decide +kernel))
  refine lv_iconst (v := 0) hx hb d_Tokens_isSign_38 (by decide) ?_
  have hP9 := hP.sub (ws' := [(a0, .inr (11, [.ref a1, .ref a2, .int 2])), (a1, .inl (k0, 362, .inl (upd (upd (fun _ => 0) 0 4) 1 4)))]) [0, 1] rfl
  have hD9 := hD.sub (ws' := [(a0, .inr (11, [.ref a1, .ref a2, .int 2])), (a1, .inl (k0, 362, .inl (upd (upd (fun _ => 0) 0 4) 1 4)))]) [0, 1] (by decide) rfl
  have hK9 := hK.sub (tys' := [(k0, .int)]) [0] rfl
  exact W.zret (v := 0) hx hb hr (by decide +kernel) (fun t ht hW => ⟨⟨0, (), rfl, rfl, by rw [ht]; exact hP9, va_K.moved hW.alike hK9, hD9⟩, hS.F ht⟩) hS.2.2 d_Tokens_isSign_39
set_option maxHeartbeats 4000000 in
set_option maxRecDepth 100000 in
theorem c49_Tokens_closesBracket (l : Launch) (dC : Nat → ClassId) (dI : Nat → Nat → Nat) (sz : Nat) (a0 : Nat) (a1 : Nat) (a2 : Nat) (k0 : ClassId) : Met l y_Tokens_closesBracket w_Tokens_closesBracket ({ frames := 1, cells := 0, slots := 0, locals := 22 }) (va_Pc [.ref a0, .int 0] (fun U => U.heap.size = sz ∧ va_P (dC, dI) vcl [(a0, .inr (11, [.ref a1, .ref a2, .int 2])), (a1, .inl (k0, 362, .inl (upd (upd (fun _ => 0) 0 4) 1 4)))] U.heap ∧ va_K (dC, dI) vcl [(k0, .int)] U ∧ va_D (fun _ => True) [(a0, .inr (11, [.ref a1, .ref a2, .int 2])), (a1, .inl (k0, 362, .inl (upd (upd (fun _ => 0) 0 4) 1 4)))])) (va_Qi (fun (r : Int32) (_ : Unit) => r = 0) (fun _ t => va_P (dC, dI) vcl [(a0, .inr (11, [.ref a1, .ref a2, .int 2])), (a1, .inl (k0, 362, .inl (upd (upd (fun _ => 0) 0 4) 1 4)))] t.heap ∧ va_K (dC, dI) vcl [(k0, .int)] t ∧ va_D (va_A [(a0, .inr (11, [.ref a1, .ref a2, .int 2])), (a1, .inl (k0, 362, .inl (upd (upd (fun _ => 0) 0 4) 1 4)))] sz) [(a0, .inr (11, [.ref a1, .ref a2, .int 2])), (a1, .inl (k0, 362, .inl (upd (upd (fun _ => 0) 0 4) 1 4)))]) (va_A [(a0, .inr (11, [.ref a1, .ref a2, .int 2])), (a1, .inl (k0, 362, .inl (upd (upd (fun _ => 0) 0 4) 1 4)))] sz)) 0 0 (va_A [(a0, .inr (11, [.ref a1, .ref a2, .int 2])), (a1, .inl (k0, 362, .inl (upd (upd (fun _ => 0) 0 4) 1 4)))] sz) := by
  refine Met.ofW (cc := b_Tokens_closesBracket) (maxL := 2) (ret := (some .boolean)) (by decide) rfl ?_
  intro p e s m args below meth c s₁ B hml hv
  obtain ⟨rfl, hsz, hP, hK, hD0⟩ := hv
  have hx := B.exec
  have hb := B.bytes
  have hr := B.returns
  have hts := atoms_spec (ws := w_Tokens_closesBracket) B.pre
  have hz : ∀ w ∈ wz, w.before _ s = true := fun w h => hts w (List.mem_cons_of_mem _ h)
  have hown : s.vm.findClass R_Tokens = some m.cls := findClass_of_methodNamed B.named
  have hlocks := B.notSynchronized
  subst hsz
  have hD := hD0.self (sz := s.heap.size)
  generalize hAe : va_A [(a0, .inr (11, [.ref a1, .ref a2, .int 2])), (a1, .inl (k0, 362, .inl (upd (upd (fun _ => 0) 0 4) 1 4)))] s.heap.size = A at hD ⊢
  have hA : ∀ q : Nat, s.heap.size ≤ q → A q := fun q h => by rw [← hAe]; exact Or.inr h
  have hS : va_S A s.heap s.heap [] := va_S.rf
  have hP : va_P (dC, dI) vcl [(a0, .inr (11, [.ref a1, .ref a2, .int 2])), (a1, .inl (k0, 362, .inl (upd (upd (fun _ => 0) 0 4) 1 4)))] s.heap := hP
  have hl := lv_entry ([.ref a0, .int 0]) (n := 2) (Nat.le_of_ble_eq_true rfl)
  rw [lg_entry_eq]
  generalize (lg_sl ([.ref a0, .int 0]) ++ List.replicate (2 - (lg_sl ([.ref a0, .int 0])).length) Slot.unset).toArray = ls at hl ⊢
  have hl : lv_has ls 2 [(0, .ref a0), (1, .int 0)] := hl
  refine lv_aload_n hx hb d_Tokens_closesBracket_0 rfl (lv_at hl 0 rfl) ?_
  refine lv_iload_n hx hb d_Tokens_closesBracket_1 rfl (lv_at hl 1 rfl) ?_
  refine lv_bipush (v := 41) hx hb d_Tokens_closesBracket_2 (by decide) ?_
  have hPc := hP.sub (ws' := [(a0, .inr (11, [.ref a1, .ref a2, .int 2])), (a1, .inl (k0, 362, .inl (upd (upd (fun _ => 0) 0 4) 1 4)))]) [0, 1] rfl
  have hDc := hD.sub (ws' := [(a0, .inr (11, [.ref a1, .ref a2, .int 2])), (a1, .inl (k0, 362, .inl (upd (upd (fun _ => 0) 0 4) 1 4)))]) [0, 1] (by decide) rfl
  have hKc := hK.sub (tys' := [(k0, .int)]) [0] rfl
  have hFc := va_free (wc := [(a0, .inr (11, [.ref a1, .ref a2, .int 2])), (a1, .inl (k0, 362, .inl (upd (upd (fun _ => 0) 0 4) 1 4)))]) hD hS hA [0, 1] rfl
  refine va_calli (va_runV (As := [.int 0, .int 41]) (rest := []) ⟨hx, hb, hml, hown, hz⟩ (c47_Tokens_isSign l dC dI s.heap.size a0 a1 a2 k0) (cwV 2 hz (zV zm_205 zm_140 zm_141 zm_17 zm_142) rfl rfl rfl (by decide +kernel) ⟨Nat.le_of_ble_eq_true rfl, Nat.le_of_ble_eq_true rfl⟩) ⟨fun a U g mk q => by obtain ⟨q0, q1, qP, qK, qD⟩ := q; exact ⟨q0, q1, qP, va_K.moved (u := U) (U := U.calling g mk a) (Vm.Alike.refl U.vm) qK, qD⟩, va_recv (q := (R_Tokens, F_Tokens, 3)) (q0 := 0) (ci := 11) hK hP rfl rfl, fun U hU hW => ⟨rfl, by rw [hU], by rw [hU]; exact hPc, va_K.moved hW.alike hKc, hDc.weaken (fun _ _ _ _ => trivial)⟩⟩ rfl rfl hl.1 rfl (lv_room (Nat.le_of_ble_eq_true rfl)) d_Tokens_closesBracket_4 ⟨by decide, by decide⟩) hS (fun q _ h => hFc q h) hFc (fun r u t H1 locs ht hvm hw hB hz1 hk1 hS => ?_)
  obtain ⟨hP1, hK1, hD1⟩ := hB
  subst r
  rw [ht] at hP1
  obtain ⟨hP, hD⟩ := va_join (wr := []) (w1 := [(a0, .inr (11, [.ref a1, .ref a2, .int 2])), (a1, .inl (k0, 362, .inl (upd (upd (fun _ => 0) 0 4) 1 4)))]) hP hD [0, 1] [] rfl rfl (by decide) (by decide) hk1 hFc hP1 hD1
  generalize H1 = H at hP hS ⊢
  have hP : va_P (dC, dI) vcl [(a0, .inr (11, [.ref a1, .ref a2, .int 2])), (a1, .inl (k0, 362, .inl (upd (upd (fun _ => 0) 0 4) 1 4)))] H := hP
  have hD : va_D A [(a0, .inr (11, [.ref a1, .ref a2, .int 2])), (a1, .inl (k0, 362, .inl (upd (upd (fun _ => 0) 0 4) 1 4)))] := hD
  refine lv_if_ne (tgt := 20) hx hb d_Tokens_closesBracket_7 (by decide) (fun h => (h (by decide +kernel)).elim) (fun _ => ?_)
  refine lv_aload_n hx hb d_Tokens_closesBracket_10 rfl (lv_at hl 0 rfl) ?_
  refine lv_iload_n hx hb d_Tokens_closesBracket_11 rfl (lv_at hl 1 rfl) ?_
  refine lv_bipush (v := 93) hx hb d_Tokens_closesBracket_12 (by decide) ?_
  have hPc := hP.sub (ws' := [(a0, .inr (11, [.ref a1, .ref a2, .int 2])), (a1, .inl (k0, 362, .inl (upd (upd (fun _ => 0) 0 4) 1 4)))]) [0, 1] rfl
  have hDc := hD.sub (ws' := [(a0, .inr (11, [.ref a1, .ref a2, .int 2])), (a1, .inl (k0, 362, .inl (upd (upd (fun _ => 0) 0 4) 1 4)))]) [0, 1] (by decide) rfl
  have hKc := hK.sub (tys' := [(k0, .int)]) [0] rfl
  have hFc := va_free (wc := [(a0, .inr (11, [.ref a1, .ref a2, .int 2])), (a1, .inl (k0, 362, .inl (upd (upd (fun _ => 0) 0 4) 1 4)))]) hD hS hA [0, 1] rfl
  refine va_calli (va_runV (As := [.int 0, .int 93]) (rest := []) ⟨hx, hb, hml, hown, hz⟩ (c48_Tokens_isSign l dC dI H.size a0 a1 a2 k0) (cwV 2 hz (zV zm_205 zm_140 zm_141 zm_17 zm_142) rfl rfl rfl (by decide +kernel) ⟨Nat.le_of_ble_eq_true rfl, Nat.le_of_ble_eq_true rfl⟩) ⟨fun a U g mk q => by obtain ⟨q0, q1, qP, qK, qD⟩ := q; exact ⟨q0, q1, qP, va_K.moved (u := U) (U := U.calling g mk a) (Vm.Alike.refl U.vm) qK, qD⟩, va_recv (q := (R_Tokens, F_Tokens, 3)) (q0 := 0) (ci := 11) hK hP rfl rfl, fun U hU hW => ⟨rfl, by rw [hU], by rw [hU]; exact hPc, va_K.moved hW.alike hKc, hDc.weaken (fun _ _ _ _ => trivial)⟩⟩ rfl rfl hl.1 rfl (lv_room (Nat.le_of_ble_eq_true rfl)) d_Tokens_closesBracket_14 ⟨by decide, by decide⟩) hS (fun q _ h => hFc q h) hFc (fun r u t H1 locs ht hvm hw hB hz1 hk1 hS => ?_)
  obtain ⟨hP1, hK1, hD1⟩ := hB
  subst r
  rw [ht] at hP1
  obtain ⟨hP, hD⟩ := va_join (wr := []) (w1 := [(a0, .inr (11, [.ref a1, .ref a2, .int 2])), (a1, .inl (k0, 362, .inl (upd (upd (fun _ => 0) 0 4) 1 4)))]) hP hD [0, 1] [] rfl rfl (by decide) (by decide) hk1 hFc hP1 hD1
  generalize H1 = H at hP hS ⊢
  have hP : va_P (dC, dI) vcl [(a0, .inr (11, [.ref a1, .ref a2, .int 2])), (a1, .inl (k0, 362, .inl (upd (upd (fun _ => 0) 0 4) 1 4)))] H := hP
  have hD : va_D A [(a0, .inr (11, [.ref a1, .ref a2, .int 2])), (a1, .inl (k0, 362, .inl (upd (upd (fun _ => 0) 0 4) 1 4)))] := hD
  refine lv_if_eq (tgt := 24) hx hb d_Tokens_closesBracket_17 (by decide) (fun _ => ?_) (fun h => (h (by decide +kernel)).elim)
  refine lv_iconst (v := 0) hx hb d_Tokens_closesBracket_24 (by decide) ?_
  have hP9 := hP.sub (ws' := [(a0, .inr (11, [.ref a1, .ref a2, .int 2])), (a1, .inl (k0, 362, .inl (upd (upd (fun _ => 0) 0 4) 1 4)))]) [0, 1] rfl
  have hD9 := hD.sub (ws' := [(a0, .inr (11, [.ref a1, .ref a2, .int 2])), (a1, .inl (k0, 362, .inl (upd (upd (fun _ => 0) 0 4) 1 4)))]) [0, 1] (by decide) rfl
  have hK9 := hK.sub (tys' := [(k0, .int)]) [0] rfl
  exact W.zret (v := 0) hx hb hr (by decide +kernel) (fun t ht hW => ⟨⟨0, (), rfl, rfl, by rw [ht]; exact hP9, va_K.moved hW.alike hK9, hD9⟩, hS.F ht⟩) hS.2.2 d_Tokens_closesBracket_25
set_option maxHeartbeats 4000000 in
set_option maxRecDepth 100000 in
theorem c50_Tokens_isSign (l : Launch) (dC : Nat → ClassId) (dI : Nat → Nat → Nat) (sz : Nat) (a0 : Nat) (a1 : Nat) (a2 : Nat) (k0 : ClassId) : Met l y_Tokens_isSign w_Tokens_isSign ({ frames := 0, cells := 0, slots := 0, locals := 0 }) (va_Pc [.ref a0, .int 1, .int 40] (fun U => U.heap.size = sz ∧ va_P (dC, dI) vcl [(a0, .inr (11, [.ref a1, .ref a2, .int 2])), (a1, .inl (k0, 362, .inl (upd (upd (fun _ => 0) 0 4) 1 4)))] U.heap ∧ va_K (dC, dI) vcl [(k0, .int)] U ∧ va_D (fun _ => True) [(a0, .inr (11, [.ref a1, .ref a2, .int 2])), (a1, .inl (k0, 362, .inl (upd (upd (fun _ => 0) 0 4) 1 4)))])) (va_Qi (fun (r : Int32) (_ : Unit) => r = 0) (fun _ t => va_P (dC, dI) vcl [(a0, .inr (11, [.ref a1, .ref a2, .int 2])), (a1, .inl (k0, 362, .inl (upd (upd (fun _ => 0) 0 4) 1 4)))] t.heap ∧ va_K (dC, dI) vcl [(k0, .int)] t ∧ va_D (va_A [(a0, .inr (11, [.ref a1, .ref a2, .int 2])), (a1, .inl (k0, 362, .inl (upd (upd (fun _ => 0) 0 4) 1 4)))] sz) [(a0, .inr (11, [.ref a1, .ref a2, .int 2])), (a1, .inl (k0, 362, .inl (upd (upd (fun _ => 0) 0 4) 1 4)))]) (va_A [(a0, .inr (11, [.ref a1, .ref a2, .int 2])), (a1, .inl (k0, 362, .inl (upd (upd (fun _ => 0) 0 4) 1 4)))] sz)) 0 0 (va_A [(a0, .inr (11, [.ref a1, .ref a2, .int 2])), (a1, .inl (k0, 362, .inl (upd (upd (fun _ => 0) 0 4) 1 4)))] sz) := by
  refine Met.ofW (cc := b_Tokens_isSign) (maxL := 3) (ret := (some .boolean)) (by decide) rfl ?_
  intro p e s m args below meth c s₁ B hml hv
  obtain ⟨rfl, hsz, hP, hK, hD0⟩ := hv
  have hx := B.exec
  have hb := B.bytes
  have hr := B.returns
  have hts := atoms_spec (ws := w_Tokens_isSign) B.pre
  have hz : ∀ w ∈ wz, w.before _ s = true := fun w h => hts w (List.mem_cons_of_mem _ h)
  have hown : s.vm.findClass R_Tokens = some m.cls := findClass_of_methodNamed B.named
  have hlocks := B.notSynchronized
  subst hsz
  have hD := hD0.self (sz := s.heap.size)
  generalize hAe : va_A [(a0, .inr (11, [.ref a1, .ref a2, .int 2])), (a1, .inl (k0, 362, .inl (upd (upd (fun _ => 0) 0 4) 1 4)))] s.heap.size = A at hD ⊢
  have hA : ∀ q : Nat, s.heap.size ≤ q → A q := fun q h => by rw [← hAe]; exact Or.inr h
  have hS : va_S A s.heap s.heap [] := va_S.rf
  have hP : va_P (dC, dI) vcl [(a0, .inr (11, [.ref a1, .ref a2, .int 2])), (a1, .inl (k0, 362, .inl (upd (upd (fun _ => 0) 0 4) 1 4)))] s.heap := hP
  have hl := lv_entry ([.ref a0, .int 1, .int 40]) (n := 3) (Nat.le_of_ble_eq_true rfl)
  rw [lg_entry_eq]
  generalize (lg_sl ([.ref a0, .int 1, .int 40]) ++ List.replicate (3 - (lg_sl ([.ref a0, .int 1, .int 40])).length) Slot.unset).toArray = ls at hl ⊢
  have hl : lv_has ls 3 [(0, .ref a0), (1, .int 1), (2, .int 40)] := hl
  refine lv_iload_n hx hb d_Tokens_isSign_0 rfl (lv_at hl 1 rfl) ?_
  refine lv_if_lt (tgt := 38) hx hb d_Tokens_isSign_1 (by decide) (fun h => absurd h (by decide +kernel)) (fun _ => ?_)
  refine lv_iload_n hx hb d_Tokens_isSign_4 rfl (lv_at hl 1 rfl) ?_
  refine lv_aload_n hx hb d_Tokens_isSign_5 rfl (lv_at hl 0 rfl) ?_
  refine va_get (D := (dC, dI)) (ci := 11) (v := .int 2) (C := R_Tokens) (T := F_Tokens) (N := 3) hx hb hz zu_Tokens hown hK hP 0 rfl rfl 2 (by decide) (hz (.fieldLink R_Tokens 19 "LayoutFront$Tokens" "size" "I") zm_111) (fun _ h9 => h9) rfl d_Tokens_isSign_6 ?_
  refine lv_icmp_ge (tgt := 38) hx hb d_Tokens_isSign_9 (by decide) (fun h => absurd h (by decide +kernel)) (fun _ => ?_)
  refine lv_aload_n hx hb d_Tokens_isSign_12 rfl (lv_at hl 0 rfl) ?_
  refine va_get (D := (dC, dI)) (ci := 11) (v := .ref a1) (C := R_Tokens) (T := F_Tokens) (N := 3) hx hb hz zu_Tokens hown hK hP 0 rfl rfl 0 (by decide) (hz (.fieldLink R_Tokens 9 "LayoutFront$Tokens" "kinds" "[I") zm_12) (fun _ h9 => h9) rfl d_Tokens_isSign_13 ?_
  refine lv_iload_n hx hb d_Tokens_isSign_16 rfl (lv_at hl 1 rfl) ?_
  refine xr_iald (v := 4) hx hb hK hP 1 0 rfl rfl (xr_in (by decide +kernel)) (by decide +kernel) d_Tokens_isSign_17 ?_
  refine lv_iconst (v := 3) hx hb d_Tokens_isSign_18 (by decide) ?_
  refine lv_icmp_ne (tgt := 38) hx hb d_Tokens_isSign_19 (by decide) (fun _ => ?_) (fun h => absurd h (by decide +kernel))
  refine lv_iconst (v := 0) hx hb d_Tokens_isSign_38 (by decide) ?_
  have hP9 := hP.sub (ws' := [(a0, .inr (11, [.ref a1, .ref a2, .int 2])), (a1, .inl (k0, 362, .inl (upd (upd (fun _ => 0) 0 4) 1 4)))]) [0, 1] rfl
  have hD9 := hD.sub (ws' := [(a0, .inr (11, [.ref a1, .ref a2, .int 2])), (a1, .inl (k0, 362, .inl (upd (upd (fun _ => 0) 0 4) 1 4)))]) [0, 1] (by decide) rfl
  have hK9 := hK.sub (tys' := [(k0, .int)]) [0] rfl
  exact W.zret (v := 0) hx hb hr (by decide +kernel) (fun t ht hW => ⟨⟨0, (), rfl, rfl, by rw [ht]; exact hP9, va_K.moved hW.alike hK9, hD9⟩, hS.F ht⟩) hS.2.2 d_Tokens_isSign_39
set_option maxHeartbeats 4000000 in
set_option maxRecDepth 100000 in
theorem c51_Tokens_isSign (l : Launch) (dC : Nat → ClassId) (dI : Nat → Nat → Nat) (sz : Nat) (a0 : Nat) (a1 : Nat) (a2 : Nat) (k0 : ClassId) : Met l y_Tokens_isSign w_Tokens_isSign ({ frames := 0, cells := 0, slots := 0, locals := 0 }) (va_Pc [.ref a0, .int 1, .int 91] (fun U => U.heap.size = sz ∧ va_P (dC, dI) vcl [(a0, .inr (11, [.ref a1, .ref a2, .int 2])), (a1, .inl (k0, 362, .inl (upd (upd (fun _ => 0) 0 4) 1 4)))] U.heap ∧ va_K (dC, dI) vcl [(k0, .int)] U ∧ va_D (fun _ => True) [(a0, .inr (11, [.ref a1, .ref a2, .int 2])), (a1, .inl (k0, 362, .inl (upd (upd (fun _ => 0) 0 4) 1 4)))])) (va_Qi (fun (r : Int32) (_ : Unit) => r = 0) (fun _ t => va_P (dC, dI) vcl [(a0, .inr (11, [.ref a1, .ref a2, .int 2])), (a1, .inl (k0, 362, .inl (upd (upd (fun _ => 0) 0 4) 1 4)))] t.heap ∧ va_K (dC, dI) vcl [(k0, .int)] t ∧ va_D (va_A [(a0, .inr (11, [.ref a1, .ref a2, .int 2])), (a1, .inl (k0, 362, .inl (upd (upd (fun _ => 0) 0 4) 1 4)))] sz) [(a0, .inr (11, [.ref a1, .ref a2, .int 2])), (a1, .inl (k0, 362, .inl (upd (upd (fun _ => 0) 0 4) 1 4)))]) (va_A [(a0, .inr (11, [.ref a1, .ref a2, .int 2])), (a1, .inl (k0, 362, .inl (upd (upd (fun _ => 0) 0 4) 1 4)))] sz)) 0 0 (va_A [(a0, .inr (11, [.ref a1, .ref a2, .int 2])), (a1, .inl (k0, 362, .inl (upd (upd (fun _ => 0) 0 4) 1 4)))] sz) := by
  refine Met.ofW (cc := b_Tokens_isSign) (maxL := 3) (ret := (some .boolean)) (by decide) rfl ?_
  intro p e s m args below meth c s₁ B hml hv
  obtain ⟨rfl, hsz, hP, hK, hD0⟩ := hv
  have hx := B.exec
  have hb := B.bytes
  have hr := B.returns
  have hts := atoms_spec (ws := w_Tokens_isSign) B.pre
  have hz : ∀ w ∈ wz, w.before _ s = true := fun w h => hts w (List.mem_cons_of_mem _ h)
  have hown : s.vm.findClass R_Tokens = some m.cls := findClass_of_methodNamed B.named
  have hlocks := B.notSynchronized
  subst hsz
  have hD := hD0.self (sz := s.heap.size)
  generalize hAe : va_A [(a0, .inr (11, [.ref a1, .ref a2, .int 2])), (a1, .inl (k0, 362, .inl (upd (upd (fun _ => 0) 0 4) 1 4)))] s.heap.size = A at hD ⊢
  have hA : ∀ q : Nat, s.heap.size ≤ q → A q := fun q h => by rw [← hAe]; exact Or.inr h
  have hS : va_S A s.heap s.heap [] := va_S.rf
  have hP : va_P (dC, dI) vcl [(a0, .inr (11, [.ref a1, .ref a2, .int 2])), (a1, .inl (k0, 362, .inl (upd (upd (fun _ => 0) 0 4) 1 4)))] s.heap := hP
  have hl := lv_entry ([.ref a0, .int 1, .int 91]) (n := 3) (Nat.le_of_ble_eq_true rfl)
  rw [lg_entry_eq]
  generalize (lg_sl ([.ref a0, .int 1, .int 91]) ++ List.replicate (3 - (lg_sl ([.ref a0, .int 1, .int 91])).length) Slot.unset).toArray = ls at hl ⊢
  have hl : lv_has ls 3 [(0, .ref a0), (1, .int 1), (2, .int 91)] := hl
  refine lv_iload_n hx hb d_Tokens_isSign_0 rfl (lv_at hl 1 rfl) ?_
  refine lv_if_lt (tgt := 38) hx hb d_Tokens_isSign_1 (by decide) (fun h => absurd h (by decide +kernel)) (fun _ => ?_)
  refine lv_iload_n hx hb d_Tokens_isSign_4 rfl (lv_at hl 1 rfl) ?_
  refine lv_aload_n hx hb d_Tokens_isSign_5 rfl (lv_at hl 0 rfl) ?_
  refine va_get (D := (dC, dI)) (ci := 11) (v := .int 2) (C := R_Tokens) (T := F_Tokens) (N := 3) hx hb hz zu_Tokens hown hK hP 0 rfl rfl 2 (by decide) (hz (.fieldLink R_Tokens 19 "LayoutFront$Tokens" "size" "I") zm_111) (fun _ h9 => h9) rfl d_Tokens_isSign_6 ?_
  refine lv_icmp_ge (tgt := 38) hx hb d_Tokens_isSign_9 (by decide) (fun h => absurd h (by decide +kernel)) (fun _ => ?_)
  refine lv_aload_n hx hb d_Tokens_isSign_12 rfl (lv_at hl 0 rfl) ?_
  refine va_get (D := (dC, dI)) (ci := 11) (v := .ref a1) (C := R_Tokens) (T := F_Tokens) (N := 3) hx hb hz zu_Tokens hown hK hP 0 rfl rfl 0 (by decide) (hz (.fieldLink R_Tokens 9 "LayoutFront$Tokens" "kinds" "[I") zm_12) (fun _ h9 => h9) rfl d_Tokens_isSign_13 ?_
  refine lv_iload_n hx hb d_Tokens_isSign_16 rfl (lv_at hl 1 rfl) ?_
  refine xr_iald (v := 4) hx hb hK hP 1 0 rfl rfl (xr_in (by decide +kernel)) (by decide +kernel) d_Tokens_isSign_17 ?_
  refine lv_iconst (v := 3) hx hb d_Tokens_isSign_18 (by decide) ?_
  refine lv_icmp_ne (tgt := 38) hx hb d_Tokens_isSign_19 (by decide) (fun _ => ?_) (fun h => absurd h (by decide +kernel))
  refine lv_iconst (v := 0) hx hb d_Tokens_isSign_38 (by decide) ?_
  have hP9 := hP.sub (ws' := [(a0, .inr (11, [.ref a1, .ref a2, .int 2])), (a1, .inl (k0, 362, .inl (upd (upd (fun _ => 0) 0 4) 1 4)))]) [0, 1] rfl
  have hD9 := hD.sub (ws' := [(a0, .inr (11, [.ref a1, .ref a2, .int 2])), (a1, .inl (k0, 362, .inl (upd (upd (fun _ => 0) 0 4) 1 4)))]) [0, 1] (by decide) rfl
  have hK9 := hK.sub (tys' := [(k0, .int)]) [0] rfl
  exact W.zret (v := 0) hx hb hr (by decide +kernel) (fun t ht hW => ⟨⟨0, (), rfl, rfl, by rw [ht]; exact hP9, va_K.moved hW.alike hK9, hD9⟩, hS.F ht⟩) hS.2.2 d_Tokens_isSign_39
set_option maxHeartbeats 4000000 in
set_option maxRecDepth 100000 in
theorem c52_Tokens_opensBracket (l : Launch) (dC : Nat → ClassId) (dI : Nat → Nat → Nat) (sz : Nat) (a0 : Nat) (a1 : Nat) (a2 : Nat) (k0 : ClassId) : Met l y_Tokens_opensBracket w_Tokens_opensBracket ({ frames := 1, cells := 0, slots := 0, locals := 22 }) (va_Pc [.ref a0, .int 1] (fun U => U.heap.size = sz ∧ va_P (dC, dI) vcl [(a0, .inr (11, [.ref a1, .ref a2, .int 2])), (a1, .inl (k0, 362, .inl (upd (upd (fun _ => 0) 0 4) 1 4)))] U.heap ∧ va_K (dC, dI) vcl [(k0, .int)] U ∧ va_D (fun _ => True) [(a0, .inr (11, [.ref a1, .ref a2, .int 2])), (a1, .inl (k0, 362, .inl (upd (upd (fun _ => 0) 0 4) 1 4)))])) (va_Qi (fun (r : Int32) (_ : Unit) => r = 0) (fun _ t => va_P (dC, dI) vcl [(a0, .inr (11, [.ref a1, .ref a2, .int 2])), (a1, .inl (k0, 362, .inl (upd (upd (fun _ => 0) 0 4) 1 4)))] t.heap ∧ va_K (dC, dI) vcl [(k0, .int)] t ∧ va_D (va_A [(a0, .inr (11, [.ref a1, .ref a2, .int 2])), (a1, .inl (k0, 362, .inl (upd (upd (fun _ => 0) 0 4) 1 4)))] sz) [(a0, .inr (11, [.ref a1, .ref a2, .int 2])), (a1, .inl (k0, 362, .inl (upd (upd (fun _ => 0) 0 4) 1 4)))]) (va_A [(a0, .inr (11, [.ref a1, .ref a2, .int 2])), (a1, .inl (k0, 362, .inl (upd (upd (fun _ => 0) 0 4) 1 4)))] sz)) 0 0 (va_A [(a0, .inr (11, [.ref a1, .ref a2, .int 2])), (a1, .inl (k0, 362, .inl (upd (upd (fun _ => 0) 0 4) 1 4)))] sz) := by
  refine Met.ofW (cc := b_Tokens_opensBracket) (maxL := 2) (ret := (some .boolean)) (by decide) rfl ?_
  intro p e s m args below meth c s₁ B hml hv
  obtain ⟨rfl, hsz, hP, hK, hD0⟩ := hv
  have hx := B.exec
  have hb := B.bytes
  have hr := B.returns
  have hts := atoms_spec (ws := w_Tokens_opensBracket) B.pre
  have hz : ∀ w ∈ wz, w.before _ s = true := fun w h => hts w (List.mem_cons_of_mem _ h)
  have hown : s.vm.findClass R_Tokens = some m.cls := findClass_of_methodNamed B.named
  have hlocks := B.notSynchronized
  subst hsz
  have hD := hD0.self (sz := s.heap.size)
  generalize hAe : va_A [(a0, .inr (11, [.ref a1, .ref a2, .int 2])), (a1, .inl (k0, 362, .inl (upd (upd (fun _ => 0) 0 4) 1 4)))] s.heap.size = A at hD ⊢
  have hA : ∀ q : Nat, s.heap.size ≤ q → A q := fun q h => by rw [← hAe]; exact Or.inr h
  have hS : va_S A s.heap s.heap [] := va_S.rf
  have hP : va_P (dC, dI) vcl [(a0, .inr (11, [.ref a1, .ref a2, .int 2])), (a1, .inl (k0, 362, .inl (upd (upd (fun _ => 0) 0 4) 1 4)))] s.heap := hP
  have hl := lv_entry ([.ref a0, .int 1]) (n := 2) (Nat.le_of_ble_eq_true rfl)
  rw [lg_entry_eq]
  generalize (lg_sl ([.ref a0, .int 1]) ++ List.replicate (2 - (lg_sl ([.ref a0, .int 1])).length) Slot.unset).toArray = ls at hl ⊢
  have hl : lv_has ls 2 [(0, .ref a0), (1, .int 1)] := hl
  refine lv_aload_n hx hb d_Tokens_opensBracket_0 rfl (lv_at hl 0 rfl) ?_
  refine lv_iload_n hx hb d_Tokens_opensBracket_1 rfl (lv_at hl 1 rfl) ?_
  refine lv_bipush (v := 40) hx hb d_Tokens_opensBracket_2 (by decide) ?_
  have hPc := hP.sub (ws' := [(a0, .inr (11, [.ref a1, .ref a2, .int 2])), (a1, .inl (k0, 362, .inl (upd (upd (fun _ => 0) 0 4) 1 4)))]) [0, 1] rfl
  have hDc := hD.sub (ws' := [(a0, .inr (11, [.ref a1, .ref a2, .int 2])), (a1, .inl (k0, 362, .inl (upd (upd (fun _ => 0) 0 4) 1 4)))]) [0, 1] (by decide) rfl
  have hKc := hK.sub (tys' := [(k0, .int)]) [0] rfl
  have hFc := va_free (wc := [(a0, .inr (11, [.ref a1, .ref a2, .int 2])), (a1, .inl (k0, 362, .inl (upd (upd (fun _ => 0) 0 4) 1 4)))]) hD hS hA [0, 1] rfl
  refine va_calli (va_runV (As := [.int 1, .int 40]) (rest := []) ⟨hx, hb, hml, hown, hz⟩ (c50_Tokens_isSign l dC dI s.heap.size a0 a1 a2 k0) (cwV 2 hz (zV zm_205 zm_140 zm_141 zm_17 zm_142) rfl rfl rfl (by decide +kernel) ⟨Nat.le_of_ble_eq_true rfl, Nat.le_of_ble_eq_true rfl⟩) ⟨fun a U g mk q => by obtain ⟨q0, q1, qP, qK, qD⟩ := q; exact ⟨q0, q1, qP, va_K.moved (u := U) (U := U.calling g mk a) (Vm.Alike.refl U.vm) qK, qD⟩, va_recv (q := (R_Tokens, F_Tokens, 3)) (q0 := 0) (ci := 11) hK hP rfl rfl, fun U hU hW => ⟨rfl, by rw [hU], by rw [hU]; exact hPc, va_K.moved hW.alike hKc, hDc.weaken (fun _ _ _ _ => trivial)⟩⟩ rfl rfl hl.1 rfl (lv_room (Nat.le_of_ble_eq_true rfl)) d_Tokens_opensBracket_4 ⟨by decide, by decide⟩) hS (fun q _ h => hFc q h) hFc (fun r u t H1 locs ht hvm hw hB hz1 hk1 hS => ?_)
  obtain ⟨hP1, hK1, hD1⟩ := hB
  subst r
  rw [ht] at hP1
  obtain ⟨hP, hD⟩ := va_join (wr := []) (w1 := [(a0, .inr (11, [.ref a1, .ref a2, .int 2])), (a1, .inl (k0, 362, .inl (upd (upd (fun _ => 0) 0 4) 1 4)))]) hP hD [0, 1] [] rfl rfl (by decide) (by decide) hk1 hFc hP1 hD1
  generalize H1 = H at hP hS ⊢
  have hP : va_P (dC, dI) vcl [(a0, .inr (11, [.ref a1, .ref a2, .int 2])), (a1, .inl (k0, 362, .inl (upd (upd (fun _ => 0) 0 4) 1 4)))] H := hP
  have hD : va_D A [(a0, .inr (11, [.ref a1, .ref a2, .int 2])), (a1, .inl (k0, 362, .inl (upd (upd (fun _ => 0) 0 4) 1 4)))] := hD
  refine lv_if_ne (tgt := 20) hx hb d_Tokens_opensBracket_7 (by decide) (fun h => (h (by decide +kernel)).elim) (fun _ => ?_)
  refine lv_aload_n hx hb d_Tokens_opensBracket_10 rfl (lv_at hl 0 rfl) ?_
  refine lv_iload_n hx hb d_Tokens_opensBracket_11 rfl (lv_at hl 1 rfl) ?_
  refine lv_bipush (v := 91) hx hb d_Tokens_opensBracket_12 (by decide) ?_
  have hPc := hP.sub (ws' := [(a0, .inr (11, [.ref a1, .ref a2, .int 2])), (a1, .inl (k0, 362, .inl (upd (upd (fun _ => 0) 0 4) 1 4)))]) [0, 1] rfl
  have hDc := hD.sub (ws' := [(a0, .inr (11, [.ref a1, .ref a2, .int 2])), (a1, .inl (k0, 362, .inl (upd (upd (fun _ => 0) 0 4) 1 4)))]) [0, 1] (by decide) rfl
  have hKc := hK.sub (tys' := [(k0, .int)]) [0] rfl
  have hFc := va_free (wc := [(a0, .inr (11, [.ref a1, .ref a2, .int 2])), (a1, .inl (k0, 362, .inl (upd (upd (fun _ => 0) 0 4) 1 4)))]) hD hS hA [0, 1] rfl
  refine va_calli (va_runV (As := [.int 1, .int 91]) (rest := []) ⟨hx, hb, hml, hown, hz⟩ (c51_Tokens_isSign l dC dI H.size a0 a1 a2 k0) (cwV 2 hz (zV zm_205 zm_140 zm_141 zm_17 zm_142) rfl rfl rfl (by decide +kernel) ⟨Nat.le_of_ble_eq_true rfl, Nat.le_of_ble_eq_true rfl⟩) ⟨fun a U g mk q => by obtain ⟨q0, q1, qP, qK, qD⟩ := q; exact ⟨q0, q1, qP, va_K.moved (u := U) (U := U.calling g mk a) (Vm.Alike.refl U.vm) qK, qD⟩, va_recv (q := (R_Tokens, F_Tokens, 3)) (q0 := 0) (ci := 11) hK hP rfl rfl, fun U hU hW => ⟨rfl, by rw [hU], by rw [hU]; exact hPc, va_K.moved hW.alike hKc, hDc.weaken (fun _ _ _ _ => trivial)⟩⟩ rfl rfl hl.1 rfl (lv_room (Nat.le_of_ble_eq_true rfl)) d_Tokens_opensBracket_14 ⟨by decide, by decide⟩) hS (fun q _ h => hFc q h) hFc (fun r u t H1 locs ht hvm hw hB hz1 hk1 hS => ?_)
  obtain ⟨hP1, hK1, hD1⟩ := hB
  subst r
  rw [ht] at hP1
  obtain ⟨hP, hD⟩ := va_join (wr := []) (w1 := [(a0, .inr (11, [.ref a1, .ref a2, .int 2])), (a1, .inl (k0, 362, .inl (upd (upd (fun _ => 0) 0 4) 1 4)))]) hP hD [0, 1] [] rfl rfl (by decide) (by decide) hk1 hFc hP1 hD1
  generalize H1 = H at hP hS ⊢
  have hP : va_P (dC, dI) vcl [(a0, .inr (11, [.ref a1, .ref a2, .int 2])), (a1, .inl (k0, 362, .inl (upd (upd (fun _ => 0) 0 4) 1 4)))] H := hP
  have hD : va_D A [(a0, .inr (11, [.ref a1, .ref a2, .int 2])), (a1, .inl (k0, 362, .inl (upd (upd (fun _ => 0) 0 4) 1 4)))] := hD
  refine lv_if_eq (tgt := 24) hx hb d_Tokens_opensBracket_17 (by decide) (fun _ => ?_) (fun h => (h (by decide +kernel)).elim)
  refine lv_iconst (v := 0) hx hb d_Tokens_opensBracket_24 (by decide) ?_
  have hP9 := hP.sub (ws' := [(a0, .inr (11, [.ref a1, .ref a2, .int 2])), (a1, .inl (k0, 362, .inl (upd (upd (fun _ => 0) 0 4) 1 4)))]) [0, 1] rfl
  have hD9 := hD.sub (ws' := [(a0, .inr (11, [.ref a1, .ref a2, .int 2])), (a1, .inl (k0, 362, .inl (upd (upd (fun _ => 0) 0 4) 1 4)))]) [0, 1] (by decide) rfl
  have hK9 := hK.sub (tys' := [(k0, .int)]) [0] rfl
  exact W.zret (v := 0) hx hb hr (by decide +kernel) (fun t ht hW => ⟨⟨0, (), rfl, rfl, by rw [ht]; exact hP9, va_K.moved hW.alike hK9, hD9⟩, hS.F ht⟩) hS.2.2 d_Tokens_opensBracket_25
set_option maxHeartbeats 4000000 in
set_option maxRecDepth 100000 in
theorem c53_Tokens_isSign (l : Launch) (dC : Nat → ClassId) (dI : Nat → Nat → Nat) (sz : Nat) (a0 : Nat) (a1 : Nat) (a2 : Nat) (k0 : ClassId) : Met l y_Tokens_isSign w_Tokens_isSign ({ frames := 0, cells := 0, slots := 0, locals := 0 }) (va_Pc [.ref a0, .int 1, .int 41] (fun U => U.heap.size = sz ∧ va_P (dC, dI) vcl [(a0, .inr (11, [.ref a1, .ref a2, .int 2])), (a1, .inl (k0, 362, .inl (upd (upd (fun _ => 0) 0 4) 1 4)))] U.heap ∧ va_K (dC, dI) vcl [(k0, .int)] U ∧ va_D (fun _ => True) [(a0, .inr (11, [.ref a1, .ref a2, .int 2])), (a1, .inl (k0, 362, .inl (upd (upd (fun _ => 0) 0 4) 1 4)))])) (va_Qi (fun (r : Int32) (_ : Unit) => r = 0) (fun _ t => va_P (dC, dI) vcl [(a0, .inr (11, [.ref a1, .ref a2, .int 2])), (a1, .inl (k0, 362, .inl (upd (upd (fun _ => 0) 0 4) 1 4)))] t.heap ∧ va_K (dC, dI) vcl [(k0, .int)] t ∧ va_D (va_A [(a0, .inr (11, [.ref a1, .ref a2, .int 2])), (a1, .inl (k0, 362, .inl (upd (upd (fun _ => 0) 0 4) 1 4)))] sz) [(a0, .inr (11, [.ref a1, .ref a2, .int 2])), (a1, .inl (k0, 362, .inl (upd (upd (fun _ => 0) 0 4) 1 4)))]) (va_A [(a0, .inr (11, [.ref a1, .ref a2, .int 2])), (a1, .inl (k0, 362, .inl (upd (upd (fun _ => 0) 0 4) 1 4)))] sz)) 0 0 (va_A [(a0, .inr (11, [.ref a1, .ref a2, .int 2])), (a1, .inl (k0, 362, .inl (upd (upd (fun _ => 0) 0 4) 1 4)))] sz) := by
  refine Met.ofW (cc := b_Tokens_isSign) (maxL := 3) (ret := (some .boolean)) (by decide) rfl ?_
  intro p e s m args below meth c s₁ B hml hv
  obtain ⟨rfl, hsz, hP, hK, hD0⟩ := hv
  have hx := B.exec
  have hb := B.bytes
  have hr := B.returns
  have hts := atoms_spec (ws := w_Tokens_isSign) B.pre
  have hz : ∀ w ∈ wz, w.before _ s = true := fun w h => hts w (List.mem_cons_of_mem _ h)
  have hown : s.vm.findClass R_Tokens = some m.cls := findClass_of_methodNamed B.named
  have hlocks := B.notSynchronized
  subst hsz
  have hD := hD0.self (sz := s.heap.size)
  generalize hAe : va_A [(a0, .inr (11, [.ref a1, .ref a2, .int 2])), (a1, .inl (k0, 362, .inl (upd (upd (fun _ => 0) 0 4) 1 4)))] s.heap.size = A at hD ⊢
  have hA : ∀ q : Nat, s.heap.size ≤ q → A q := fun q h => by rw [← hAe]; exact Or.inr h
  have hS : va_S A s.heap s.heap [] := va_S.rf
  have hP : va_P (dC, dI) vcl [(a0, .inr (11, [.ref a1, .ref a2, .int 2])), (a1, .inl (k0, 362, .inl (upd (upd (fun _ => 0) 0 4) 1 4)))] s.heap := hP
  have hl := lv_entry ([.ref a0, .int 1, .int 41]) (n := 3) (Nat.le_of_ble_eq_true rfl)
  rw [lg_entry_eq]
  generalize (lg_sl ([.ref a0, .int 1, .int 41]) ++ List.replicate (3 - (lg_sl ([.ref a0, .int 1, .int 41])).length) Slot.unset).toArray = ls at hl ⊢
  have hl : lv_has ls 3 [(0, .ref a0), (1, .int 1), (2, .int 41)] := hl
  refine lv_iload_n hx hb d_Tokens_isSign_0 rfl (lv_at hl 1 rfl) ?_
  refine lv_if_lt (tgt := 38) hx hb d_Tokens_isSign_1 (by decide) (fun h => absurd h (by decide +kernel)) (fun _ => ?_)
  refine lv_iload_n hx hb d_Tokens_isSign_4 rfl (lv_at hl 1 rfl) ?_
  refine lv_aload_n hx hb d_Tokens_isSign_5 rfl (lv_at hl 0 rfl) ?_
  refine va_get (D := (dC, dI)) (ci := 11) (v := .int 2) (C := R_Tokens) (T := F_Tokens) (N := 3) hx hb hz zu_Tokens hown hK hP 0 rfl rfl 2 (by decide) (hz (.fieldLink R_Tokens 19 "LayoutFront$Tokens" "size" "I") zm_111) (fun _ h9 => h9) rfl d_Tokens_isSign_6 ?_
  refine lv_icmp_ge (tgt := 38) hx hb d_Tokens_isSign_9 (by decide) (fun h => absurd h (by decide +kernel)) (fun _ => ?_)
  refine lv_aload_n hx hb d_Tokens_isSign_12 rfl (lv_at hl 0 rfl) ?_
  refine va_get (D := (dC, dI)) (ci := 11) (v := .ref a1) (C := R_Tokens) (T := F_Tokens) (N := 3) hx hb hz zu_Tokens hown hK hP 0 rfl rfl 0 (by decide) (hz (.fieldLink R_Tokens 9 "LayoutFront$Tokens" "kinds" "[I") zm_12) (fun _ h9 => h9) rfl d_Tokens_isSign_13 ?_
  refine lv_iload_n hx hb d_Tokens_isSign_16 rfl (lv_at hl 1 rfl) ?_
  refine xr_iald (v := 4) hx hb hK hP 1 0 rfl rfl (xr_in (by decide +kernel)) (by decide +kernel) d_Tokens_isSign_17 ?_
  refine lv_iconst (v := 3) hx hb d_Tokens_isSign_18 (by decide) ?_
  refine lv_icmp_ne (tgt := 38) hx hb d_Tokens_isSign_19 (by decide) (fun _ => ?_) (fun h => absurd h (by decide +kernel))
  refine lv_iconst (v := 0) hx hb d_Tokens_isSign_38 (by decide) ?_
  have hP9 := hP.sub (ws' := [(a0, .inr (11, [.ref a1, .ref a2, .int 2])), (a1, .inl (k0, 362, .inl (upd (upd (fun _ => 0) 0 4) 1 4)))]) [0, 1] rfl
  have hD9 := hD.sub (ws' := [(a0, .inr (11, [.ref a1, .ref a2, .int 2])), (a1, .inl (k0, 362, .inl (upd (upd (fun _ => 0) 0 4) 1 4)))]) [0, 1] (by decide) rfl
  have hK9 := hK.sub (tys' := [(k0, .int)]) [0] rfl
  exact W.zret (v := 0) hx hb hr (by decide +kernel) (fun t ht hW => ⟨⟨0, (), rfl, rfl, by rw [ht]; exact hP9, va_K.moved hW.alike hK9, hD9⟩, hS.F ht⟩) hS.2.2 d_Tokens_isSign_39
