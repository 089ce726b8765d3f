set_option maxHeartbeats 4000000 in
set_option maxRecDepth 100000 in
theorem s_Blocks_laid (l : Launch) (dC : Nat → ClassId) (dI : Nat → Nat → Nat) (sz : Nat) (a_t : Nat) (a_open : Nat) (a_laid : Nat) (z_begun : Int32) : Met l y_Blocks_laid w_Blocks_laid ({ frames := 0, cells := 0, slots := 0, locals := 0 }) (va_Pc [.ref a_t] (fun U => U.heap.size = sz ∧ va_P (dC, dI) vcl [(a_t, .inr (2, [.ref a_open, .ref a_laid, .int z_begun]))] U.heap ∧ va_K (dC, dI) vcl [] U ∧ va_D (fun _ => True) [(a_t, .inr (2, [.ref a_open, .ref a_laid, .int z_begun]))])) (va_Qr (fun (_ : Unit) => True) (fun _ ra t => ra = a_laid ∧ va_P (dC, dI) vcl [(a_t, .inr (2, [.ref a_open, .ref a_laid, .int z_begun]))] t.heap ∧ va_K (dC, dI) vcl [] t ∧ va_D (va_A [(a_t, .inr (2, [.ref a_open, .ref a_laid, .int z_begun]))] sz) [(a_t, .inr (2, [.ref a_open, .ref a_laid, .int z_begun]))]) (va_A [(a_t, .inr (2, [.ref a_open, .ref a_laid, .int z_begun]))] sz)) 0 0 (va_A [(a_t, .inr (2, [.ref a_open, .ref a_laid, .int z_begun]))] sz) := by
  refine Met.ofW (cc := b_Blocks_laid) (maxL := 1) (ret := (some (.object "LayoutFront$Tokens"))) (by decide) rfl ?_
  intro p e s m args below meth c s₁ B hml hv
  obtain ⟨rfl, hsz, hP, hK, hD0⟩ := hv
  have hx := B.exec
  have hb := B.bytes
  have hr := B.returns
  have hts := atoms_spec (ws := w_Blocks_laid) B.pre
  have hz : ∀ w ∈ wz, w.before _ s = true := fun w h => hts w (List.mem_cons_of_mem _ h)
  have hown : s.vm.findClass R_Blocks = some m.cls := findClass_of_methodNamed B.named
  have hlocks := B.notSynchronized
  subst hsz
  have hD := hD0.self (sz := s.heap.size)
  generalize hAe : va_A [(a_t, .inr (2, [.ref a_open, .ref a_laid, .int z_begun]))] s.heap.size = A at hD ⊢
  have hA : ∀ q : Nat, s.heap.size ≤ q → A q := fun q h => by rw [← hAe]; exact Or.inr h
  have hS : va_S A s.heap s.heap [] := va_S.rf
  have hP : va_P (dC, dI) vcl [(a_t, .inr (2, [.ref a_open, .ref a_laid, .int z_begun]))] s.heap := hP
  have hl := lv_entry ([.ref a_t]) (n := 1) (Nat.le_of_ble_eq_true rfl)
  rw [lg_entry_eq]
  generalize (lg_sl ([.ref a_t]) ++ List.replicate (1 - (lg_sl ([.ref a_t])).length) Slot.unset).toArray = ls at hl ⊢
  have hl : lv_has ls 1 [(0, .ref a_t)] := hl
  refine lv_aload_n hx hb d_Blocks_laid_0 rfl (lv_at hl 0 rfl) ?_
  refine va_get (D := (dC, dI)) (ci := 2) (v := .ref a_laid) (C := R_Blocks) (T := F_Blocks) (N := 3) hx hb hz zu_Blocks hown hK hP 0 rfl rfl 1 (by decide) (hz (.fieldLink R_Blocks 23 "LayoutFront$Blocks" "laid" "LLayoutFront$Tokens;") zm_186) (fun _ h9 => h9) rfl d_Blocks_laid_1 ?_
  have hP9 := hP.sub (ws' := [(a_t, .inr (2, [.ref a_open, .ref a_laid, .int z_begun]))]) [0] rfl
  have hD9 := hD.sub (ws' := [(a_t, .inr (2, [.ref a_open, .ref a_laid, .int z_begun]))]) [0] (by decide) rfl
  exact W.aret (v := .ref a_laid) hx hb hr (Or.inl ⟨_, rfl⟩) (Or.inr ⟨_, rfl⟩) (fun t ht hW => ⟨⟨(), a_laid, rfl, trivial, rfl, by rw [ht]; exact hP9, va_K.moved hW.alike hK, hD9⟩, hS.F ht⟩) hS.2.2 d_Blocks_laid_4
set_option maxHeartbeats 4000000 in
set_option maxRecDepth 100000 in
theorem s_Blocks_begun (l : Launch) (dC : Nat → ClassId) (dI : Nat → Nat → Nat) (sz : Nat) (a_t : Nat) (a_open : Nat) (a_laid : Nat) (z_begun : Int32) : Met l y_Blocks_begun w_Blocks_begun ({ frames := 0, cells := 0, slots := 0, locals := 0 }) (va_Pc [.ref a_t] (fun U => U.heap.size = sz ∧ va_P (dC, dI) vcl [(a_t, .inr (2, [.ref a_open, .ref a_laid, .int z_begun]))] U.heap ∧ va_K (dC, dI) vcl [] U ∧ va_D (fun _ => True) [(a_t, .inr (2, [.ref a_open, .ref a_laid, .int z_begun]))])) (va_Qi (fun (r : Int32) (_ : Unit) => True) (fun _ t => va_P (dC, dI) vcl [(a_t, .inr (2, [.ref a_open, .ref a_laid, .int z_begun]))] t.heap ∧ va_K (dC, dI) vcl [] t ∧ va_D (va_A [(a_t, .inr (2, [.ref a_open, .ref a_laid, .int z_begun]))] sz) [(a_t, .inr (2, [.ref a_open, .ref a_laid, .int z_begun]))]) (va_A [(a_t, .inr (2, [.ref a_open, .ref a_laid, .int z_begun]))] sz)) 0 0 (va_A [(a_t, .inr (2, [.ref a_open, .ref a_laid, .int z_begun]))] sz) := by
  refine Met.ofW (cc := b_Blocks_begun) (maxL := 1) (ret := (some .int)) (by decide) rfl ?_
  intro p e s m args below meth c s₁ B hml hv
  obtain ⟨rfl, hsz, hP, hK, hD0⟩ := hv
  have hx := B.exec
  have hb := B.bytes
  have hr := B.returns
  have hts := atoms_spec (ws := w_Blocks_begun) B.pre
  have hz : ∀ w ∈ wz, w.before _ s = true := fun w h => hts w (List.mem_cons_of_mem _ h)
  have hown : s.vm.findClass R_Blocks = some m.cls := findClass_of_methodNamed B.named
  have hlocks := B.notSynchronized
  subst hsz
  have hD := hD0.self (sz := s.heap.size)
  generalize hAe : va_A [(a_t, .inr (2, [.ref a_open, .ref a_laid, .int z_begun]))] s.heap.size = A at hD ⊢
  have hA : ∀ q : Nat, s.heap.size ≤ q → A q := fun q h => by rw [← hAe]; exact Or.inr h
  have hS : va_S A s.heap s.heap [] := va_S.rf
  have hP : va_P (dC, dI) vcl [(a_t, .inr (2, [.ref a_open, .ref a_laid, .int z_begun]))] s.heap := hP
  have hl := lv_entry ([.ref a_t]) (n := 1) (Nat.le_of_ble_eq_true rfl)
  rw [lg_entry_eq]
  generalize (lg_sl ([.ref a_t]) ++ List.replicate (1 - (lg_sl ([.ref a_t])).length) Slot.unset).toArray = ls at hl ⊢
  have hl : lv_has ls 1 [(0, .ref a_t)] := hl
  refine lv_aload_n hx hb d_Blocks_begun_0 rfl (lv_at hl 0 rfl) ?_
  refine va_get (D := (dC, dI)) (ci := 2) (v := .int z_begun) (C := R_Blocks) (T := F_Blocks) (N := 3) hx hb hz zu_Blocks hown hK hP 0 rfl rfl 2 (by decide) (hz (.fieldLink R_Blocks 27 "LayoutFront$Blocks" "begun" "I") zm_188) (fun _ h9 => h9) rfl d_Blocks_begun_1 ?_
  have hP9 := hP.sub (ws' := [(a_t, .inr (2, [.ref a_open, .ref a_laid, .int z_begun]))]) [0] rfl
  have hD9 := hD.sub (ws' := [(a_t, .inr (2, [.ref a_open, .ref a_laid, .int z_begun]))]) [0] (by decide) rfl
  exact W.iret (v := z_begun) hx hb hr (fun t ht hW => ⟨⟨z_begun, (), rfl, trivial, by rw [ht]; exact hP9, va_K.moved hW.alike hK, hD9⟩, hS.F ht⟩) hS.2.2 d_Blocks_begun_4
set_option maxHeartbeats 4000000 in
set_option maxRecDepth 100000 in
theorem s_Blocks_mostOpen (l : Launch) (dC : Nat → ClassId) (dI : Nat → Nat → Nat) (sz : Nat) (a_t : Nat) (a_open : Nat) (a_open_things : Nat) (n_open_size : Nat) (z_open_most : Int32) (a_laid : Nat) (z_begun : Int32) (b_open_size : n_open_size ≤ 181) : Met l y_Blocks_mostOpen w_Blocks_mostOpen ({ frames := 1, cells := 0, slots := 0, locals := 20 }) (va_Pc [.ref a_t] (fun U => U.heap.size = sz ∧ va_P (dC, dI) vcl [(a_t, .inr (2, [.ref a_open, .ref a_laid, .int z_begun])), (a_open, .inr (6, [.ref a_open_things, .int (nI n_open_size), .int z_open_most]))] U.heap ∧ va_K (dC, dI) vcl [] U ∧ va_D (fun _ => True) [(a_t, .inr (2, [.ref a_open, .ref a_laid, .int z_begun])), (a_open, .inr (6, [.ref a_open_things, .int (nI n_open_size), .int z_open_most]))])) (va_Qi (fun (r : Int32) (_ : Unit) => True) (fun _ t => va_P (dC, dI) vcl [(a_t, .inr (2, [.ref a_open, .ref a_laid, .int z_begun])), (a_open, .inr (6, [.ref a_open_things, .int (nI n_open_size), .int z_open_most]))] t.heap ∧ va_K (dC, dI) vcl [] t ∧ va_D (va_A [(a_t, .inr (2, [.ref a_open, .ref a_laid, .int z_begun])), (a_open, .inr (6, [.ref a_open_things, .int (nI n_open_size), .int z_open_most]))] sz) [(a_t, .inr (2, [.ref a_open, .ref a_laid, .int z_begun])), (a_open, .inr (6, [.ref a_open_things, .int (nI n_open_size), .int z_open_most]))]) (va_A [(a_t, .inr (2, [.ref a_open, .ref a_laid, .int z_begun])), (a_open, .inr (6, [.ref a_open_things, .int (nI n_open_size), .int z_open_most]))] sz)) 0 0 (va_A [(a_t, .inr (2, [.ref a_open, .ref a_laid, .int z_begun])), (a_open, .inr (6, [.ref a_open_things, .int (nI n_open_size), .int z_open_most]))] sz) := by
  refine Met.ofW (cc := b_Blocks_mostOpen) (maxL := 1) (ret := (some .int)) (by decide) rfl ?_
  intro p e s m args below meth c s₁ B hml hv
  obtain ⟨rfl, hsz, hP, hK, hD0⟩ := hv
  have hx := B.exec
  have hb := B.bytes
  have hr := B.returns
  have hts := atoms_spec (ws := w_Blocks_mostOpen) B.pre
  have hz : ∀ w ∈ wz, w.before _ s = true := fun w h => hts w (List.mem_cons_of_mem _ h)
  have hown : s.vm.findClass R_Blocks = some m.cls := findClass_of_methodNamed B.named
  have hlocks := B.notSynchronized
  subst hsz
  have hD := hD0.self (sz := s.heap.size)
  generalize hAe : va_A [(a_t, .inr (2, [.ref a_open, .ref a_laid, .int z_begun])), (a_open, .inr (6, [.ref a_open_things, .int (nI n_open_size), .int z_open_most]))] s.heap.size = A at hD ⊢
  have hA : ∀ q : Nat, s.heap.size ≤ q → A q := fun q h => by rw [← hAe]; exact Or.inr h
  have hS : va_S A s.heap s.heap [] := va_S.rf
  have hP : va_P (dC, dI) vcl [(a_t, .inr (2, [.ref a_open, .ref a_laid, .int z_begun])), (a_open, .inr (6, [.ref a_open_things, .int (nI n_open_size), .int z_open_most]))] s.heap := hP
  have hl := lv_entry ([.ref a_t]) (n := 1) (Nat.le_of_ble_eq_true rfl)
  rw [lg_entry_eq]
  generalize (lg_sl ([.ref a_t]) ++ List.replicate (1 - (lg_sl ([.ref a_t])).length) Slot.unset).toArray = ls at hl ⊢
  have hl : lv_has ls 1 [(0, .ref a_t)] := hl
  refine lv_aload_n hx hb d_Blocks_mostOpen_0 rfl (lv_at hl 0 rfl) ?_
  refine va_get (D := (dC, dI)) (ci := 2) (v := .ref a_open) (C := R_Blocks) (T := F_Blocks) (N := 3) hx hb hz zu_Blocks hown hK hP 0 rfl rfl 0 (by decide) (hz (.fieldLink R_Blocks 12 "LayoutFront$Blocks" "open" "LLayoutFront$Open;") zm_183) (fun _ h9 => h9) rfl d_Blocks_mostOpen_1 ?_
  have hPc := hP.sub (ws' := [(a_open, .inr (6, [.ref a_open_things, .int (nI n_open_size), .int z_open_most]))]) [1] rfl
  have hDc := hD.sub (ws' := [(a_open, .inr (6, [.ref a_open_things, .int (nI n_open_size), .int z_open_most]))]) [1] (by decide) rfl
  have hKc := hK.sub (tys' := []) [] rfl
  have hFc := va_free (wc := [(a_open, .inr (6, [.ref a_open_things, .int (nI n_open_size), .int z_open_most]))]) hD hS hA [1] rfl
  refine va_calli (va_runV (As := []) (rest := []) ⟨hx, hb, hml, hown, hz⟩ (s_Open_most l dC dI s.heap.size a_open a_open_things n_open_size z_open_most (by first | omega | assumption | exact Or.inl rfl | exact Or.inr rfl)) (cwV 0 hz (zV zm_189 zm_190 zm_191 zm_177 zm_192) rfl rfl rfl (by decide +kernel) ⟨Nat.le_of_ble_eq_true rfl, Nat.le_of_ble_eq_true rfl⟩) ⟨fun a U g mk q => by obtain ⟨q0, q1, qP, qK, qD⟩ := q; exact ⟨q0, q1, qP, va_K.moved (u := U) (U := U.calling g mk a) (Vm.Alike.refl U.vm) qK, qD⟩, va_recv (q := (R_Open, F_Open, 3)) (q0 := 1) (ci := 6) hK hP rfl rfl, fun U hU hW => ⟨rfl, by rw [hU], by rw [hU]; exact hPc, va_K.moved hW.alike hKc, hDc.weaken (fun _ _ _ _ => trivial)⟩⟩ rfl rfl hl.1 rfl (lv_room (Nat.le_of_ble_eq_true rfl)) d_Blocks_mostOpen_4 ⟨Nat.zero_le _, Nat.zero_le _⟩) hS (fun q _ h => hFc q h) hFc (fun x1 u t H1 locs ht hvm hw hB hz1 hk1 hS => ?_)
  obtain ⟨hP1, hK1, hD1⟩ := hB
  rw [ht] at hP1
  obtain ⟨hP, hD⟩ := va_join (wr := [(a_t, .inr (2, [.ref a_open, .ref a_laid, .int z_begun]))]) (w1 := [(a_open, .inr (6, [.ref a_open_things, .int (nI n_open_size), .int z_open_most]))]) hP hD [1] [0] rfl rfl (by decide) (by decide) hk1 hFc hP1 hD1
  generalize H1 = H at hP hS ⊢
  have hP : va_P (dC, dI) vcl [(a_t, .inr (2, [.ref a_open, .ref a_laid, .int z_begun])), (a_open, .inr (6, [.ref a_open_things, .int (nI n_open_size), .int z_open_most]))] H := hP
  have hD : va_D A [(a_t, .inr (2, [.ref a_open, .ref a_laid, .int z_begun])), (a_open, .inr (6, [.ref a_open_things, .int (nI n_open_size), .int z_open_most]))] := hD
  have hP9 := hP.sub (ws' := [(a_t, .inr (2, [.ref a_open, .ref a_laid, .int z_begun])), (a_open, .inr (6, [.ref a_open_things, .int (nI n_open_size), .int z_open_most]))]) [0, 1] rfl
  have hD9 := hD.sub (ws' := [(a_t, .inr (2, [.ref a_open, .ref a_laid, .int z_begun])), (a_open, .inr (6, [.ref a_open_things, .int (nI n_open_size), .int z_open_most]))]) [0, 1] (by decide) rfl
  exact W.iret (v := x1) hx hb hr (fun t ht hW => ⟨⟨x1, (), rfl, trivial, by rw [ht]; exact hP9, va_K.moved hW.alike hK, hD9⟩, hS.F ht⟩) hS.2.2 d_Blocks_mostOpen_7
