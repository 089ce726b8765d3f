set_option maxHeartbeats 4000000 in
set_option maxRecDepth 100000 in
theorem s_Rows_together (l : Launch) (dC : Nat → ClassId) (dI : Nat → Nat → Nat) (sz : Nat) (a_t : Nat) (a_closers : Nat) (a_openers : Nat) (a_opened : Nat) (a_closed : Nat) (a_row : Nat) (a_resolver : Nat) (z_together : Int32) (z_inConflict : Int32) : Met l y_Rows_together w_Rows_together ({ frames := 0, cells := 0, slots := 0, locals := 0 }) (va_Pc [.ref a_t] (fun U => U.heap.size = sz ∧ va_P (dC, dI) vcl [(a_t, .inr (9, [.ref a_closers, .ref a_openers, .ref a_opened, .ref a_closed, .ref a_row, .ref a_resolver, .int z_together, .int z_inConflict]))] U.heap ∧ va_K (dC, dI) vcl [] U ∧ va_D (fun _ => True) [(a_t, .inr (9, [.ref a_closers, .ref a_openers, .ref a_opened, .ref a_closed, .ref a_row, .ref a_resolver, .int z_together, .int z_inConflict]))])) (va_Qi (fun (r : Int32) (_ : Unit) => True) (fun _ t => va_P (dC, dI) vcl [(a_t, .inr (9, [.ref a_closers, .ref a_openers, .ref a_opened, .ref a_closed, .ref a_row, .ref a_resolver, .int z_together, .int z_inConflict]))] t.heap ∧ va_K (dC, dI) vcl [] t ∧ va_D (va_A [(a_t, .inr (9, [.ref a_closers, .ref a_openers, .ref a_opened, .ref a_closed, .ref a_row, .ref a_resolver, .int z_together, .int z_inConflict]))] sz) [(a_t, .inr (9, [.ref a_closers, .ref a_openers, .ref a_opened, .ref a_closed, .ref a_row, .ref a_resolver, .int z_together, .int z_inConflict]))]) (va_A [(a_t, .inr (9, [.ref a_closers, .ref a_openers, .ref a_opened, .ref a_closed, .ref a_row, .ref a_resolver, .int z_together, .int z_inConflict]))] sz)) 0 0 (va_A [(a_t, .inr (9, [.ref a_closers, .ref a_openers, .ref a_opened, .ref a_closed, .ref a_row, .ref a_resolver, .int z_together, .int z_inConflict]))] sz) := by
  refine Met.ofW (cc := b_Rows_together) (maxL := 1) (ret := (some .int)) (by decide) rfl ?_
  intro p e s m args below meth c s₁ B hml hv
  obtain ⟨rfl, hsz, hP, hK, hD0⟩ := hv
  have hx := B.exec
  have hb := B.bytes
  have hr := B.returns
  have hts := atoms_spec (ws := w_Rows_together) B.pre
  have hz : ∀ w ∈ wz, w.before _ s = true := fun w h => hts w (List.mem_cons_of_mem _ h)
  have hown : s.vm.findClass R_Rows = some m.cls := findClass_of_methodNamed B.named
  have hlocks := B.notSynchronized
  subst hsz
  have hD := hD0.self (sz := s.heap.size)
  generalize hAe : va_A [(a_t, .inr (9, [.ref a_closers, .ref a_openers, .ref a_opened, .ref a_closed, .ref a_row, .ref a_resolver, .int z_together, .int z_inConflict]))] s.heap.size = A at hD ⊢
  have hA : ∀ q : Nat, s.heap.size ≤ q → A q := fun q h => by rw [← hAe]; exact Or.inr h
  have hS : va_S A s.heap s.heap [] := va_S.rf
  have hP : va_P (dC, dI) vcl [(a_t, .inr (9, [.ref a_closers, .ref a_openers, .ref a_opened, .ref a_closed, .ref a_row, .ref a_resolver, .int z_together, .int z_inConflict]))] s.heap := hP
  have hl := lv_entry ([.ref a_t]) (n := 1) (Nat.le_of_ble_eq_true rfl)
  rw [lg_entry_eq]
  generalize (lg_sl ([.ref a_t]) ++ List.replicate (1 - (lg_sl ([.ref a_t])).length) Slot.unset).toArray = ls at hl ⊢
  have hl : lv_has ls 1 [(0, .ref a_t)] := hl
  refine lv_aload_n hx hb d_Rows_together_0 rfl (lv_at hl 0 rfl) ?_
  refine va_get (D := (dC, dI)) (ci := 9) (v := .int z_together) (C := R_Rows) (T := F_Rows) (N := 8) hx hb hz zu_Rows hown hK hP 0 rfl rfl 6 (by decide) (hz (.fieldLink R_Rows 38 "LayoutFront$Rows" "together" "I") zm_368) (fun _ h9 => h9) rfl d_Rows_together_1 ?_
  have hP9 := hP.sub (ws' := [(a_t, .inr (9, [.ref a_closers, .ref a_openers, .ref a_opened, .ref a_closed, .ref a_row, .ref a_resolver, .int z_together, .int z_inConflict]))]) [0] rfl
  have hD9 := hD.sub (ws' := [(a_t, .inr (9, [.ref a_closers, .ref a_openers, .ref a_opened, .ref a_closed, .ref a_row, .ref a_resolver, .int z_together, .int z_inConflict]))]) [0] (by decide) rfl
  exact W.iret (v := z_together) hx hb hr (fun t ht hW => ⟨⟨z_together, (), rfl, trivial, by rw [ht]; exact hP9, va_K.moved hW.alike hK, hD9⟩, hS.F ht⟩) hS.2.2 d_Rows_together_4
set_option maxHeartbeats 4000000 in
set_option maxRecDepth 100000 in
theorem s_Rows_inConflict (l : Launch) (dC : Nat → ClassId) (dI : Nat → Nat → Nat) (sz : Nat) (a_t : Nat) (a_closers : Nat) (a_openers : Nat) (a_opened : Nat) (a_closed : Nat) (a_row : Nat) (a_resolver : Nat) (z_together : Int32) (z_inConflict : Int32) : Met l y_Rows_inConflict w_Rows_inConflict ({ frames := 0, cells := 0, slots := 0, locals := 0 }) (va_Pc [.ref a_t] (fun U => U.heap.size = sz ∧ va_P (dC, dI) vcl [(a_t, .inr (9, [.ref a_closers, .ref a_openers, .ref a_opened, .ref a_closed, .ref a_row, .ref a_resolver, .int z_together, .int z_inConflict]))] U.heap ∧ va_K (dC, dI) vcl [] U ∧ va_D (fun _ => True) [(a_t, .inr (9, [.ref a_closers, .ref a_openers, .ref a_opened, .ref a_closed, .ref a_row, .ref a_resolver, .int z_together, .int z_inConflict]))])) (va_Qi (fun (r : Int32) (_ : Unit) => True) (fun _ t => va_P (dC, dI) vcl [(a_t, .inr (9, [.ref a_closers, .ref a_openers, .ref a_opened, .ref a_closed, .ref a_row, .ref a_resolver, .int z_together, .int z_inConflict]))] t.heap ∧ va_K (dC, dI) vcl [] t ∧ va_D (va_A [(a_t, .inr (9, [.ref a_closers, .ref a_openers, .ref a_opened, .ref a_closed, .ref a_row, .ref a_resolver, .int z_together, .int z_inConflict]))] sz) [(a_t, .inr (9, [.ref a_closers, .ref a_openers, .ref a_opened, .ref a_closed, .ref a_row, .ref a_resolver, .int z_together, .int z_inConflict]))]) (va_A [(a_t, .inr (9, [.ref a_closers, .ref a_openers, .ref a_opened, .ref a_closed, .ref a_row, .ref a_resolver, .int z_together, .int z_inConflict]))] sz)) 0 0 (va_A [(a_t, .inr (9, [.ref a_closers, .ref a_openers, .ref a_opened, .ref a_closed, .ref a_row, .ref a_resolver, .int z_together, .int z_inConflict]))] sz) := by
  refine Met.ofW (cc := b_Rows_inConflict) (maxL := 1) (ret := (some .int)) (by decide) rfl ?_
  intro p e s m args below meth c s₁ B hml hv
  obtain ⟨rfl, hsz, hP, hK, hD0⟩ := hv
  have hx := B.exec
  have hb := B.bytes
  have hr := B.returns
  have hts := atoms_spec (ws := w_Rows_inConflict) B.pre
  have hz : ∀ w ∈ wz, w.before _ s = true := fun w h => hts w (List.mem_cons_of_mem _ h)
  have hown : s.vm.findClass R_Rows = some m.cls := findClass_of_methodNamed B.named
  have hlocks := B.notSynchronized
  subst hsz
  have hD := hD0.self (sz := s.heap.size)
  generalize hAe : va_A [(a_t, .inr (9, [.ref a_closers, .ref a_openers, .ref a_opened, .ref a_closed, .ref a_row, .ref a_resolver, .int z_together, .int z_inConflict]))] s.heap.size = A at hD ⊢
  have hA : ∀ q : Nat, s.heap.size ≤ q → A q := fun q h => by rw [← hAe]; exact Or.inr h
  have hS : va_S A s.heap s.heap [] := va_S.rf
  have hP : va_P (dC, dI) vcl [(a_t, .inr (9, [.ref a_closers, .ref a_openers, .ref a_opened, .ref a_closed, .ref a_row, .ref a_resolver, .int z_together, .int z_inConflict]))] s.heap := hP
  have hl := lv_entry ([.ref a_t]) (n := 1) (Nat.le_of_ble_eq_true rfl)
  rw [lg_entry_eq]
  generalize (lg_sl ([.ref a_t]) ++ List.replicate (1 - (lg_sl ([.ref a_t])).length) Slot.unset).toArray = ls at hl ⊢
  have hl : lv_has ls 1 [(0, .ref a_t)] := hl
  refine lv_aload_n hx hb d_Rows_inConflict_0 rfl (lv_at hl 0 rfl) ?_
  refine va_get (D := (dC, dI)) (ci := 9) (v := .int z_inConflict) (C := R_Rows) (T := F_Rows) (N := 8) hx hb hz zu_Rows hown hK hP 0 rfl rfl 7 (by decide) (hz (.fieldLink R_Rows 42 "LayoutFront$Rows" "inConflict" "I") zm_369) (fun _ h9 => h9) rfl d_Rows_inConflict_1 ?_
  have hP9 := hP.sub (ws' := [(a_t, .inr (9, [.ref a_closers, .ref a_openers, .ref a_opened, .ref a_closed, .ref a_row, .ref a_resolver, .int z_together, .int z_inConflict]))]) [0] rfl
  have hD9 := hD.sub (ws' := [(a_t, .inr (9, [.ref a_closers, .ref a_openers, .ref a_opened, .ref a_closed, .ref a_row, .ref a_resolver, .int z_together, .int z_inConflict]))]) [0] (by decide) rfl
  exact W.iret (v := z_inConflict) hx hb hr (fun t ht hW => ⟨⟨z_inConflict, (), rfl, trivial, by rw [ht]; exact hP9, va_K.moved hW.alike hK, hD9⟩, hS.F ht⟩) hS.2.2 d_Rows_inConflict_4
