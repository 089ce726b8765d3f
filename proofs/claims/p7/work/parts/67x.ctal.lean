set_option maxHeartbeats 4000000 in
set_option maxRecDepth 100000 in
theorem s_Resolver_tally7 (l : Launch) (dC : Nat → ClassId) (dI : Nat → Nat → Nat) (sz : Nat) (a_t : Nat) (a_pairFirsts : Nat) (f_pairFirsts : Nat → Int32) (a_pairLasts : Nat) (f_pairLasts : Nat → Int32) (n_pairs : Nat) (n_pairsBefore : Nat) (a_firsts : Nat) (a_lasts : Nat) (n_operands : Nat) (a_levels : Nat) (a_sides : Nat) (a_minusPlaces : Nat) (n_waiting : Nat) (a_y0 : Nat) (n_y0 : Nat) (f_y0 : Nat → Int32) (a_y1 : Nat) (n_y1 : Nat) (f_y1 : Nat → Int32) (ka_pairFirsts : ClassId) (ka_pairLasts : ClassId) (ka_y0 : ClassId) (ka_y1 : ClassId) (b_pairs : n_pairs ≤ 90) (b_pairsBefore : n_pairsBefore ≤ 90) (b_operands : n_operands ≤ 90) (b_waiting : n_waiting ≤ 90) (by0 : n_y0 ≤ 600) (by1 : n_y1 ≤ 600) (hp0 : n_y0 = 362) (hp1 : n_y1 = 362) (hp2 : IR7 f_pairFirsts f_pairLasts n_pairs 362) : Met l y_Resolver_tally w_Resolver_tally ({ frames := 0, cells := 0, slots := 0, locals := 0 }) (va_Pc [.ref a_t, .ref a_y0, .ref a_y1] (fun U => U.heap.size = sz ∧ va_P (dC, dI) vcl [(a_t, .inr (7, [.ref a_pairFirsts, .ref a_pairLasts, .int (nI n_pairs), .int (nI n_pairsBefore), .ref a_firsts, .ref a_lasts, .int (nI n_operands), .ref a_levels, .ref a_sides, .ref a_minusPlaces, .int (nI n_waiting)])), (a_pairFirsts, .inl (ka_pairFirsts, 90, .inl f_pairFirsts)), (a_pairLasts, .inl (ka_pairLasts, 90, .inl f_pairLasts)), (a_y0, .inl (ka_y0, n_y0, .inl f_y0)), (a_y1, .inl (ka_y1, n_y1, .inl f_y1))] U.heap ∧ va_K (dC, dI) vcl [(ka_pairFirsts, .int), (ka_pairLasts, .int), (ka_y0, .int), (ka_y1, .int)] U ∧ va_D (fun _ => True) [(a_t, .inr (7, [.ref a_pairFirsts, .ref a_pairLasts, .int (nI n_pairs), .int (nI n_pairsBefore), .ref a_firsts, .ref a_lasts, .int (nI n_operands), .ref a_levels, .ref a_sides, .ref a_minusPlaces, .int (nI n_waiting)])), (a_pairFirsts, .inl (ka_pairFirsts, 90, .inl f_pairFirsts)), (a_pairLasts, .inl (ka_pairLasts, 90, .inl f_pairLasts)), (a_y0, .inl (ka_y0, n_y0, .inl f_y0)), (a_y1, .inl (ka_y1, n_y1, .inl f_y1))])) (va_Qv (fun (_ : Unit) => True) (fun _ t => ∃ (w_f_y0 : Nat → Int32) (w_f_y1 : Nat → Int32), (∀ x9, x9 < 362 → w_f_y0 x9 = f_y0 x9 + nI (cF x9 (z2 f_pairFirsts f_pairLasts n_pairs))) ∧ (∀ x9, x9 < 362 → w_f_y1 x9 = f_y1 x9 + nI (cB x9 (z2 f_pairFirsts f_pairLasts n_pairs))) ∧ va_P (dC, dI) vcl [(a_t, .inr (7, [.ref a_pairFirsts, .ref a_pairLasts, .int (nI n_pairs), .int (nI n_pairsBefore), .ref a_firsts, .ref a_lasts, .int (nI n_operands), .ref a_levels, .ref a_sides, .ref a_minusPlaces, .int (nI n_waiting)])), (a_pairFirsts, .inl (ka_pairFirsts, 90, .inl f_pairFirsts)), (a_pairLasts, .inl (ka_pairLasts, 90, .inl f_pairLasts)), (a_y0, .inl (ka_y0, n_y0, .inl w_f_y0)), (a_y1, .inl (ka_y1, n_y1, .inl w_f_y1))] t.heap ∧ va_K (dC, dI) vcl [(ka_pairFirsts, .int), (ka_pairLasts, .int), (ka_y0, .int), (ka_y1, .int)] t ∧ va_D (va_A [(a_t, .inr (7, [.ref a_pairFirsts, .ref a_pairLasts, .int (nI n_pairs), .int (nI n_pairsBefore), .ref a_firsts, .ref a_lasts, .int (nI n_operands), .ref a_levels, .ref a_sides, .ref a_minusPlaces, .int (nI n_waiting)])), (a_pairFirsts, .inl (ka_pairFirsts, 90, .inl f_pairFirsts)), (a_pairLasts, .inl (ka_pairLasts, 90, .inl f_pairLasts)), (a_y0, .inl (ka_y0, n_y0, .inl f_y0)), (a_y1, .inl (ka_y1, n_y1, .inl f_y1))] sz) [(a_t, .inr (7, [.ref a_pairFirsts, .ref a_pairLasts, .int (nI n_pairs), .int (nI n_pairsBefore), .ref a_firsts, .ref a_lasts, .int (nI n_operands), .ref a_levels, .ref a_sides, .ref a_minusPlaces, .int (nI n_waiting)])), (a_pairFirsts, .inl (ka_pairFirsts, 90, .inl f_pairFirsts)), (a_pairLasts, .inl (ka_pairLasts, 90, .inl f_pairLasts)), (a_y0, .inl (ka_y0, n_y0, .inl w_f_y0)), (a_y1, .inl (ka_y1, n_y1, .inl w_f_y1))]) (va_A [(a_t, .inr (7, [.ref a_pairFirsts, .ref a_pairLasts, .int (nI n_pairs), .int (nI n_pairsBefore), .ref a_firsts, .ref a_lasts, .int (nI n_operands), .ref a_levels, .ref a_sides, .ref a_minusPlaces, .int (nI n_waiting)])), (a_pairFirsts, .inl (ka_pairFirsts, 90, .inl f_pairFirsts)), (a_pairLasts, .inl (ka_pairLasts, 90, .inl f_pairLasts)), (a_y0, .inl (ka_y0, n_y0, .inl f_y0)), (a_y1, .inl (ka_y1, n_y1, .inl f_y1))] sz)) 0 0 (va_A [(a_t, .inr (7, [.ref a_pairFirsts, .ref a_pairLasts, .int (nI n_pairs), .int (nI n_pairsBefore), .ref a_firsts, .ref a_lasts, .int (nI n_operands), .ref a_levels, .ref a_sides, .ref a_minusPlaces, .int (nI n_waiting)])), (a_pairFirsts, .inl (ka_pairFirsts, 90, .inl f_pairFirsts)), (a_pairLasts, .inl (ka_pairLasts, 90, .inl f_pairLasts)), (a_y0, .inl (ka_y0, n_y0, .inl f_y0)), (a_y1, .inl (ka_y1, n_y1, .inl f_y1))] sz) := by
  refine Met.ofW (cc := b_Resolver_tally) (maxL := 6) (ret := none) (by decide) rfl ?_
  intro p e s m args below meth c s₁ B hml hv
  obtain ⟨rfl, hsz, hP, hK, hD0⟩ := hv
  have hx := B.exec
  have hb := B.bytes
  have hr := B.returns
  have hts := atoms_spec (ws := w_Resolver_tally) B.pre
  have hz : ∀ w ∈ wz, w.before _ s = true := fun w h => hts w (List.mem_cons_of_mem _ h)
  have hown : s.vm.findClass R_Resolver = some m.cls := findClass_of_methodNamed B.named
  have hlocks := B.notSynchronized
  subst hsz
  have hD := hD0.self (sz := s.heap.size)
  generalize hAe : va_A [(a_t, .inr (7, [.ref a_pairFirsts, .ref a_pairLasts, .int (nI n_pairs), .int (nI n_pairsBefore), .ref a_firsts, .ref a_lasts, .int (nI n_operands), .ref a_levels, .ref a_sides, .ref a_minusPlaces, .int (nI n_waiting)])), (a_pairFirsts, .inl (ka_pairFirsts, 90, .inl f_pairFirsts)), (a_pairLasts, .inl (ka_pairLasts, 90, .inl f_pairLasts)), (a_y0, .inl (ka_y0, n_y0, .inl f_y0)), (a_y1, .inl (ka_y1, n_y1, .inl f_y1))] s.heap.size = A at hD ⊢
  have hA : ∀ q : Nat, s.heap.size ≤ q → A q := fun q h => by rw [← hAe]; exact Or.inr h
  have hS : va_S A s.heap s.heap [] := va_S.rf
  have hP : va_P (dC, dI) vcl [(a_t, .inr (7, [.ref a_pairFirsts, .ref a_pairLasts, .int (nI n_pairs), .int (nI n_pairsBefore), .ref a_firsts, .ref a_lasts, .int (nI n_operands), .ref a_levels, .ref a_sides, .ref a_minusPlaces, .int (nI n_waiting)])), (a_pairFirsts, .inl (ka_pairFirsts, 90, .inl f_pairFirsts)), (a_pairLasts, .inl (ka_pairLasts, 90, .inl f_pairLasts)), (a_y0, .inl (ka_y0, n_y0, .inl f_y0)), (a_y1, .inl (ka_y1, n_y1, .inl f_y1))] s.heap := hP
  have hl := lv_entry ([.ref a_t, .ref a_y0, .ref a_y1]) (n := 6) (Nat.le_of_ble_eq_true rfl)
  rw [lg_entry_eq]
  generalize (lg_sl ([.ref a_t, .ref a_y0, .ref a_y1]) ++ List.replicate (6 - (lg_sl ([.ref a_t, .ref a_y0, .ref a_y1])).length) Slot.unset).toArray = ls at hl ⊢
  have hl : lv_has ls 6 [(0, .ref a_t), (1, .ref a_y0), (2, .ref a_y1)] := hl
  refine lv_iconst (v := 0) hx hb d_Resolver_tally_0 (by decide) ?_
  refine lv_istore_n hx hb d_Resolver_tally_1 rfl hl (by decide) rfl (fun ls hl => ?_)
  have hl : lv_has ls 6 [(3, .int 0), (0, .ref a_t), (1, .ref a_y0), (2, .ref a_y1)] := hl
  refine xr_loop (α := (Nat) × (Nat → Int32) × (Nat → Int32)) (fun a => (fun (k3 : Nat) (v_a_y0 : Nat → Int32) (v_a_y1 : Nat → Int32) => 90 - k3) a.1 a.2.1 a.2.2) (fun a H locs ls => (fun (k3 : Nat) (v_a_y0 : Nat → Int32) (v_a_y1 : Nat → Int32) => (k3 ≤ 90) ∧ (k3 ≤ n_pairs) ∧ (∀ x9, x9 < 362 → v_a_y0 x9 = f_y0 x9 + nI (cF x9 (z2 f_pairFirsts f_pairLasts k3))) ∧ (∀ x9, x9 < 362 → v_a_y1 x9 = f_y1 x9 + nI (cB x9 (z2 f_pairFirsts f_pairLasts k3))) ∧ lv_has ls 6 [(3, .int (nI k3)), (0, .ref a_t), (1, .ref a_y0), (2, .ref a_y1)] ∧ va_P (dC, dI) vcl [(a_t, .inr (7, [.ref a_pairFirsts, .ref a_pairLasts, .int (nI n_pairs), .int (nI n_pairsBefore), .ref a_firsts, .ref a_lasts, .int (nI n_operands), .ref a_levels, .ref a_sides, .ref a_minusPlaces, .int (nI n_waiting)])), (a_pairFirsts, .inl (ka_pairFirsts, 90, .inl f_pairFirsts)), (a_pairLasts, .inl (ka_pairLasts, 90, .inl f_pairLasts)), (a_y0, .inl (ka_y0, n_y0, .inl v_a_y0)), (a_y1, .inl (ka_y1, n_y1, .inl v_a_y1))] H ∧ va_D A [(a_t, .inr (7, [.ref a_pairFirsts, .ref a_pairLasts, .int (nI n_pairs), .int (nI n_pairsBefore), .ref a_firsts, .ref a_lasts, .int (nI n_operands), .ref a_levels, .ref a_sides, .ref a_minusPlaces, .int (nI n_waiting)])), (a_pairFirsts, .inl (ka_pairFirsts, 90, .inl f_pairFirsts)), (a_pairLasts, .inl (ka_pairLasts, 90, .inl f_pairLasts)), (a_y0, .inl (ka_y0, n_y0, .inl v_a_y0)), (a_y1, .inl (ka_y1, n_y1, .inl v_a_y1))] ∧ va_S A s.heap H locs) a.1 a.2.1 a.2.2) (fun a ih2 H locs ls hI => ?_) (0, f_y0, f_y1) _ _ _ ⟨by show 0 ≤ 90; first | omega | assumption | exact Or.inl rfl | exact Or.inr rfl | decide, by show 0 ≤ n_pairs; first | omega | assumption | exact Or.inl rfl | exact Or.inr rfl | decide, by show ∀ x9, x9 < 362 → f_y0 x9 = f_y0 x9 + nI (cF x9 (z2 f_pairFirsts f_pairLasts 0)); exact fun x9 _ => (Int32.add_zero _).symm, by show ∀ x9, x9 < 362 → f_y1 x9 = f_y1 x9 + nI (cB x9 (z2 f_pairFirsts f_pairLasts 0)); exact fun x9 _ => (Int32.add_zero _).symm, hl, hP, hD, hS⟩
  obtain ⟨k3, v_a_y0, v_a_y1⟩ := a
  obtain ⟨bl0, bl1, bl2, bl3, hl, hP, hD, hS⟩ := hI
  have bl0 : k3 ≤ 90 := bl0
  have bl1 : k3 ≤ n_pairs := bl1
  have iK := bl1
  have bl2 : ∀ x9, x9 < 362 → v_a_y0 x9 = f_y0 x9 + nI (cF x9 (z2 f_pairFirsts f_pairLasts k3)) := bl2
  have iO := bl2
  have bl3 : ∀ x9, x9 < 362 → v_a_y1 x9 = f_y1 x9 + nI (cB x9 (z2 f_pairFirsts f_pairLasts k3)) := bl3
  have iL := bl3
  have hl : lv_has ls 6 [(3, .int (nI k3)), (0, .ref a_t), (1, .ref a_y0), (2, .ref a_y1)] := hl
  have hP : va_P (dC, dI) vcl [(a_t, .inr (7, [.ref a_pairFirsts, .ref a_pairLasts, .int (nI n_pairs), .int (nI n_pairsBefore), .ref a_firsts, .ref a_lasts, .int (nI n_operands), .ref a_levels, .ref a_sides, .ref a_minusPlaces, .int (nI n_waiting)])), (a_pairFirsts, .inl (ka_pairFirsts, 90, .inl f_pairFirsts)), (a_pairLasts, .inl (ka_pairLasts, 90, .inl f_pairLasts)), (a_y0, .inl (ka_y0, n_y0, .inl v_a_y0)), (a_y1, .inl (ka_y1, n_y1, .inl v_a_y1))] H := hP
  have hD : va_D A [(a_t, .inr (7, [.ref a_pairFirsts, .ref a_pairLasts, .int (nI n_pairs), .int (nI n_pairsBefore), .ref a_firsts, .ref a_lasts, .int (nI n_operands), .ref a_levels, .ref a_sides, .ref a_minusPlaces, .int (nI n_waiting)])), (a_pairFirsts, .inl (ka_pairFirsts, 90, .inl f_pairFirsts)), (a_pairLasts, .inl (ka_pairLasts, 90, .inl f_pairLasts)), (a_y0, .inl (ka_y0, n_y0, .inl v_a_y0)), (a_y1, .inl (ka_y1, n_y1, .inl v_a_y1))] := hD
  refine lv_iload_n hx hb d_Resolver_tally_2 rfl (lv_at hl 0 rfl) ?_
  refine lv_aload_n hx hb d_Resolver_tally_3 rfl (lv_at hl 1 rfl) ?_
  refine va_get (D := (dC, dI)) (ci := 7) (v := .int (nI n_pairs)) (C := R_Resolver) (T := F_Resolver) (N := 11) hx hb hz zu_Resolver hown hK hP 0 rfl rfl 2 (by decide) (hz (.fieldLink R_Resolver 33 "LayoutFront$Resolver" "pairs" "I") zm_336) (fun _ h9 => h9) rfl d_Resolver_tally_4 ?_
  refine lv_icmp_ge (tgt := 72) hx hb d_Resolver_tally_7 (by decide) (fun h12 => ?_) (fun h12 => ?_)
  · have h12 : n_pairs ≤ k3 := (nI_leI (a := n_pairs) (b := k3) (by omega) (by omega)).mp h12
    have hP9 := hP.sub (ws' := [(a_t, .inr (7, [.ref a_pairFirsts, .ref a_pairLasts, .int (nI n_pairs), .int (nI n_pairsBefore), .ref a_firsts, .ref a_lasts, .int (nI n_operands), .ref a_levels, .ref a_sides, .ref a_minusPlaces, .int (nI n_waiting)])), (a_pairFirsts, .inl (ka_pairFirsts, 90, .inl f_pairFirsts)), (a_pairLasts, .inl (ka_pairLasts, 90, .inl f_pairLasts)), (a_y0, .inl (ka_y0, n_y0, .inl v_a_y0)), (a_y1, .inl (ka_y1, n_y1, .inl v_a_y1))]) [0, 1, 2, 3, 4] rfl
    have hD9 := hD.sub (ws' := [(a_t, .inr (7, [.ref a_pairFirsts, .ref a_pairLasts, .int (nI n_pairs), .int (nI n_pairsBefore), .ref a_firsts, .ref a_lasts, .int (nI n_operands), .ref a_levels, .ref a_sides, .ref a_minusPlaces, .int (nI n_waiting)])), (a_pairFirsts, .inl (ka_pairFirsts, 90, .inl f_pairFirsts)), (a_pairLasts, .inl (ka_pairLasts, 90, .inl f_pairLasts)), (a_y0, .inl (ka_y0, n_y0, .inl v_a_y0)), (a_y1, .inl (ka_y1, n_y1, .inl v_a_y1))]) [0, 1, 2, 3, 4] (by decide) rfl
    exact W.vret hx hb hr (fun t ht hW => ⟨⟨(), rfl, trivial, v_a_y0, v_a_y1, by (have z9 := iO; rw [(show k3 = n_pairs by omega)] at z9; exact z9), by (have z9 := iL; rw [(show k3 = n_pairs by omega)] at z9; exact z9), by rw [ht]; exact hP9, va_K.moved hW.alike hK, hD9⟩, hS.F ht⟩) hS.2.2 d_Resolver_tally_72
  · have h12 : ¬ n_pairs ≤ k3 := fun q => h12 ((nI_leI (a := n_pairs) (b := k3) (by omega) (by omega)).mpr q)
    obtain ⟨j8, j9, e8, e9, l8, l9⟩ := hp2 k3 (by omega)
    refine lv_aload_n hx hb d_Resolver_tally_10 rfl (lv_at hl 1 rfl) ?_
    refine va_get (D := (dC, dI)) (ci := 7) (v := .ref a_pairFirsts) (C := R_Resolver) (T := F_Resolver) (N := 11) hx hb hz zu_Resolver hown hK hP 0 rfl rfl 0 (by decide) (hz (.fieldLink R_Resolver 9 "LayoutFront$Resolver" "pairFirsts" "[I") zm_328) (fun _ h9 => h9) rfl d_Resolver_tally_11 ?_
    refine lv_iload_n hx hb d_Resolver_tally_14 rfl (lv_at hl 0 rfl) ?_
    refine xr_iald (v := (f_pairFirsts k3)) hx hb hK hP 1 0 rfl rfl (vp_in_nI (by omega) (by omega)) (congrArg f_pairFirsts (nI_clamp (by omega))) d_Resolver_tally_15 ?_
    refine lv_istore hx hb d_Resolver_tally_16 hl (by decide) rfl (fun ls hl => ?_)
    have hl : lv_has ls 6 [(4, .int (f_pairFirsts k3)), (3, .int (nI k3)), (0, .ref a_t), (1, .ref a_y0), (2, .ref a_y1)] := hl
    refine lv_aload_n hx hb d_Resolver_tally_18 rfl (lv_at hl 2 rfl) ?_
    refine va_get (D := (dC, dI)) (ci := 7) (v := .ref a_pairLasts) (C := R_Resolver) (T := F_Resolver) (N := 11) hx hb hz zu_Resolver hown hK hP 0 rfl rfl 1 (by decide) (hz (.fieldLink R_Resolver 15 "LayoutFront$Resolver" "pairLasts" "[I") zm_329) (fun _ h9 => h9) rfl d_Resolver_tally_19 ?_
    refine lv_iload_n hx hb d_Resolver_tally_22 rfl (lv_at hl 1 rfl) ?_
    refine xr_iald (v := (f_pairLasts k3)) hx hb hK hP 2 1 rfl rfl (vp_in_nI (by omega) (by omega)) (congrArg f_pairLasts (nI_clamp (by omega))) d_Resolver_tally_23 ?_
    refine lv_istore hx hb d_Resolver_tally_24 hl (by decide) rfl (fun ls hl => ?_)
    have hl : lv_has ls 6 [(5, .int (f_pairLasts k3)), (4, .int (f_pairFirsts k3)), (3, .int (nI k3)), (0, .ref a_t), (1, .ref a_y0), (2, .ref a_y1)] := hl
    refine lv_iload hx hb d_Resolver_tally_26 (lv_at hl 1 rfl) ?_
    refine lv_if_lt (tgt := 66) hx hb d_Resolver_tally_28 (by decide) (fun h15 => ?_) (fun h15 => ?_)
    · exact absurd (e8 ▸ h15) (nI_pos (by omega))
    · rw [e8] at hl
      have hl : lv_has ls 6 [(5, .int (f_pairLasts k3)), (4, .int (nI j8)), (3, .int (nI k3)), (0, .ref a_t), (1, .ref a_y0), (2, .ref a_y1)] := hl
      refine lv_iload hx hb d_Resolver_tally_31 (lv_at hl 1 rfl) ?_
      refine lv_aload_n hx hb d_Resolver_tally_33 rfl (lv_at hl 4 rfl) ?_
      refine va_alen (v := (nI n_y0)) hx hb hK hP 3 2 rfl rfl rfl d_Resolver_tally_34 ?_
      refine lv_icmp_ge (tgt := 66) hx hb d_Resolver_tally_35 (by decide) (fun h16 => ?_) (fun h16 => ?_)
      · have h16 : n_y0 ≤ j8 := (nI_leI (a := n_y0) (b := j8) (by omega) (by omega)).mp h16
        (exfalso; omega)
      · have h16 : ¬ n_y0 ≤ j8 := fun q => h16 ((nI_leI (a := n_y0) (b := j8) (by omega) (by omega)).mpr q)
        refine lv_iload hx hb d_Resolver_tally_38 (lv_at hl 0 rfl) ?_
        refine lv_if_lt (tgt := 66) hx hb d_Resolver_tally_40 (by decide) (fun h17 => ?_) (fun h17 => ?_)
        · exact absurd (e9 ▸ h17) (nI_pos (by omega))
        · rw [e9] at hl
          have hl : lv_has ls 6 [(5, .int (nI j9)), (4, .int (nI j8)), (3, .int (nI k3)), (0, .ref a_t), (1, .ref a_y0), (2, .ref a_y1)] := hl
          refine lv_iload hx hb d_Resolver_tally_43 (lv_at hl 0 rfl) ?_
          refine lv_aload_n hx hb d_Resolver_tally_45 rfl (lv_at hl 5 rfl) ?_
          refine va_alen (v := (nI n_y1)) hx hb hK hP 4 3 rfl rfl rfl d_Resolver_tally_46 ?_
          refine lv_icmp_ge (tgt := 66) hx hb d_Resolver_tally_47 (by decide) (fun h18 => ?_) (fun h18 => ?_)
          · have h18 : n_y1 ≤ j9 := (nI_leI (a := n_y1) (b := j9) (by omega) (by omega)).mp h18
            (exfalso; omega)
          · have h18 : ¬ n_y1 ≤ j9 := fun q => h18 ((nI_leI (a := n_y1) (b := j9) (by omega) (by omega)).mpr q)
            refine lv_aload_n hx hb d_Resolver_tally_50 rfl (lv_at hl 4 rfl) ?_
            refine lv_iload hx hb d_Resolver_tally_51 (lv_at hl 1 rfl) ?_
            refine lv_dup2_11 hx hb d_Resolver_tally_53 rfl rfl ?_
            refine xr_iald (v := (v_a_y0 j8)) hx hb hK hP 3 2 rfl rfl (vp_in_nI (by omega) (by omega)) (congrArg v_a_y0 (nI_clamp (by omega))) d_Resolver_tally_54 ?_
            refine lv_iconst (v := 1) hx hb d_Resolver_tally_55 (by decide) ?_
            refine xr_iadd (v := ((v_a_y0 j8) + 1)) hx hb d_Resolver_tally_56 rfl ?_
            refine va_iast hx hb hK hP hD hS 3 2 rfl rfl (vp_in_nI (by omega) (by omega)) d_Resolver_tally_57 (fun H locs hP hD hS => ?_)
            rw [show ((nI j8) : Int32).toNatClampNeg = j8 from nI_clamp (by omega)] at hP hD
            have hP : va_P (dC, dI) vcl [(a_t, .inr (7, [.ref a_pairFirsts, .ref a_pairLasts, .int (nI n_pairs), .int (nI n_pairsBefore), .ref a_firsts, .ref a_lasts, .int (nI n_operands), .ref a_levels, .ref a_sides, .ref a_minusPlaces, .int (nI n_waiting)])), (a_pairFirsts, .inl (ka_pairFirsts, 90, .inl f_pairFirsts)), (a_pairLasts, .inl (ka_pairLasts, 90, .inl f_pairLasts)), (a_y0, .inl (ka_y0, n_y0, .inl (upd v_a_y0 j8 ((v_a_y0 j8) + 1)))), (a_y1, .inl (ka_y1, n_y1, .inl v_a_y1))] H := hP
            have hD : va_D A [(a_t, .inr (7, [.ref a_pairFirsts, .ref a_pairLasts, .int (nI n_pairs), .int (nI n_pairsBefore), .ref a_firsts, .ref a_lasts, .int (nI n_operands), .ref a_levels, .ref a_sides, .ref a_minusPlaces, .int (nI n_waiting)])), (a_pairFirsts, .inl (ka_pairFirsts, 90, .inl f_pairFirsts)), (a_pairLasts, .inl (ka_pairLasts, 90, .inl f_pairLasts)), (a_y0, .inl (ka_y0, n_y0, .inl (upd v_a_y0 j8 ((v_a_y0 j8) + 1)))), (a_y1, .inl (ka_y1, n_y1, .inl v_a_y1))] := hD
            refine lv_aload_n hx hb d_Resolver_tally_58 rfl (lv_at hl 5 rfl) ?_
            refine lv_iload hx hb d_Resolver_tally_59 (lv_at hl 0 rfl) ?_
            refine lv_dup2_11 hx hb d_Resolver_tally_61 rfl rfl ?_
            refine xr_iald (v := (v_a_y1 j9)) hx hb hK hP 4 3 rfl rfl (vp_in_nI (by omega) (by omega)) (congrArg v_a_y1 (nI_clamp (by omega))) d_Resolver_tally_62 ?_
            refine lv_iconst (v := 1) hx hb d_Resolver_tally_63 (by decide) ?_
            refine xr_iadd (v := ((v_a_y1 j9) + 1)) hx hb d_Resolver_tally_64 rfl ?_
            refine va_iast hx hb hK hP hD hS 4 3 rfl rfl (vp_in_nI (by omega) (by omega)) d_Resolver_tally_65 (fun H locs hP hD hS => ?_)
            rw [show ((nI j9) : Int32).toNatClampNeg = j9 from nI_clamp (by omega)] at hP hD
            have hP : va_P (dC, dI) vcl [(a_t, .inr (7, [.ref a_pairFirsts, .ref a_pairLasts, .int (nI n_pairs), .int (nI n_pairsBefore), .ref a_firsts, .ref a_lasts, .int (nI n_operands), .ref a_levels, .ref a_sides, .ref a_minusPlaces, .int (nI n_waiting)])), (a_pairFirsts, .inl (ka_pairFirsts, 90, .inl f_pairFirsts)), (a_pairLasts, .inl (ka_pairLasts, 90, .inl f_pairLasts)), (a_y0, .inl (ka_y0, n_y0, .inl (upd v_a_y0 j8 ((v_a_y0 j8) + 1)))), (a_y1, .inl (ka_y1, n_y1, .inl (upd v_a_y1 j9 ((v_a_y1 j9) + 1))))] H := hP
            have hD : va_D A [(a_t, .inr (7, [.ref a_pairFirsts, .ref a_pairLasts, .int (nI n_pairs), .int (nI n_pairsBefore), .ref a_firsts, .ref a_lasts, .int (nI n_operands), .ref a_levels, .ref a_sides, .ref a_minusPlaces, .int (nI n_waiting)])), (a_pairFirsts, .inl (ka_pairFirsts, 90, .inl f_pairFirsts)), (a_pairLasts, .inl (ka_pairLasts, 90, .inl f_pairLasts)), (a_y0, .inl (ka_y0, n_y0, .inl (upd v_a_y0 j8 ((v_a_y0 j8) + 1)))), (a_y1, .inl (ka_y1, n_y1, .inl (upd v_a_y1 j9 ((v_a_y1 j9) + 1))))] := hD
            refine lv_iinc (k := 2) (v := (nI (k3 + 1))) hx hb d_Resolver_tally_66 hl rfl (nI_1 k3) (by decide) rfl (fun ls hl => ?_)
            have hl : lv_has ls 6 [(3, .int (nI (k3 + 1))), (5, .int (nI j9)), (4, .int (nI j8)), (0, .ref a_t), (1, .ref a_y0), (2, .ref a_y1)] := hl
            refine lv_goto (tgt := 2) hx hb d_Resolver_tally_69 (by decide) ?_
            have hl : lv_has ls 6 [(3, .int (nI (k3 + 1))), (0, .ref a_t), (1, .ref a_y0), (2, .ref a_y1)] := lv_sub hl [0, 3, 4, 5] rfl
            have hP9 := hP.sub (ws' := [(a_t, .inr (7, [.ref a_pairFirsts, .ref a_pairLasts, .int (nI n_pairs), .int (nI n_pairsBefore), .ref a_firsts, .ref a_lasts, .int (nI n_operands), .ref a_levels, .ref a_sides, .ref a_minusPlaces, .int (nI n_waiting)])), (a_pairFirsts, .inl (ka_pairFirsts, 90, .inl f_pairFirsts)), (a_pairLasts, .inl (ka_pairLasts, 90, .inl f_pairLasts)), (a_y0, .inl (ka_y0, n_y0, .inl (upd v_a_y0 j8 ((v_a_y0 j8) + 1)))), (a_y1, .inl (ka_y1, n_y1, .inl (upd v_a_y1 j9 ((v_a_y1 j9) + 1))))]) [0, 1, 2, 3, 4] rfl
            have hD9 := hD.sub (ws' := [(a_t, .inr (7, [.ref a_pairFirsts, .ref a_pairLasts, .int (nI n_pairs), .int (nI n_pairsBefore), .ref a_firsts, .ref a_lasts, .int (nI n_operands), .ref a_levels, .ref a_sides, .ref a_minusPlaces, .int (nI n_waiting)])), (a_pairFirsts, .inl (ka_pairFirsts, 90, .inl f_pairFirsts)), (a_pairLasts, .inl (ka_pairLasts, 90, .inl f_pairLasts)), (a_y0, .inl (ka_y0, n_y0, .inl (upd v_a_y0 j8 ((v_a_y0 j8) + 1)))), (a_y1, .inl (ka_y1, n_y1, .inl (upd v_a_y1 j9 ((v_a_y1 j9) + 1))))]) [0, 1, 2, 3, 4] (by decide) rfl
            exact ih2 ((k3 + 1), (upd v_a_y0 j8 ((v_a_y0 j8) + 1)), (upd v_a_y1 j9 ((v_a_y1 j9) + 1))) (by show 90 - ((k3 + 1)) < 90 - k3; omega) _ _ _ ⟨by show ((k3 + 1)) ≤ 90; first | omega | assumption | exact Or.inl rfl | exact Or.inr rfl | decide, by show ((k3 + 1)) ≤ n_pairs; first | omega | assumption | exact Or.inl rfl | exact Or.inr rfl | decide, by show ∀ x9, x9 < 362 → ((upd v_a_y0 j8 ((v_a_y0 j8) + 1))) x9 = f_y0 x9 + nI (cF x9 (z2 f_pairFirsts f_pairLasts ((k3 + 1)))); exact tl_F iO e8 (by omega), by show ∀ x9, x9 < 362 → ((upd v_a_y1 j9 ((v_a_y1 j9) + 1))) x9 = f_y1 x9 + nI (cB x9 (z2 f_pairFirsts f_pairLasts ((k3 + 1)))); exact tl_B iL e9 (by omega), hl, hP9, hD9, hS⟩
