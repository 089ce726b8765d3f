theorem xr_dec2 (x : Int32) : x + (-1) = x - 1 := by
  rw [Int32.sub_eq_add_neg]
theorem xr_pred_lt {k : Nat} (hk : k ≤ 2147483647) : nI k - 1 < 0 ↔ k = 0 := by
  constructor
  · intro h
    apply Nat.eq_zero_of_not_pos
    intro hp
    have e : nI k - 1 = nI (k - 1) := pk_sub (a := k) (b := 1) (by omega)
    rw [e] at h
    have h1 := Int32.lt_iff_toInt_lt.mp h
    rw [nI_toInt (by omega)] at h1
    have a3 : (0 : Int32).toInt = 0 := by decide
    omega
  · intro h
    subst h
    decide
set_option maxHeartbeats 4000000 in
set_option maxRecDepth 100000 in
theorem s_Open_belowLets (l : Launch) (dC : Nat → ClassId) (dI : Nat → Nat → Nat) (sz : Nat) (a_t : Nat) (a_things : Nat) (f_things : Nat → Int32) (n_size : Nat) (z_most : Int32) (ka_things : ClassId) (b_size : n_size ≤ 181) : Met l y_Open_belowLets w_Open_belowLets ({ frames := 1, cells := 0, slots := 0, locals := 21 }) (va_Pc [.ref a_t] (fun U => U.heap.size = sz ∧ va_P (dC, dI) vcl [(a_t, .inr (6, [.ref a_things, .int (nI n_size), .int z_most])), (a_things, .inl (ka_things, 181, .inl f_things))] U.heap ∧ va_K (dC, dI) vcl [(ka_things, .int)] U ∧ va_D (fun _ => True) [(a_t, .inr (6, [.ref a_things, .int (nI n_size), .int z_most])), (a_things, .inl (ka_things, 181, .inl f_things))])) (va_Qi (fun (r : Int32) (_ : Unit) => True) (fun _ t => va_P (dC, dI) vcl [(a_t, .inr (6, [.ref a_things, .int (nI n_size), .int z_most])), (a_things, .inl (ka_things, 181, .inl f_things))] t.heap ∧ va_K (dC, dI) vcl [(ka_things, .int)] t ∧ va_D (va_A [(a_t, .inr (6, [.ref a_things, .int (nI n_size), .int z_most])), (a_things, .inl (ka_things, 181, .inl f_things))] sz) [(a_t, .inr (6, [.ref a_things, .int (nI n_size), .int z_most])), (a_things, .inl (ka_things, 181, .inl f_things))]) (va_A [(a_t, .inr (6, [.ref a_things, .int (nI n_size), .int z_most])), (a_things, .inl (ka_things, 181, .inl f_things))] sz)) 0 0 (va_A [(a_t, .inr (6, [.ref a_things, .int (nI n_size), .int z_most])), (a_things, .inl (ka_things, 181, .inl f_things))] sz) := by
  refine Met.ofW (cc := b_Open_belowLets) (maxL := 2) (ret := (some .int)) (by decide) rfl ?_
  intro p e s m args below meth c s₁ B hml hv
  obtain ⟨rfl, hsz, hP, hK, hD0⟩ := hv
  have hx := B.exec
  have hb := B.bytes
  have hr := B.returns
  have hts := atoms_spec (ws := w_Open_belowLets) B.pre
  have hz : ∀ w ∈ wz, w.before _ s = true := fun w h => hts w (List.mem_cons_of_mem _ h)
  have hown : s.vm.findClass R_Open = some m.cls := findClass_of_methodNamed B.named
  have hlocks := B.notSynchronized
  subst hsz
  have hD := hD0.self (sz := s.heap.size)
  generalize hAe : va_A [(a_t, .inr (6, [.ref a_things, .int (nI n_size), .int z_most])), (a_things, .inl (ka_things, 181, .inl f_things))] s.heap.size = A at hD ⊢
  have hA : ∀ q : Nat, s.heap.size ≤ q → A q := fun q h => by rw [← hAe]; exact Or.inr h
  have hS : va_S A s.heap s.heap [] := va_S.rf
  have hP : va_P (dC, dI) vcl [(a_t, .inr (6, [.ref a_things, .int (nI n_size), .int z_most])), (a_things, .inl (ka_things, 181, .inl f_things))] s.heap := hP
  have hl := lv_entry ([.ref a_t]) (n := 2) (Nat.le_of_ble_eq_true rfl)
  rw [lg_entry_eq]
  generalize (lg_sl ([.ref a_t]) ++ List.replicate (2 - (lg_sl ([.ref a_t])).length) Slot.unset).toArray = ls at hl ⊢
  have hl : lv_has ls 2 [(0, .ref a_t)] := hl
  refine lv_aload_n hx hb d_Open_belowLets_0 rfl (lv_at hl 0 rfl) ?_
  refine va_get (D := (dC, dI)) (ci := 6) (v := .int (nI n_size)) (C := R_Open) (T := F_Open) (N := 3) hx hb hz zu_Open hown hK hP 0 rfl rfl 1 (by decide) (hz (.fieldLink R_Open 15 "LayoutFront$Open" "size" "I") zm_171) (fun _ h9 => h9) rfl d_Open_belowLets_1 ?_
  refine lv_iconst (v := 1) hx hb d_Open_belowLets_4 (by decide) ?_
  refine xr_isub (v := (nI n_size - 1)) hx hb d_Open_belowLets_5 rfl ?_
  refine lv_istore_n hx hb d_Open_belowLets_6 rfl hl (by decide) rfl (fun ls hl => ?_)
  have hl : lv_has ls 2 [(1, .int (nI n_size - 1)), (0, .ref a_t)] := hl
  refine xr_loop (α := (Nat)) (fun a => (fun (k1 : Nat) => k1) a) (fun a H locs ls => (fun (k1 : Nat) => (k1 ≤ 181) ∧ lv_has ls 2 [(1, .int (nI k1 - 1)), (0, .ref a_t)] ∧ va_P (dC, dI) vcl [(a_t, .inr (6, [.ref a_things, .int (nI n_size), .int z_most])), (a_things, .inl (ka_things, 181, .inl f_things))] H ∧ va_D A [(a_t, .inr (6, [.ref a_things, .int (nI n_size), .int z_most])), (a_things, .inl (ka_things, 181, .inl f_things))] ∧ va_S A s.heap H locs) a) (fun a ih7 H locs ls hI => ?_) (n_size) _ _ _ ⟨by show n_size ≤ 181; first | omega | assumption | exact Or.inl rfl | exact Or.inr rfl, hl, hP, hD, hS⟩
  generalize a = k1 at ih7 hI
  obtain ⟨bl0, hl, hP, hD, hS⟩ := hI
  have bl0 : k1 ≤ 181 := bl0
  have hl : lv_has ls 2 [(1, .int (nI k1 - 1)), (0, .ref a_t)] := hl
  have hP : va_P (dC, dI) vcl [(a_t, .inr (6, [.ref a_things, .int (nI n_size), .int z_most])), (a_things, .inl (ka_things, 181, .inl f_things))] H := hP
  have hD : va_D A [(a_t, .inr (6, [.ref a_things, .int (nI n_size), .int z_most])), (a_things, .inl (ka_things, 181, .inl f_things))] := hD
  refine lv_iload_n hx hb d_Open_belowLets_7 rfl (lv_at hl 0 rfl) ?_
  refine lv_if_lt (tgt := 26) hx hb d_Open_belowLets_8 (by decide) (fun h6 => ?_) (fun h6 => ?_)
  · have h6 : k1 = 0 := (xr_pred_lt (by omega)).mp h6
    refine lv_aload_n hx hb d_Open_belowLets_26 rfl (lv_at hl 1 rfl) ?_
    refine lv_iload_n hx hb d_Open_belowLets_27 rfl (lv_at hl 0 rfl) ?_
    have hPc := hP.sub (ws' := [(a_t, .inr (6, [.ref a_things, .int (nI n_size), .int z_most])), (a_things, .inl (ka_things, 181, .inl f_things))]) [0, 1] rfl
    have hDc := hD.sub (ws' := [(a_t, .inr (6, [.ref a_things, .int (nI n_size), .int z_most])), (a_things, .inl (ka_things, 181, .inl f_things))]) [0, 1] (by decide) rfl
    have hKc := hK.sub (tys' := [(ka_things, .int)]) [0] rfl
    have hFc := va_free (wc := [(a_t, .inr (6, [.ref a_things, .int (nI n_size), .int z_most])), (a_things, .inl (ka_things, 181, .inl f_things))]) hD hS hA [0, 1] rfl
    refine va_calli (va_runV (As := [.int (nI k1 - 1)]) (rest := []) ⟨hx, hb, hml, hown, hz⟩ (s_Open_at l dC dI H.size a_t a_things f_things n_size z_most ((nI k1 - 1)) ka_things (by first | omega | assumption | exact Or.inl rfl | exact Or.inr rfl)) (cwV 1 hz (zV zm_174 zm_175 zm_176 zm_177 zm_178) rfl rfl rfl (by decide +kernel) ⟨Nat.le_of_ble_eq_true rfl, Nat.le_of_ble_eq_true rfl⟩) ⟨fun a U g mk q => by obtain ⟨q0, q1, qP, qK, qD⟩ := q; exact ⟨q0, q1, qP, va_K.moved (u := U) (U := U.calling g mk a) (Vm.Alike.refl U.vm) qK, qD⟩, va_recv (q := (R_Open, F_Open, 3)) (q0 := 0) (ci := 6) hK hP rfl rfl, fun U hU hW => ⟨rfl, by rw [hU], by rw [hU]; exact hPc, va_K.moved hW.alike hKc, hDc.weaken (fun _ _ _ _ => trivial)⟩⟩ rfl rfl hl.1 rfl (lv_room (Nat.le_of_ble_eq_true rfl)) d_Open_belowLets_28 ⟨Nat.zero_le _, Nat.zero_le _⟩) hS (fun q _ h => hFc q h) hFc (fun x7 u t H1 locs ht hvm hw hB hz1 hk1 hS => ?_)
    obtain ⟨hP1, hK1, hD1⟩ := hB
    rw [ht] at hP1
    obtain ⟨hP, hD⟩ := va_join (wr := []) (w1 := [(a_t, .inr (6, [.ref a_things, .int (nI n_size), .int z_most])), (a_things, .inl (ka_things, 181, .inl f_things))]) hP hD [0, 1] [] rfl rfl (by decide) (by decide) hk1 hFc hP1 hD1
    generalize H1 = H at hP hS ⊢
    have hP : va_P (dC, dI) vcl [(a_t, .inr (6, [.ref a_things, .int (nI n_size), .int z_most])), (a_things, .inl (ka_things, 181, .inl f_things))] H := hP
    have hD : va_D A [(a_t, .inr (6, [.ref a_things, .int (nI n_size), .int z_most])), (a_things, .inl (ka_things, 181, .inl f_things))] := hD
    have hP9 := hP.sub (ws' := [(a_t, .inr (6, [.ref a_things, .int (nI n_size), .int z_most])), (a_things, .inl (ka_things, 181, .inl f_things))]) [0, 1] rfl
    have hD9 := hD.sub (ws' := [(a_t, .inr (6, [.ref a_things, .int (nI n_size), .int z_most])), (a_things, .inl (ka_things, 181, .inl f_things))]) [0, 1] (by decide) rfl
    exact W.iret (v := x7) hx hb hr (fun t ht hW => ⟨⟨x7, (), rfl, trivial, by rw [ht]; exact hP9, va_K.moved hW.alike hK, hD9⟩, hS.F ht⟩) hS.2.2 d_Open_belowLets_31
  · have h6 : ¬ k1 = 0 := fun q => h6 ((xr_pred_lt (by omega)).mpr q)
    have e_h6 : nI k1 - 1 = nI (k1 - 1) := pk_sub (a := k1) (b := 1) (by omega)
    rw [e_h6] at hl
    have hl : lv_has ls 2 [(1, .int (nI (k1 - 1))), (0, .ref a_t)] := hl
    refine lv_aload_n hx hb d_Open_belowLets_11 rfl (lv_at hl 1 rfl) ?_
    refine lv_iload_n hx hb d_Open_belowLets_12 rfl (lv_at hl 0 rfl) ?_
    have hPc := hP.sub (ws' := [(a_t, .inr (6, [.ref a_things, .int (nI n_size), .int z_most])), (a_things, .inl (ka_things, 181, .inl f_things))]) [0, 1] rfl
    have hDc := hD.sub (ws' := [(a_t, .inr (6, [.ref a_things, .int (nI n_size), .int z_most])), (a_things, .inl (ka_things, 181, .inl f_things))]) [0, 1] (by decide) rfl
    have hKc := hK.sub (tys' := [(ka_things, .int)]) [0] rfl
    have hFc := va_free (wc := [(a_t, .inr (6, [.ref a_things, .int (nI n_size), .int z_most])), (a_things, .inl (ka_things, 181, .inl f_things))]) hD hS hA [0, 1] rfl
    refine va_calli (va_runV (As := [.int (nI (k1 - 1))]) (rest := []) ⟨hx, hb, hml, hown, hz⟩ (s_Open_at l dC dI H.size a_t a_things f_things n_size z_most ((nI (k1 - 1))) ka_things (by first | omega | assumption | exact Or.inl rfl | exact Or.inr rfl)) (cwV 1 hz (zV zm_174 zm_175 zm_176 zm_177 zm_178) rfl rfl rfl (by decide +kernel) ⟨Nat.le_of_ble_eq_true rfl, Nat.le_of_ble_eq_true rfl⟩) ⟨fun a U g mk q => by obtain ⟨q0, q1, qP, qK, qD⟩ := q; exact ⟨q0, q1, qP, va_K.moved (u := U) (U := U.calling g mk a) (Vm.Alike.refl U.vm) qK, qD⟩, va_recv (q := (R_Open, F_Open, 3)) (q0 := 0) (ci := 6) hK hP rfl rfl, fun U hU hW => ⟨rfl, by rw [hU], by rw [hU]; exact hPc, va_K.moved hW.alike hKc, hDc.weaken (fun _ _ _ _ => trivial)⟩⟩ rfl rfl hl.1 rfl (lv_room (Nat.le_of_ble_eq_true rfl)) d_Open_belowLets_13 ⟨Nat.zero_le _, Nat.zero_le _⟩) hS (fun q _ h => hFc q h) hFc (fun x8 u t H1 locs ht hvm hw hB hz1 hk1 hS => ?_)
    obtain ⟨hP1, hK1, hD1⟩ := hB
    rw [ht] at hP1
    obtain ⟨hP, hD⟩ := va_join (wr := []) (w1 := [(a_t, .inr (6, [.ref a_things, .int (nI n_size), .int z_most])), (a_things, .inl (ka_things, 181, .inl f_things))]) hP hD [0, 1] [] rfl rfl (by decide) (by decide) hk1 hFc hP1 hD1
    generalize H1 = H at hP hS ⊢
    have hP : va_P (dC, dI) vcl [(a_t, .inr (6, [.ref a_things, .int (nI n_size), .int z_most])), (a_things, .inl (ka_things, 181, .inl f_things))] H := hP
    have hD : va_D A [(a_t, .inr (6, [.ref a_things, .int (nI n_size), .int z_most])), (a_things, .inl (ka_things, 181, .inl f_things))] := hD
    refine lv_iconst (v := (-1)) hx hb d_Open_belowLets_16 (by decide) ?_
    refine lv_icmp_ne (tgt := 26) hx hb d_Open_belowLets_17 (by decide) (fun h9 => ?_) (fun h9 => ?_)
    · refine lv_aload_n hx hb d_Open_belowLets_26 rfl (lv_at hl 1 rfl) ?_
      refine lv_iload_n hx hb d_Open_belowLets_27 rfl (lv_at hl 0 rfl) ?_
      have hPc := hP.sub (ws' := [(a_t, .inr (6, [.ref a_things, .int (nI n_size), .int z_most])), (a_things, .inl (ka_things, 181, .inl f_things))]) [0, 1] rfl
      have hDc := hD.sub (ws' := [(a_t, .inr (6, [.ref a_things, .int (nI n_size), .int z_most])), (a_things, .inl (ka_things, 181, .inl f_things))]) [0, 1] (by decide) rfl
      have hKc := hK.sub (tys' := [(ka_things, .int)]) [0] rfl
      have hFc := va_free (wc := [(a_t, .inr (6, [.ref a_things, .int (nI n_size), .int z_most])), (a_things, .inl (ka_things, 181, .inl f_things))]) hD hS hA [0, 1] rfl
      refine va_calli (va_runV (As := [.int (nI (k1 - 1))]) (rest := []) ⟨hx, hb, hml, hown, hz⟩ (s_Open_at l dC dI H.size a_t a_things f_things n_size z_most ((nI (k1 - 1))) ka_things (by first | omega | assumption | exact Or.inl rfl | exact Or.inr rfl)) (cwV 1 hz (zV zm_174 zm_175 zm_176 zm_177 zm_178) rfl rfl rfl (by decide +kernel) ⟨Nat.le_of_ble_eq_true rfl, Nat.le_of_ble_eq_true rfl⟩) ⟨fun a U g mk q => by obtain ⟨q0, q1, qP, qK, qD⟩ := q; exact ⟨q0, q1, qP, va_K.moved (u := U) (U := U.calling g mk a) (Vm.Alike.refl U.vm) qK, qD⟩, va_recv (q := (R_Open, F_Open, 3)) (q0 := 0) (ci := 6) hK hP rfl rfl, fun U hU hW => ⟨rfl, by rw [hU], by rw [hU]; exact hPc, va_K.moved hW.alike hKc, hDc.weaken (fun _ _ _ _ => trivial)⟩⟩ rfl rfl hl.1 rfl (lv_room (Nat.le_of_ble_eq_true rfl)) d_Open_belowLets_28 ⟨Nat.zero_le _, Nat.zero_le _⟩) hS (fun q _ h => hFc q h) hFc (fun x10 u t H1 locs ht hvm hw hB hz1 hk1 hS => ?_)
      obtain ⟨hP1, hK1, hD1⟩ := hB
      rw [ht] at hP1
      obtain ⟨hP, hD⟩ := va_join (wr := []) (w1 := [(a_t, .inr (6, [.ref a_things, .int (nI n_size), .int z_most])), (a_things, .inl (ka_things, 181, .inl f_things))]) hP hD [0, 1] [] rfl rfl (by decide) (by decide) hk1 hFc hP1 hD1
      generalize H1 = H at hP hS ⊢
      have hP : va_P (dC, dI) vcl [(a_t, .inr (6, [.ref a_things, .int (nI n_size), .int z_most])), (a_things, .inl (ka_things, 181, .inl f_things))] H := hP
      have hD : va_D A [(a_t, .inr (6, [.ref a_things, .int (nI n_size), .int z_most])), (a_things, .inl (ka_things, 181, .inl f_things))] := hD
      have hP9 := hP.sub (ws' := [(a_t, .inr (6, [.ref a_things, .int (nI n_size), .int z_most])), (a_things, .inl (ka_things, 181, .inl f_things))]) [0, 1] rfl
      have hD9 := hD.sub (ws' := [(a_t, .inr (6, [.ref a_things, .int (nI n_size), .int z_most])), (a_things, .inl (ka_things, 181, .inl f_things))]) [0, 1] (by decide) rfl
      exact W.iret (v := x10) hx hb hr (fun t ht hW => ⟨⟨x10, (), rfl, trivial, by rw [ht]; exact hP9, va_K.moved hW.alike hK, hD9⟩, hS.F ht⟩) hS.2.2 d_Open_belowLets_31
    · refine lv_iinc (k := 0) (v := (nI (k1 - 1) - 1)) hx hb d_Open_belowLets_20 hl rfl (xr_dec2 _) (by decide) rfl (fun ls hl => ?_)
      have hl : lv_has ls 2 [(1, .int (nI (k1 - 1) - 1)), (0, .ref a_t)] := hl
      refine lv_goto (tgt := 7) hx hb d_Open_belowLets_23 (by decide) ?_
      have hP9 := hP.sub (ws' := [(a_t, .inr (6, [.ref a_things, .int (nI n_size), .int z_most])), (a_things, .inl (ka_things, 181, .inl f_things))]) [0, 1] rfl
      have hD9 := hD.sub (ws' := [(a_t, .inr (6, [.ref a_things, .int (nI n_size), .int z_most])), (a_things, .inl (ka_things, 181, .inl f_things))]) [0, 1] (by decide) rfl
      exact ih7 ((k1 - 1)) (by show ((k1 - 1)) < k1; omega) _ _ _ ⟨by show ((k1 - 1)) ≤ 181; first | omega | assumption | exact Or.inl rfl | exact Or.inr rfl, hl, hP9, hD9, hS⟩
set_option maxHeartbeats 4000000 in
set_option maxRecDepth 100000 in
theorem s_Open_belowLetsAndLaidBlocks (l : Launch) (dC : Nat → ClassId) (dI : Nat → Nat → Nat) (sz : Nat) (a_t : Nat) (a_things : Nat) (f_things : Nat → Int32) (n_size : Nat) (z_most : Int32) (ka_things : ClassId) (b_size : n_size ≤ 181) : Met l y_Open_belowLetsAndLaidBlocks w_Open_belowLetsAndLaidBlocks ({ frames := 1, cells := 0, slots := 0, locals := 21 }) (va_Pc [.ref a_t] (fun U => U.heap.size = sz ∧ va_P (dC, dI) vcl [(a_t, .inr (6, [.ref a_things, .int (nI n_size), .int z_most])), (a_things, .inl (ka_things, 181, .inl f_things))] U.heap ∧ va_K (dC, dI) vcl [(ka_things, .int)] U ∧ va_D (fun _ => True) [(a_t, .inr (6, [.ref a_things, .int (nI n_size), .int z_most])), (a_things, .inl (ka_things, 181, .inl f_things))])) (va_Qi (fun (r : Int32) (_ : Unit) => True) (fun _ t => va_P (dC, dI) vcl [(a_t, .inr (6, [.ref a_things, .int (nI n_size), .int z_most])), (a_things, .inl (ka_things, 181, .inl f_things))] t.heap ∧ va_K (dC, dI) vcl [(ka_things, .int)] t ∧ va_D (va_A [(a_t, .inr (6, [.ref a_things, .int (nI n_size), .int z_most])), (a_things, .inl (ka_things, 181, .inl f_things))] sz) [(a_t, .inr (6, [.ref a_things, .int (nI n_size), .int z_most])), (a_things, .inl (ka_things, 181, .inl f_things))]) (va_A [(a_t, .inr (6, [.ref a_things, .int (nI n_size), .int z_most])), (a_things, .inl (ka_things, 181, .inl f_things))] sz)) 0 0 (va_A [(a_t, .inr (6, [.ref a_things, .int (nI n_size), .int z_most])), (a_things, .inl (ka_things, 181, .inl f_things))] sz) := by
  refine Met.ofW (cc := b_Open_belowLetsAndLaidBlocks) (maxL := 2) (ret := (some .int)) (by decide) rfl ?_
  intro p e s m args below meth c s₁ B hml hv
  obtain ⟨rfl, hsz, hP, hK, hD0⟩ := hv
  have hx := B.exec
  have hb := B.bytes
  have hr := B.returns
  have hts := atoms_spec (ws := w_Open_belowLetsAndLaidBlocks) B.pre
  have hz : ∀ w ∈ wz, w.before _ s = true := fun w h => hts w (List.mem_cons_of_mem _ h)
  have hown : s.vm.findClass R_Open = some m.cls := findClass_of_methodNamed B.named
  have hlocks := B.notSynchronized
  subst hsz
  have hD := hD0.self (sz := s.heap.size)
  generalize hAe : va_A [(a_t, .inr (6, [.ref a_things, .int (nI n_size), .int z_most])), (a_things, .inl (ka_things, 181, .inl f_things))] s.heap.size = A at hD ⊢
  have hA : ∀ q : Nat, s.heap.size ≤ q → A q := fun q h => by rw [← hAe]; exact Or.inr h
  have hS : va_S A s.heap s.heap [] := va_S.rf
  have hP : va_P (dC, dI) vcl [(a_t, .inr (6, [.ref a_things, .int (nI n_size), .int z_most])), (a_things, .inl (ka_things, 181, .inl f_things))] s.heap := hP
  have hl := lv_entry ([.ref a_t]) (n := 2) (Nat.le_of_ble_eq_true rfl)
  rw [lg_entry_eq]
  generalize (lg_sl ([.ref a_t]) ++ List.replicate (2 - (lg_sl ([.ref a_t])).length) Slot.unset).toArray = ls at hl ⊢
  have hl : lv_has ls 2 [(0, .ref a_t)] := hl
  refine lv_aload_n hx hb d_Open_belowLetsAndLaidBlocks_0 rfl (lv_at hl 0 rfl) ?_
  refine va_get (D := (dC, dI)) (ci := 6) (v := .int (nI n_size)) (C := R_Open) (T := F_Open) (N := 3) hx hb hz zu_Open hown hK hP 0 rfl rfl 1 (by decide) (hz (.fieldLink R_Open 15 "LayoutFront$Open" "size" "I") zm_171) (fun _ h9 => h9) rfl d_Open_belowLetsAndLaidBlocks_1 ?_
  refine lv_iconst (v := 1) hx hb d_Open_belowLetsAndLaidBlocks_4 (by decide) ?_
  refine xr_isub (v := (nI n_size - 1)) hx hb d_Open_belowLetsAndLaidBlocks_5 rfl ?_
  refine lv_istore_n hx hb d_Open_belowLetsAndLaidBlocks_6 rfl hl (by decide) rfl (fun ls hl => ?_)
  have hl : lv_has ls 2 [(1, .int (nI n_size - 1)), (0, .ref a_t)] := hl
  refine xr_loop (α := (Nat)) (fun a => (fun (k1 : Nat) => k1) a) (fun a H locs ls => (fun (k1 : Nat) => (k1 ≤ 181) ∧ lv_has ls 2 [(1, .int (nI k1 - 1)), (0, .ref a_t)] ∧ va_P (dC, dI) vcl [(a_t, .inr (6, [.ref a_things, .int (nI n_size), .int z_most])), (a_things, .inl (ka_things, 181, .inl f_things))] H ∧ va_D A [(a_t, .inr (6, [.ref a_things, .int (nI n_size), .int z_most])), (a_things, .inl (ka_things, 181, .inl f_things))] ∧ va_S A s.heap H locs) a) (fun a ih7 H locs ls hI => ?_) (n_size) _ _ _ ⟨by show n_size ≤ 181; first | omega | assumption | exact Or.inl rfl | exact Or.inr rfl, hl, hP, hD, hS⟩
  generalize a = k1 at ih7 hI
  obtain ⟨bl0, hl, hP, hD, hS⟩ := hI
  have bl0 : k1 ≤ 181 := bl0
  have hl : lv_has ls 2 [(1, .int (nI k1 - 1)), (0, .ref a_t)] := hl
  have hP : va_P (dC, dI) vcl [(a_t, .inr (6, [.ref a_things, .int (nI n_size), .int z_most])), (a_things, .inl (ka_things, 181, .inl f_things))] H := hP
  have hD : va_D A [(a_t, .inr (6, [.ref a_things, .int (nI n_size), .int z_most])), (a_things, .inl (ka_things, 181, .inl f_things))] := hD
  refine lv_iload_n hx hb d_Open_belowLetsAndLaidBlocks_7 rfl (lv_at hl 0 rfl) ?_
  refine lv_if_lt (tgt := 34) hx hb d_Open_belowLetsAndLaidBlocks_8 (by decide) (fun h8 => ?_) (fun h8 => ?_)
  · have h8 : k1 = 0 := (xr_pred_lt (by omega)).mp h8
    refine lv_aload_n hx hb d_Open_belowLetsAndLaidBlocks_34 rfl (lv_at hl 1 rfl) ?_
    refine lv_iload_n hx hb d_Open_belowLetsAndLaidBlocks_35 rfl (lv_at hl 0 rfl) ?_
    have hPc := hP.sub (ws' := [(a_t, .inr (6, [.ref a_things, .int (nI n_size), .int z_most])), (a_things, .inl (ka_things, 181, .inl f_things))]) [0, 1] rfl
    have hDc := hD.sub (ws' := [(a_t, .inr (6, [.ref a_things, .int (nI n_size), .int z_most])), (a_things, .inl (ka_things, 181, .inl f_things))]) [0, 1] (by decide) rfl
    have hKc := hK.sub (tys' := [(ka_things, .int)]) [0] rfl
    have hFc := va_free (wc := [(a_t, .inr (6, [.ref a_things, .int (nI n_size), .int z_most])), (a_things, .inl (ka_things, 181, .inl f_things))]) hD hS hA [0, 1] rfl
    refine va_calli (va_runV (As := [.int (nI k1 - 1)]) (rest := []) ⟨hx, hb, hml, hown, hz⟩ (s_Open_at l dC dI H.size a_t a_things f_things n_size z_most ((nI k1 - 1)) ka_things (by first | omega | assumption | exact Or.inl rfl | exact Or.inr rfl)) (cwV 1 hz (zV zm_174 zm_175 zm_176 zm_177 zm_178) rfl rfl rfl (by decide +kernel) ⟨Nat.le_of_ble_eq_true rfl, Nat.le_of_ble_eq_true rfl⟩) ⟨fun a U g mk q => by obtain ⟨q0, q1, qP, qK, qD⟩ := q; exact ⟨q0, q1, qP, va_K.moved (u := U) (U := U.calling g mk a) (Vm.Alike.refl U.vm) qK, qD⟩, va_recv (q := (R_Open, F_Open, 3)) (q0 := 0) (ci := 6) hK hP rfl rfl, fun U hU hW => ⟨rfl, by rw [hU], by rw [hU]; exact hPc, va_K.moved hW.alike hKc, hDc.weaken (fun _ _ _ _ => trivial)⟩⟩ rfl rfl hl.1 rfl (lv_room (Nat.le_of_ble_eq_true rfl)) d_Open_belowLetsAndLaidBlocks_36 ⟨Nat.zero_le _, Nat.zero_le _⟩) hS (fun q _ h => hFc q h) hFc (fun x9 u t H1 locs ht hvm hw hB hz1 hk1 hS => ?_)
    obtain ⟨hP1, hK1, hD1⟩ := hB
    rw [ht] at hP1
    obtain ⟨hP, hD⟩ := va_join (wr := []) (w1 := [(a_t, .inr (6, [.ref a_things, .int (nI n_size), .int z_most])), (a_things, .inl (ka_things, 181, .inl f_things))]) hP hD [0, 1] [] rfl rfl (by decide) (by decide) hk1 hFc hP1 hD1
    generalize H1 = H at hP hS ⊢
    have hP : va_P (dC, dI) vcl [(a_t, .inr (6, [.ref a_things, .int (nI n_size), .int z_most])), (a_things, .inl (ka_things, 181, .inl f_things))] H := hP
    have hD : va_D A [(a_t, .inr (6, [.ref a_things, .int (nI n_size), .int z_most])), (a_things, .inl (ka_things, 181, .inl f_things))] := hD
    have hP9 := hP.sub (ws' := [(a_t, .inr (6, [.ref a_things, .int (nI n_size), .int z_most])), (a_things, .inl (ka_things, 181, .inl f_things))]) [0, 1] rfl
    have hD9 := hD.sub (ws' := [(a_t, .inr (6, [.ref a_things, .int (nI n_size), .int z_most])), (a_things, .inl (ka_things, 181, .inl f_things))]) [0, 1] (by decide) rfl
    exact W.iret (v := x9) hx hb hr (fun t ht hW => ⟨⟨x9, (), rfl, trivial, by rw [ht]; exact hP9, va_K.moved hW.alike hK, hD9⟩, hS.F ht⟩) hS.2.2 d_Open_belowLetsAndLaidBlocks_39
  · have h8 : ¬ k1 = 0 := fun q => h8 ((xr_pred_lt (by omega)).mpr q)
    have e_h8 : nI k1 - 1 = nI (k1 - 1) := pk_sub (a := k1) (b := 1) (by omega)
    rw [e_h8] at hl
    have hl : lv_has ls 2 [(1, .int (nI (k1 - 1))), (0, .ref a_t)] := hl
    refine lv_aload_n hx hb d_Open_belowLetsAndLaidBlocks_11 rfl (lv_at hl 1 rfl) ?_
    refine lv_iload_n hx hb d_Open_belowLetsAndLaidBlocks_12 rfl (lv_at hl 0 rfl) ?_
    have hPc := hP.sub (ws' := [(a_t, .inr (6, [.ref a_things, .int (nI n_size), .int z_most])), (a_things, .inl (ka_things, 181, .inl f_things))]) [0, 1] rfl
    have hDc := hD.sub (ws' := [(a_t, .inr (6, [.ref a_things, .int (nI n_size), .int z_most])), (a_things, .inl (ka_things, 181, .inl f_things))]) [0, 1] (by decide) rfl
    have hKc := hK.sub (tys' := [(ka_things, .int)]) [0] rfl
    have hFc := va_free (wc := [(a_t, .inr (6, [.ref a_things, .int (nI n_size), .int z_most])), (a_things, .inl (ka_things, 181, .inl f_things))]) hD hS hA [0, 1] rfl
    refine va_calli (va_runV (As := [.int (nI (k1 - 1))]) (rest := []) ⟨hx, hb, hml, hown, hz⟩ (s_Open_at l dC dI H.size a_t a_things f_things n_size z_most ((nI (k1 - 1))) ka_things (by first | omega | assumption | exact Or.inl rfl | exact Or.inr rfl)) (cwV 1 hz (zV zm_174 zm_175 zm_176 zm_177 zm_178) rfl rfl rfl (by decide +kernel) ⟨Nat.le_of_ble_eq_true rfl, Nat.le_of_ble_eq_true rfl⟩) ⟨fun a U g mk q => by obtain ⟨q0, q1, qP, qK, qD⟩ := q; exact ⟨q0, q1, qP, va_K.moved (u := U) (U := U.calling g mk a) (Vm.Alike.refl U.vm) qK, qD⟩, va_recv (q := (R_Open, F_Open, 3)) (q0 := 0) (ci := 6) hK hP rfl rfl, fun U hU hW => ⟨rfl, by rw [hU], by rw [hU]; exact hPc, va_K.moved hW.alike hKc, hDc.weaken (fun _ _ _ _ => trivial)⟩⟩ rfl rfl hl.1 rfl (lv_room (Nat.le_of_ble_eq_true rfl)) d_Open_belowLetsAndLaidBlocks_13 ⟨Nat.zero_le _, Nat.zero_le _⟩) hS (fun q _ h => hFc q h) hFc (fun x10 u t H1 locs ht hvm hw hB hz1 hk1 hS => ?_)
    obtain ⟨hP1, hK1, hD1⟩ := hB
    rw [ht] at hP1
    obtain ⟨hP, hD⟩ := va_join (wr := []) (w1 := [(a_t, .inr (6, [.ref a_things, .int (nI n_size), .int z_most])), (a_things, .inl (ka_things, 181, .inl f_things))]) hP hD [0, 1] [] rfl rfl (by decide) (by decide) hk1 hFc hP1 hD1
    generalize H1 = H at hP hS ⊢
    have hP : va_P (dC, dI) vcl [(a_t, .inr (6, [.ref a_things, .int (nI n_size), .int z_most])), (a_things, .inl (ka_things, 181, .inl f_things))] H := hP
    have hD : va_D A [(a_t, .inr (6, [.ref a_things, .int (nI n_size), .int z_most])), (a_things, .inl (ka_things, 181, .inl f_things))] := hD
    refine lv_iconst (v := (-1)) hx hb d_Open_belowLetsAndLaidBlocks_16 (by decide) ?_
    refine lv_icmp_eq (tgt := 28) hx hb d_Open_belowLetsAndLaidBlocks_17 (by decide) (fun h11 => ?_) (fun h11 => ?_)
    · refine lv_iinc (k := 0) (v := (nI (k1 - 1) - 1)) hx hb d_Open_belowLetsAndLaidBlocks_28 hl rfl (xr_dec2 _) (by decide) rfl (fun ls hl => ?_)
      have hl : lv_has ls 2 [(1, .int (nI (k1 - 1) - 1)), (0, .ref a_t)] := hl
      refine lv_goto (tgt := 7) hx hb d_Open_belowLetsAndLaidBlocks_31 (by decide) ?_
      have hP9 := hP.sub (ws' := [(a_t, .inr (6, [.ref a_things, .int (nI n_size), .int z_most])), (a_things, .inl (ka_things, 181, .inl f_things))]) [0, 1] rfl
      have hD9 := hD.sub (ws' := [(a_t, .inr (6, [.ref a_things, .int (nI n_size), .int z_most])), (a_things, .inl (ka_things, 181, .inl f_things))]) [0, 1] (by decide) rfl
      exact ih7 ((k1 - 1)) (by show ((k1 - 1)) < k1; omega) _ _ _ ⟨by show ((k1 - 1)) ≤ 181; first | omega | assumption | exact Or.inl rfl | exact Or.inr rfl, hl, hP9, hD9, hS⟩
    · refine lv_aload_n hx hb d_Open_belowLetsAndLaidBlocks_20 rfl (lv_at hl 1 rfl) ?_
      refine lv_iload_n hx hb d_Open_belowLetsAndLaidBlocks_21 rfl (lv_at hl 0 rfl) ?_
      have hPc := hP.sub (ws' := [(a_t, .inr (6, [.ref a_things, .int (nI n_size), .int z_most])), (a_things, .inl (ka_things, 181, .inl f_things))]) [0, 1] rfl
      have hDc := hD.sub (ws' := [(a_t, .inr (6, [.ref a_things, .int (nI n_size), .int z_most])), (a_things, .inl (ka_things, 181, .inl f_things))]) [0, 1] (by decide) rfl
      have hKc := hK.sub (tys' := [(ka_things, .int)]) [0] rfl
      have hFc := va_free (wc := [(a_t, .inr (6, [.ref a_things, .int (nI n_size), .int z_most])), (a_things, .inl (ka_things, 181, .inl f_things))]) hD hS hA [0, 1] rfl
      refine va_calli (va_runV (As := [.int (nI (k1 - 1))]) (rest := []) ⟨hx, hb, hml, hown, hz⟩ (s_Open_at l dC dI H.size a_t a_things f_things n_size z_most ((nI (k1 - 1))) ka_things (by first | omega | assumption | exact Or.inl rfl | exact Or.inr rfl)) (cwV 1 hz (zV zm_174 zm_175 zm_176 zm_177 zm_178) rfl rfl rfl (by decide +kernel) ⟨Nat.le_of_ble_eq_true rfl, Nat.le_of_ble_eq_true rfl⟩) ⟨fun a U g mk q => by obtain ⟨q0, q1, qP, qK, qD⟩ := q; exact ⟨q0, q1, qP, va_K.moved (u := U) (U := U.calling g mk a) (Vm.Alike.refl U.vm) qK, qD⟩, va_recv (q := (R_Open, F_Open, 3)) (q0 := 0) (ci := 6) hK hP rfl rfl, fun U hU hW => ⟨rfl, by rw [hU], by rw [hU]; exact hPc, va_K.moved hW.alike hKc, hDc.weaken (fun _ _ _ _ => trivial)⟩⟩ rfl rfl hl.1 rfl (lv_room (Nat.le_of_ble_eq_true rfl)) d_Open_belowLetsAndLaidBlocks_22 ⟨Nat.zero_le _, Nat.zero_le _⟩) hS (fun q _ h => hFc q h) hFc (fun x12 u t H1 locs ht hvm hw hB hz1 hk1 hS => ?_)
      obtain ⟨hP1, hK1, hD1⟩ := hB
      rw [ht] at hP1
      obtain ⟨hP, hD⟩ := va_join (wr := []) (w1 := [(a_t, .inr (6, [.ref a_things, .int (nI n_size), .int z_most])), (a_things, .inl (ka_things, 181, .inl f_things))]) hP hD [0, 1] [] rfl rfl (by decide) (by decide) hk1 hFc hP1 hD1
      generalize H1 = H at hP hS ⊢
      have hP : va_P (dC, dI) vcl [(a_t, .inr (6, [.ref a_things, .int (nI n_size), .int z_most])), (a_things, .inl (ka_things, 181, .inl f_things))] H := hP
      have hD : va_D A [(a_t, .inr (6, [.ref a_things, .int (nI n_size), .int z_most])), (a_things, .inl (ka_things, 181, .inl f_things))] := hD
      refine lv_if_le (tgt := 34) hx hb d_Open_belowLetsAndLaidBlocks_25 (by decide) (fun h13 => ?_) (fun h13 => ?_)
      · refine lv_aload_n hx hb d_Open_belowLetsAndLaidBlocks_34 rfl (lv_at hl 1 rfl) ?_
        refine lv_iload_n hx hb d_Open_belowLetsAndLaidBlocks_35 rfl (lv_at hl 0 rfl) ?_
        have hPc := hP.sub (ws' := [(a_t, .inr (6, [.ref a_things, .int (nI n_size), .int z_most])), (a_things, .inl (ka_things, 181, .inl f_things))]) [0, 1] rfl
        have hDc := hD.sub (ws' := [(a_t, .inr (6, [.ref a_things, .int (nI n_size), .int z_most])), (a_things, .inl (ka_things, 181, .inl f_things))]) [0, 1] (by decide) rfl
        have hKc := hK.sub (tys' := [(ka_things, .int)]) [0] rfl
        have hFc := va_free (wc := [(a_t, .inr (6, [.ref a_things, .int (nI n_size), .int z_most])), (a_things, .inl (ka_things, 181, .inl f_things))]) hD hS hA [0, 1] rfl
        refine va_calli (va_runV (As := [.int (nI (k1 - 1))]) (rest := []) ⟨hx, hb, hml, hown, hz⟩ (s_Open_at l dC dI H.size a_t a_things f_things n_size z_most ((nI (k1 - 1))) ka_things (by first | omega | assumption | exact Or.inl rfl | exact Or.inr rfl)) (cwV 1 hz (zV zm_174 zm_175 zm_176 zm_177 zm_178) rfl rfl rfl (by decide +kernel) ⟨Nat.le_of_ble_eq_true rfl, Nat.le_of_ble_eq_true rfl⟩) ⟨fun a U g mk q => by obtain ⟨q0, q1, qP, qK, qD⟩ := q; exact ⟨q0, q1, qP, va_K.moved (u := U) (U := U.calling g mk a) (Vm.Alike.refl U.vm) qK, qD⟩, va_recv (q := (R_Open, F_Open, 3)) (q0 := 0) (ci := 6) hK hP rfl rfl, fun U hU hW => ⟨rfl, by rw [hU], by rw [hU]; exact hPc, va_K.moved hW.alike hKc, hDc.weaken (fun _ _ _ _ => trivial)⟩⟩ rfl rfl hl.1 rfl (lv_room (Nat.le_of_ble_eq_true rfl)) d_Open_belowLetsAndLaidBlocks_36 ⟨Nat.zero_le _, Nat.zero_le _⟩) hS (fun q _ h => hFc q h) hFc (fun x14 u t H1 locs ht hvm hw hB hz1 hk1 hS => ?_)
        obtain ⟨hP1, hK1, hD1⟩ := hB
        rw [ht] at hP1
        obtain ⟨hP, hD⟩ := va_join (wr := []) (w1 := [(a_t, .inr (6, [.ref a_things, .int (nI n_size), .int z_most])), (a_things, .inl (ka_things, 181, .inl f_things))]) hP hD [0, 1] [] rfl rfl (by decide) (by decide) hk1 hFc hP1 hD1
        generalize H1 = H at hP hS ⊢
        have hP : va_P (dC, dI) vcl [(a_t, .inr (6, [.ref a_things, .int (nI n_size), .int z_most])), (a_things, .inl (ka_things, 181, .inl f_things))] H := hP
        have hD : va_D A [(a_t, .inr (6, [.ref a_things, .int (nI n_size), .int z_most])), (a_things, .inl (ka_things, 181, .inl f_things))] := hD
        have hP9 := hP.sub (ws' := [(a_t, .inr (6, [.ref a_things, .int (nI n_size), .int z_most])), (a_things, .inl (ka_things, 181, .inl f_things))]) [0, 1] rfl
        have hD9 := hD.sub (ws' := [(a_t, .inr (6, [.ref a_things, .int (nI n_size), .int z_most])), (a_things, .inl (ka_things, 181, .inl f_things))]) [0, 1] (by decide) rfl
        exact W.iret (v := x14) hx hb hr (fun t ht hW => ⟨⟨x14, (), rfl, trivial, by rw [ht]; exact hP9, va_K.moved hW.alike hK, hD9⟩, hS.F ht⟩) hS.2.2 d_Open_belowLetsAndLaidBlocks_39
      · refine lv_iinc (k := 0) (v := (nI (k1 - 1) - 1)) hx hb d_Open_belowLetsAndLaidBlocks_28 hl rfl (xr_dec2 _) (by decide) rfl (fun ls hl => ?_)
        have hl : lv_has ls 2 [(1, .int (nI (k1 - 1) - 1)), (0, .ref a_t)] := hl
        refine lv_goto (tgt := 7) hx hb d_Open_belowLetsAndLaidBlocks_31 (by decide) ?_
        have hP9 := hP.sub (ws' := [(a_t, .inr (6, [.ref a_things, .int (nI n_size), .int z_most])), (a_things, .inl (ka_things, 181, .inl f_things))]) [0, 1] rfl
        have hD9 := hD.sub (ws' := [(a_t, .inr (6, [.ref a_things, .int (nI n_size), .int z_most])), (a_things, .inl (ka_things, 181, .inl f_things))]) [0, 1] (by decide) rfl
        exact ih7 ((k1 - 1)) (by show ((k1 - 1)) < k1; omega) _ _ _ ⟨by show ((k1 - 1)) ≤ 181; first | omega | assumption | exact Or.inl rfl | exact Or.inr rfl, hl, hP9, hD9, hS⟩
set_option maxHeartbeats 4000000 in
set_option maxRecDepth 100000 in
theorem s_Open_latestColumn (l : Launch) (dC : Nat → ClassId) (dI : Nat → Nat → Nat) (sz : Nat) (a_t : Nat) (a_things : Nat) (f_things : Nat → Int32) (n_size : Nat) (z_most : Int32) (ka_things : ClassId) (b_size : n_size ≤ 181) : Met l y_Open_latestColumn w_Open_latestColumn ({ frames := 1, cells := 0, slots := 0, locals := 21 }) (va_Pc [.ref a_t] (fun U => U.heap.size = sz ∧ va_P (dC, dI) vcl [(a_t, .inr (6, [.ref a_things, .int (nI n_size), .int z_most])), (a_things, .inl (ka_things, 181, .inl f_things))] U.heap ∧ va_K (dC, dI) vcl [(ka_things, .int)] U ∧ va_D (fun _ => True) [(a_t, .inr (6, [.ref a_things, .int (nI n_size), .int z_most])), (a_things, .inl (ka_things, 181, .inl f_things))])) (va_Qi (fun (r : Int32) (_ : Unit) => True) (fun _ t => va_P (dC, dI) vcl [(a_t, .inr (6, [.ref a_things, .int (nI n_size), .int z_most])), (a_things, .inl (ka_things, 181, .inl f_things))] t.heap ∧ va_K (dC, dI) vcl [(ka_things, .int)] t ∧ va_D (va_A [(a_t, .inr (6, [.ref a_things, .int (nI n_size), .int z_most])), (a_things, .inl (ka_things, 181, .inl f_things))] sz) [(a_t, .inr (6, [.ref a_things, .int (nI n_size), .int z_most])), (a_things, .inl (ka_things, 181, .inl f_things))]) (va_A [(a_t, .inr (6, [.ref a_things, .int (nI n_size), .int z_most])), (a_things, .inl (ka_things, 181, .inl f_things))] sz)) 0 0 (va_A [(a_t, .inr (6, [.ref a_things, .int (nI n_size), .int z_most])), (a_things, .inl (ka_things, 181, .inl f_things))] sz) := by
  refine Met.ofW (cc := b_Open_latestColumn) (maxL := 2) (ret := (some .int)) (by decide) rfl ?_
  intro p e s m args below meth c s₁ B hml hv
  obtain ⟨rfl, hsz, hP, hK, hD0⟩ := hv
  have hx := B.exec
  have hb := B.bytes
  have hr := B.returns
  have hts := atoms_spec (ws := w_Open_latestColumn) B.pre
  have hz : ∀ w ∈ wz, w.before _ s = true := fun w h => hts w (List.mem_cons_of_mem _ h)
  have hown : s.vm.findClass R_Open = some m.cls := findClass_of_methodNamed B.named
  have hlocks := B.notSynchronized
  subst hsz
  have hD := hD0.self (sz := s.heap.size)
  generalize hAe : va_A [(a_t, .inr (6, [.ref a_things, .int (nI n_size), .int z_most])), (a_things, .inl (ka_things, 181, .inl f_things))] s.heap.size = A at hD ⊢
  have hA : ∀ q : Nat, s.heap.size ≤ q → A q := fun q h => by rw [← hAe]; exact Or.inr h
  have hS : va_S A s.heap s.heap [] := va_S.rf
  have hP : va_P (dC, dI) vcl [(a_t, .inr (6, [.ref a_things, .int (nI n_size), .int z_most])), (a_things, .inl (ka_things, 181, .inl f_things))] s.heap := hP
  have hl := lv_entry ([.ref a_t]) (n := 2) (Nat.le_of_ble_eq_true rfl)
  rw [lg_entry_eq]
  generalize (lg_sl ([.ref a_t]) ++ List.replicate (2 - (lg_sl ([.ref a_t])).length) Slot.unset).toArray = ls at hl ⊢
  have hl : lv_has ls 2 [(0, .ref a_t)] := hl
  refine lv_aload_n hx hb d_Open_latestColumn_0 rfl (lv_at hl 0 rfl) ?_
  refine va_get (D := (dC, dI)) (ci := 6) (v := .int (nI n_size)) (C := R_Open) (T := F_Open) (N := 3) hx hb hz zu_Open hown hK hP 0 rfl rfl 1 (by decide) (hz (.fieldLink R_Open 15 "LayoutFront$Open" "size" "I") zm_171) (fun _ h9 => h9) rfl d_Open_latestColumn_1 ?_
  refine lv_iconst (v := 1) hx hb d_Open_latestColumn_4 (by decide) ?_
  refine xr_isub (v := (nI n_size - 1)) hx hb d_Open_latestColumn_5 rfl ?_
  refine lv_istore_n hx hb d_Open_latestColumn_6 rfl hl (by decide) rfl (fun ls hl => ?_)
  have hl : lv_has ls 2 [(1, .int (nI n_size - 1)), (0, .ref a_t)] := hl
  refine xr_loop (α := (Nat)) (fun a => (fun (k1 : Nat) => k1) a) (fun a H locs ls => (fun (k1 : Nat) => (k1 ≤ 181) ∧ lv_has ls 2 [(1, .int (nI k1 - 1)), (0, .ref a_t)] ∧ va_P (dC, dI) vcl [(a_t, .inr (6, [.ref a_things, .int (nI n_size), .int z_most])), (a_things, .inl (ka_things, 181, .inl f_things))] H ∧ va_D A [(a_t, .inr (6, [.ref a_things, .int (nI n_size), .int z_most])), (a_things, .inl (ka_things, 181, .inl f_things))] ∧ va_S A s.heap H locs) a) (fun a ih7 H locs ls hI => ?_) (n_size) _ _ _ ⟨by show n_size ≤ 181; first | omega | assumption | exact Or.inl rfl | exact Or.inr rfl, hl, hP, hD, hS⟩
  generalize a = k1 at ih7 hI
  obtain ⟨bl0, hl, hP, hD, hS⟩ := hI
  have bl0 : k1 ≤ 181 := bl0
  have hl : lv_has ls 2 [(1, .int (nI k1 - 1)), (0, .ref a_t)] := hl
  have hP : va_P (dC, dI) vcl [(a_t, .inr (6, [.ref a_things, .int (nI n_size), .int z_most])), (a_things, .inl (ka_things, 181, .inl f_things))] H := hP
  have hD : va_D A [(a_t, .inr (6, [.ref a_things, .int (nI n_size), .int z_most])), (a_things, .inl (ka_things, 181, .inl f_things))] := hD
  refine lv_iload_n hx hb d_Open_latestColumn_7 rfl (lv_at hl 0 rfl) ?_
  refine lv_if_lt (tgt := 31) hx hb d_Open_latestColumn_8 (by decide) (fun h5 => ?_) (fun h5 => ?_)
  · have h5 : k1 = 0 := (xr_pred_lt (by omega)).mp h5
    refine lv_iconst (v := 0) hx hb d_Open_latestColumn_31 (by decide) ?_
    have hP9 := hP.sub (ws' := [(a_t, .inr (6, [.ref a_things, .int (nI n_size), .int z_most])), (a_things, .inl (ka_things, 181, .inl f_things))]) [0, 1] rfl
    have hD9 := hD.sub (ws' := [(a_t, .inr (6, [.ref a_things, .int (nI n_size), .int z_most])), (a_things, .inl (ka_things, 181, .inl f_things))]) [0, 1] (by decide) rfl
    exact W.iret (v := 0) hx hb hr (fun t ht hW => ⟨⟨0, (), rfl, trivial, by rw [ht]; exact hP9, va_K.moved hW.alike hK, hD9⟩, hS.F ht⟩) hS.2.2 d_Open_latestColumn_32
  · have h5 : ¬ k1 = 0 := fun q => h5 ((xr_pred_lt (by omega)).mpr q)
    have e_h5 : nI k1 - 1 = nI (k1 - 1) := pk_sub (a := k1) (b := 1) (by omega)
    rw [e_h5] at hl
    have hl : lv_has ls 2 [(1, .int (nI (k1 - 1))), (0, .ref a_t)] := hl
    refine lv_aload_n hx hb d_Open_latestColumn_11 rfl (lv_at hl 1 rfl) ?_
    refine lv_iload_n hx hb d_Open_latestColumn_12 rfl (lv_at hl 0 rfl) ?_
    have hPc := hP.sub (ws' := [(a_t, .inr (6, [.ref a_things, .int (nI n_size), .int z_most])), (a_things, .inl (ka_things, 181, .inl f_things))]) [0, 1] rfl
    have hDc := hD.sub (ws' := [(a_t, .inr (6, [.ref a_things, .int (nI n_size), .int z_most])), (a_things, .inl (ka_things, 181, .inl f_things))]) [0, 1] (by decide) rfl
    have hKc := hK.sub (tys' := [(ka_things, .int)]) [0] rfl
    have hFc := va_free (wc := [(a_t, .inr (6, [.ref a_things, .int (nI n_size), .int z_most])), (a_things, .inl (ka_things, 181, .inl f_things))]) hD hS hA [0, 1] rfl
    refine va_calli (va_runV (As := [.int (nI (k1 - 1))]) (rest := []) ⟨hx, hb, hml, hown, hz⟩ (s_Open_at l dC dI H.size a_t a_things f_things n_size z_most ((nI (k1 - 1))) ka_things (by first | omega | assumption | exact Or.inl rfl | exact Or.inr rfl)) (cwV 1 hz (zV zm_174 zm_175 zm_176 zm_177 zm_178) rfl rfl rfl (by decide +kernel) ⟨Nat.le_of_ble_eq_true rfl, Nat.le_of_ble_eq_true rfl⟩) ⟨fun a U g mk q => by obtain ⟨q0, q1, qP, qK, qD⟩ := q; exact ⟨q0, q1, qP, va_K.moved (u := U) (U := U.calling g mk a) (Vm.Alike.refl U.vm) qK, qD⟩, va_recv (q := (R_Open, F_Open, 3)) (q0 := 0) (ci := 6) hK hP rfl rfl, fun U hU hW => ⟨rfl, by rw [hU], by rw [hU]; exact hPc, va_K.moved hW.alike hKc, hDc.weaken (fun _ _ _ _ => trivial)⟩⟩ rfl rfl hl.1 rfl (lv_room (Nat.le_of_ble_eq_true rfl)) d_Open_latestColumn_13 ⟨Nat.zero_le _, Nat.zero_le _⟩) hS (fun q _ h => hFc q h) hFc (fun x6 u t H1 locs ht hvm hw hB hz1 hk1 hS => ?_)
    obtain ⟨hP1, hK1, hD1⟩ := hB
    rw [ht] at hP1
    obtain ⟨hP, hD⟩ := va_join (wr := []) (w1 := [(a_t, .inr (6, [.ref a_things, .int (nI n_size), .int z_most])), (a_things, .inl (ka_things, 181, .inl f_things))]) hP hD [0, 1] [] rfl rfl (by decide) (by decide) hk1 hFc hP1 hD1
    generalize H1 = H at hP hS ⊢
    have hP : va_P (dC, dI) vcl [(a_t, .inr (6, [.ref a_things, .int (nI n_size), .int z_most])), (a_things, .inl (ka_things, 181, .inl f_things))] H := hP
    have hD : va_D A [(a_t, .inr (6, [.ref a_things, .int (nI n_size), .int z_most])), (a_things, .inl (ka_things, 181, .inl f_things))] := hD
    refine lv_if_lt (tgt := 25) hx hb d_Open_latestColumn_16 (by decide) (fun h7 => ?_) (fun h7 => ?_)
    · refine lv_iinc (k := 0) (v := (nI (k1 - 1) - 1)) hx hb d_Open_latestColumn_25 hl rfl (xr_dec2 _) (by decide) rfl (fun ls hl => ?_)
      have hl : lv_has ls 2 [(1, .int (nI (k1 - 1) - 1)), (0, .ref a_t)] := hl
      refine lv_goto (tgt := 7) hx hb d_Open_latestColumn_28 (by decide) ?_
      have hP9 := hP.sub (ws' := [(a_t, .inr (6, [.ref a_things, .int (nI n_size), .int z_most])), (a_things, .inl (ka_things, 181, .inl f_things))]) [0, 1] rfl
      have hD9 := hD.sub (ws' := [(a_t, .inr (6, [.ref a_things, .int (nI n_size), .int z_most])), (a_things, .inl (ka_things, 181, .inl f_things))]) [0, 1] (by decide) rfl
      exact ih7 ((k1 - 1)) (by show ((k1 - 1)) < k1; omega) _ _ _ ⟨by show ((k1 - 1)) ≤ 181; first | omega | assumption | exact Or.inl rfl | exact Or.inr rfl, hl, hP9, hD9, hS⟩
    · refine lv_aload_n hx hb d_Open_latestColumn_19 rfl (lv_at hl 1 rfl) ?_
      refine lv_iload_n hx hb d_Open_latestColumn_20 rfl (lv_at hl 0 rfl) ?_
      have hPc := hP.sub (ws' := [(a_t, .inr (6, [.ref a_things, .int (nI n_size), .int z_most])), (a_things, .inl (ka_things, 181, .inl f_things))]) [0, 1] rfl
      have hDc := hD.sub (ws' := [(a_t, .inr (6, [.ref a_things, .int (nI n_size), .int z_most])), (a_things, .inl (ka_things, 181, .inl f_things))]) [0, 1] (by decide) rfl
      have hKc := hK.sub (tys' := [(ka_things, .int)]) [0] rfl
      have hFc := va_free (wc := [(a_t, .inr (6, [.ref a_things, .int (nI n_size), .int z_most])), (a_things, .inl (ka_things, 181, .inl f_things))]) hD hS hA [0, 1] rfl
      refine va_calli (va_runV (As := [.int (nI (k1 - 1))]) (rest := []) ⟨hx, hb, hml, hown, hz⟩ (s_Open_at l dC dI H.size a_t a_things f_things n_size z_most ((nI (k1 - 1))) ka_things (by first | omega | assumption | exact Or.inl rfl | exact Or.inr rfl)) (cwV 1 hz (zV zm_174 zm_175 zm_176 zm_177 zm_178) rfl rfl rfl (by decide +kernel) ⟨Nat.le_of_ble_eq_true rfl, Nat.le_of_ble_eq_true rfl⟩) ⟨fun a U g mk q => by obtain ⟨q0, q1, qP, qK, qD⟩ := q; exact ⟨q0, q1, qP, va_K.moved (u := U) (U := U.calling g mk a) (Vm.Alike.refl U.vm) qK, qD⟩, va_recv (q := (R_Open, F_Open, 3)) (q0 := 0) (ci := 6) hK hP rfl rfl, fun U hU hW => ⟨rfl, by rw [hU], by rw [hU]; exact hPc, va_K.moved hW.alike hKc, hDc.weaken (fun _ _ _ _ => trivial)⟩⟩ rfl rfl hl.1 rfl (lv_room (Nat.le_of_ble_eq_true rfl)) d_Open_latestColumn_21 ⟨Nat.zero_le _, Nat.zero_le _⟩) hS (fun q _ h => hFc q h) hFc (fun x8 u t H1 locs ht hvm hw hB hz1 hk1 hS => ?_)
      obtain ⟨hP1, hK1, hD1⟩ := hB
      rw [ht] at hP1
      obtain ⟨hP, hD⟩ := va_join (wr := []) (w1 := [(a_t, .inr (6, [.ref a_things, .int (nI n_size), .int z_most])), (a_things, .inl (ka_things, 181, .inl f_things))]) hP hD [0, 1] [] rfl rfl (by decide) (by decide) hk1 hFc hP1 hD1
      generalize H1 = H at hP hS ⊢
      have hP : va_P (dC, dI) vcl [(a_t, .inr (6, [.ref a_things, .int (nI n_size), .int z_most])), (a_things, .inl (ka_things, 181, .inl f_things))] H := hP
      have hD : va_D A [(a_t, .inr (6, [.ref a_things, .int (nI n_size), .int z_most])), (a_things, .inl (ka_things, 181, .inl f_things))] := hD
      have hP9 := hP.sub (ws' := [(a_t, .inr (6, [.ref a_things, .int (nI n_size), .int z_most])), (a_things, .inl (ka_things, 181, .inl f_things))]) [0, 1] rfl
      have hD9 := hD.sub (ws' := [(a_t, .inr (6, [.ref a_things, .int (nI n_size), .int z_most])), (a_things, .inl (ka_things, 181, .inl f_things))]) [0, 1] (by decide) rfl
      exact W.iret (v := x8) hx hb hr (fun t ht hW => ⟨⟨x8, (), rfl, trivial, by rw [ht]; exact hP9, va_K.moved hW.alike hK, hD9⟩, hS.F ht⟩) hS.2.2 d_Open_latestColumn_24
set_option maxHeartbeats 4000000 in
set_option maxRecDepth 100000 in
theorem s_Resolver_takeOperation (l : Launch) (dC : Nat → ClassId) (dI : Nat → Nat → Nat) (sz : Nat) (a_t : Nat) (a_pairFirsts : Nat) (f_pairFirsts : Nat → Int32) (a_pairLasts : Nat) (f_pairLasts : Nat → Int32) (n_pairs : Nat) (n_pairsBefore : Nat) (a_firsts : Nat) (f_firsts : Nat → Int32) (a_lasts : Nat) (f_lasts : Nat → Int32) (n_operands : Nat) (a_levels : Nat) (f_levels : Nat → Int32) (a_sides : Nat) (f_sides : Nat → Int32) (a_minusPlaces : Nat) (f_minusPlaces : Nat → Int32) (n_waiting : Nat) (y0 : Int32) (y1 : Int32) (ka_pairFirsts : ClassId) (ka_pairLasts : ClassId) (ka_firsts : ClassId) (ka_lasts : ClassId) (ka_levels : ClassId) (ka_sides : ClassId) (ka_minusPlaces : ClassId) (b_pairs : n_pairs ≤ 90) (b_pairsBefore : n_pairsBefore ≤ 90) (b_operands : n_operands ≤ 90) (b_waiting : n_waiting ≤ 90) : Met l y_Resolver_takeOperation w_Resolver_takeOperation ({ frames := 1, cells := 0, slots := 0, locals := 23 }) (va_Pc [.ref a_t, .int y0, .int y1] (fun U => U.heap.size = sz ∧ va_P (dC, dI) vcl [(a_t, .inr (7, [.ref a_pairFirsts, .ref a_pairLasts, .int (nI n_pairs), .int (nI n_pairsBefore), .ref a_firsts, .ref a_lasts, .int (nI n_operands), .ref a_levels, .ref a_sides, .ref a_minusPlaces, .int (nI n_waiting)])), (a_pairFirsts, .inl (ka_pairFirsts, 90, .inl f_pairFirsts)), (a_pairLasts, .inl (ka_pairLasts, 90, .inl f_pairLasts)), (a_firsts, .inl (ka_firsts, 90, .inl f_firsts)), (a_lasts, .inl (ka_lasts, 90, .inl f_lasts)), (a_levels, .inl (ka_levels, 90, .inl f_levels)), (a_sides, .inl (ka_sides, 90, .inl f_sides)), (a_minusPlaces, .inl (ka_minusPlaces, 90, .inl f_minusPlaces))] U.heap ∧ va_K (dC, dI) vcl [(ka_pairFirsts, .int), (ka_pairLasts, .int), (ka_firsts, .int), (ka_lasts, .int), (ka_levels, .int), (ka_sides, .int), (ka_minusPlaces, .int)] U ∧ va_D (fun _ => True) [(a_t, .inr (7, [.ref a_pairFirsts, .ref a_pairLasts, .int (nI n_pairs), .int (nI n_pairsBefore), .ref a_firsts, .ref a_lasts, .int (nI n_operands), .ref a_levels, .ref a_sides, .ref a_minusPlaces, .int (nI n_waiting)])), (a_pairFirsts, .inl (ka_pairFirsts, 90, .inl f_pairFirsts)), (a_pairLasts, .inl (ka_pairLasts, 90, .inl f_pairLasts)), (a_firsts, .inl (ka_firsts, 90, .inl f_firsts)), (a_lasts, .inl (ka_lasts, 90, .inl f_lasts)), (a_levels, .inl (ka_levels, 90, .inl f_levels)), (a_sides, .inl (ka_sides, 90, .inl f_sides)), (a_minusPlaces, .inl (ka_minusPlaces, 90, .inl f_minusPlaces))])) (va_Qi (fun (r : Int32) (_ : Unit) => r = 0 ∨ r = 1) (fun _ t => ∃ (w_n_pairs : Nat) (w_n_operands : Nat) (w_n_waiting : Nat) (w_f_pairFirsts : Nat → Int32) (w_f_pairLasts : Nat → Int32) (w_f_firsts : Nat → Int32) (w_f_lasts : Nat → Int32) (w_f_levels : Nat → Int32) (w_f_sides : Nat → Int32) (w_f_minusPlaces : Nat → Int32), (w_n_pairs ≤ 90) ∧ (w_n_operands ≤ 90) ∧ (w_n_waiting ≤ 90) ∧ va_P (dC, dI) vcl [(a_t, .inr (7, [.ref a_pairFirsts, .ref a_pairLasts, .int (nI w_n_pairs), .int (nI n_pairsBefore), .ref a_firsts, .ref a_lasts, .int (nI w_n_operands), .ref a_levels, .ref a_sides, .ref a_minusPlaces, .int (nI w_n_waiting)])), (a_pairFirsts, .inl (ka_pairFirsts, 90, .inl w_f_pairFirsts)), (a_pairLasts, .inl (ka_pairLasts, 90, .inl w_f_pairLasts)), (a_firsts, .inl (ka_firsts, 90, .inl w_f_firsts)), (a_lasts, .inl (ka_lasts, 90, .inl w_f_lasts)), (a_levels, .inl (ka_levels, 90, .inl w_f_levels)), (a_sides, .inl (ka_sides, 90, .inl w_f_sides)), (a_minusPlaces, .inl (ka_minusPlaces, 90, .inl w_f_minusPlaces))] t.heap ∧ va_K (dC, dI) vcl [(ka_pairFirsts, .int), (ka_pairLasts, .int), (ka_firsts, .int), (ka_lasts, .int), (ka_levels, .int), (ka_sides, .int), (ka_minusPlaces, .int)] t ∧ va_D (va_A [(a_t, .inr (7, [.ref a_pairFirsts, .ref a_pairLasts, .int (nI n_pairs), .int (nI n_pairsBefore), .ref a_firsts, .ref a_lasts, .int (nI n_operands), .ref a_levels, .ref a_sides, .ref a_minusPlaces, .int (nI n_waiting)])), (a_pairFirsts, .inl (ka_pairFirsts, 90, .inl f_pairFirsts)), (a_pairLasts, .inl (ka_pairLasts, 90, .inl f_pairLasts)), (a_firsts, .inl (ka_firsts, 90, .inl f_firsts)), (a_lasts, .inl (ka_lasts, 90, .inl f_lasts)), (a_levels, .inl (ka_levels, 90, .inl f_levels)), (a_sides, .inl (ka_sides, 90, .inl f_sides)), (a_minusPlaces, .inl (ka_minusPlaces, 90, .inl f_minusPlaces))] sz) [(a_t, .inr (7, [.ref a_pairFirsts, .ref a_pairLasts, .int (nI w_n_pairs), .int (nI n_pairsBefore), .ref a_firsts, .ref a_lasts, .int (nI w_n_operands), .ref a_levels, .ref a_sides, .ref a_minusPlaces, .int (nI w_n_waiting)])), (a_pairFirsts, .inl (ka_pairFirsts, 90, .inl w_f_pairFirsts)), (a_pairLasts, .inl (ka_pairLasts, 90, .inl w_f_pairLasts)), (a_firsts, .inl (ka_firsts, 90, .inl w_f_firsts)), (a_lasts, .inl (ka_lasts, 90, .inl w_f_lasts)), (a_levels, .inl (ka_levels, 90, .inl w_f_levels)), (a_sides, .inl (ka_sides, 90, .inl w_f_sides)), (a_minusPlaces, .inl (ka_minusPlaces, 90, .inl w_f_minusPlaces))]) (va_A [(a_t, .inr (7, [.ref a_pairFirsts, .ref a_pairLasts, .int (nI n_pairs), .int (nI n_pairsBefore), .ref a_firsts, .ref a_lasts, .int (nI n_operands), .ref a_levels, .ref a_sides, .ref a_minusPlaces, .int (nI n_waiting)])), (a_pairFirsts, .inl (ka_pairFirsts, 90, .inl f_pairFirsts)), (a_pairLasts, .inl (ka_pairLasts, 90, .inl f_pairLasts)), (a_firsts, .inl (ka_firsts, 90, .inl f_firsts)), (a_lasts, .inl (ka_lasts, 90, .inl f_lasts)), (a_levels, .inl (ka_levels, 90, .inl f_levels)), (a_sides, .inl (ka_sides, 90, .inl f_sides)), (a_minusPlaces, .inl (ka_minusPlaces, 90, .inl f_minusPlaces))] sz)) 0 0 (va_A [(a_t, .inr (7, [.ref a_pairFirsts, .ref a_pairLasts, .int (nI n_pairs), .int (nI n_pairsBefore), .ref a_firsts, .ref a_lasts, .int (nI n_operands), .ref a_levels, .ref a_sides, .ref a_minusPlaces, .int (nI n_waiting)])), (a_pairFirsts, .inl (ka_pairFirsts, 90, .inl f_pairFirsts)), (a_pairLasts, .inl (ka_pairLasts, 90, .inl f_pairLasts)), (a_firsts, .inl (ka_firsts, 90, .inl f_firsts)), (a_lasts, .inl (ka_lasts, 90, .inl f_lasts)), (a_levels, .inl (ka_levels, 90, .inl f_levels)), (a_sides, .inl (ka_sides, 90, .inl f_sides)), (a_minusPlaces, .inl (ka_minusPlaces, 90, .inl f_minusPlaces))] sz) := by
  refine Met.ofW (cc := b_Resolver_takeOperation) (maxL := 5) (ret := (some .boolean)) (by decide) rfl ?_
  intro p e s m args below meth c s₁ B hml hv
  obtain ⟨rfl, hsz, hP, hK, hD0⟩ := hv
  have hx := B.exec
  have hb := B.bytes
  have hr := B.returns
  have hts := atoms_spec (ws := w_Resolver_takeOperation) B.pre
  have hz : ∀ w ∈ wz, w.before _ s = true := fun w h => hts w (List.mem_cons_of_mem _ h)
  have hown : s.vm.findClass R_Resolver = some m.cls := findClass_of_methodNamed B.named
  have hlocks := B.notSynchronized
  subst hsz
  have hD := hD0.self (sz := s.heap.size)
  generalize hAe : va_A [(a_t, .inr (7, [.ref a_pairFirsts, .ref a_pairLasts, .int (nI n_pairs), .int (nI n_pairsBefore), .ref a_firsts, .ref a_lasts, .int (nI n_operands), .ref a_levels, .ref a_sides, .ref a_minusPlaces, .int (nI n_waiting)])), (a_pairFirsts, .inl (ka_pairFirsts, 90, .inl f_pairFirsts)), (a_pairLasts, .inl (ka_pairLasts, 90, .inl f_pairLasts)), (a_firsts, .inl (ka_firsts, 90, .inl f_firsts)), (a_lasts, .inl (ka_lasts, 90, .inl f_lasts)), (a_levels, .inl (ka_levels, 90, .inl f_levels)), (a_sides, .inl (ka_sides, 90, .inl f_sides)), (a_minusPlaces, .inl (ka_minusPlaces, 90, .inl f_minusPlaces))] s.heap.size = A at hD ⊢
  have hA : ∀ q : Nat, s.heap.size ≤ q → A q := fun q h => by rw [← hAe]; exact Or.inr h
  have hS : va_S A s.heap s.heap [] := va_S.rf
  have hP : va_P (dC, dI) vcl [(a_t, .inr (7, [.ref a_pairFirsts, .ref a_pairLasts, .int (nI n_pairs), .int (nI n_pairsBefore), .ref a_firsts, .ref a_lasts, .int (nI n_operands), .ref a_levels, .ref a_sides, .ref a_minusPlaces, .int (nI n_waiting)])), (a_pairFirsts, .inl (ka_pairFirsts, 90, .inl f_pairFirsts)), (a_pairLasts, .inl (ka_pairLasts, 90, .inl f_pairLasts)), (a_firsts, .inl (ka_firsts, 90, .inl f_firsts)), (a_lasts, .inl (ka_lasts, 90, .inl f_lasts)), (a_levels, .inl (ka_levels, 90, .inl f_levels)), (a_sides, .inl (ka_sides, 90, .inl f_sides)), (a_minusPlaces, .inl (ka_minusPlaces, 90, .inl f_minusPlaces))] s.heap := hP
  have hl := lv_entry ([.ref a_t, .int y0, .int y1]) (n := 5) (Nat.le_of_ble_eq_true rfl)
  rw [lg_entry_eq]
  generalize (lg_sl ([.ref a_t, .int y0, .int y1]) ++ List.replicate (5 - (lg_sl ([.ref a_t, .int y0, .int y1])).length) Slot.unset).toArray = ls at hl ⊢
  have hl : lv_has ls 5 [(0, .ref a_t), (1, .int y0), (2, .int y1)] := hl
  refine lv_aload_n hx hb d_Resolver_takeOperation_0 rfl (lv_at hl 0 rfl) ?_
  refine va_get (D := (dC, dI)) (ci := 7) (v := .int (nI n_waiting)) (C := R_Resolver) (T := F_Resolver) (N := 11) hx hb hz zu_Resolver hown hK hP 0 rfl rfl 10 (by decide) (hz (.fieldLink R_Resolver 46 "LayoutFront$Resolver" "waiting" "I") zm_344) (fun _ h9 => h9) rfl d_Resolver_takeOperation_1 ?_
  refine lv_iconst (v := 1) hx hb d_Resolver_takeOperation_4 (by decide) ?_
  refine xr_isub (v := (nI n_waiting - 1)) hx hb d_Resolver_takeOperation_5 rfl ?_
  refine lv_istore_n hx hb d_Resolver_takeOperation_6 rfl hl (by decide) rfl (fun ls hl => ?_)
  have hl : lv_has ls 5 [(3, .int (nI n_waiting - 1)), (0, .ref a_t), (1, .int y0), (2, .int y1)] := hl
  refine xr_loop (α := (Nat) × (Nat → Int32) × (Nat → Int32) × (Nat → Int32) × (Nat → Int32) × (Nat → Int32) × (Nat → Int32) × (Nat → Int32) × (Nat) × (Nat) × (Nat)) (fun a => (fun (k3 : Nat) (v_a_firsts : Nat → Int32) (v_a_lasts : Nat → Int32) (v_a_levels : Nat → Int32) (v_a_minusPlaces : Nat → Int32) (v_a_pairFirsts : Nat → Int32) (v_a_pairLasts : Nat → Int32) (v_a_sides : Nat → Int32) (v_a_t_10 : Nat) (v_a_t_2 : Nat) (v_a_t_6 : Nat) => k3) a.1 a.2.1 a.2.2.1 a.2.2.2.1 a.2.2.2.2.1 a.2.2.2.2.2.1 a.2.2.2.2.2.2.1 a.2.2.2.2.2.2.2.1 a.2.2.2.2.2.2.2.2.1 a.2.2.2.2.2.2.2.2.2.1 a.2.2.2.2.2.2.2.2.2.2) (fun a H locs ls => (fun (k3 : Nat) (v_a_firsts : Nat → Int32) (v_a_lasts : Nat → Int32) (v_a_levels : Nat → Int32) (v_a_minusPlaces : Nat → Int32) (v_a_pairFirsts : Nat → Int32) (v_a_pairLasts : Nat → Int32) (v_a_sides : Nat → Int32) (v_a_t_10 : Nat) (v_a_t_2 : Nat) (v_a_t_6 : Nat) => (k3 ≤ 90) ∧ (v_a_t_10 ≤ 90) ∧ (v_a_t_2 ≤ 90) ∧ (v_a_t_6 ≤ 90) ∧ lv_has ls 5 [(3, .int (nI k3 - 1)), (0, .ref a_t), (1, .int y0), (2, .int y1)] ∧ va_P (dC, dI) vcl [(a_t, .inr (7, [.ref a_pairFirsts, .ref a_pairLasts, .int (nI v_a_t_2), .int (nI n_pairsBefore), .ref a_firsts, .ref a_lasts, .int (nI v_a_t_6), .ref a_levels, .ref a_sides, .ref a_minusPlaces, .int (nI v_a_t_10)])), (a_pairFirsts, .inl (ka_pairFirsts, 90, .inl v_a_pairFirsts)), (a_pairLasts, .inl (ka_pairLasts, 90, .inl v_a_pairLasts)), (a_firsts, .inl (ka_firsts, 90, .inl v_a_firsts)), (a_lasts, .inl (ka_lasts, 90, .inl v_a_lasts)), (a_levels, .inl (ka_levels, 90, .inl v_a_levels)), (a_sides, .inl (ka_sides, 90, .inl v_a_sides)), (a_minusPlaces, .inl (ka_minusPlaces, 90, .inl v_a_minusPlaces))] H ∧ va_D A [(a_t, .inr (7, [.ref a_pairFirsts, .ref a_pairLasts, .int (nI v_a_t_2), .int (nI n_pairsBefore), .ref a_firsts, .ref a_lasts, .int (nI v_a_t_6), .ref a_levels, .ref a_sides, .ref a_minusPlaces, .int (nI v_a_t_10)])), (a_pairFirsts, .inl (ka_pairFirsts, 90, .inl v_a_pairFirsts)), (a_pairLasts, .inl (ka_pairLasts, 90, .inl v_a_pairLasts)), (a_firsts, .inl (ka_firsts, 90, .inl v_a_firsts)), (a_lasts, .inl (ka_lasts, 90, .inl v_a_lasts)), (a_levels, .inl (ka_levels, 90, .inl v_a_levels)), (a_sides, .inl (ka_sides, 90, .inl v_a_sides)), (a_minusPlaces, .inl (ka_minusPlaces, 90, .inl v_a_minusPlaces))] ∧ va_S A s.heap H locs) a.1 a.2.1 a.2.2.1 a.2.2.2.1 a.2.2.2.2.1 a.2.2.2.2.2.1 a.2.2.2.2.2.2.1 a.2.2.2.2.2.2.2.1 a.2.2.2.2.2.2.2.2.1 a.2.2.2.2.2.2.2.2.2.1 a.2.2.2.2.2.2.2.2.2.2) (fun a ih7 H locs ls hI => ?_) (n_waiting, f_firsts, f_lasts, f_levels, f_minusPlaces, f_pairFirsts, f_pairLasts, f_sides, n_waiting, n_pairs, n_operands) _ _ _ ⟨by show n_waiting ≤ 90; first | omega | assumption | exact Or.inl rfl | exact Or.inr rfl, by show n_waiting ≤ 90; first | omega | assumption | exact Or.inl rfl | exact Or.inr rfl, by show n_pairs ≤ 90; first | omega | assumption | exact Or.inl rfl | exact Or.inr rfl, by show n_operands ≤ 90; first | omega | assumption | exact Or.inl rfl | exact Or.inr rfl, hl, hP, hD, hS⟩
  obtain ⟨k3, v_a_firsts, v_a_lasts, v_a_levels, v_a_minusPlaces, v_a_pairFirsts, v_a_pairLasts, v_a_sides, v_a_t_10, v_a_t_2, v_a_t_6⟩ := a
  obtain ⟨bl0, bl1, bl2, bl3, hl, hP, hD, hS⟩ := hI
  have bl0 : k3 ≤ 90 := bl0
  have bl1 : v_a_t_10 ≤ 90 := bl1
  have bl2 : v_a_t_2 ≤ 90 := bl2
  have bl3 : v_a_t_6 ≤ 90 := bl3
  have hl : lv_has ls 5 [(3, .int (nI k3 - 1)), (0, .ref a_t), (1, .int y0), (2, .int y1)] := hl
  have hP : va_P (dC, dI) vcl [(a_t, .inr (7, [.ref a_pairFirsts, .ref a_pairLasts, .int (nI v_a_t_2), .int (nI n_pairsBefore), .ref a_firsts, .ref a_lasts, .int (nI v_a_t_6), .ref a_levels, .ref a_sides, .ref a_minusPlaces, .int (nI v_a_t_10)])), (a_pairFirsts, .inl (ka_pairFirsts, 90, .inl v_a_pairFirsts)), (a_pairLasts, .inl (ka_pairLasts, 90, .inl v_a_pairLasts)), (a_firsts, .inl (ka_firsts, 90, .inl v_a_firsts)), (a_lasts, .inl (ka_lasts, 90, .inl v_a_lasts)), (a_levels, .inl (ka_levels, 90, .inl v_a_levels)), (a_sides, .inl (ka_sides, 90, .inl v_a_sides)), (a_minusPlaces, .inl (ka_minusPlaces, 90, .inl v_a_minusPlaces))] H := hP
  have hD : va_D A [(a_t, .inr (7, [.ref a_pairFirsts, .ref a_pairLasts, .int (nI v_a_t_2), .int (nI n_pairsBefore), .ref a_firsts, .ref a_lasts, .int (nI v_a_t_6), .ref a_levels, .ref a_sides, .ref a_minusPlaces, .int (nI v_a_t_10)])), (a_pairFirsts, .inl (ka_pairFirsts, 90, .inl v_a_pairFirsts)), (a_pairLasts, .inl (ka_pairLasts, 90, .inl v_a_pairLasts)), (a_firsts, .inl (ka_firsts, 90, .inl v_a_firsts)), (a_lasts, .inl (ka_lasts, 90, .inl v_a_lasts)), (a_levels, .inl (ka_levels, 90, .inl v_a_levels)), (a_sides, .inl (ka_sides, 90, .inl v_a_sides)), (a_minusPlaces, .inl (ka_minusPlaces, 90, .inl v_a_minusPlaces))] := hD
  refine lv_iload_n hx hb d_Resolver_takeOperation_7 rfl (lv_at hl 0 rfl) ?_
  refine lv_if_lt (tgt := 82) hx hb d_Resolver_takeOperation_8 (by decide) (fun h42 => ?_) (fun h42 => ?_)
  · have h42 : k3 = 0 := (xr_pred_lt (by omega)).mp h42
    refine lv_aload_n hx hb d_Resolver_takeOperation_82 rfl (lv_at hl 1 rfl) ?_
    refine lv_iload_n hx hb d_Resolver_takeOperation_83 rfl (lv_at hl 2 rfl) ?_
    refine lv_iload_n hx hb d_Resolver_takeOperation_84 rfl (lv_at hl 3 rfl) ?_
    refine lv_iconst (v := (-1)) hx hb d_Resolver_takeOperation_85 (by decide) ?_
    have hPc := hP.sub (ws' := [(a_t, .inr (7, [.ref a_pairFirsts, .ref a_pairLasts, .int (nI v_a_t_2), .int (nI n_pairsBefore), .ref a_firsts, .ref a_lasts, .int (nI v_a_t_6), .ref a_levels, .ref a_sides, .ref a_minusPlaces, .int (nI v_a_t_10)])), (a_levels, .inl (ka_levels, 90, .inl v_a_levels)), (a_sides, .inl (ka_sides, 90, .inl v_a_sides)), (a_minusPlaces, .inl (ka_minusPlaces, 90, .inl v_a_minusPlaces))]) [0, 5, 6, 7] rfl
    have hDc := hD.sub (ws' := [(a_t, .inr (7, [.ref a_pairFirsts, .ref a_pairLasts, .int (nI v_a_t_2), .int (nI n_pairsBefore), .ref a_firsts, .ref a_lasts, .int (nI v_a_t_6), .ref a_levels, .ref a_sides, .ref a_minusPlaces, .int (nI v_a_t_10)])), (a_levels, .inl (ka_levels, 90, .inl v_a_levels)), (a_sides, .inl (ka_sides, 90, .inl v_a_sides)), (a_minusPlaces, .inl (ka_minusPlaces, 90, .inl v_a_minusPlaces))]) [0, 5, 6, 7] (by decide) rfl
    have hKc := hK.sub (tys' := [(ka_levels, .int), (ka_sides, .int), (ka_minusPlaces, .int)]) [4, 5, 6] rfl
    have hFc := va_free (wc := [(a_t, .inr (7, [.ref a_pairFirsts, .ref a_pairLasts, .int (nI v_a_t_2), .int (nI n_pairsBefore), .ref a_firsts, .ref a_lasts, .int (nI v_a_t_6), .ref a_levels, .ref a_sides, .ref a_minusPlaces, .int (nI v_a_t_10)])), (a_levels, .inl (ka_levels, 90, .inl v_a_levels)), (a_sides, .inl (ka_sides, 90, .inl v_a_sides)), (a_minusPlaces, .inl (ka_minusPlaces, 90, .inl v_a_minusPlaces))]) hD hS hA [0, 5, 6, 7] rfl
    refine va_callv (va_runV (As := [.int y0, .int y1, .int (-1)]) (rest := []) ⟨hx, hb, hml, hown, hz⟩ (s_Resolver_letWait l dC dI H.size a_t a_pairFirsts a_pairLasts v_a_t_2 n_pairsBefore a_firsts a_lasts v_a_t_6 a_levels v_a_levels a_sides v_a_sides a_minusPlaces v_a_minusPlaces v_a_t_10 y0 y1 ((-1)) ka_levels ka_sides ka_minusPlaces (by first | omega | assumption | exact Or.inl rfl | exact Or.inr rfl) (by first | omega | assumption | exact Or.inl rfl | exact Or.inr rfl) (by first | omega | assumption | exact Or.inl rfl | exact Or.inr rfl) (by first | omega | assumption | exact Or.inl rfl | exact Or.inr rfl)) (cwV 3 hz (zV zm_349 zm_350 zm_351 zm_340 zm_352) rfl rfl rfl (by decide +kernel) ⟨Nat.le_of_ble_eq_true rfl, Nat.le_of_ble_eq_true rfl⟩) ⟨fun a U g mk q => by obtain ⟨q0, q1, qP, qK, qD⟩ := q; exact ⟨q0, q1, qP, va_K.moved (u := U) (U := U.calling g mk a) (Vm.Alike.refl U.vm) qK, qD⟩, va_recv (q := (R_Resolver, F_Resolver, 11)) (q0 := 0) (ci := 7) hK hP rfl rfl, fun U hU hW => ⟨rfl, by rw [hU], by rw [hU]; exact hPc, va_K.moved hW.alike hKc, hDc.weaken (fun _ _ _ _ => trivial)⟩⟩ rfl rfl hl.1 rfl (lv_room (Nat.le_of_ble_eq_true rfl)) d_Resolver_takeOperation_86 ⟨Nat.zero_le _, Nat.zero_le _⟩) hS (fun q _ h => hFc q h) hFc (fun u t H1 locs ht hvm hw hB hz1 hk1 hS => ?_)
    obtain ⟨g43, g44, g45, g46, hb_g43, hP1, hK1, hD1⟩ := hB
    rw [ht] at hP1
    obtain ⟨hP, hD⟩ := va_join (wr := [(a_pairFirsts, .inl (ka_pairFirsts, 90, .inl v_a_pairFirsts)), (a_pairLasts, .inl (ka_pairLasts, 90, .inl v_a_pairLasts)), (a_firsts, .inl (ka_firsts, 90, .inl v_a_firsts)), (a_lasts, .inl (ka_lasts, 90, .inl v_a_lasts))]) (w1 := [(a_t, .inr (7, [.ref a_pairFirsts, .ref a_pairLasts, .int (nI v_a_t_2), .int (nI n_pairsBefore), .ref a_firsts, .ref a_lasts, .int (nI v_a_t_6), .ref a_levels, .ref a_sides, .ref a_minusPlaces, .int (nI g43)])), (a_levels, .inl (ka_levels, 90, .inl g44)), (a_sides, .inl (ka_sides, 90, .inl g45)), (a_minusPlaces, .inl (ka_minusPlaces, 90, .inl g46))]) hP hD [0, 5, 6, 7] [1, 2, 3, 4] rfl rfl (by decide) (by decide) hk1 hFc hP1 hD1
    generalize H1 = H at hP hS ⊢
    have hP : va_P (dC, dI) vcl [(a_pairFirsts, .inl (ka_pairFirsts, 90, .inl v_a_pairFirsts)), (a_pairLasts, .inl (ka_pairLasts, 90, .inl v_a_pairLasts)), (a_firsts, .inl (ka_firsts, 90, .inl v_a_firsts)), (a_lasts, .inl (ka_lasts, 90, .inl v_a_lasts)), (a_t, .inr (7, [.ref a_pairFirsts, .ref a_pairLasts, .int (nI v_a_t_2), .int (nI n_pairsBefore), .ref a_firsts, .ref a_lasts, .int (nI v_a_t_6), .ref a_levels, .ref a_sides, .ref a_minusPlaces, .int (nI g43)])), (a_levels, .inl (ka_levels, 90, .inl g44)), (a_sides, .inl (ka_sides, 90, .inl g45)), (a_minusPlaces, .inl (ka_minusPlaces, 90, .inl g46))] H := hP
    have hD : va_D A [(a_pairFirsts, .inl (ka_pairFirsts, 90, .inl v_a_pairFirsts)), (a_pairLasts, .inl (ka_pairLasts, 90, .inl v_a_pairLasts)), (a_firsts, .inl (ka_firsts, 90, .inl v_a_firsts)), (a_lasts, .inl (ka_lasts, 90, .inl v_a_lasts)), (a_t, .inr (7, [.ref a_pairFirsts, .ref a_pairLasts, .int (nI v_a_t_2), .int (nI n_pairsBefore), .ref a_firsts, .ref a_lasts, .int (nI v_a_t_6), .ref a_levels, .ref a_sides, .ref a_minusPlaces, .int (nI g43)])), (a_levels, .inl (ka_levels, 90, .inl g44)), (a_sides, .inl (ka_sides, 90, .inl g45)), (a_minusPlaces, .inl (ka_minusPlaces, 90, .inl g46))] := hD
    refine lv_iconst (v := 1) hx hb d_Resolver_takeOperation_89 (by decide) ?_
    have hP9 := hP.sub (ws' := [(a_t, .inr (7, [.ref a_pairFirsts, .ref a_pairLasts, .int (nI v_a_t_2), .int (nI n_pairsBefore), .ref a_firsts, .ref a_lasts, .int (nI v_a_t_6), .ref a_levels, .ref a_sides, .ref a_minusPlaces, .int (nI g43)])), (a_pairFirsts, .inl (ka_pairFirsts, 90, .inl v_a_pairFirsts)), (a_pairLasts, .inl (ka_pairLasts, 90, .inl v_a_pairLasts)), (a_firsts, .inl (ka_firsts, 90, .inl v_a_firsts)), (a_lasts, .inl (ka_lasts, 90, .inl v_a_lasts)), (a_levels, .inl (ka_levels, 90, .inl g44)), (a_sides, .inl (ka_sides, 90, .inl g45)), (a_minusPlaces, .inl (ka_minusPlaces, 90, .inl g46))]) [4, 0, 1, 2, 3, 5, 6, 7] rfl
    have hD9 := hD.sub (ws' := [(a_t, .inr (7, [.ref a_pairFirsts, .ref a_pairLasts, .int (nI v_a_t_2), .int (nI n_pairsBefore), .ref a_firsts, .ref a_lasts, .int (nI v_a_t_6), .ref a_levels, .ref a_sides, .ref a_minusPlaces, .int (nI g43)])), (a_pairFirsts, .inl (ka_pairFirsts, 90, .inl v_a_pairFirsts)), (a_pairLasts, .inl (ka_pairLasts, 90, .inl v_a_pairLasts)), (a_firsts, .inl (ka_firsts, 90, .inl v_a_firsts)), (a_lasts, .inl (ka_lasts, 90, .inl v_a_lasts)), (a_levels, .inl (ka_levels, 90, .inl g44)), (a_sides, .inl (ka_sides, 90, .inl g45)), (a_minusPlaces, .inl (ka_minusPlaces, 90, .inl g46))]) [4, 0, 1, 2, 3, 5, 6, 7] (by decide) rfl
    exact W.zret (v := 1) hx hb hr (by decide +kernel) (fun t ht hW => ⟨⟨1, (), rfl, (by first | assumption | exact Or.inl rfl | exact Or.inr rfl), v_a_t_2, v_a_t_6, g43, v_a_pairFirsts, v_a_pairLasts, v_a_firsts, v_a_lasts, g44, g45, g46, by first | omega | assumption | exact Or.inl rfl | exact Or.inr rfl, by first | omega | assumption | exact Or.inl rfl | exact Or.inr rfl, by first | omega | assumption | exact Or.inl rfl | exact Or.inr rfl, by rw [ht]; exact hP9, va_K.moved hW.alike hK, hD9⟩, hS.F ht⟩) hS.2.2 d_Resolver_takeOperation_90
  · have h42 : ¬ k3 = 0 := fun q => h42 ((xr_pred_lt (by omega)).mpr q)
    have e_h42 : nI k3 - 1 = nI (k3 - 1) := pk_sub (a := k3) (b := 1) (by omega)
    rw [e_h42] at hl
    have hl : lv_has ls 5 [(3, .int (nI (k3 - 1))), (0, .ref a_t), (1, .int y0), (2, .int y1)] := hl
    refine lv_aload_n hx hb d_Resolver_takeOperation_11 rfl (lv_at hl 1 rfl) ?_
    refine va_get (D := (dC, dI)) (ci := 7) (v := .ref a_levels) (C := R_Resolver) (T := F_Resolver) (N := 11) hx hb hz zu_Resolver hown hK hP 0 rfl rfl 7 (by decide) (hz (.fieldLink R_Resolver 24 "LayoutFront$Resolver" "levels" "[I") zm_332) (fun _ h9 => h9) rfl d_Resolver_takeOperation_12 ?_
    refine lv_iload_n hx hb d_Resolver_takeOperation_15 rfl (lv_at hl 0 rfl) ?_
    refine va_iald hx hb hK hP 5 4 rfl rfl (vp_in_nI (by omega) (by omega)) d_Resolver_takeOperation_16 ?_
    refine lv_topi (fun x47 e_x47 => ?_)
    refine lv_iload_n hx hb d_Resolver_takeOperation_17 rfl (lv_at hl 2 rfl) ?_
    refine lv_icmp_ne (tgt := 25) hx hb d_Resolver_takeOperation_18 (by decide) (fun h48 => ?_) (fun h48 => ?_)
    · refine lv_iconst (v := 0) hx hb d_Resolver_takeOperation_25 (by decide) ?_
      refine lv_istore hx hb d_Resolver_takeOperation_26 hl (by decide) rfl (fun ls hl => ?_)
      have hl : lv_has ls 5 [(4, .int 0), (3, .int (nI (k3 - 1))), (0, .ref a_t), (1, .int y0), (2, .int y1)] := hl
      refine lv_iload hx hb d_Resolver_takeOperation_28 (lv_at hl 0 rfl) ?_
      refine lv_if_eq (tgt := 50) hx hb d_Resolver_takeOperation_30 (by decide) (fun _ => ?_) (fun h => (h (by decide +kernel)).elim)
      refine lv_aload_n hx hb d_Resolver_takeOperation_50 rfl (lv_at hl 2 rfl) ?_
      refine va_get (D := (dC, dI)) (ci := 7) (v := .ref a_levels) (C := R_Resolver) (T := F_Resolver) (N := 11) hx hb hz zu_Resolver hown hK hP 0 rfl rfl 7 (by decide) (hz (.fieldLink R_Resolver 24 "LayoutFront$Resolver" "levels" "[I") zm_332) (fun _ h9 => h9) rfl d_Resolver_takeOperation_51 ?_
      refine lv_iload_n hx hb d_Resolver_takeOperation_54 rfl (lv_at hl 1 rfl) ?_
      refine va_iald hx hb hK hP 5 4 rfl rfl (vp_in_nI (by omega) (by omega)) d_Resolver_takeOperation_55 ?_
      refine lv_topi (fun x49 e_x49 => ?_)
      refine lv_iload_n hx hb d_Resolver_takeOperation_56 rfl (lv_at hl 3 rfl) ?_
      refine lv_icmp_lt (tgt := 82) hx hb d_Resolver_takeOperation_57 (by decide) (fun h50 => ?_) (fun h50 => ?_)
      · refine lv_aload_n hx hb d_Resolver_takeOperation_82 rfl (lv_at hl 2 rfl) ?_
        refine lv_iload_n hx hb d_Resolver_takeOperation_83 rfl (lv_at hl 3 rfl) ?_
        refine lv_iload_n hx hb d_Resolver_takeOperation_84 rfl (lv_at hl 4 rfl) ?_
        refine lv_iconst (v := (-1)) hx hb d_Resolver_takeOperation_85 (by decide) ?_
        have hPc := hP.sub (ws' := [(a_t, .inr (7, [.ref a_pairFirsts, .ref a_pairLasts, .int (nI v_a_t_2), .int (nI n_pairsBefore), .ref a_firsts, .ref a_lasts, .int (nI v_a_t_6), .ref a_levels, .ref a_sides, .ref a_minusPlaces, .int (nI v_a_t_10)])), (a_levels, .inl (ka_levels, 90, .inl v_a_levels)), (a_sides, .inl (ka_sides, 90, .inl v_a_sides)), (a_minusPlaces, .inl (ka_minusPlaces, 90, .inl v_a_minusPlaces))]) [0, 5, 6, 7] rfl
        have hDc := hD.sub (ws' := [(a_t, .inr (7, [.ref a_pairFirsts, .ref a_pairLasts, .int (nI v_a_t_2), .int (nI n_pairsBefore), .ref a_firsts, .ref a_lasts, .int (nI v_a_t_6), .ref a_levels, .ref a_sides, .ref a_minusPlaces, .int (nI v_a_t_10)])), (a_levels, .inl (ka_levels, 90, .inl v_a_levels)), (a_sides, .inl (ka_sides, 90, .inl v_a_sides)), (a_minusPlaces, .inl (ka_minusPlaces, 90, .inl v_a_minusPlaces))]) [0, 5, 6, 7] (by decide) rfl
        have hKc := hK.sub (tys' := [(ka_levels, .int), (ka_sides, .int), (ka_minusPlaces, .int)]) [4, 5, 6] rfl
        have hFc := va_free (wc := [(a_t, .inr (7, [.ref a_pairFirsts, .ref a_pairLasts, .int (nI v_a_t_2), .int (nI n_pairsBefore), .ref a_firsts, .ref a_lasts, .int (nI v_a_t_6), .ref a_levels, .ref a_sides, .ref a_minusPlaces, .int (nI v_a_t_10)])), (a_levels, .inl (ka_levels, 90, .inl v_a_levels)), (a_sides, .inl (ka_sides, 90, .inl v_a_sides)), (a_minusPlaces, .inl (ka_minusPlaces, 90, .inl v_a_minusPlaces))]) hD hS hA [0, 5, 6, 7] rfl
        refine va_callv (va_runV (As := [.int y0, .int y1, .int (-1)]) (rest := []) ⟨hx, hb, hml, hown, hz⟩ (s_Resolver_letWait l dC dI H.size a_t a_pairFirsts a_pairLasts v_a_t_2 n_pairsBefore a_firsts a_lasts v_a_t_6 a_levels v_a_levels a_sides v_a_sides a_minusPlaces v_a_minusPlaces v_a_t_10 y0 y1 ((-1)) ka_levels ka_sides ka_minusPlaces (by first | omega | assumption | exact Or.inl rfl | exact Or.inr rfl) (by first | omega | assumption | exact Or.inl rfl | exact Or.inr rfl) (by first | omega | assumption | exact Or.inl rfl | exact Or.inr rfl) (by first | omega | assumption | exact Or.inl rfl | exact Or.inr rfl)) (cwV 3 hz (zV zm_349 zm_350 zm_351 zm_340 zm_352) rfl rfl rfl (by decide +kernel) ⟨Nat.le_of_ble_eq_true rfl, Nat.le_of_ble_eq_true rfl⟩) ⟨fun a U g mk q => by obtain ⟨q0, q1, qP, qK, qD⟩ := q; exact ⟨q0, q1, qP, va_K.moved (u := U) (U := U.calling g mk a) (Vm.Alike.refl U.vm) qK, qD⟩, va_recv (q := (R_Resolver, F_Resolver, 11)) (q0 := 0) (ci := 7) hK hP rfl rfl, fun U hU hW => ⟨rfl, by rw [hU], by rw [hU]; exact hPc, va_K.moved hW.alike hKc, hDc.weaken (fun _ _ _ _ => trivial)⟩⟩ rfl rfl hl.1 rfl (lv_room (Nat.le_of_ble_eq_true rfl)) d_Resolver_takeOperation_86 ⟨Nat.zero_le _, Nat.zero_le _⟩) hS (fun q _ h => hFc q h) hFc (fun u t H1 locs ht hvm hw hB hz1 hk1 hS => ?_)
        obtain ⟨g51, g52, g53, g54, hb_g51, hP1, hK1, hD1⟩ := hB
        rw [ht] at hP1
        obtain ⟨hP, hD⟩ := va_join (wr := [(a_pairFirsts, .inl (ka_pairFirsts, 90, .inl v_a_pairFirsts)), (a_pairLasts, .inl (ka_pairLasts, 90, .inl v_a_pairLasts)), (a_firsts, .inl (ka_firsts, 90, .inl v_a_firsts)), (a_lasts, .inl (ka_lasts, 90, .inl v_a_lasts))]) (w1 := [(a_t, .inr (7, [.ref a_pairFirsts, .ref a_pairLasts, .int (nI v_a_t_2), .int (nI n_pairsBefore), .ref a_firsts, .ref a_lasts, .int (nI v_a_t_6), .ref a_levels, .ref a_sides, .ref a_minusPlaces, .int (nI g51)])), (a_levels, .inl (ka_levels, 90, .inl g52)), (a_sides, .inl (ka_sides, 90, .inl g53)), (a_minusPlaces, .inl (ka_minusPlaces, 90, .inl g54))]) hP hD [0, 5, 6, 7] [1, 2, 3, 4] rfl rfl (by decide) (by decide) hk1 hFc hP1 hD1
        generalize H1 = H at hP hS ⊢
        have hP : va_P (dC, dI) vcl [(a_pairFirsts, .inl (ka_pairFirsts, 90, .inl v_a_pairFirsts)), (a_pairLasts, .inl (ka_pairLasts, 90, .inl v_a_pairLasts)), (a_firsts, .inl (ka_firsts, 90, .inl v_a_firsts)), (a_lasts, .inl (ka_lasts, 90, .inl v_a_lasts)), (a_t, .inr (7, [.ref a_pairFirsts, .ref a_pairLasts, .int (nI v_a_t_2), .int (nI n_pairsBefore), .ref a_firsts, .ref a_lasts, .int (nI v_a_t_6), .ref a_levels, .ref a_sides, .ref a_minusPlaces, .int (nI g51)])), (a_levels, .inl (ka_levels, 90, .inl g52)), (a_sides, .inl (ka_sides, 90, .inl g53)), (a_minusPlaces, .inl (ka_minusPlaces, 90, .inl g54))] H := hP
        have hD : va_D A [(a_pairFirsts, .inl (ka_pairFirsts, 90, .inl v_a_pairFirsts)), (a_pairLasts, .inl (ka_pairLasts, 90, .inl v_a_pairLasts)), (a_firsts, .inl (ka_firsts, 90, .inl v_a_firsts)), (a_lasts, .inl (ka_lasts, 90, .inl v_a_lasts)), (a_t, .inr (7, [.ref a_pairFirsts, .ref a_pairLasts, .int (nI v_a_t_2), .int (nI n_pairsBefore), .ref a_firsts, .ref a_lasts, .int (nI v_a_t_6), .ref a_levels, .ref a_sides, .ref a_minusPlaces, .int (nI g51)])), (a_levels, .inl (ka_levels, 90, .inl g52)), (a_sides, .inl (ka_sides, 90, .inl g53)), (a_minusPlaces, .inl (ka_minusPlaces, 90, .inl g54))] := hD
        refine lv_iconst (v := 1) hx hb d_Resolver_takeOperation_89 (by decide) ?_
        have hP9 := hP.sub (ws' := [(a_t, .inr (7, [.ref a_pairFirsts, .ref a_pairLasts, .int (nI v_a_t_2), .int (nI n_pairsBefore), .ref a_firsts, .ref a_lasts, .int (nI v_a_t_6), .ref a_levels, .ref a_sides, .ref a_minusPlaces, .int (nI g51)])), (a_pairFirsts, .inl (ka_pairFirsts, 90, .inl v_a_pairFirsts)), (a_pairLasts, .inl (ka_pairLasts, 90, .inl v_a_pairLasts)), (a_firsts, .inl (ka_firsts, 90, .inl v_a_firsts)), (a_lasts, .inl (ka_lasts, 90, .inl v_a_lasts)), (a_levels, .inl (ka_levels, 90, .inl g52)), (a_sides, .inl (ka_sides, 90, .inl g53)), (a_minusPlaces, .inl (ka_minusPlaces, 90, .inl g54))]) [4, 0, 1, 2, 3, 5, 6, 7] rfl
        have hD9 := hD.sub (ws' := [(a_t, .inr (7, [.ref a_pairFirsts, .ref a_pairLasts, .int (nI v_a_t_2), .int (nI n_pairsBefore), .ref a_firsts, .ref a_lasts, .int (nI v_a_t_6), .ref a_levels, .ref a_sides, .ref a_minusPlaces, .int (nI g51)])), (a_pairFirsts, .inl (ka_pairFirsts, 90, .inl v_a_pairFirsts)), (a_pairLasts, .inl (ka_pairLasts, 90, .inl v_a_pairLasts)), (a_firsts, .inl (ka_firsts, 90, .inl v_a_firsts)), (a_lasts, .inl (ka_lasts, 90, .inl v_a_lasts)), (a_levels, .inl (ka_levels, 90, .inl g52)), (a_sides, .inl (ka_sides, 90, .inl g53)), (a_minusPlaces, .inl (ka_minusPlaces, 90, .inl g54))]) [4, 0, 1, 2, 3, 5, 6, 7] (by decide) rfl
        exact W.zret (v := 1) hx hb hr (by decide +kernel) (fun t ht hW => ⟨⟨1, (), rfl, (by first | assumption | exact Or.inl rfl | exact Or.inr rfl), v_a_t_2, v_a_t_6, g51, v_a_pairFirsts, v_a_pairLasts, v_a_firsts, v_a_lasts, g52, g53, g54, by first | omega | assumption | exact Or.inl rfl | exact Or.inr rfl, by first | omega | assumption | exact Or.inl rfl | exact Or.inr rfl, by first | omega | assumption | exact Or.inl rfl | exact Or.inr rfl, by rw [ht]; exact hP9, va_K.moved hW.alike hK, hD9⟩, hS.F ht⟩) hS.2.2 d_Resolver_takeOperation_90
      · refine lv_iload hx hb d_Resolver_takeOperation_60 (lv_at hl 0 rfl) ?_
        refine lv_if_eq (tgt := 72) hx hb d_Resolver_takeOperation_62 (by decide) (fun _ => ?_) (fun h => (h (by decide +kernel)).elim)
        refine lv_aload_n hx hb d_Resolver_takeOperation_72 rfl (lv_at hl 2 rfl) ?_
        have hPc := hP.sub (ws' := [(a_t, .inr (7, [.ref a_pairFirsts, .ref a_pairLasts, .int (nI v_a_t_2), .int (nI n_pairsBefore), .ref a_firsts, .ref a_lasts, .int (nI v_a_t_6), .ref a_levels, .ref a_sides, .ref a_minusPlaces, .int (nI v_a_t_10)])), (a_pairFirsts, .inl (ka_pairFirsts, 90, .inl v_a_pairFirsts)), (a_pairLasts, .inl (ka_pairLasts, 90, .inl v_a_pairLasts)), (a_firsts, .inl (ka_firsts, 90, .inl v_a_firsts)), (a_lasts, .inl (ka_lasts, 90, .inl v_a_lasts)), (a_minusPlaces, .inl (ka_minusPlaces, 90, .inl v_a_minusPlaces))]) [0, 1, 2, 3, 4, 7] rfl
        have hDc := hD.sub (ws' := [(a_t, .inr (7, [.ref a_pairFirsts, .ref a_pairLasts, .int (nI v_a_t_2), .int (nI n_pairsBefore), .ref a_firsts, .ref a_lasts, .int (nI v_a_t_6), .ref a_levels, .ref a_sides, .ref a_minusPlaces, .int (nI v_a_t_10)])), (a_pairFirsts, .inl (ka_pairFirsts, 90, .inl v_a_pairFirsts)), (a_pairLasts, .inl (ka_pairLasts, 90, .inl v_a_pairLasts)), (a_firsts, .inl (ka_firsts, 90, .inl v_a_firsts)), (a_lasts, .inl (ka_lasts, 90, .inl v_a_lasts)), (a_minusPlaces, .inl (ka_minusPlaces, 90, .inl v_a_minusPlaces))]) [0, 1, 2, 3, 4, 7] (by decide) rfl
        have hKc := hK.sub (tys' := [(ka_pairFirsts, .int), (ka_pairLasts, .int), (ka_firsts, .int), (ka_lasts, .int), (ka_minusPlaces, .int)]) [0, 1, 2, 3, 6] rfl
        have hFc := va_free (wc := [(a_t, .inr (7, [.ref a_pairFirsts, .ref a_pairLasts, .int (nI v_a_t_2), .int (nI n_pairsBefore), .ref a_firsts, .ref a_lasts, .int (nI v_a_t_6), .ref a_levels, .ref a_sides, .ref a_minusPlaces, .int (nI v_a_t_10)])), (a_pairFirsts, .inl (ka_pairFirsts, 90, .inl v_a_pairFirsts)), (a_pairLasts, .inl (ka_pairLasts, 90, .inl v_a_pairLasts)), (a_firsts, .inl (ka_firsts, 90, .inl v_a_firsts)), (a_lasts, .inl (ka_lasts, 90, .inl v_a_lasts)), (a_minusPlaces, .inl (ka_minusPlaces, 90, .inl v_a_minusPlaces))]) hD hS hA [0, 1, 2, 3, 4, 7] rfl
        refine va_callv (va_runV (As := []) (rest := []) ⟨hx, hb, hml, hown, hz⟩ (s_Resolver_giveSides l dC dI H.size a_t a_pairFirsts v_a_pairFirsts a_pairLasts v_a_pairLasts v_a_t_2 n_pairsBefore a_firsts v_a_firsts a_lasts v_a_lasts v_a_t_6 a_levels a_sides a_minusPlaces v_a_minusPlaces v_a_t_10 ka_pairFirsts ka_pairLasts ka_firsts ka_lasts ka_minusPlaces (by first | omega | assumption | exact Or.inl rfl | exact Or.inr rfl) (by first | omega | assumption | exact Or.inl rfl | exact Or.inr rfl) (by first | omega | assumption | exact Or.inl rfl | exact Or.inr rfl) (by first | omega | assumption | exact Or.inl rfl | exact Or.inr rfl)) (cwV 0 hz (zV zm_345 zm_346 zm_347 zm_340 zm_348) rfl rfl rfl (by decide +kernel) ⟨Nat.le_of_ble_eq_true rfl, Nat.le_of_ble_eq_true rfl⟩) ⟨fun a U g mk q => by obtain ⟨q0, q1, qP, qK, qD⟩ := q; exact ⟨q0, q1, qP, va_K.moved (u := U) (U := U.calling g mk a) (Vm.Alike.refl U.vm) qK, qD⟩, va_recv (q := (R_Resolver, F_Resolver, 11)) (q0 := 0) (ci := 7) hK hP rfl rfl, fun U hU hW => ⟨rfl, by rw [hU], by rw [hU]; exact hPc, va_K.moved hW.alike hKc, hDc.weaken (fun _ _ _ _ => trivial)⟩⟩ rfl rfl hl.1 rfl (lv_room (Nat.le_of_ble_eq_true rfl)) d_Resolver_takeOperation_73 ⟨Nat.zero_le _, Nat.zero_le _⟩) hS (fun q _ h => hFc q h) hFc (fun u t H1 locs ht hvm hw hB hz1 hk1 hS => ?_)
        obtain ⟨g55, g56, g57, g58, g59, g60, g61, hb_g55, hb_g56, hb_g57, hP1, hK1, hD1⟩ := hB
        rw [ht] at hP1
        obtain ⟨hP, hD⟩ := va_join (wr := [(a_levels, .inl (ka_levels, 90, .inl v_a_levels)), (a_sides, .inl (ka_sides, 90, .inl v_a_sides))]) (w1 := [(a_t, .inr (7, [.ref a_pairFirsts, .ref a_pairLasts, .int (nI g55), .int (nI n_pairsBefore), .ref a_firsts, .ref a_lasts, .int (nI g56), .ref a_levels, .ref a_sides, .ref a_minusPlaces, .int (nI g57)])), (a_pairFirsts, .inl (ka_pairFirsts, 90, .inl g58)), (a_pairLasts, .inl (ka_pairLasts, 90, .inl g59)), (a_firsts, .inl (ka_firsts, 90, .inl g60)), (a_lasts, .inl (ka_lasts, 90, .inl g61)), (a_minusPlaces, .inl (ka_minusPlaces, 90, .inl v_a_minusPlaces))]) hP hD [0, 1, 2, 3, 4, 7] [5, 6] rfl rfl (by decide) (by decide) hk1 hFc hP1 hD1
        generalize H1 = H at hP hS ⊢
        have hP : va_P (dC, dI) vcl [(a_levels, .inl (ka_levels, 90, .inl v_a_levels)), (a_sides, .inl (ka_sides, 90, .inl v_a_sides)), (a_t, .inr (7, [.ref a_pairFirsts, .ref a_pairLasts, .int (nI g55), .int (nI n_pairsBefore), .ref a_firsts, .ref a_lasts, .int (nI g56), .ref a_levels, .ref a_sides, .ref a_minusPlaces, .int (nI g57)])), (a_pairFirsts, .inl (ka_pairFirsts, 90, .inl g58)), (a_pairLasts, .inl (ka_pairLasts, 90, .inl g59)), (a_firsts, .inl (ka_firsts, 90, .inl g60)), (a_lasts, .inl (ka_lasts, 90, .inl g61)), (a_minusPlaces, .inl (ka_minusPlaces, 90, .inl v_a_minusPlaces))] H := hP
        have hD : va_D A [(a_levels, .inl (ka_levels, 90, .inl v_a_levels)), (a_sides, .inl (ka_sides, 90, .inl v_a_sides)), (a_t, .inr (7, [.ref a_pairFirsts, .ref a_pairLasts, .int (nI g55), .int (nI n_pairsBefore), .ref a_firsts, .ref a_lasts, .int (nI g56), .ref a_levels, .ref a_sides, .ref a_minusPlaces, .int (nI g57)])), (a_pairFirsts, .inl (ka_pairFirsts, 90, .inl g58)), (a_pairLasts, .inl (ka_pairLasts, 90, .inl g59)), (a_firsts, .inl (ka_firsts, 90, .inl g60)), (a_lasts, .inl (ka_lasts, 90, .inl g61)), (a_minusPlaces, .inl (ka_minusPlaces, 90, .inl v_a_minusPlaces))] := hD
        refine lv_iinc (k := 1) (v := (nI (k3 - 1) - 1)) hx hb d_Resolver_takeOperation_76 hl rfl (xr_dec2 _) (by decide) rfl (fun ls hl => ?_)
        have hl : lv_has ls 5 [(3, .int (nI (k3 - 1) - 1)), (4, .int 0), (0, .ref a_t), (1, .int y0), (2, .int y1)] := hl
        refine lv_goto (tgt := 7) hx hb d_Resolver_takeOperation_79 (by decide) ?_
        have hl : lv_has ls 5 [(3, .int (nI (k3 - 1) - 1)), (0, .ref a_t), (1, .int y0), (2, .int y1)] := lv_sub hl [0, 2, 3, 4] rfl
        have hP9 := hP.sub (ws' := [(a_t, .inr (7, [.ref a_pairFirsts, .ref a_pairLasts, .int (nI g55), .int (nI n_pairsBefore), .ref a_firsts, .ref a_lasts, .int (nI g56), .ref a_levels, .ref a_sides, .ref a_minusPlaces, .int (nI g57)])), (a_pairFirsts, .inl (ka_pairFirsts, 90, .inl g58)), (a_pairLasts, .inl (ka_pairLasts, 90, .inl g59)), (a_firsts, .inl (ka_firsts, 90, .inl g60)), (a_lasts, .inl (ka_lasts, 90, .inl g61)), (a_levels, .inl (ka_levels, 90, .inl v_a_levels)), (a_sides, .inl (ka_sides, 90, .inl v_a_sides)), (a_minusPlaces, .inl (ka_minusPlaces, 90, .inl v_a_minusPlaces))]) [2, 3, 4, 5, 6, 0, 1, 7] rfl
        have hD9 := hD.sub (ws' := [(a_t, .inr (7, [.ref a_pairFirsts, .ref a_pairLasts, .int (nI g55), .int (nI n_pairsBefore), .ref a_firsts, .ref a_lasts, .int (nI g56), .ref a_levels, .ref a_sides, .ref a_minusPlaces, .int (nI g57)])), (a_pairFirsts, .inl (ka_pairFirsts, 90, .inl g58)), (a_pairLasts, .inl (ka_pairLasts, 90, .inl g59)), (a_firsts, .inl (ka_firsts, 90, .inl g60)), (a_lasts, .inl (ka_lasts, 90, .inl g61)), (a_levels, .inl (ka_levels, 90, .inl v_a_levels)), (a_sides, .inl (ka_sides, 90, .inl v_a_sides)), (a_minusPlaces, .inl (ka_minusPlaces, 90, .inl v_a_minusPlaces))]) [2, 3, 4, 5, 6, 0, 1, 7] (by decide) rfl
        exact ih7 ((k3 - 1), g60, g61, v_a_levels, v_a_minusPlaces, g58, g59, v_a_sides, g57, g55, g56) (by show ((k3 - 1)) < k3; omega) _ _ _ ⟨by show ((k3 - 1)) ≤ 90; first | omega | assumption | exact Or.inl rfl | exact Or.inr rfl, by show g57 ≤ 90; first | omega | assumption | exact Or.inl rfl | exact Or.inr rfl, by show g55 ≤ 90; first | omega | assumption | exact Or.inl rfl | exact Or.inr rfl, by show g56 ≤ 90; first | omega | assumption | exact Or.inl rfl | exact Or.inr rfl, hl, hP9, hD9, hS⟩
    · refine lv_iconst (v := 1) hx hb d_Resolver_takeOperation_21 (by decide) ?_
      refine lv_goto (tgt := 26) hx hb d_Resolver_takeOperation_22 (by decide) ?_
      refine lv_istore hx hb d_Resolver_takeOperation_26 hl (by decide) rfl (fun ls hl => ?_)
      have hl : lv_has ls 5 [(4, .int 1), (3, .int (nI (k3 - 1))), (0, .ref a_t), (1, .int y0), (2, .int y1)] := hl
      refine lv_iload hx hb d_Resolver_takeOperation_28 (lv_at hl 0 rfl) ?_
      refine lv_if_eq (tgt := 50) hx hb d_Resolver_takeOperation_30 (by decide) (fun h => absurd h (by decide +kernel)) (fun _ => ?_)
      refine lv_aload_n hx hb d_Resolver_takeOperation_33 rfl (lv_at hl 2 rfl) ?_
      refine va_get (D := (dC, dI)) (ci := 7) (v := .ref a_sides) (C := R_Resolver) (T := F_Resolver) (N := 11) hx hb hz zu_Resolver hown hK hP 0 rfl rfl 8 (by decide) (hz (.fieldLink R_Resolver 27 "LayoutFront$Resolver" "sides" "[I") zm_333) (fun _ h9 => h9) rfl d_Resolver_takeOperation_34 ?_
      refine lv_iload_n hx hb d_Resolver_takeOperation_37 rfl (lv_at hl 1 rfl) ?_
      refine va_iald hx hb hK hP 6 5 rfl rfl (vp_in_nI (by omega) (by omega)) d_Resolver_takeOperation_38 ?_
      refine lv_topi (fun x62 e_x62 => ?_)
      refine lv_iload_n hx hb d_Resolver_takeOperation_39 rfl (lv_at hl 4 rfl) ?_
      refine lv_icmp_ne (tgt := 48) hx hb d_Resolver_takeOperation_40 (by decide) (fun h63 => ?_) (fun h63 => ?_)
      · refine lv_iconst (v := 0) hx hb d_Resolver_takeOperation_48 (by decide) ?_
        have hP9 := hP.sub (ws' := [(a_t, .inr (7, [.ref a_pairFirsts, .ref a_pairLasts, .int (nI v_a_t_2), .int (nI n_pairsBefore), .ref a_firsts, .ref a_lasts, .int (nI v_a_t_6), .ref a_levels, .ref a_sides, .ref a_minusPlaces, .int (nI v_a_t_10)])), (a_pairFirsts, .inl (ka_pairFirsts, 90, .inl v_a_pairFirsts)), (a_pairLasts, .inl (ka_pairLasts, 90, .inl v_a_pairLasts)), (a_firsts, .inl (ka_firsts, 90, .inl v_a_firsts)), (a_lasts, .inl (ka_lasts, 90, .inl v_a_lasts)), (a_levels, .inl (ka_levels, 90, .inl v_a_levels)), (a_sides, .inl (ka_sides, 90, .inl v_a_sides)), (a_minusPlaces, .inl (ka_minusPlaces, 90, .inl v_a_minusPlaces))]) [0, 1, 2, 3, 4, 5, 6, 7] rfl
        have hD9 := hD.sub (ws' := [(a_t, .inr (7, [.ref a_pairFirsts, .ref a_pairLasts, .int (nI v_a_t_2), .int (nI n_pairsBefore), .ref a_firsts, .ref a_lasts, .int (nI v_a_t_6), .ref a_levels, .ref a_sides, .ref a_minusPlaces, .int (nI v_a_t_10)])), (a_pairFirsts, .inl (ka_pairFirsts, 90, .inl v_a_pairFirsts)), (a_pairLasts, .inl (ka_pairLasts, 90, .inl v_a_pairLasts)), (a_firsts, .inl (ka_firsts, 90, .inl v_a_firsts)), (a_lasts, .inl (ka_lasts, 90, .inl v_a_lasts)), (a_levels, .inl (ka_levels, 90, .inl v_a_levels)), (a_sides, .inl (ka_sides, 90, .inl v_a_sides)), (a_minusPlaces, .inl (ka_minusPlaces, 90, .inl v_a_minusPlaces))]) [0, 1, 2, 3, 4, 5, 6, 7] (by decide) rfl
        exact W.zret (v := 0) hx hb hr (by decide +kernel) (fun t ht hW => ⟨⟨0, (), rfl, (by first | assumption | exact Or.inl rfl | exact Or.inr rfl), v_a_t_2, v_a_t_6, v_a_t_10, v_a_pairFirsts, v_a_pairLasts, v_a_firsts, v_a_lasts, v_a_levels, v_a_sides, v_a_minusPlaces, by first | omega | assumption | exact Or.inl rfl | exact Or.inr rfl, by first | omega | assumption | exact Or.inl rfl | exact Or.inr rfl, by first | omega | assumption | exact Or.inl rfl | exact Or.inr rfl, by rw [ht]; exact hP9, va_K.moved hW.alike hK, hD9⟩, hS.F ht⟩) hS.2.2 d_Resolver_takeOperation_49
      · refine lv_iload_n hx hb d_Resolver_takeOperation_43 rfl (lv_at hl 4 rfl) ?_
        refine lv_iconst (v := 2) hx hb d_Resolver_takeOperation_44 (by decide) ?_
        refine lv_icmp_ne (tgt := 50) hx hb d_Resolver_takeOperation_45 (by decide) (fun h64 => ?_) (fun h64 => ?_)
        · refine lv_aload_n hx hb d_Resolver_takeOperation_50 rfl (lv_at hl 2 rfl) ?_
          refine va_get (D := (dC, dI)) (ci := 7) (v := .ref a_levels) (C := R_Resolver) (T := F_Resolver) (N := 11) hx hb hz zu_Resolver hown hK hP 0 rfl rfl 7 (by decide) (hz (.fieldLink R_Resolver 24 "LayoutFront$Resolver" "levels" "[I") zm_332) (fun _ h9 => h9) rfl d_Resolver_takeOperation_51 ?_
          refine lv_iload_n hx hb d_Resolver_takeOperation_54 rfl (lv_at hl 1 rfl) ?_
          refine va_iald hx hb hK hP 5 4 rfl rfl (vp_in_nI (by omega) (by omega)) d_Resolver_takeOperation_55 ?_
          refine lv_topi (fun x65 e_x65 => ?_)
          refine lv_iload_n hx hb d_Resolver_takeOperation_56 rfl (lv_at hl 3 rfl) ?_
          refine lv_icmp_lt (tgt := 82) hx hb d_Resolver_takeOperation_57 (by decide) (fun h66 => ?_) (fun h66 => ?_)
          · refine lv_aload_n hx hb d_Resolver_takeOperation_82 rfl (lv_at hl 2 rfl) ?_
            refine lv_iload_n hx hb d_Resolver_takeOperation_83 rfl (lv_at hl 3 rfl) ?_
            refine lv_iload_n hx hb d_Resolver_takeOperation_84 rfl (lv_at hl 4 rfl) ?_
            refine lv_iconst (v := (-1)) hx hb d_Resolver_takeOperation_85 (by decide) ?_
            have hPc := hP.sub (ws' := [(a_t, .inr (7, [.ref a_pairFirsts, .ref a_pairLasts, .int (nI v_a_t_2), .int (nI n_pairsBefore), .ref a_firsts, .ref a_lasts, .int (nI v_a_t_6), .ref a_levels, .ref a_sides, .ref a_minusPlaces, .int (nI v_a_t_10)])), (a_levels, .inl (ka_levels, 90, .inl v_a_levels)), (a_sides, .inl (ka_sides, 90, .inl v_a_sides)), (a_minusPlaces, .inl (ka_minusPlaces, 90, .inl v_a_minusPlaces))]) [0, 5, 6, 7] rfl
            have hDc := hD.sub (ws' := [(a_t, .inr (7, [.ref a_pairFirsts, .ref a_pairLasts, .int (nI v_a_t_2), .int (nI n_pairsBefore), .ref a_firsts, .ref a_lasts, .int (nI v_a_t_6), .ref a_levels, .ref a_sides, .ref a_minusPlaces, .int (nI v_a_t_10)])), (a_levels, .inl (ka_levels, 90, .inl v_a_levels)), (a_sides, .inl (ka_sides, 90, .inl v_a_sides)), (a_minusPlaces, .inl (ka_minusPlaces, 90, .inl v_a_minusPlaces))]) [0, 5, 6, 7] (by decide) rfl
            have hKc := hK.sub (tys' := [(ka_levels, .int), (ka_sides, .int), (ka_minusPlaces, .int)]) [4, 5, 6] rfl
            have hFc := va_free (wc := [(a_t, .inr (7, [.ref a_pairFirsts, .ref a_pairLasts, .int (nI v_a_t_2), .int (nI n_pairsBefore), .ref a_firsts, .ref a_lasts, .int (nI v_a_t_6), .ref a_levels, .ref a_sides, .ref a_minusPlaces, .int (nI v_a_t_10)])), (a_levels, .inl (ka_levels, 90, .inl v_a_levels)), (a_sides, .inl (ka_sides, 90, .inl v_a_sides)), (a_minusPlaces, .inl (ka_minusPlaces, 90, .inl v_a_minusPlaces))]) hD hS hA [0, 5, 6, 7] rfl
            refine va_callv (va_runV (As := [.int y0, .int y1, .int (-1)]) (rest := []) ⟨hx, hb, hml, hown, hz⟩ (s_Resolver_letWait l dC dI H.size a_t a_pairFirsts a_pairLasts v_a_t_2 n_pairsBefore a_firsts a_lasts v_a_t_6 a_levels v_a_levels a_sides v_a_sides a_minusPlaces v_a_minusPlaces v_a_t_10 y0 y1 ((-1)) ka_levels ka_sides ka_minusPlaces (by first | omega | assumption | exact Or.inl rfl | exact Or.inr rfl) (by first | omega | assumption | exact Or.inl rfl | exact Or.inr rfl) (by first | omega | assumption | exact Or.inl rfl | exact Or.inr rfl) (by first | omega | assumption | exact Or.inl rfl | exact Or.inr rfl)) (cwV 3 hz (zV zm_349 zm_350 zm_351 zm_340 zm_352) rfl rfl rfl (by decide +kernel) ⟨Nat.le_of_ble_eq_true rfl, Nat.le_of_ble_eq_true rfl⟩) ⟨fun a U g mk q => by obtain ⟨q0, q1, qP, qK, qD⟩ := q; exact ⟨q0, q1, qP, va_K.moved (u := U) (U := U.calling g mk a) (Vm.Alike.refl U.vm) qK, qD⟩, va_recv (q := (R_Resolver, F_Resolver, 11)) (q0 := 0) (ci := 7) hK hP rfl rfl, fun U hU hW => ⟨rfl, by rw [hU], by rw [hU]; exact hPc, va_K.moved hW.alike hKc, hDc.weaken (fun _ _ _ _ => trivial)⟩⟩ rfl rfl hl.1 rfl (lv_room (Nat.le_of_ble_eq_true rfl)) d_Resolver_takeOperation_86 ⟨Nat.zero_le _, Nat.zero_le _⟩) hS (fun q _ h => hFc q h) hFc (fun u t H1 locs ht hvm hw hB hz1 hk1 hS => ?_)
            obtain ⟨g67, g68, g69, g70, hb_g67, hP1, hK1, hD1⟩ := hB
            rw [ht] at hP1
            obtain ⟨hP, hD⟩ := va_join (wr := [(a_pairFirsts, .inl (ka_pairFirsts, 90, .inl v_a_pairFirsts)), (a_pairLasts, .inl (ka_pairLasts, 90, .inl v_a_pairLasts)), (a_firsts, .inl (ka_firsts, 90, .inl v_a_firsts)), (a_lasts, .inl (ka_lasts, 90, .inl v_a_lasts))]) (w1 := [(a_t, .inr (7, [.ref a_pairFirsts, .ref a_pairLasts, .int (nI v_a_t_2), .int (nI n_pairsBefore), .ref a_firsts, .ref a_lasts, .int (nI v_a_t_6), .ref a_levels, .ref a_sides, .ref a_minusPlaces, .int (nI g67)])), (a_levels, .inl (ka_levels, 90, .inl g68)), (a_sides, .inl (ka_sides, 90, .inl g69)), (a_minusPlaces, .inl (ka_minusPlaces, 90, .inl g70))]) hP hD [0, 5, 6, 7] [1, 2, 3, 4] rfl rfl (by decide) (by decide) hk1 hFc hP1 hD1
            generalize H1 = H at hP hS ⊢
            have hP : va_P (dC, dI) vcl [(a_pairFirsts, .inl (ka_pairFirsts, 90, .inl v_a_pairFirsts)), (a_pairLasts, .inl (ka_pairLasts, 90, .inl v_a_pairLasts)), (a_firsts, .inl (ka_firsts, 90, .inl v_a_firsts)), (a_lasts, .inl (ka_lasts, 90, .inl v_a_lasts)), (a_t, .inr (7, [.ref a_pairFirsts, .ref a_pairLasts, .int (nI v_a_t_2), .int (nI n_pairsBefore), .ref a_firsts, .ref a_lasts, .int (nI v_a_t_6), .ref a_levels, .ref a_sides, .ref a_minusPlaces, .int (nI g67)])), (a_levels, .inl (ka_levels, 90, .inl g68)), (a_sides, .inl (ka_sides, 90, .inl g69)), (a_minusPlaces, .inl (ka_minusPlaces, 90, .inl g70))] H := hP
            have hD : va_D A [(a_pairFirsts, .inl (ka_pairFirsts, 90, .inl v_a_pairFirsts)), (a_pairLasts, .inl (ka_pairLasts, 90, .inl v_a_pairLasts)), (a_firsts, .inl (ka_firsts, 90, .inl v_a_firsts)), (a_lasts, .inl (ka_lasts, 90, .inl v_a_lasts)), (a_t, .inr (7, [.ref a_pairFirsts, .ref a_pairLasts, .int (nI v_a_t_2), .int (nI n_pairsBefore), .ref a_firsts, .ref a_lasts, .int (nI v_a_t_6), .ref a_levels, .ref a_sides, .ref a_minusPlaces, .int (nI g67)])), (a_levels, .inl (ka_levels, 90, .inl g68)), (a_sides, .inl (ka_sides, 90, .inl g69)), (a_minusPlaces, .inl (ka_minusPlaces, 90, .inl g70))] := hD
            refine lv_iconst (v := 1) hx hb d_Resolver_takeOperation_89 (by decide) ?_
            have hP9 := hP.sub (ws' := [(a_t, .inr (7, [.ref a_pairFirsts, .ref a_pairLasts, .int (nI v_a_t_2), .int (nI n_pairsBefore), .ref a_firsts, .ref a_lasts, .int (nI v_a_t_6), .ref a_levels, .ref a_sides, .ref a_minusPlaces, .int (nI g67)])), (a_pairFirsts, .inl (ka_pairFirsts, 90, .inl v_a_pairFirsts)), (a_pairLasts, .inl (ka_pairLasts, 90, .inl v_a_pairLasts)), (a_firsts, .inl (ka_firsts, 90, .inl v_a_firsts)), (a_lasts, .inl (ka_lasts, 90, .inl v_a_lasts)), (a_levels, .inl (ka_levels, 90, .inl g68)), (a_sides, .inl (ka_sides, 90, .inl g69)), (a_minusPlaces, .inl (ka_minusPlaces, 90, .inl g70))]) [4, 0, 1, 2, 3, 5, 6, 7] rfl
            have hD9 := hD.sub (ws' := [(a_t, .inr (7, [.ref a_pairFirsts, .ref a_pairLasts, .int (nI v_a_t_2), .int (nI n_pairsBefore), .ref a_firsts, .ref a_lasts, .int (nI v_a_t_6), .ref a_levels, .ref a_sides, .ref a_minusPlaces, .int (nI g67)])), (a_pairFirsts, .inl (ka_pairFirsts, 90, .inl v_a_pairFirsts)), (a_pairLasts, .inl (ka_pairLasts, 90, .inl v_a_pairLasts)), (a_firsts, .inl (ka_firsts, 90, .inl v_a_firsts)), (a_lasts, .inl (ka_lasts, 90, .inl v_a_lasts)), (a_levels, .inl (ka_levels, 90, .inl g68)), (a_sides, .inl (ka_sides, 90, .inl g69)), (a_minusPlaces, .inl (ka_minusPlaces, 90, .inl g70))]) [4, 0, 1, 2, 3, 5, 6, 7] (by decide) rfl
            exact W.zret (v := 1) hx hb hr (by decide +kernel) (fun t ht hW => ⟨⟨1, (), rfl, (by first | assumption | exact Or.inl rfl | exact Or.inr rfl), v_a_t_2, v_a_t_6, g67, v_a_pairFirsts, v_a_pairLasts, v_a_firsts, v_a_lasts, g68, g69, g70, by first | omega | assumption | exact Or.inl rfl | exact Or.inr rfl, by first | omega | assumption | exact Or.inl rfl | exact Or.inr rfl, by first | omega | assumption | exact Or.inl rfl | exact Or.inr rfl, by rw [ht]; exact hP9, va_K.moved hW.alike hK, hD9⟩, hS.F ht⟩) hS.2.2 d_Resolver_takeOperation_90
          · refine lv_iload hx hb d_Resolver_takeOperation_60 (lv_at hl 0 rfl) ?_
            refine lv_if_eq (tgt := 72) hx hb d_Resolver_takeOperation_62 (by decide) (fun h => absurd h (by decide +kernel)) (fun _ => ?_)
            refine lv_iload_n hx hb d_Resolver_takeOperation_65 rfl (lv_at hl 4 rfl) ?_
            refine lv_if_eq (tgt := 72) hx hb d_Resolver_takeOperation_66 (by decide) (fun h71 => ?_) (fun h71 => ?_)
            · refine lv_aload_n hx hb d_Resolver_takeOperation_72 rfl (lv_at hl 2 rfl) ?_
              have hPc := hP.sub (ws' := [(a_t, .inr (7, [.ref a_pairFirsts, .ref a_pairLasts, .int (nI v_a_t_2), .int (nI n_pairsBefore), .ref a_firsts, .ref a_lasts, .int (nI v_a_t_6), .ref a_levels, .ref a_sides, .ref a_minusPlaces, .int (nI v_a_t_10)])), (a_pairFirsts, .inl (ka_pairFirsts, 90, .inl v_a_pairFirsts)), (a_pairLasts, .inl (ka_pairLasts, 90, .inl v_a_pairLasts)), (a_firsts, .inl (ka_firsts, 90, .inl v_a_firsts)), (a_lasts, .inl (ka_lasts, 90, .inl v_a_lasts)), (a_minusPlaces, .inl (ka_minusPlaces, 90, .inl v_a_minusPlaces))]) [0, 1, 2, 3, 4, 7] rfl
              have hDc := hD.sub (ws' := [(a_t, .inr (7, [.ref a_pairFirsts, .ref a_pairLasts, .int (nI v_a_t_2), .int (nI n_pairsBefore), .ref a_firsts, .ref a_lasts, .int (nI v_a_t_6), .ref a_levels, .ref a_sides, .ref a_minusPlaces, .int (nI v_a_t_10)])), (a_pairFirsts, .inl (ka_pairFirsts, 90, .inl v_a_pairFirsts)), (a_pairLasts, .inl (ka_pairLasts, 90, .inl v_a_pairLasts)), (a_firsts, .inl (ka_firsts, 90, .inl v_a_firsts)), (a_lasts, .inl (ka_lasts, 90, .inl v_a_lasts)), (a_minusPlaces, .inl (ka_minusPlaces, 90, .inl v_a_minusPlaces))]) [0, 1, 2, 3, 4, 7] (by decide) rfl
              have hKc := hK.sub (tys' := [(ka_pairFirsts, .int), (ka_pairLasts, .int), (ka_firsts, .int), (ka_lasts, .int), (ka_minusPlaces, .int)]) [0, 1, 2, 3, 6] rfl
              have hFc := va_free (wc := [(a_t, .inr (7, [.ref a_pairFirsts, .ref a_pairLasts, .int (nI v_a_t_2), .int (nI n_pairsBefore), .ref a_firsts, .ref a_lasts, .int (nI v_a_t_6), .ref a_levels, .ref a_sides, .ref a_minusPlaces, .int (nI v_a_t_10)])), (a_pairFirsts, .inl (ka_pairFirsts, 90, .inl v_a_pairFirsts)), (a_pairLasts, .inl (ka_pairLasts, 90, .inl v_a_pairLasts)), (a_firsts, .inl (ka_firsts, 90, .inl v_a_firsts)), (a_lasts, .inl (ka_lasts, 90, .inl v_a_lasts)), (a_minusPlaces, .inl (ka_minusPlaces, 90, .inl v_a_minusPlaces))]) hD hS hA [0, 1, 2, 3, 4, 7] rfl
              refine va_callv (va_runV (As := []) (rest := []) ⟨hx, hb, hml, hown, hz⟩ (s_Resolver_giveSides l dC dI H.size a_t a_pairFirsts v_a_pairFirsts a_pairLasts v_a_pairLasts v_a_t_2 n_pairsBefore a_firsts v_a_firsts a_lasts v_a_lasts v_a_t_6 a_levels a_sides a_minusPlaces v_a_minusPlaces v_a_t_10 ka_pairFirsts ka_pairLasts ka_firsts ka_lasts ka_minusPlaces (by first | omega | assumption | exact Or.inl rfl | exact Or.inr rfl) (by first | omega | assumption | exact Or.inl rfl | exact Or.inr rfl) (by first | omega | assumption | exact Or.inl rfl | exact Or.inr rfl) (by first | omega | assumption | exact Or.inl rfl | exact Or.inr rfl)) (cwV 0 hz (zV zm_345 zm_346 zm_347 zm_340 zm_348) rfl rfl rfl (by decide +kernel) ⟨Nat.le_of_ble_eq_true rfl, Nat.le_of_ble_eq_true rfl⟩) ⟨fun a U g mk q => by obtain ⟨q0, q1, qP, qK, qD⟩ := q; exact ⟨q0, q1, qP, va_K.moved (u := U) (U := U.calling g mk a) (Vm.Alike.refl U.vm) qK, qD⟩, va_recv (q := (R_Resolver, F_Resolver, 11)) (q0 := 0) (ci := 7) hK hP rfl rfl, fun U hU hW => ⟨rfl, by rw [hU], by rw [hU]; exact hPc, va_K.moved hW.alike hKc, hDc.weaken (fun _ _ _ _ => trivial)⟩⟩ rfl rfl hl.1 rfl (lv_room (Nat.le_of_ble_eq_true rfl)) d_Resolver_takeOperation_73 ⟨Nat.zero_le _, Nat.zero_le _⟩) hS (fun q _ h => hFc q h) hFc (fun u t H1 locs ht hvm hw hB hz1 hk1 hS => ?_)
              obtain ⟨g72, g73, g74, g75, g76, g77, g78, hb_g72, hb_g73, hb_g74, hP1, hK1, hD1⟩ := hB
              rw [ht] at hP1
              obtain ⟨hP, hD⟩ := va_join (wr := [(a_levels, .inl (ka_levels, 90, .inl v_a_levels)), (a_sides, .inl (ka_sides, 90, .inl v_a_sides))]) (w1 := [(a_t, .inr (7, [.ref a_pairFirsts, .ref a_pairLasts, .int (nI g72), .int (nI n_pairsBefore), .ref a_firsts, .ref a_lasts, .int (nI g73), .ref a_levels, .ref a_sides, .ref a_minusPlaces, .int (nI g74)])), (a_pairFirsts, .inl (ka_pairFirsts, 90, .inl g75)), (a_pairLasts, .inl (ka_pairLasts, 90, .inl g76)), (a_firsts, .inl (ka_firsts, 90, .inl g77)), (a_lasts, .inl (ka_lasts, 90, .inl g78)), (a_minusPlaces, .inl (ka_minusPlaces, 90, .inl v_a_minusPlaces))]) hP hD [0, 1, 2, 3, 4, 7] [5, 6] rfl rfl (by decide) (by decide) hk1 hFc hP1 hD1
              generalize H1 = H at hP hS ⊢
              have hP : va_P (dC, dI) vcl [(a_levels, .inl (ka_levels, 90, .inl v_a_levels)), (a_sides, .inl (ka_sides, 90, .inl v_a_sides)), (a_t, .inr (7, [.ref a_pairFirsts, .ref a_pairLasts, .int (nI g72), .int (nI n_pairsBefore), .ref a_firsts, .ref a_lasts, .int (nI g73), .ref a_levels, .ref a_sides, .ref a_minusPlaces, .int (nI g74)])), (a_pairFirsts, .inl (ka_pairFirsts, 90, .inl g75)), (a_pairLasts, .inl (ka_pairLasts, 90, .inl g76)), (a_firsts, .inl (ka_firsts, 90, .inl g77)), (a_lasts, .inl (ka_lasts, 90, .inl g78)), (a_minusPlaces, .inl (ka_minusPlaces, 90, .inl v_a_minusPlaces))] H := hP
              have hD : va_D A [(a_levels, .inl (ka_levels, 90, .inl v_a_levels)), (a_sides, .inl (ka_sides, 90, .inl v_a_sides)), (a_t, .inr (7, [.ref a_pairFirsts, .ref a_pairLasts, .int (nI g72), .int (nI n_pairsBefore), .ref a_firsts, .ref a_lasts, .int (nI g73), .ref a_levels, .ref a_sides, .ref a_minusPlaces, .int (nI g74)])), (a_pairFirsts, .inl (ka_pairFirsts, 90, .inl g75)), (a_pairLasts, .inl (ka_pairLasts, 90, .inl g76)), (a_firsts, .inl (ka_firsts, 90, .inl g77)), (a_lasts, .inl (ka_lasts, 90, .inl g78)), (a_minusPlaces, .inl (ka_minusPlaces, 90, .inl v_a_minusPlaces))] := hD
              refine lv_iinc (k := 1) (v := (nI (k3 - 1) - 1)) hx hb d_Resolver_takeOperation_76 hl rfl (xr_dec2 _) (by decide) rfl (fun ls hl => ?_)
              have hl : lv_has ls 5 [(3, .int (nI (k3 - 1) - 1)), (4, .int 1), (0, .ref a_t), (1, .int y0), (2, .int y1)] := hl
              refine lv_goto (tgt := 7) hx hb d_Resolver_takeOperation_79 (by decide) ?_
              have hl : lv_has ls 5 [(3, .int (nI (k3 - 1) - 1)), (0, .ref a_t), (1, .int y0), (2, .int y1)] := lv_sub hl [0, 2, 3, 4] rfl
              have hP9 := hP.sub (ws' := [(a_t, .inr (7, [.ref a_pairFirsts, .ref a_pairLasts, .int (nI g72), .int (nI n_pairsBefore), .ref a_firsts, .ref a_lasts, .int (nI g73), .ref a_levels, .ref a_sides, .ref a_minusPlaces, .int (nI g74)])), (a_pairFirsts, .inl (ka_pairFirsts, 90, .inl g75)), (a_pairLasts, .inl (ka_pairLasts, 90, .inl g76)), (a_firsts, .inl (ka_firsts, 90, .inl g77)), (a_lasts, .inl (ka_lasts, 90, .inl g78)), (a_levels, .inl (ka_levels, 90, .inl v_a_levels)), (a_sides, .inl (ka_sides, 90, .inl v_a_sides)), (a_minusPlaces, .inl (ka_minusPlaces, 90, .inl v_a_minusPlaces))]) [2, 3, 4, 5, 6, 0, 1, 7] rfl
              have hD9 := hD.sub (ws' := [(a_t, .inr (7, [.ref a_pairFirsts, .ref a_pairLasts, .int (nI g72), .int (nI n_pairsBefore), .ref a_firsts, .ref a_lasts, .int (nI g73), .ref a_levels, .ref a_sides, .ref a_minusPlaces, .int (nI g74)])), (a_pairFirsts, .inl (ka_pairFirsts, 90, .inl g75)), (a_pairLasts, .inl (ka_pairLasts, 90, .inl g76)), (a_firsts, .inl (ka_firsts, 90, .inl g77)), (a_lasts, .inl (ka_lasts, 90, .inl g78)), (a_levels, .inl (ka_levels, 90, .inl v_a_levels)), (a_sides, .inl (ka_sides, 90, .inl v_a_sides)), (a_minusPlaces, .inl (ka_minusPlaces, 90, .inl v_a_minusPlaces))]) [2, 3, 4, 5, 6, 0, 1, 7] (by decide) rfl
              exact ih7 ((k3 - 1), g77, g78, v_a_levels, v_a_minusPlaces, g75, g76, v_a_sides, g74, g72, g73) (by show ((k3 - 1)) < k3; omega) _ _ _ ⟨by show ((k3 - 1)) ≤ 90; first | omega | assumption | exact Or.inl rfl | exact Or.inr rfl, by show g74 ≤ 90; first | omega | assumption | exact Or.inl rfl | exact Or.inr rfl, by show g72 ≤ 90; first | omega | assumption | exact Or.inl rfl | exact Or.inr rfl, by show g73 ≤ 90; first | omega | assumption | exact Or.inl rfl | exact Or.inr rfl, hl, hP9, hD9, hS⟩
            · refine lv_goto (tgt := 82) hx hb d_Resolver_takeOperation_69 (by decide) ?_
              refine lv_aload_n hx hb d_Resolver_takeOperation_82 rfl (lv_at hl 2 rfl) ?_
              refine lv_iload_n hx hb d_Resolver_takeOperation_83 rfl (lv_at hl 3 rfl) ?_
              refine lv_iload_n hx hb d_Resolver_takeOperation_84 rfl (lv_at hl 4 rfl) ?_
              refine lv_iconst (v := (-1)) hx hb d_Resolver_takeOperation_85 (by decide) ?_
              have hPc := hP.sub (ws' := [(a_t, .inr (7, [.ref a_pairFirsts, .ref a_pairLasts, .int (nI v_a_t_2), .int (nI n_pairsBefore), .ref a_firsts, .ref a_lasts, .int (nI v_a_t_6), .ref a_levels, .ref a_sides, .ref a_minusPlaces, .int (nI v_a_t_10)])), (a_levels, .inl (ka_levels, 90, .inl v_a_levels)), (a_sides, .inl (ka_sides, 90, .inl v_a_sides)), (a_minusPlaces, .inl (ka_minusPlaces, 90, .inl v_a_minusPlaces))]) [0, 5, 6, 7] rfl
              have hDc := hD.sub (ws' := [(a_t, .inr (7, [.ref a_pairFirsts, .ref a_pairLasts, .int (nI v_a_t_2), .int (nI n_pairsBefore), .ref a_firsts, .ref a_lasts, .int (nI v_a_t_6), .ref a_levels, .ref a_sides, .ref a_minusPlaces, .int (nI v_a_t_10)])), (a_levels, .inl (ka_levels, 90, .inl v_a_levels)), (a_sides, .inl (ka_sides, 90, .inl v_a_sides)), (a_minusPlaces, .inl (ka_minusPlaces, 90, .inl v_a_minusPlaces))]) [0, 5, 6, 7] (by decide) rfl
              have hKc := hK.sub (tys' := [(ka_levels, .int), (ka_sides, .int), (ka_minusPlaces, .int)]) [4, 5, 6] rfl
              have hFc := va_free (wc := [(a_t, .inr (7, [.ref a_pairFirsts, .ref a_pairLasts, .int (nI v_a_t_2), .int (nI n_pairsBefore), .ref a_firsts, .ref a_lasts, .int (nI v_a_t_6), .ref a_levels, .ref a_sides, .ref a_minusPlaces, .int (nI v_a_t_10)])), (a_levels, .inl (ka_levels, 90, .inl v_a_levels)), (a_sides, .inl (ka_sides, 90, .inl v_a_sides)), (a_minusPlaces, .inl (ka_minusPlaces, 90, .inl v_a_minusPlaces))]) hD hS hA [0, 5, 6, 7] rfl
              refine va_callv (va_runV (As := [.int y0, .int y1, .int (-1)]) (rest := []) ⟨hx, hb, hml, hown, hz⟩ (s_Resolver_letWait l dC dI H.size a_t a_pairFirsts a_pairLasts v_a_t_2 n_pairsBefore a_firsts a_lasts v_a_t_6 a_levels v_a_levels a_sides v_a_sides a_minusPlaces v_a_minusPlaces v_a_t_10 y0 y1 ((-1)) ka_levels ka_sides ka_minusPlaces (by first | omega | assumption | exact Or.inl rfl | exact Or.inr rfl) (by first | omega | assumption | exact Or.inl rfl | exact Or.inr rfl) (by first | omega | assumption | exact Or.inl rfl | exact Or.inr rfl) (by first | omega | assumption | exact Or.inl rfl | exact Or.inr rfl)) (cwV 3 hz (zV zm_349 zm_350 zm_351 zm_340 zm_352) rfl rfl rfl (by decide +kernel) ⟨Nat.le_of_ble_eq_true rfl, Nat.le_of_ble_eq_true rfl⟩) ⟨fun a U g mk q => by obtain ⟨q0, q1, qP, qK, qD⟩ := q; exact ⟨q0, q1, qP, va_K.moved (u := U) (U := U.calling g mk a) (Vm.Alike.refl U.vm) qK, qD⟩, va_recv (q := (R_Resolver, F_Resolver, 11)) (q0 := 0) (ci := 7) hK hP rfl rfl, fun U hU hW => ⟨rfl, by rw [hU], by rw [hU]; exact hPc, va_K.moved hW.alike hKc, hDc.weaken (fun _ _ _ _ => trivial)⟩⟩ rfl rfl hl.1 rfl (lv_room (Nat.le_of_ble_eq_true rfl)) d_Resolver_takeOperation_86 ⟨Nat.zero_le _, Nat.zero_le _⟩) hS (fun q _ h => hFc q h) hFc (fun u t H1 locs ht hvm hw hB hz1 hk1 hS => ?_)
              obtain ⟨g79, g80, g81, g82, hb_g79, hP1, hK1, hD1⟩ := hB
              rw [ht] at hP1
              obtain ⟨hP, hD⟩ := va_join (wr := [(a_pairFirsts, .inl (ka_pairFirsts, 90, .inl v_a_pairFirsts)), (a_pairLasts, .inl (ka_pairLasts, 90, .inl v_a_pairLasts)), (a_firsts, .inl (ka_firsts, 90, .inl v_a_firsts)), (a_lasts, .inl (ka_lasts, 90, .inl v_a_lasts))]) (w1 := [(a_t, .inr (7, [.ref a_pairFirsts, .ref a_pairLasts, .int (nI v_a_t_2), .int (nI n_pairsBefore), .ref a_firsts, .ref a_lasts, .int (nI v_a_t_6), .ref a_levels, .ref a_sides, .ref a_minusPlaces, .int (nI g79)])), (a_levels, .inl (ka_levels, 90, .inl g80)), (a_sides, .inl (ka_sides, 90, .inl g81)), (a_minusPlaces, .inl (ka_minusPlaces, 90, .inl g82))]) hP hD [0, 5, 6, 7] [1, 2, 3, 4] rfl rfl (by decide) (by decide) hk1 hFc hP1 hD1
              generalize H1 = H at hP hS ⊢
              have hP : va_P (dC, dI) vcl [(a_pairFirsts, .inl (ka_pairFirsts, 90, .inl v_a_pairFirsts)), (a_pairLasts, .inl (ka_pairLasts, 90, .inl v_a_pairLasts)), (a_firsts, .inl (ka_firsts, 90, .inl v_a_firsts)), (a_lasts, .inl (ka_lasts, 90, .inl v_a_lasts)), (a_t, .inr (7, [.ref a_pairFirsts, .ref a_pairLasts, .int (nI v_a_t_2), .int (nI n_pairsBefore), .ref a_firsts, .ref a_lasts, .int (nI v_a_t_6), .ref a_levels, .ref a_sides, .ref a_minusPlaces, .int (nI g79)])), (a_levels, .inl (ka_levels, 90, .inl g80)), (a_sides, .inl (ka_sides, 90, .inl g81)), (a_minusPlaces, .inl (ka_minusPlaces, 90, .inl g82))] H := hP
              have hD : va_D A [(a_pairFirsts, .inl (ka_pairFirsts, 90, .inl v_a_pairFirsts)), (a_pairLasts, .inl (ka_pairLasts, 90, .inl v_a_pairLasts)), (a_firsts, .inl (ka_firsts, 90, .inl v_a_firsts)), (a_lasts, .inl (ka_lasts, 90, .inl v_a_lasts)), (a_t, .inr (7, [.ref a_pairFirsts, .ref a_pairLasts, .int (nI v_a_t_2), .int (nI n_pairsBefore), .ref a_firsts, .ref a_lasts, .int (nI v_a_t_6), .ref a_levels, .ref a_sides, .ref a_minusPlaces, .int (nI g79)])), (a_levels, .inl (ka_levels, 90, .inl g80)), (a_sides, .inl (ka_sides, 90, .inl g81)), (a_minusPlaces, .inl (ka_minusPlaces, 90, .inl g82))] := hD
              refine lv_iconst (v := 1) hx hb d_Resolver_takeOperation_89 (by decide) ?_
              have hP9 := hP.sub (ws' := [(a_t, .inr (7, [.ref a_pairFirsts, .ref a_pairLasts, .int (nI v_a_t_2), .int (nI n_pairsBefore), .ref a_firsts, .ref a_lasts, .int (nI v_a_t_6), .ref a_levels, .ref a_sides, .ref a_minusPlaces, .int (nI g79)])), (a_pairFirsts, .inl (ka_pairFirsts, 90, .inl v_a_pairFirsts)), (a_pairLasts, .inl (ka_pairLasts, 90, .inl v_a_pairLasts)), (a_firsts, .inl (ka_firsts, 90, .inl v_a_firsts)), (a_lasts, .inl (ka_lasts, 90, .inl v_a_lasts)), (a_levels, .inl (ka_levels, 90, .inl g80)), (a_sides, .inl (ka_sides, 90, .inl g81)), (a_minusPlaces, .inl (ka_minusPlaces, 90, .inl g82))]) [4, 0, 1, 2, 3, 5, 6, 7] rfl
              have hD9 := hD.sub (ws' := [(a_t, .inr (7, [.ref a_pairFirsts, .ref a_pairLasts, .int (nI v_a_t_2), .int (nI n_pairsBefore), .ref a_firsts, .ref a_lasts, .int (nI v_a_t_6), .ref a_levels, .ref a_sides, .ref a_minusPlaces, .int (nI g79)])), (a_pairFirsts, .inl (ka_pairFirsts, 90, .inl v_a_pairFirsts)), (a_pairLasts, .inl (ka_pairLasts, 90, .inl v_a_pairLasts)), (a_firsts, .inl (ka_firsts, 90, .inl v_a_firsts)), (a_lasts, .inl (ka_lasts, 90, .inl v_a_lasts)), (a_levels, .inl (ka_levels, 90, .inl g80)), (a_sides, .inl (ka_sides, 90, .inl g81)), (a_minusPlaces, .inl (ka_minusPlaces, 90, .inl g82))]) [4, 0, 1, 2, 3, 5, 6, 7] (by decide) rfl
              exact W.zret (v := 1) hx hb hr (by decide +kernel) (fun t ht hW => ⟨⟨1, (), rfl, (by first | assumption | exact Or.inl rfl | exact Or.inr rfl), v_a_t_2, v_a_t_6, g79, v_a_pairFirsts, v_a_pairLasts, v_a_firsts, v_a_lasts, g80, g81, g82, by first | omega | assumption | exact Or.inl rfl | exact Or.inr rfl, by first | omega | assumption | exact Or.inl rfl | exact Or.inr rfl, by first | omega | assumption | exact Or.inl rfl | exact Or.inr rfl, by rw [ht]; exact hP9, va_K.moved hW.alike hK, hD9⟩, hS.F ht⟩) hS.2.2 d_Resolver_takeOperation_90
        · refine lv_iconst (v := 0) hx hb d_Resolver_takeOperation_48 (by decide) ?_
          have hP9 := hP.sub (ws' := [(a_t, .inr (7, [.ref a_pairFirsts, .ref a_pairLasts, .int (nI v_a_t_2), .int (nI n_pairsBefore), .ref a_firsts, .ref a_lasts, .int (nI v_a_t_6), .ref a_levels, .ref a_sides, .ref a_minusPlaces, .int (nI v_a_t_10)])), (a_pairFirsts, .inl (ka_pairFirsts, 90, .inl v_a_pairFirsts)), (a_pairLasts, .inl (ka_pairLasts, 90, .inl v_a_pairLasts)), (a_firsts, .inl (ka_firsts, 90, .inl v_a_firsts)), (a_lasts, .inl (ka_lasts, 90, .inl v_a_lasts)), (a_levels, .inl (ka_levels, 90, .inl v_a_levels)), (a_sides, .inl (ka_sides, 90, .inl v_a_sides)), (a_minusPlaces, .inl (ka_minusPlaces, 90, .inl v_a_minusPlaces))]) [0, 1, 2, 3, 4, 5, 6, 7] rfl
          have hD9 := hD.sub (ws' := [(a_t, .inr (7, [.ref a_pairFirsts, .ref a_pairLasts, .int (nI v_a_t_2), .int (nI n_pairsBefore), .ref a_firsts, .ref a_lasts, .int (nI v_a_t_6), .ref a_levels, .ref a_sides, .ref a_minusPlaces, .int (nI v_a_t_10)])), (a_pairFirsts, .inl (ka_pairFirsts, 90, .inl v_a_pairFirsts)), (a_pairLasts, .inl (ka_pairLasts, 90, .inl v_a_pairLasts)), (a_firsts, .inl (ka_firsts, 90, .inl v_a_firsts)), (a_lasts, .inl (ka_lasts, 90, .inl v_a_lasts)), (a_levels, .inl (ka_levels, 90, .inl v_a_levels)), (a_sides, .inl (ka_sides, 90, .inl v_a_sides)), (a_minusPlaces, .inl (ka_minusPlaces, 90, .inl v_a_minusPlaces))]) [0, 1, 2, 3, 4, 5, 6, 7] (by decide) rfl
          exact W.zret (v := 0) hx hb hr (by decide +kernel) (fun t ht hW => ⟨⟨0, (), rfl, (by first | assumption | exact Or.inl rfl | exact Or.inr rfl), v_a_t_2, v_a_t_6, v_a_t_10, v_a_pairFirsts, v_a_pairLasts, v_a_firsts, v_a_lasts, v_a_levels, v_a_sides, v_a_minusPlaces, by first | omega | assumption | exact Or.inl rfl | exact Or.inr rfl, by first | omega | assumption | exact Or.inl rfl | exact Or.inr rfl, by first | omega | assumption | exact Or.inl rfl | exact Or.inr rfl, by rw [ht]; exact hP9, va_K.moved hW.alike hK, hD9⟩, hS.F ht⟩) hS.2.2 d_Resolver_takeOperation_49
set_option maxHeartbeats 4000000 in
set_option maxRecDepth 100000 in
theorem s_Tokens_find (l : Launch) (dC : Nat → ClassId) (dI : Nat → Nat → Nat) (sz : Nat) (a_y0 : Nat) (n_y0 : Nat) (f_y0 : Nat → Int64) (y1 : Int64) (ka_y0 : ClassId) (by0 : n_y0 ≤ 600) : Met l y_Tokens_find w_Tokens_find ({ frames := 0, cells := 0, slots := 0, locals := 0 }) (va_Pc [.ref a_y0, .long y1] (fun U => U.heap.size = sz ∧ va_P (dC, dI) vcl [(a_y0, .inl (ka_y0, n_y0, .inr (.inl f_y0)))] U.heap ∧ va_K (dC, dI) vcl [(ka_y0, .long)] U ∧ va_D (fun _ => True) [(a_y0, .inl (ka_y0, n_y0, .inr (.inl f_y0)))])) (va_Qi (fun (r : Int32) (_ : Unit) => True) (fun _ t => va_P (dC, dI) vcl [(a_y0, .inl (ka_y0, n_y0, .inr (.inl f_y0)))] t.heap ∧ va_K (dC, dI) vcl [(ka_y0, .long)] t ∧ va_D (va_A [(a_y0, .inl (ka_y0, n_y0, .inr (.inl f_y0)))] sz) [(a_y0, .inl (ka_y0, n_y0, .inr (.inl f_y0)))]) (va_A [(a_y0, .inl (ka_y0, n_y0, .inr (.inl f_y0)))] sz)) 0 0 (va_A [(a_y0, .inl (ka_y0, n_y0, .inr (.inl f_y0)))] sz) := by
  refine Met.ofW (cc := b_Tokens_find) (maxL := 4) (ret := (some .int)) (by decide) rfl ?_
  intro p e s m args below meth c s₁ B hml hv
  obtain ⟨rfl, hsz, hP, hK, hD0⟩ := hv
  have hx := B.exec
  have hb := B.bytes
  have hr := B.returns
  have hts := atoms_spec (ws := w_Tokens_find) B.pre
  have hz : ∀ w ∈ wz, w.before _ s = true := fun w h => hts w (List.mem_cons_of_mem _ h)
  have hown : s.vm.findClass R_Tokens = some m.cls := findClass_of_methodNamed B.named
  have hlocks := B.notSynchronized
  subst hsz
  have hD := hD0.self (sz := s.heap.size)
  generalize hAe : va_A [(a_y0, .inl (ka_y0, n_y0, .inr (.inl f_y0)))] s.heap.size = A at hD ⊢
  have hA : ∀ q : Nat, s.heap.size ≤ q → A q := fun q h => by rw [← hAe]; exact Or.inr h
  have hS : va_S A s.heap s.heap [] := va_S.rf
  have hP : va_P (dC, dI) vcl [(a_y0, .inl (ka_y0, n_y0, .inr (.inl f_y0)))] s.heap := hP
  have hl := lv_entry ([.ref a_y0, .long y1]) (n := 4) (Nat.le_of_ble_eq_true rfl)
  rw [lg_entry_eq]
  generalize (lg_sl ([.ref a_y0, .long y1]) ++ List.replicate (4 - (lg_sl ([.ref a_y0, .long y1])).length) Slot.unset).toArray = ls at hl ⊢
  have hl : lv_has ls 4 [(0, .ref a_y0), (1, .long y1)] := hl
  refine lv_iconst (v := 0) hx hb d_Tokens_find_0 (by decide) ?_
  refine lv_istore_n hx hb d_Tokens_find_1 rfl hl (by decide) rfl (fun ls hl => ?_)
  have hl : lv_has ls 4 [(3, .int 0), (0, .ref a_y0), (1, .long y1)] := hl
  refine xr_loop (α := (Nat)) (fun a => (fun (k3 : Nat) => 600 - k3) a) (fun a H locs ls => (fun (k3 : Nat) => (k3 ≤ 600) ∧ lv_has ls 4 [(3, .int (nI k3)), (0, .ref a_y0), (1, .long y1)] ∧ va_P (dC, dI) vcl [(a_y0, .inl (ka_y0, n_y0, .inr (.inl f_y0)))] H ∧ va_D A [(a_y0, .inl (ka_y0, n_y0, .inr (.inl f_y0)))] ∧ va_S A s.heap H locs) a) (fun a ih2 H locs ls hI => ?_) (0) _ _ _ ⟨by show 0 ≤ 600; first | omega | assumption | exact Or.inl rfl | exact Or.inr rfl, hl, hP, hD, hS⟩
  generalize a = k3 at ih2 hI
  obtain ⟨bl0, hl, hP, hD, hS⟩ := hI
  have bl0 : k3 ≤ 600 := bl0
  have hl : lv_has ls 4 [(3, .int (nI k3)), (0, .ref a_y0), (1, .long y1)] := hl
  have hP : va_P (dC, dI) vcl [(a_y0, .inl (ka_y0, n_y0, .inr (.inl f_y0)))] H := hP
  have hD : va_D A [(a_y0, .inl (ka_y0, n_y0, .inr (.inl f_y0)))] := hD
  refine lv_iload_n hx hb d_Tokens_find_2 rfl (lv_at hl 0 rfl) ?_
  refine lv_aload_n hx hb d_Tokens_find_3 rfl (lv_at hl 1 rfl) ?_
  refine va_alen (v := (nI n_y0)) hx hb hK hP 0 0 rfl rfl rfl d_Tokens_find_4 ?_
  refine lv_icmp_ge (tgt := 24) hx hb d_Tokens_find_5 (by decide) (fun h4 => ?_) (fun h4 => ?_)
  · have h4 : n_y0 ≤ k3 := (nI_leI (a := n_y0) (b := k3) (by omega) (by omega)).mp h4
    refine lv_iconst (v := (-1)) hx hb d_Tokens_find_24 (by decide) ?_
    have hP9 := hP.sub (ws' := [(a_y0, .inl (ka_y0, n_y0, .inr (.inl f_y0)))]) [0] rfl
    have hD9 := hD.sub (ws' := [(a_y0, .inl (ka_y0, n_y0, .inr (.inl f_y0)))]) [0] (by decide) rfl
    exact W.iret (v := (-1)) hx hb hr (fun t ht hW => ⟨⟨(-1), (), rfl, trivial, by rw [ht]; exact hP9, va_K.moved hW.alike hK, hD9⟩, hS.F ht⟩) hS.2.2 d_Tokens_find_25
  · have h4 : ¬ n_y0 ≤ k3 := fun q => h4 ((nI_leI (a := n_y0) (b := k3) (by omega) (by omega)).mpr q)
    refine lv_aload_n hx hb d_Tokens_find_8 rfl (lv_at hl 1 rfl) ?_
    refine lv_iload_n hx hb d_Tokens_find_9 rfl (lv_at hl 0 rfl) ?_
    refine va_lald hx hb hK hP 0 0 rfl rfl (vp_in_nI (by omega) (by omega)) d_Tokens_find_10 ?_
    refine lv_topl (fun x5 e_x5 => ?_)
    refine lv_lload_n hx hb d_Tokens_find_11 rfl (lv_at hl 2 rfl) ?_
    refine W.lcmp hx hb d_Tokens_find_12 ?_
    refine lv_if_ne (tgt := 18) hx hb d_Tokens_find_13 (by decide) (fun h6 => ?_) (fun h6 => ?_)
    · refine lv_iinc (k := 0) (v := (nI (k3 + 1))) hx hb d_Tokens_find_18 hl rfl (nI_1 k3) (by decide) rfl (fun ls hl => ?_)
      have hl : lv_has ls 4 [(3, .int (nI (k3 + 1))), (0, .ref a_y0), (1, .long y1)] := hl
      refine lv_goto (tgt := 2) hx hb d_Tokens_find_21 (by decide) ?_
      have hP9 := hP.sub (ws' := [(a_y0, .inl (ka_y0, n_y0, .inr (.inl f_y0)))]) [0] rfl
      have hD9 := hD.sub (ws' := [(a_y0, .inl (ka_y0, n_y0, .inr (.inl f_y0)))]) [0] (by decide) rfl
      exact ih2 ((k3 + 1)) (by show 600 - ((k3 + 1)) < 600 - k3; omega) _ _ _ ⟨by show ((k3 + 1)) ≤ 600; first | omega | assumption | exact Or.inl rfl | exact Or.inr rfl, hl, hP9, hD9, hS⟩
    · refine lv_iload_n hx hb d_Tokens_find_16 rfl (lv_at hl 0 rfl) ?_
      have hP9 := hP.sub (ws' := [(a_y0, .inl (ka_y0, n_y0, .inr (.inl f_y0)))]) [0] rfl
      have hD9 := hD.sub (ws' := [(a_y0, .inl (ka_y0, n_y0, .inr (.inl f_y0)))]) [0] (by decide) rfl
      exact W.iret (v := (nI k3)) hx hb hr (fun t ht hW => ⟨⟨(nI k3), (), rfl, trivial, by rw [ht]; exact hP9, va_K.moved hW.alike hK, hD9⟩, hS.F ht⟩) hS.2.2 d_Tokens_find_17
