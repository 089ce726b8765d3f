set_option maxHeartbeats 4000000 in
set_option maxRecDepth 100000 in
theorem s_Cutter_lineEnd (l : Launch) (dC : Nat → ClassId) (dI : Nat → Nat → Nat) (sz : Nat) (a_y0 : Nat) (a_y0_characters : Nat) (f_y0_characters : Nat → Int32) (n_y0_length : Nat) (y1 : Nat) (ka_y0_characters : ClassId) (c_y0_characters : ∀ j, narrow .char (.int (f_y0_characters j)) = .int (f_y0_characters j)) (b_y0_length : n_y0_length ≤ 240) (by1 : y1 ≤ 240) : Met l y_Cutter_lineEnd w_Cutter_lineEnd ({ frames := 1, cells := 0, slots := 0, locals := 21 }) (va_Pc [.ref a_y0, .int (nI y1)] (fun U => U.heap.size = sz ∧ va_P (dC, dI) vcl [(a_y0, .inr (10, [.ref a_y0_characters, .int (nI n_y0_length)])), (a_y0_characters, .inl (ka_y0_characters, 240, .inl f_y0_characters))] U.heap ∧ va_K (dC, dI) vcl [(ka_y0_characters, .char)] U ∧ va_D (fun _ => True) [(a_y0, .inr (10, [.ref a_y0_characters, .int (nI n_y0_length)])), (a_y0_characters, .inl (ka_y0_characters, 240, .inl f_y0_characters))])) (va_Qi (fun (r : Int32) (_ : Unit) => ∃ j, j ≤ 240 ∧ r = nI j) (fun _ t => va_P (dC, dI) vcl [(a_y0, .inr (10, [.ref a_y0_characters, .int (nI n_y0_length)])), (a_y0_characters, .inl (ka_y0_characters, 240, .inl f_y0_characters))] t.heap ∧ va_K (dC, dI) vcl [(ka_y0_characters, .char)] t ∧ va_D (va_A [(a_y0, .inr (10, [.ref a_y0_characters, .int (nI n_y0_length)])), (a_y0_characters, .inl (ka_y0_characters, 240, .inl f_y0_characters))] sz) [(a_y0, .inr (10, [.ref a_y0_characters, .int (nI n_y0_length)])), (a_y0_characters, .inl (ka_y0_characters, 240, .inl f_y0_characters))]) (va_A [(a_y0, .inr (10, [.ref a_y0_characters, .int (nI n_y0_length)])), (a_y0_characters, .inl (ka_y0_characters, 240, .inl f_y0_characters))] sz)) 0 0 (va_A [(a_y0, .inr (10, [.ref a_y0_characters, .int (nI n_y0_length)])), (a_y0_characters, .inl (ka_y0_characters, 240, .inl f_y0_characters))] sz) := by
  refine Met.ofW (cc := b_Cutter_lineEnd) (maxL := 3) (ret := (some .int)) (by decide) rfl ?_
  intro p e s m args below meth c s₁ B hml hv
  obtain ⟨rfl, hsz, hP, hK, hD0⟩ := hv
  have hx := B.exec
  have hb := B.bytes
  have hr := B.returns
  have hts := atoms_spec (ws := w_Cutter_lineEnd) B.pre
  have hz : ∀ w ∈ wz, w.before _ s = true := fun w h => hts w (List.mem_cons_of_mem _ h)
  have hown : s.vm.findClass R_Cutter = some m.cls := findClass_of_methodNamed B.named
  have hlocks := B.notSynchronized
  subst hsz
  have hD := hD0.self (sz := s.heap.size)
  generalize hAe : va_A [(a_y0, .inr (10, [.ref a_y0_characters, .int (nI n_y0_length)])), (a_y0_characters, .inl (ka_y0_characters, 240, .inl f_y0_characters))] s.heap.size = A at hD ⊢
  have hA : ∀ q : Nat, s.heap.size ≤ q → A q := fun q h => by rw [← hAe]; exact Or.inr h
  have hS : va_S A s.heap s.heap [] := va_S.rf
  have hP : va_P (dC, dI) vcl [(a_y0, .inr (10, [.ref a_y0_characters, .int (nI n_y0_length)])), (a_y0_characters, .inl (ka_y0_characters, 240, .inl f_y0_characters))] s.heap := hP
  have hl := lv_entry ([.ref a_y0, .int (nI y1)]) (n := 3) (Nat.le_of_ble_eq_true rfl)
  rw [lg_entry_eq]
  generalize (lg_sl ([.ref a_y0, .int (nI y1)]) ++ List.replicate (3 - (lg_sl ([.ref a_y0, .int (nI y1)])).length) Slot.unset).toArray = ls at hl ⊢
  have hl : lv_has ls 3 [(0, .ref a_y0), (1, .int (nI y1))] := hl
  refine lv_iload_n hx hb d_Cutter_lineEnd_0 rfl (lv_at hl 1 rfl) ?_
  refine lv_istore_n hx hb d_Cutter_lineEnd_1 rfl hl (by decide) rfl (fun ls hl => ?_)
  have hl : lv_has ls 3 [(2, .int (nI y1)), (0, .ref a_y0), (1, .int (nI y1))] := hl
  refine xr_loop (α := (Nat)) (fun a => (fun (k2 : Nat) => 240 - k2) a) (fun a H locs ls => (fun (k2 : Nat) => (k2 ≤ 240) ∧ lv_has ls 3 [(2, .int (nI k2)), (0, .ref a_y0), (1, .int (nI y1))] ∧ va_P (dC, dI) vcl [(a_y0, .inr (10, [.ref a_y0_characters, .int (nI n_y0_length)])), (a_y0_characters, .inl (ka_y0_characters, 240, .inl f_y0_characters))] H ∧ va_D A [(a_y0, .inr (10, [.ref a_y0_characters, .int (nI n_y0_length)])), (a_y0_characters, .inl (ka_y0_characters, 240, .inl f_y0_characters))] ∧ va_S A s.heap H locs) a) (fun a ih2 H locs ls hI => ?_) (y1) _ _ _ ⟨by show y1 ≤ 240; first | omega | assumption | exact Or.inl rfl | exact Or.inr rfl, hl, hP, hD, hS⟩
  generalize a = k2 at ih2 hI
  obtain ⟨bl0, hl, hP, hD, hS⟩ := hI
  have bl0 : k2 ≤ 240 := bl0
  have hl : lv_has ls 3 [(2, .int (nI k2)), (0, .ref a_y0), (1, .int (nI y1))] := hl
  have hP : va_P (dC, dI) vcl [(a_y0, .inr (10, [.ref a_y0_characters, .int (nI n_y0_length)])), (a_y0_characters, .inl (ka_y0_characters, 240, .inl f_y0_characters))] H := hP
  have hD : va_D A [(a_y0, .inr (10, [.ref a_y0_characters, .int (nI n_y0_length)])), (a_y0_characters, .inl (ka_y0_characters, 240, .inl f_y0_characters))] := hD
  refine lv_iload_n hx hb d_Cutter_lineEnd_2 rfl (lv_at hl 0 rfl) ?_
  refine lv_aload_n hx hb d_Cutter_lineEnd_3 rfl (lv_at hl 1 rfl) ?_
  have hPc := hP.sub (ws' := [(a_y0, .inr (10, [.ref a_y0_characters, .int (nI n_y0_length)]))]) [0] rfl
  have hDc := hD.sub (ws' := [(a_y0, .inr (10, [.ref a_y0_characters, .int (nI n_y0_length)]))]) [0] (by decide) rfl
  have hKc := hK.sub (tys' := []) [] rfl
  have hFc := va_free (wc := [(a_y0, .inr (10, [.ref a_y0_characters, .int (nI n_y0_length)]))]) hD hS hA [0] rfl
  refine va_calli (va_runV (As := []) (rest := [.int (nI k2)]) ⟨hx, hb, hml, hown, hz⟩ (s_Text_length l dC dI H.size a_y0 a_y0_characters n_y0_length (by first | omega | assumption | exact Or.inl rfl | exact Or.inr rfl)) (cwV 0 hz (zV zm_85 zm_86 zm_87 zm_7 zm_88) rfl rfl rfl (by decide +kernel) ⟨Nat.le_of_ble_eq_true rfl, Nat.le_of_ble_eq_true rfl⟩) ⟨fun a U g mk q => by obtain ⟨q0, q1, qP, qK, qD⟩ := q; exact ⟨q0, q1, qP, va_K.moved (u := U) (U := U.calling g mk a) (Vm.Alike.refl U.vm) qK, qD⟩, va_recv (q := (R_Text, F_Text, 2)) (q0 := 0) (ci := 10) hK hP rfl rfl, fun U hU hW => ⟨rfl, by rw [hU], by rw [hU]; exact hPc, va_K.moved hW.alike hKc, hDc.weaken (fun _ _ _ _ => trivial)⟩⟩ rfl rfl hl.1 rfl (lv_room (Nat.le_of_ble_eq_true rfl)) d_Cutter_lineEnd_4 ⟨Nat.zero_le _, Nat.zero_le _⟩) hS (fun q _ h => hFc q h) hFc (fun r u t H1 locs ht hvm hw hB hz1 hk1 hS => ?_)
  obtain ⟨hP1, hK1, hD1⟩ := hB
  subst r
  rw [ht] at hP1
  obtain ⟨hP, hD⟩ := va_join (wr := [(a_y0_characters, .inl (ka_y0_characters, 240, .inl f_y0_characters))]) (w1 := [(a_y0, .inr (10, [.ref a_y0_characters, .int (nI n_y0_length)]))]) hP hD [0] [1] rfl rfl (by decide) (by decide) hk1 hFc hP1 hD1
  generalize H1 = H at hP hS ⊢
  have hP : va_P (dC, dI) vcl [(a_y0_characters, .inl (ka_y0_characters, 240, .inl f_y0_characters)), (a_y0, .inr (10, [.ref a_y0_characters, .int (nI n_y0_length)]))] H := hP
  have hD : va_D A [(a_y0_characters, .inl (ka_y0_characters, 240, .inl f_y0_characters)), (a_y0, .inr (10, [.ref a_y0_characters, .int (nI n_y0_length)]))] := hD
  refine lv_icmp_ge (tgt := 28) hx hb d_Cutter_lineEnd_7 (by decide) (fun h4 => ?_) (fun h4 => ?_)
  · have h4 : n_y0_length ≤ k2 := (nI_leI (a := n_y0_length) (b := k2) (by omega) (by omega)).mp h4
    refine lv_aload_n hx hb d_Cutter_lineEnd_28 rfl (lv_at hl 1 rfl) ?_
    have hPc := hP.sub (ws' := [(a_y0, .inr (10, [.ref a_y0_characters, .int (nI n_y0_length)]))]) [1] rfl
    have hDc := hD.sub (ws' := [(a_y0, .inr (10, [.ref a_y0_characters, .int (nI n_y0_length)]))]) [1] (by decide) rfl
    have hKc := hK.sub (tys' := []) [] rfl
    have hFc := va_free (wc := [(a_y0, .inr (10, [.ref a_y0_characters, .int (nI n_y0_length)]))]) hD hS hA [1] rfl
    refine va_calli (va_runV (As := []) (rest := []) ⟨hx, hb, hml, hown, hz⟩ (s_Text_length l dC dI H.size a_y0 a_y0_characters n_y0_length (by first | omega | assumption | exact Or.inl rfl | exact Or.inr rfl)) (cwV 0 hz (zV zm_85 zm_86 zm_87 zm_7 zm_88) rfl rfl rfl (by decide +kernel) ⟨Nat.le_of_ble_eq_true rfl, Nat.le_of_ble_eq_true rfl⟩) ⟨fun a U g mk q => by obtain ⟨q0, q1, qP, qK, qD⟩ := q; exact ⟨q0, q1, qP, va_K.moved (u := U) (U := U.calling g mk a) (Vm.Alike.refl U.vm) qK, qD⟩, va_recv (q := (R_Text, F_Text, 2)) (q0 := 1) (ci := 10) hK hP rfl rfl, fun U hU hW => ⟨rfl, by rw [hU], by rw [hU]; exact hPc, va_K.moved hW.alike hKc, hDc.weaken (fun _ _ _ _ => trivial)⟩⟩ rfl rfl hl.1 rfl (lv_room (Nat.le_of_ble_eq_true rfl)) d_Cutter_lineEnd_29 ⟨Nat.zero_le _, Nat.zero_le _⟩) hS (fun q _ h => hFc q h) hFc (fun r u t H1 locs ht hvm hw hB hz1 hk1 hS => ?_)
    obtain ⟨hP1, hK1, hD1⟩ := hB
    subst r
    rw [ht] at hP1
    obtain ⟨hP, hD⟩ := va_join (wr := [(a_y0_characters, .inl (ka_y0_characters, 240, .inl f_y0_characters))]) (w1 := [(a_y0, .inr (10, [.ref a_y0_characters, .int (nI n_y0_length)]))]) hP hD [1] [0] rfl rfl (by decide) (by decide) hk1 hFc hP1 hD1
    generalize H1 = H at hP hS ⊢
    have hP : va_P (dC, dI) vcl [(a_y0_characters, .inl (ka_y0_characters, 240, .inl f_y0_characters)), (a_y0, .inr (10, [.ref a_y0_characters, .int (nI n_y0_length)]))] H := hP
    have hD : va_D A [(a_y0_characters, .inl (ka_y0_characters, 240, .inl f_y0_characters)), (a_y0, .inr (10, [.ref a_y0_characters, .int (nI n_y0_length)]))] := hD
    have hP9 := hP.sub (ws' := [(a_y0, .inr (10, [.ref a_y0_characters, .int (nI n_y0_length)])), (a_y0_characters, .inl (ka_y0_characters, 240, .inl f_y0_characters))]) [1, 0] rfl
    have hD9 := hD.sub (ws' := [(a_y0, .inr (10, [.ref a_y0_characters, .int (nI n_y0_length)])), (a_y0_characters, .inl (ka_y0_characters, 240, .inl f_y0_characters))]) [1, 0] (by decide) rfl
    exact W.iret (v := (nI n_y0_length)) hx hb hr (fun t ht hW => ⟨⟨(nI n_y0_length), (), rfl, ⟨n_y0_length, by omega, rfl⟩, by rw [ht]; exact hP9, va_K.moved hW.alike hK, hD9⟩, hS.F ht⟩) hS.2.2 d_Cutter_lineEnd_32
  · have h4 : ¬ n_y0_length ≤ k2 := fun q => h4 ((nI_leI (a := n_y0_length) (b := k2) (by omega) (by omega)).mpr q)
    refine lv_aload_n hx hb d_Cutter_lineEnd_10 rfl (lv_at hl 1 rfl) ?_
    refine lv_iload_n hx hb d_Cutter_lineEnd_11 rfl (lv_at hl 0 rfl) ?_
    have hPc := hP.sub (ws' := [(a_y0, .inr (10, [.ref a_y0_characters, .int (nI n_y0_length)])), (a_y0_characters, .inl (ka_y0_characters, 240, .inl f_y0_characters))]) [1, 0] rfl
    have hDc := hD.sub (ws' := [(a_y0, .inr (10, [.ref a_y0_characters, .int (nI n_y0_length)])), (a_y0_characters, .inl (ka_y0_characters, 240, .inl f_y0_characters))]) [1, 0] (by decide) rfl
    have hKc := hK.sub (tys' := [(ka_y0_characters, .char)]) [0] rfl
    have hFc := va_free (wc := [(a_y0, .inr (10, [.ref a_y0_characters, .int (nI n_y0_length)])), (a_y0_characters, .inl (ka_y0_characters, 240, .inl f_y0_characters))]) hD hS hA [1, 0] rfl
    refine va_calli (va_runV (As := [.int (nI k2)]) (rest := []) ⟨hx, hb, hml, hown, hz⟩ (s_Text_at l dC dI H.size a_y0 a_y0_characters f_y0_characters n_y0_length ((nI k2)) ka_y0_characters (by first | omega | assumption | exact Or.inl rfl | exact Or.inr rfl) (by first | omega | assumption | exact Or.inl rfl | exact Or.inr rfl)) (cwV 1 hz (zV zm_89 zm_11 zm_12 zm_7 zm_13) rfl rfl rfl (by decide +kernel) ⟨Nat.le_of_ble_eq_true rfl, Nat.le_of_ble_eq_true rfl⟩) ⟨fun a U g mk q => by obtain ⟨q0, q1, qP, qK, qD⟩ := q; exact ⟨q0, q1, qP, va_K.moved (u := U) (U := U.calling g mk a) (Vm.Alike.refl U.vm) qK, qD⟩, va_recv (q := (R_Text, F_Text, 2)) (q0 := 1) (ci := 10) hK hP rfl rfl, fun U hU hW => ⟨rfl, by rw [hU], by rw [hU]; exact hPc, va_K.moved hW.alike hKc, hDc.weaken (fun _ _ _ _ => trivial)⟩⟩ rfl rfl hl.1 rfl (lv_room (Nat.le_of_ble_eq_true rfl)) d_Cutter_lineEnd_12 ⟨Nat.zero_le _, Nat.zero_le _⟩) hS (fun q _ h => hFc q h) hFc (fun x5 u t H1 locs ht hvm hw hB hz1 hk1 hS => ?_)
    obtain ⟨hP1, hK1, hD1⟩ := hB
    rw [ht] at hP1
    obtain ⟨hP, hD⟩ := va_join (wr := []) (w1 := [(a_y0, .inr (10, [.ref a_y0_characters, .int (nI n_y0_length)])), (a_y0_characters, .inl (ka_y0_characters, 240, .inl f_y0_characters))]) hP hD [1, 0] [] rfl rfl (by decide) (by decide) hk1 hFc hP1 hD1
    generalize H1 = H at hP hS ⊢
    have hP : va_P (dC, dI) vcl [(a_y0, .inr (10, [.ref a_y0_characters, .int (nI n_y0_length)])), (a_y0_characters, .inl (ka_y0_characters, 240, .inl f_y0_characters))] H := hP
    have hD : va_D A [(a_y0, .inr (10, [.ref a_y0_characters, .int (nI n_y0_length)])), (a_y0_characters, .inl (ka_y0_characters, 240, .inl f_y0_characters))] := hD
    refine lv_bipush (v := 10) hx hb d_Cutter_lineEnd_15 (by decide) ?_
    refine lv_icmp_ne (tgt := 22) hx hb d_Cutter_lineEnd_17 (by decide) (fun h6 => ?_) (fun h6 => ?_)
    · refine lv_iinc (k := 0) (v := (nI (k2 + 1))) hx hb d_Cutter_lineEnd_22 hl rfl (nI_1 k2) (by decide) rfl (fun ls hl => ?_)
      have hl : lv_has ls 3 [(2, .int (nI (k2 + 1))), (0, .ref a_y0), (1, .int (nI y1))] := hl
      refine lv_goto (tgt := 2) hx hb d_Cutter_lineEnd_25 (by decide) ?_
      have hP9 := hP.sub (ws' := [(a_y0, .inr (10, [.ref a_y0_characters, .int (nI n_y0_length)])), (a_y0_characters, .inl (ka_y0_characters, 240, .inl f_y0_characters))]) [0, 1] rfl
      have hD9 := hD.sub (ws' := [(a_y0, .inr (10, [.ref a_y0_characters, .int (nI n_y0_length)])), (a_y0_characters, .inl (ka_y0_characters, 240, .inl f_y0_characters))]) [0, 1] (by decide) rfl
      exact ih2 ((k2 + 1)) (by show 240 - ((k2 + 1)) < 240 - k2; omega) _ _ _ ⟨by show ((k2 + 1)) ≤ 240; first | omega | assumption | exact Or.inl rfl | exact Or.inr rfl, hl, hP9, hD9, hS⟩
    · refine lv_iload_n hx hb d_Cutter_lineEnd_20 rfl (lv_at hl 0 rfl) ?_
      have hP9 := hP.sub (ws' := [(a_y0, .inr (10, [.ref a_y0_characters, .int (nI n_y0_length)])), (a_y0_characters, .inl (ka_y0_characters, 240, .inl f_y0_characters))]) [0, 1] rfl
      have hD9 := hD.sub (ws' := [(a_y0, .inr (10, [.ref a_y0_characters, .int (nI n_y0_length)])), (a_y0_characters, .inl (ka_y0_characters, 240, .inl f_y0_characters))]) [0, 1] (by decide) rfl
      exact W.iret (v := (nI k2)) hx hb hr (fun t ht hW => ⟨⟨(nI k2), (), rfl, ⟨k2, by omega, rfl⟩, by rw [ht]; exact hP9, va_K.moved hW.alike hK, hD9⟩, hS.F ht⟩) hS.2.2 d_Cutter_lineEnd_21
set_option maxHeartbeats 4000000 in
set_option maxRecDepth 100000 in
theorem s_Text_number (l : Launch) (dC : Nat → ClassId) (dI : Nat → Nat → Nat) (sz : Nat) (a_t : Nat) (a_characters : Nat) (f_characters : Nat → Int32) (n_length : Nat) (y0 : Nat) (y1 : Nat) (ka_characters : ClassId) (c_characters : ∀ j, narrow .char (.int (f_characters j)) = .int (f_characters j)) (b_length : n_length ≤ 240) (by0 : y0 ≤ 241) (by1 : y1 ≤ 240) : Met l y_Text_number w_Text_number ({ frames := 1, cells := 0, slots := 0, locals := 21 }) (va_Pc [.ref a_t, .int (nI y0), .int (nI y1)] (fun U => U.heap.size = sz ∧ va_P (dC, dI) vcl [(a_t, .inr (10, [.ref a_characters, .int (nI n_length)])), (a_characters, .inl (ka_characters, 240, .inl f_characters))] U.heap ∧ va_K (dC, dI) vcl [(ka_characters, .char)] U ∧ va_D (fun _ => True) [(a_t, .inr (10, [.ref a_characters, .int (nI n_length)])), (a_characters, .inl (ka_characters, 240, .inl f_characters))])) (va_Ql (fun (r : Int64) (_ : Unit) => True) (fun _ t => va_P (dC, dI) vcl [(a_t, .inr (10, [.ref a_characters, .int (nI n_length)])), (a_characters, .inl (ka_characters, 240, .inl f_characters))] t.heap ∧ va_K (dC, dI) vcl [(ka_characters, .char)] t ∧ va_D (va_A [(a_t, .inr (10, [.ref a_characters, .int (nI n_length)])), (a_characters, .inl (ka_characters, 240, .inl f_characters))] sz) [(a_t, .inr (10, [.ref a_characters, .int (nI n_length)])), (a_characters, .inl (ka_characters, 240, .inl f_characters))]) (va_A [(a_t, .inr (10, [.ref a_characters, .int (nI n_length)])), (a_characters, .inl (ka_characters, 240, .inl f_characters))] sz)) 0 0 (va_A [(a_t, .inr (10, [.ref a_characters, .int (nI n_length)])), (a_characters, .inl (ka_characters, 240, .inl f_characters))] sz) := by
  refine Met.ofW (cc := b_Text_number) (maxL := 6) (ret := (some .long)) (by decide) rfl ?_
  intro p e s m args below meth c s₁ B hml hv
  obtain ⟨rfl, hsz, hP, hK, hD0⟩ := hv
  have hx := B.exec
  have hb := B.bytes
  have hr := B.returns
  have hts := atoms_spec (ws := w_Text_number) B.pre
  have hz : ∀ w ∈ wz, w.before _ s = true := fun w h => hts w (List.mem_cons_of_mem _ h)
  have hown : s.vm.findClass R_Text = some m.cls := findClass_of_methodNamed B.named
  have hlocks := B.notSynchronized
  subst hsz
  have hD := hD0.self (sz := s.heap.size)
  generalize hAe : va_A [(a_t, .inr (10, [.ref a_characters, .int (nI n_length)])), (a_characters, .inl (ka_characters, 240, .inl f_characters))] s.heap.size = A at hD ⊢
  have hA : ∀ q : Nat, s.heap.size ≤ q → A q := fun q h => by rw [← hAe]; exact Or.inr h
  have hS : va_S A s.heap s.heap [] := va_S.rf
  have hP : va_P (dC, dI) vcl [(a_t, .inr (10, [.ref a_characters, .int (nI n_length)])), (a_characters, .inl (ka_characters, 240, .inl f_characters))] s.heap := hP
  have hl := lv_entry ([.ref a_t, .int (nI y0), .int (nI y1)]) (n := 6) (Nat.le_of_ble_eq_true rfl)
  rw [lg_entry_eq]
  generalize (lg_sl ([.ref a_t, .int (nI y0), .int (nI y1)]) ++ List.replicate (6 - (lg_sl ([.ref a_t, .int (nI y0), .int (nI y1)])).length) Slot.unset).toArray = ls at hl ⊢
  have hl : lv_has ls 6 [(0, .ref a_t), (1, .int (nI y0)), (2, .int (nI y1))] := hl
  refine lv_lconst (v := 0) hx hb d_Text_number_0 (by decide) ?_
  refine lv_lstore_n hx hb d_Text_number_1 rfl hl (by decide) rfl (fun ls hl => ?_)
  have hl : lv_has ls 6 [(3, .long 0), (0, .ref a_t), (1, .int (nI y0)), (2, .int (nI y1))] := hl
  refine lv_iload_n hx hb d_Text_number_2 rfl (lv_at hl 2 rfl) ?_
  refine lv_istore hx hb d_Text_number_3 hl (by decide) rfl (fun ls hl => ?_)
  have hl : lv_has ls 6 [(5, .int (nI y0)), (3, .long 0), (0, .ref a_t), (1, .int (nI y0)), (2, .int (nI y1))] := hl
  refine xr_loop (α := (Nat) × (Int64)) (fun a => (fun (k5 : Nat) (k3 : Int64) => 241 - k5) a.1 a.2) (fun a H locs ls => (fun (k5 : Nat) (k3 : Int64) => (k5 ≤ 241) ∧ lv_has ls 6 [(5, .int (nI k5)), (3, .long k3), (0, .ref a_t), (1, .int (nI y0)), (2, .int (nI y1))] ∧ va_P (dC, dI) vcl [(a_t, .inr (10, [.ref a_characters, .int (nI n_length)])), (a_characters, .inl (ka_characters, 240, .inl f_characters))] H ∧ va_D A [(a_t, .inr (10, [.ref a_characters, .int (nI n_length)])), (a_characters, .inl (ka_characters, 240, .inl f_characters))] ∧ va_S A s.heap H locs) a.1 a.2) (fun a ih5 H locs ls hI => ?_) (y0, 0) _ _ _ ⟨by show y0 ≤ 241; first | omega | assumption | exact Or.inl rfl | exact Or.inr rfl, hl, hP, hD, hS⟩
  obtain ⟨k5, k3⟩ := a
  obtain ⟨bl0, hl, hP, hD, hS⟩ := hI
  have bl0 : k5 ≤ 241 := bl0
  have hl : lv_has ls 6 [(5, .int (nI k5)), (3, .long k3), (0, .ref a_t), (1, .int (nI y0)), (2, .int (nI y1))] := hl
  have hP : va_P (dC, dI) vcl [(a_t, .inr (10, [.ref a_characters, .int (nI n_length)])), (a_characters, .inl (ka_characters, 240, .inl f_characters))] H := hP
  have hD : va_D A [(a_t, .inr (10, [.ref a_characters, .int (nI n_length)])), (a_characters, .inl (ka_characters, 240, .inl f_characters))] := hD
  refine lv_iload hx hb d_Text_number_5 (lv_at hl 0 rfl) ?_
  refine lv_iload_n hx hb d_Text_number_7 rfl (lv_at hl 4 rfl) ?_
  refine lv_icmp_ge (tgt := 34) hx hb d_Text_number_8 (by decide) (fun h5 => ?_) (fun h5 => ?_)
  · have h5 : y1 ≤ k5 := (nI_leI (a := y1) (b := k5) (by omega) (by omega)).mp h5
    refine lv_lload_n hx hb d_Text_number_34 rfl (lv_at hl 1 rfl) ?_
    have hP9 := hP.sub (ws' := [(a_t, .inr (10, [.ref a_characters, .int (nI n_length)])), (a_characters, .inl (ka_characters, 240, .inl f_characters))]) [0, 1] rfl
    have hD9 := hD.sub (ws' := [(a_t, .inr (10, [.ref a_characters, .int (nI n_length)])), (a_characters, .inl (ka_characters, 240, .inl f_characters))]) [0, 1] (by decide) rfl
    exact W.lret (v := k3) hx hb hr (fun t ht hW => ⟨⟨k3, (), rfl, trivial, by rw [ht]; exact hP9, va_K.moved hW.alike hK, hD9⟩, hS.F ht⟩) hS.2.2 d_Text_number_35
  · have h5 : ¬ y1 ≤ k5 := fun q => h5 ((nI_leI (a := y1) (b := k5) (by omega) (by omega)).mpr q)
    refine lv_lload_n hx hb d_Text_number_11 rfl (lv_at hl 1 rfl) ?_
    refine lv_ldc2 (v := 10) hx hb hown (hz (.constantLong R_Text 27 10) zm_14) d_Text_number_12 ?_
    refine lv_lmul hx hb d_Text_number_15 ?_
    refine lv_topl (fun x6 _ => ?_)
    refine lv_aload_n hx hb d_Text_number_16 rfl (lv_at hl 2 rfl) ?_
    refine lv_iload hx hb d_Text_number_17 (lv_at hl 0 rfl) ?_
    have hPc := hP.sub (ws' := [(a_t, .inr (10, [.ref a_characters, .int (nI n_length)])), (a_characters, .inl (ka_characters, 240, .inl f_characters))]) [0, 1] rfl
    have hDc := hD.sub (ws' := [(a_t, .inr (10, [.ref a_characters, .int (nI n_length)])), (a_characters, .inl (ka_characters, 240, .inl f_characters))]) [0, 1] (by decide) rfl
    have hKc := hK.sub (tys' := [(ka_characters, .char)]) [0] rfl
    have hFc := va_free (wc := [(a_t, .inr (10, [.ref a_characters, .int (nI n_length)])), (a_characters, .inl (ka_characters, 240, .inl f_characters))]) hD hS hA [0, 1] rfl
    refine va_calli (va_runV (As := [.int (nI k5)]) (rest := [.long x6]) ⟨hx, hb, hml, hown, hz⟩ (s_Text_at l dC dI H.size a_t a_characters f_characters n_length ((nI k5)) ka_characters (by first | omega | assumption | exact Or.inl rfl | exact Or.inr rfl) (by first | omega | assumption | exact Or.inl rfl | exact Or.inr rfl)) (cwV 1 hz (zV zm_10 zm_11 zm_12 zm_7 zm_13) rfl rfl rfl (by decide +kernel) ⟨Nat.le_of_ble_eq_true rfl, Nat.le_of_ble_eq_true rfl⟩) ⟨fun a U g mk q => by obtain ⟨q0, q1, qP, qK, qD⟩ := q; exact ⟨q0, q1, qP, va_K.moved (u := U) (U := U.calling g mk a) (Vm.Alike.refl U.vm) qK, qD⟩, va_recv (q := (R_Text, F_Text, 2)) (q0 := 0) (ci := 10) hK hP rfl rfl, fun U hU hW => ⟨rfl, by rw [hU], by rw [hU]; exact hPc, va_K.moved hW.alike hKc, hDc.weaken (fun _ _ _ _ => trivial)⟩⟩ rfl rfl hl.1 rfl (lv_room (Nat.le_of_ble_eq_true rfl)) d_Text_number_19 ⟨Nat.zero_le _, Nat.zero_le _⟩) hS (fun q _ h => hFc q h) hFc (fun x7 u t H1 locs ht hvm hw hB hz1 hk1 hS => ?_)
    obtain ⟨hP1, hK1, hD1⟩ := hB
    rw [ht] at hP1
    obtain ⟨hP, hD⟩ := va_join (wr := []) (w1 := [(a_t, .inr (10, [.ref a_characters, .int (nI n_length)])), (a_characters, .inl (ka_characters, 240, .inl f_characters))]) hP hD [0, 1] [] rfl rfl (by decide) (by decide) hk1 hFc hP1 hD1
    generalize H1 = H at hP hS ⊢
    have hP : va_P (dC, dI) vcl [(a_t, .inr (10, [.ref a_characters, .int (nI n_length)])), (a_characters, .inl (ka_characters, 240, .inl f_characters))] H := hP
    have hD : va_D A [(a_t, .inr (10, [.ref a_characters, .int (nI n_length)])), (a_characters, .inl (ka_characters, 240, .inl f_characters))] := hD
    refine lv_bipush (v := 48) hx hb d_Text_number_22 (by decide) ?_
    refine xr_isub (v := (x7 - 48)) hx hb d_Text_number_24 rfl ?_
    refine lv_i2l (v := (x7 - 48).toInt64) hx hb d_Text_number_25 rfl ?_
    refine lv_ladd hx hb d_Text_number_26 ?_
    refine lv_topl (fun x8 _ => ?_)
    refine lv_lstore_n hx hb d_Text_number_27 rfl hl (by decide) rfl (fun ls hl => ?_)
    have hl : lv_has ls 6 [(3, .long x8), (5, .int (nI k5)), (0, .ref a_t), (1, .int (nI y0)), (2, .int (nI y1))] := hl
    refine lv_iinc (k := 1) (v := (nI (k5 + 1))) hx hb d_Text_number_28 hl rfl (nI_1 k5) (by decide) rfl (fun ls hl => ?_)
    have hl : lv_has ls 6 [(5, .int (nI (k5 + 1))), (3, .long x8), (0, .ref a_t), (1, .int (nI y0)), (2, .int (nI y1))] := hl
    refine lv_goto (tgt := 5) hx hb d_Text_number_31 (by decide) ?_
    have hP9 := hP.sub (ws' := [(a_t, .inr (10, [.ref a_characters, .int (nI n_length)])), (a_characters, .inl (ka_characters, 240, .inl f_characters))]) [0, 1] rfl
    have hD9 := hD.sub (ws' := [(a_t, .inr (10, [.ref a_characters, .int (nI n_length)])), (a_characters, .inl (ka_characters, 240, .inl f_characters))]) [0, 1] (by decide) rfl
    exact ih5 ((k5 + 1), x8) (by show 241 - ((k5 + 1)) < 241 - k5; omega) _ _ _ ⟨by show ((k5 + 1)) ≤ 241; first | omega | assumption | exact Or.inl rfl | exact Or.inr rfl, hl, hP9, hD9, hS⟩
