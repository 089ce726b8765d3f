theorem xr_pred_ltn {k y : Nat} (hk : k ≤ 2147483647) (hy : y ≤ 2147483647) : nI k - 1 < nI y ↔ k ≤ y := by
  by_cases h0 : k = 0
  · subst h0
    refine ⟨fun _ => Nat.zero_le _, fun _ => ?_⟩
    apply Int32.lt_iff_toInt_lt.mpr
    rw [nI_toInt (by omega)]
    have a3 : (nI 0 - 1).toInt = -1 := by decide
    omega
  · have e : nI k - 1 = nI (k - 1) := pk_sub (a := k) (b := 1) (by omega)
    rw [e]
    exact (nI_ltI (a := k - 1) (b := y) (by omega) (by omega)).trans ⟨fun _ => by omega, fun _ => by omega⟩
set_option maxHeartbeats 4000000 in
set_option maxRecDepth 100000 in
theorem s_Text_packed (l : Launch) (dC : Nat → ClassId) (dI : Nat → Nat → Nat) (sz : Nat) (a_t : Nat) (a_characters : Nat) (f_characters : Nat → Int32) (n_length : Nat) (y0 : Nat) (y1 : Nat) (ka_characters : ClassId) (c_characters : ∀ j, narrow .char (.int (f_characters j)) = .int (f_characters j)) (b_length : n_length ≤ 240) (by0 : y0 ≤ 241) (by1 : y1 ≤ 240) : Met l y_Text_packed w_Text_packed ({ frames := 1, cells := 0, slots := 0, locals := 21 }) (va_Pc [.ref a_t, .int (nI y0), .int (nI y1)] (fun U => U.heap.size = sz ∧ va_P (dC, dI) vcl [(a_t, .inr (10, [.ref a_characters, .int (nI n_length)])), (a_characters, .inl (ka_characters, 240, .inl f_characters))] U.heap ∧ va_K (dC, dI) vcl [(ka_characters, .char)] U ∧ va_D (fun _ => True) [(a_t, .inr (10, [.ref a_characters, .int (nI n_length)])), (a_characters, .inl (ka_characters, 240, .inl f_characters))])) (va_Ql (fun (r : Int64) (_ : Unit) => True) (fun _ t => va_P (dC, dI) vcl [(a_t, .inr (10, [.ref a_characters, .int (nI n_length)])), (a_characters, .inl (ka_characters, 240, .inl f_characters))] t.heap ∧ va_K (dC, dI) vcl [(ka_characters, .char)] t ∧ va_D (va_A [(a_t, .inr (10, [.ref a_characters, .int (nI n_length)])), (a_characters, .inl (ka_characters, 240, .inl f_characters))] sz) [(a_t, .inr (10, [.ref a_characters, .int (nI n_length)])), (a_characters, .inl (ka_characters, 240, .inl f_characters))]) (va_A [(a_t, .inr (10, [.ref a_characters, .int (nI n_length)])), (a_characters, .inl (ka_characters, 240, .inl f_characters))] sz)) 0 0 (va_A [(a_t, .inr (10, [.ref a_characters, .int (nI n_length)])), (a_characters, .inl (ka_characters, 240, .inl f_characters))] sz) := by
  refine Met.ofW (cc := b_Text_packed) (maxL := 6) (ret := (some .long)) (by decide) rfl ?_
  intro p e s m args below meth c s₁ B hml hv
  obtain ⟨rfl, hsz, hP, hK, hD0⟩ := hv
  have hx := B.exec
  have hb := B.bytes
  have hr := B.returns
  have hts := atoms_spec (ws := w_Text_packed) B.pre
  have hz : ∀ w ∈ wz, w.before _ s = true := fun w h => hts w (List.mem_cons_of_mem _ h)
  have hown : s.vm.findClass R_Text = some m.cls := findClass_of_methodNamed B.named
  have hlocks := B.notSynchronized
  subst hsz
  have hD := hD0.self (sz := s.heap.size)
  generalize hAe : va_A [(a_t, .inr (10, [.ref a_characters, .int (nI n_length)])), (a_characters, .inl (ka_characters, 240, .inl f_characters))] s.heap.size = A at hD ⊢
  have hA : ∀ q : Nat, s.heap.size ≤ q → A q := fun q h => by rw [← hAe]; exact Or.inr h
  have hS : va_S A s.heap s.heap [] := va_S.rf
  have hP : va_P (dC, dI) vcl [(a_t, .inr (10, [.ref a_characters, .int (nI n_length)])), (a_characters, .inl (ka_characters, 240, .inl f_characters))] s.heap := hP
  have hl := lv_entry ([.ref a_t, .int (nI y0), .int (nI y1)]) (n := 6) (Nat.le_of_ble_eq_true rfl)
  rw [lg_entry_eq]
  generalize (lg_sl ([.ref a_t, .int (nI y0), .int (nI y1)]) ++ List.replicate (6 - (lg_sl ([.ref a_t, .int (nI y0), .int (nI y1)])).length) Slot.unset).toArray = ls at hl ⊢
  have hl : lv_has ls 6 [(0, .ref a_t), (1, .int (nI y0)), (2, .int (nI y1))] := hl
  refine lv_lconst (v := 0) hx hb d_Text_packed_0 (by decide) ?_
  refine lv_lstore_n hx hb d_Text_packed_1 rfl hl (by decide) rfl (fun ls hl => ?_)
  have hl : lv_has ls 6 [(3, .long 0), (0, .ref a_t), (1, .int (nI y0)), (2, .int (nI y1))] := hl
  refine lv_iload_n hx hb d_Text_packed_2 rfl (lv_at hl 3 rfl) ?_
  refine lv_iconst (v := 1) hx hb d_Text_packed_3 (by decide) ?_
  refine xr_isub (v := (nI y1 - 1)) hx hb d_Text_packed_4 rfl ?_
  refine lv_istore hx hb d_Text_packed_5 hl (by decide) rfl (fun ls hl => ?_)
  have hl : lv_has ls 6 [(5, .int (nI y1 - 1)), (3, .long 0), (0, .ref a_t), (1, .int (nI y0)), (2, .int (nI y1))] := hl
  refine xr_loop (α := (Nat) × (Int64)) (fun a => (fun (k5 : Nat) (k3 : Int64) => k5) a.1 a.2) (fun a H locs ls => (fun (k5 : Nat) (k3 : Int64) => (k5 ≤ 240) ∧ lv_has ls 6 [(5, .int (nI k5 - 1)), (3, .long k3), (0, .ref a_t), (1, .int (nI y0)), (2, .int (nI y1))] ∧ va_P (dC, dI) vcl [(a_t, .inr (10, [.ref a_characters, .int (nI n_length)])), (a_characters, .inl (ka_characters, 240, .inl f_characters))] H ∧ va_D A [(a_t, .inr (10, [.ref a_characters, .int (nI n_length)])), (a_characters, .inl (ka_characters, 240, .inl f_characters))] ∧ va_S A s.heap H locs) a.1 a.2) (fun a ih7 H locs ls hI => ?_) (y1, 0) _ _ _ ⟨by show y1 ≤ 240; first | omega | assumption | exact Or.inl rfl | exact Or.inr rfl, hl, hP, hD, hS⟩
  obtain ⟨k5, k3⟩ := a
  obtain ⟨bl0, hl, hP, hD, hS⟩ := hI
  have bl0 : k5 ≤ 240 := bl0
  have hl : lv_has ls 6 [(5, .int (nI k5 - 1)), (3, .long k3), (0, .ref a_t), (1, .int (nI y0)), (2, .int (nI y1))] := hl
  have hP : va_P (dC, dI) vcl [(a_t, .inr (10, [.ref a_characters, .int (nI n_length)])), (a_characters, .inl (ka_characters, 240, .inl f_characters))] H := hP
  have hD : va_D A [(a_t, .inr (10, [.ref a_characters, .int (nI n_length)])), (a_characters, .inl (ka_characters, 240, .inl f_characters))] := hD
  refine lv_iload hx hb d_Text_packed_7 (lv_at hl 0 rfl) ?_
  refine lv_iload_n hx hb d_Text_packed_9 rfl (lv_at hl 3 rfl) ?_
  refine lv_icmp_lt (tgt := 32) hx hb d_Text_packed_10 (by decide) (fun h5 => ?_) (fun h5 => ?_)
  · have h5 : k5 ≤ y0 := (xr_pred_ltn (by omega) (by omega)).mp h5
    refine lv_lload_n hx hb d_Text_packed_32 rfl (lv_at hl 1 rfl) ?_
    have hP9 := hP.sub (ws' := [(a_t, .inr (10, [.ref a_characters, .int (nI n_length)])), (a_characters, .inl (ka_characters, 240, .inl f_characters))]) [0, 1] rfl
    have hD9 := hD.sub (ws' := [(a_t, .inr (10, [.ref a_characters, .int (nI n_length)])), (a_characters, .inl (ka_characters, 240, .inl f_characters))]) [0, 1] (by decide) rfl
    exact W.lret (v := k3) hx hb hr (fun t ht hW => ⟨⟨k3, (), rfl, trivial, by rw [ht]; exact hP9, va_K.moved hW.alike hK, hD9⟩, hS.F ht⟩) hS.2.2 d_Text_packed_33
  · have h5 : ¬ k5 ≤ y0 := fun q => h5 ((xr_pred_ltn (by omega) (by omega)).mpr q)
    have e_h5 : nI k5 - 1 = nI (k5 - 1) := pk_sub (a := k5) (b := 1) (by omega)
    rw [e_h5] at hl
    have hl : lv_has ls 6 [(5, .int (nI (k5 - 1))), (3, .long k3), (0, .ref a_t), (1, .int (nI y0)), (2, .int (nI y1))] := hl
    refine lv_lload_n hx hb d_Text_packed_13 rfl (lv_at hl 1 rfl) ?_
    refine lv_bipush (v := 8) hx hb d_Text_packed_14 (by decide) ?_
    refine lv_lshl (v := _) hx hb d_Text_packed_16 rfl ?_
    refine lv_topl (fun x6 _ => ?_)
    refine lv_aload_n hx hb d_Text_packed_17 rfl (lv_at hl 2 rfl) ?_
    refine lv_iload hx hb d_Text_packed_18 (lv_at hl 0 rfl) ?_
    have hPc := hP.sub (ws' := [(a_t, .inr (10, [.ref a_characters, .int (nI n_length)])), (a_characters, .inl (ka_characters, 240, .inl f_characters))]) [0, 1] rfl
    have hDc := hD.sub (ws' := [(a_t, .inr (10, [.ref a_characters, .int (nI n_length)])), (a_characters, .inl (ka_characters, 240, .inl f_characters))]) [0, 1] (by decide) rfl
    have hKc := hK.sub (tys' := [(ka_characters, .char)]) [0] rfl
    have hFc := va_free (wc := [(a_t, .inr (10, [.ref a_characters, .int (nI n_length)])), (a_characters, .inl (ka_characters, 240, .inl f_characters))]) hD hS hA [0, 1] rfl
    refine va_calli (va_runV (As := [.int (nI (k5 - 1))]) (rest := [.long x6]) ⟨hx, hb, hml, hown, hz⟩ (s_Text_at l dC dI H.size a_t a_characters f_characters n_length ((nI (k5 - 1))) ka_characters (by first | omega | assumption | exact Or.inl rfl | exact Or.inr rfl) (by first | omega | assumption | exact Or.inl rfl | exact Or.inr rfl)) (cwV 1 hz (zV zm_10 zm_11 zm_12 zm_7 zm_13) rfl rfl rfl (by decide +kernel) ⟨Nat.le_of_ble_eq_true rfl, Nat.le_of_ble_eq_true rfl⟩) ⟨fun a U g mk q => by obtain ⟨q0, q1, qP, qK, qD⟩ := q; exact ⟨q0, q1, qP, va_K.moved (u := U) (U := U.calling g mk a) (Vm.Alike.refl U.vm) qK, qD⟩, va_recv (q := (R_Text, F_Text, 2)) (q0 := 0) (ci := 10) hK hP rfl rfl, fun U hU hW => ⟨rfl, by rw [hU], by rw [hU]; exact hPc, va_K.moved hW.alike hKc, hDc.weaken (fun _ _ _ _ => trivial)⟩⟩ rfl rfl hl.1 rfl (lv_room (Nat.le_of_ble_eq_true rfl)) d_Text_packed_20 ⟨Nat.zero_le _, Nat.zero_le _⟩) hS (fun q _ h => hFc q h) hFc (fun x7 u t H1 locs ht hvm hw hB hz1 hk1 hS => ?_)
    obtain ⟨hP1, hK1, hD1⟩ := hB
    rw [ht] at hP1
    obtain ⟨hP, hD⟩ := va_join (wr := []) (w1 := [(a_t, .inr (10, [.ref a_characters, .int (nI n_length)])), (a_characters, .inl (ka_characters, 240, .inl f_characters))]) hP hD [0, 1] [] rfl rfl (by decide) (by decide) hk1 hFc hP1 hD1
    generalize H1 = H at hP hS ⊢
    have hP : va_P (dC, dI) vcl [(a_t, .inr (10, [.ref a_characters, .int (nI n_length)])), (a_characters, .inl (ka_characters, 240, .inl f_characters))] H := hP
    have hD : va_D A [(a_t, .inr (10, [.ref a_characters, .int (nI n_length)])), (a_characters, .inl (ka_characters, 240, .inl f_characters))] := hD
    refine lv_i2l (v := x7.toInt64) hx hb d_Text_packed_23 rfl ?_
    refine lv_lor hx hb d_Text_packed_24 ?_
    refine lv_topl (fun x8 _ => ?_)
    refine lv_lstore_n hx hb d_Text_packed_25 rfl hl (by decide) rfl (fun ls hl => ?_)
    have hl : lv_has ls 6 [(3, .long x8), (5, .int (nI (k5 - 1))), (0, .ref a_t), (1, .int (nI y0)), (2, .int (nI y1))] := hl
    refine lv_iinc (k := 1) (v := (nI (k5 - 1) - 1)) hx hb d_Text_packed_26 hl rfl (xr_dec2 _) (by decide) rfl (fun ls hl => ?_)
    have hl : lv_has ls 6 [(5, .int (nI (k5 - 1) - 1)), (3, .long x8), (0, .ref a_t), (1, .int (nI y0)), (2, .int (nI y1))] := hl
    refine lv_goto (tgt := 7) hx hb d_Text_packed_29 (by decide) ?_
    have hP9 := hP.sub (ws' := [(a_t, .inr (10, [.ref a_characters, .int (nI n_length)])), (a_characters, .inl (ka_characters, 240, .inl f_characters))]) [0, 1] rfl
    have hD9 := hD.sub (ws' := [(a_t, .inr (10, [.ref a_characters, .int (nI n_length)])), (a_characters, .inl (ka_characters, 240, .inl f_characters))]) [0, 1] (by decide) rfl
    exact ih7 ((k5 - 1), x8) (by show ((k5 - 1)) < k5; omega) _ _ _ ⟨by show ((k5 - 1)) ≤ 240; first | omega | assumption | exact Or.inl rfl | exact Or.inr rfl, hl, hP9, hD9, hS⟩
