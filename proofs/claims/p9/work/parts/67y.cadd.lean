set_option maxHeartbeats 4000000 in
set_option maxRecDepth 100000 in
theorem s_Tokens_addTimes7 (l : Launch) (dC : Nat → ClassId) (dI : Nat → Nat → Nat) (sz : Nat) (cap : Nat) (a_t : Nat) (a_kinds : Nat) (f_kinds : Nat → Int32) (a_values : Nat) (f_values : Nat → Int64) (n_size : Nat) (y0 : Nat) (y1 : Int32) (y2 : Int64) (ka_kinds : ClassId) (ka_values : ClassId) (bcap : cap ≤ 600) (b_size : n_size ≤ cap) (by0 : y0 ≤ 362) (hp0 : n_size + y0 ≤ cap) : Met l y_Tokens_addTimes w_Tokens_addTimes ({ frames := 1, cells := 0, slots := 0, locals := 23 }) (va_Pc [.ref a_t, .int (nI y0), .int y1, .long y2] (fun U => U.heap.size = sz ∧ va_P (dC, dI) vcl [(a_t, .inr (11, [.ref a_kinds, .ref a_values, .int (nI n_size)])), (a_kinds, .inl (ka_kinds, cap, .inl f_kinds)), (a_values, .inl (ka_values, cap, .inr (.inl f_values)))] U.heap ∧ va_K (dC, dI) vcl [(ka_kinds, .int), (ka_values, .long)] U ∧ va_D (fun _ => True) [(a_t, .inr (11, [.ref a_kinds, .ref a_values, .int (nI n_size)])), (a_kinds, .inl (ka_kinds, cap, .inl f_kinds)), (a_values, .inl (ka_values, cap, .inr (.inl f_values)))])) (va_Qv (fun (_ : Unit) => True) (fun _ t => ∃ (w_n_size : Nat) (w_f_kinds : Nat → Int32) (w_f_values : Nat → Int64), (w_n_size ≤ cap) ∧ (w_n_size = n_size + y0) ∧ (zt w_f_kinds w_f_values w_n_size = List.replicate y0 (y1, y2) ++ zt f_kinds f_values n_size) ∧ va_P (dC, dI) vcl [(a_t, .inr (11, [.ref a_kinds, .ref a_values, .int (nI w_n_size)])), (a_kinds, .inl (ka_kinds, cap, .inl w_f_kinds)), (a_values, .inl (ka_values, cap, .inr (.inl w_f_values)))] t.heap ∧ va_K (dC, dI) vcl [(ka_kinds, .int), (ka_values, .long)] t ∧ va_D (va_A [(a_t, .inr (11, [.ref a_kinds, .ref a_values, .int (nI n_size)])), (a_kinds, .inl (ka_kinds, cap, .inl f_kinds)), (a_values, .inl (ka_values, cap, .inr (.inl f_values)))] sz) [(a_t, .inr (11, [.ref a_kinds, .ref a_values, .int (nI w_n_size)])), (a_kinds, .inl (ka_kinds, cap, .inl w_f_kinds)), (a_values, .inl (ka_values, cap, .inr (.inl w_f_values)))]) (va_A [(a_t, .inr (11, [.ref a_kinds, .ref a_values, .int (nI n_size)])), (a_kinds, .inl (ka_kinds, cap, .inl f_kinds)), (a_values, .inl (ka_values, cap, .inr (.inl f_values)))] sz)) 0 0 (va_A [(a_t, .inr (11, [.ref a_kinds, .ref a_values, .int (nI n_size)])), (a_kinds, .inl (ka_kinds, cap, .inl f_kinds)), (a_values, .inl (ka_values, cap, .inr (.inl f_values)))] sz) := by
  refine Met.ofW (cc := b_Tokens_addTimes) (maxL := 6) (ret := none) (by decide) rfl ?_
  intro p e s m args below meth c s₁ B hml hv
  obtain ⟨rfl, hsz, hP, hK, hD0⟩ := hv
  have hx := B.exec
  have hb := B.bytes
  have hr := B.returns
  have hts := atoms_spec (ws := w_Tokens_addTimes) B.pre
  have hz : ∀ w ∈ wz, w.before _ s = true := fun w h => hts w (List.mem_cons_of_mem _ h)
  have hown : s.vm.findClass R_Tokens = some m.cls := findClass_of_methodNamed B.named
  have hlocks := B.notSynchronized
  subst hsz
  have hD := hD0.self (sz := s.heap.size)
  generalize hAe : va_A [(a_t, .inr (11, [.ref a_kinds, .ref a_values, .int (nI n_size)])), (a_kinds, .inl (ka_kinds, cap, .inl f_kinds)), (a_values, .inl (ka_values, cap, .inr (.inl f_values)))] s.heap.size = A at hD ⊢
  have hA : ∀ q : Nat, s.heap.size ≤ q → A q := fun q h => by rw [← hAe]; exact Or.inr h
  have hS : va_S A s.heap s.heap [] := va_S.rf
  have hP : va_P (dC, dI) vcl [(a_t, .inr (11, [.ref a_kinds, .ref a_values, .int (nI n_size)])), (a_kinds, .inl (ka_kinds, cap, .inl f_kinds)), (a_values, .inl (ka_values, cap, .inr (.inl f_values)))] s.heap := hP
  have hl := lv_entry ([.ref a_t, .int (nI y0), .int y1, .long y2]) (n := 6) (Nat.le_of_ble_eq_true rfl)
  rw [lg_entry_eq]
  generalize (lg_sl ([.ref a_t, .int (nI y0), .int y1, .long y2]) ++ List.replicate (6 - (lg_sl ([.ref a_t, .int (nI y0), .int y1, .long y2])).length) Slot.unset).toArray = ls at hl ⊢
  have hl : lv_has ls 6 [(0, .ref a_t), (1, .int (nI y0)), (2, .int y1), (3, .long y2)] := hl
  refine lv_iconst (v := 0) hx hb d_Tokens_addTimes_0 (by decide) ?_
  refine lv_istore hx hb d_Tokens_addTimes_1 hl (by decide) rfl (fun ls hl => ?_)
  have hl : lv_has ls 6 [(5, .int 0), (0, .ref a_t), (1, .int (nI y0)), (2, .int y1), (3, .long y2)] := hl
  refine xr_loop (α := (Nat) × (Nat → Int32) × (Nat) × (Nat → Int64)) (fun a => (fun (k5 : Nat) (v_a_kinds : Nat → Int32) (v_a_t_2 : Nat) (v_a_values : Nat → Int64) => 362 - k5) a.1 a.2.1 a.2.2.1 a.2.2.2) (fun a H locs ls => (fun (k5 : Nat) (v_a_kinds : Nat → Int32) (v_a_t_2 : Nat) (v_a_values : Nat → Int64) => (k5 ≤ 362) ∧ (v_a_t_2 ≤ cap) ∧ (k5 ≤ y0) ∧ (v_a_t_2 = n_size + k5) ∧ (zt v_a_kinds v_a_values v_a_t_2 = List.replicate k5 (y1, y2) ++ zt f_kinds f_values n_size) ∧ lv_has ls 6 [(5, .int (nI k5)), (0, .ref a_t), (1, .int (nI y0)), (2, .int y1), (3, .long y2)] ∧ va_P (dC, dI) vcl [(a_t, .inr (11, [.ref a_kinds, .ref a_values, .int (nI v_a_t_2)])), (a_kinds, .inl (ka_kinds, cap, .inl v_a_kinds)), (a_values, .inl (ka_values, cap, .inr (.inl v_a_values)))] H ∧ va_D A [(a_t, .inr (11, [.ref a_kinds, .ref a_values, .int (nI v_a_t_2)])), (a_kinds, .inl (ka_kinds, cap, .inl v_a_kinds)), (a_values, .inl (ka_values, cap, .inr (.inl v_a_values)))] ∧ va_S A s.heap H locs) a.1 a.2.1 a.2.2.1 a.2.2.2) (fun a ih3 H locs ls hI => ?_) (0, f_kinds, n_size, f_values) _ _ _ ⟨by show 0 ≤ 362; first | omega | assumption | exact Or.inl rfl | exact Or.inr rfl | decide, by show n_size ≤ cap; first | omega | assumption | exact Or.inl rfl | exact Or.inr rfl | decide, by show 0 ≤ y0; first | omega | assumption | exact Or.inl rfl | exact Or.inr rfl | decide, by show n_size = n_size + 0; first | omega | assumption | exact Or.inl rfl | exact Or.inr rfl | decide, by show zt f_kinds f_values n_size = List.replicate 0 (y1, y2) ++ zt f_kinds f_values n_size; exact (List.nil_append _).symm, hl, hP, hD, hS⟩
  obtain ⟨k5, v_a_kinds, v_a_t_2, v_a_values⟩ := a
  obtain ⟨bl0, bl1, bl2, bl3, bl4, hl, hP, hD, hS⟩ := hI
  have bl0 : k5 ≤ 362 := bl0
  have bl1 : v_a_t_2 ≤ cap := bl1
  have bl2 : k5 ≤ y0 := bl2
  have iK := bl2
  have bl3 : v_a_t_2 = n_size + k5 := bl3
  have iS := bl3
  have bl4 : zt v_a_kinds v_a_values v_a_t_2 = List.replicate k5 (y1, y2) ++ zt f_kinds f_values n_size := bl4
  have iZ := bl4
  have hl : lv_has ls 6 [(5, .int (nI k5)), (0, .ref a_t), (1, .int (nI y0)), (2, .int y1), (3, .long y2)] := hl
  have hP : va_P (dC, dI) vcl [(a_t, .inr (11, [.ref a_kinds, .ref a_values, .int (nI v_a_t_2)])), (a_kinds, .inl (ka_kinds, cap, .inl v_a_kinds)), (a_values, .inl (ka_values, cap, .inr (.inl v_a_values)))] H := hP
  have hD : va_D A [(a_t, .inr (11, [.ref a_kinds, .ref a_values, .int (nI v_a_t_2)])), (a_kinds, .inl (ka_kinds, cap, .inl v_a_kinds)), (a_values, .inl (ka_values, cap, .inr (.inl v_a_values)))] := hD
  refine lv_iload hx hb d_Tokens_addTimes_3 (lv_at hl 0 rfl) ?_
  refine lv_iload_n hx hb d_Tokens_addTimes_5 rfl (lv_at hl 2 rfl) ?_
  refine lv_icmp_ge (tgt := 21) hx hb d_Tokens_addTimes_6 (by decide) (fun h5 => ?_) (fun h5 => ?_)
  · have h5 : y0 ≤ k5 := (nI_leI (a := y0) (b := k5) (by omega) (by omega)).mp h5
    have hP9 := hP.sub (ws' := [(a_t, .inr (11, [.ref a_kinds, .ref a_values, .int (nI v_a_t_2)])), (a_kinds, .inl (ka_kinds, cap, .inl v_a_kinds)), (a_values, .inl (ka_values, cap, .inr (.inl v_a_values)))]) [0, 1, 2] rfl
    have hD9 := hD.sub (ws' := [(a_t, .inr (11, [.ref a_kinds, .ref a_values, .int (nI v_a_t_2)])), (a_kinds, .inl (ka_kinds, cap, .inl v_a_kinds)), (a_values, .inl (ka_values, cap, .inr (.inl v_a_values)))]) [0, 1, 2] (by decide) rfl
    exact W.vret hx hb hr (fun t ht hW => ⟨⟨(), rfl, trivial, v_a_t_2, v_a_kinds, v_a_values, by first | omega | assumption | exact Or.inl rfl | exact Or.inr rfl | decide, by first | omega | assumption | exact Or.inl rfl | exact Or.inr rfl | decide, by (have z9 := iZ; rw [show k5 = y0 by omega] at z9; exact z9), by rw [ht]; exact hP9, va_K.moved hW.alike hK, hD9⟩, hS.F ht⟩) hS.2.2 d_Tokens_addTimes_21
  · have h5 : ¬ y0 ≤ k5 := fun q => h5 ((nI_leI (a := y0) (b := k5) (by omega) (by omega)).mpr q)
    refine lv_aload_n hx hb d_Tokens_addTimes_9 rfl (lv_at hl 1 rfl) ?_
    refine lv_iload_n hx hb d_Tokens_addTimes_10 rfl (lv_at hl 3 rfl) ?_
    refine lv_lload_n hx hb d_Tokens_addTimes_11 rfl (lv_at hl 4 rfl) ?_
    have hPc := hP.sub (ws' := [(a_t, .inr (11, [.ref a_kinds, .ref a_values, .int (nI v_a_t_2)])), (a_kinds, .inl (ka_kinds, cap, .inl v_a_kinds)), (a_values, .inl (ka_values, cap, .inr (.inl v_a_values)))]) [0, 1, 2] rfl
    have hDc := hD.sub (ws' := [(a_t, .inr (11, [.ref a_kinds, .ref a_values, .int (nI v_a_t_2)])), (a_kinds, .inl (ka_kinds, cap, .inl v_a_kinds)), (a_values, .inl (ka_values, cap, .inr (.inl v_a_values)))]) [0, 1, 2] (by decide) rfl
    have hKc := hK.sub (tys' := [(ka_kinds, .int), (ka_values, .long)]) [0, 1] rfl
    have hFc := va_free (wc := [(a_t, .inr (11, [.ref a_kinds, .ref a_values, .int (nI v_a_t_2)])), (a_kinds, .inl (ka_kinds, cap, .inl v_a_kinds)), (a_values, .inl (ka_values, cap, .inr (.inl v_a_values)))]) hD hS hA [0, 1, 2] rfl
    refine va_callv (va_runV (As := [.int y1, .long y2]) (rest := []) ⟨hx, hb, hml, hown, hz⟩ (s_Tokens_add6 l dC dI H.size cap a_t a_kinds v_a_kinds a_values v_a_values v_a_t_2 y1 y2 ka_kinds ka_values (by first | omega | assumption | exact Or.inl rfl | exact Or.inr rfl | decide) (by first | omega | assumption | exact Or.inl rfl | exact Or.inr rfl | decide) (by first | omega | assumption | exact Or.inl rfl | exact Or.inr rfl | decide)) (cwV 2 hz (zV zm_32 zm_33 zm_34 zm_35 zm_36) rfl rfl rfl (by decide +kernel) ⟨Nat.le_of_ble_eq_true rfl, Nat.le_of_ble_eq_true rfl⟩) ⟨fun a U g mk q => by obtain ⟨q0, q1, qP, qK, qD⟩ := q; exact ⟨q0, q1, qP, va_K.moved (u := U) (U := U.calling g mk a) (Vm.Alike.refl U.vm) qK, qD⟩, va_recv (q := (R_Tokens, F_Tokens, 3)) (q0 := 0) (ci := 11) hK hP rfl rfl, fun U hU hW => ⟨rfl, by rw [hU], by rw [hU]; exact hPc, va_K.moved hW.alike hKc, hDc.weaken (fun _ _ _ _ => trivial)⟩⟩ rfl rfl hl.1 rfl (lv_room (Nat.le_of_ble_eq_true rfl)) d_Tokens_addTimes_12 ⟨Nat.zero_le _, Nat.zero_le _⟩) hS (fun q _ h => hFc q h) hFc (fun u t H1 locs ht hvm hw hB hz1 hk1 hS => ?_)
    obtain ⟨g6, g7, g8, hb_g6, hq0_12, hq1_12, hq2_12, hP1, hK1, hD1⟩ := hB
    subst g6
    subst g7
    subst g8
    rw [ht] at hP1
    obtain ⟨hP, hD⟩ := va_join (wr := []) (w1 := [(a_t, .inr (11, [.ref a_kinds, .ref a_values, .int (nI (v_a_t_2 + 1))])), (a_kinds, .inl (ka_kinds, cap, .inl (upd v_a_kinds v_a_t_2 y1))), (a_values, .inl (ka_values, cap, .inr (.inl (vp_updL v_a_values v_a_t_2 y2))))]) hP hD [0, 1, 2] [] rfl rfl (by decide) (by decide) hk1 hFc hP1 hD1
    generalize H1 = H at hP hS ⊢
    have hP : va_P (dC, dI) vcl [(a_t, .inr (11, [.ref a_kinds, .ref a_values, .int (nI (v_a_t_2 + 1))])), (a_kinds, .inl (ka_kinds, cap, .inl (upd v_a_kinds v_a_t_2 y1))), (a_values, .inl (ka_values, cap, .inr (.inl (vp_updL v_a_values v_a_t_2 y2))))] H := hP
    have hD : va_D A [(a_t, .inr (11, [.ref a_kinds, .ref a_values, .int (nI (v_a_t_2 + 1))])), (a_kinds, .inl (ka_kinds, cap, .inl (upd v_a_kinds v_a_t_2 y1))), (a_values, .inl (ka_values, cap, .inr (.inl (vp_updL v_a_values v_a_t_2 y2))))] := hD
    refine lv_iinc (k := 0) (v := (nI (k5 + 1))) hx hb d_Tokens_addTimes_15 hl rfl (nI_1 k5) (by decide) rfl (fun ls hl => ?_)
    have hl : lv_has ls 6 [(5, .int (nI (k5 + 1))), (0, .ref a_t), (1, .int (nI y0)), (2, .int y1), (3, .long y2)] := hl
    refine lv_goto (tgt := 3) hx hb d_Tokens_addTimes_18 (by decide) ?_
    have hP9 := hP.sub (ws' := [(a_t, .inr (11, [.ref a_kinds, .ref a_values, .int (nI (v_a_t_2 + 1))])), (a_kinds, .inl (ka_kinds, cap, .inl (upd v_a_kinds v_a_t_2 y1))), (a_values, .inl (ka_values, cap, .inr (.inl (vp_updL v_a_values v_a_t_2 y2))))]) [0, 1, 2] rfl
    have hD9 := hD.sub (ws' := [(a_t, .inr (11, [.ref a_kinds, .ref a_values, .int (nI (v_a_t_2 + 1))])), (a_kinds, .inl (ka_kinds, cap, .inl (upd v_a_kinds v_a_t_2 y1))), (a_values, .inl (ka_values, cap, .inr (.inl (vp_updL v_a_values v_a_t_2 y2))))]) [0, 1, 2] (by decide) rfl
    exact ih3 ((k5 + 1), (upd v_a_kinds v_a_t_2 y1), (v_a_t_2 + 1), (vp_updL v_a_values v_a_t_2 y2)) (by show 362 - ((k5 + 1)) < 362 - k5; omega) _ _ _ ⟨by show ((k5 + 1)) ≤ 362; first | omega | assumption | exact Or.inl rfl | exact Or.inr rfl | decide, by show ((v_a_t_2 + 1)) ≤ cap; first | omega | assumption | exact Or.inl rfl | exact Or.inr rfl | decide, by show ((k5 + 1)) ≤ y0; first | omega | assumption | exact Or.inl rfl | exact Or.inr rfl | decide, by show ((v_a_t_2 + 1)) = n_size + ((k5 + 1)); first | omega | assumption | exact Or.inl rfl | exact Or.inr rfl | decide, by show zt ((upd v_a_kinds v_a_t_2 y1)) ((vp_updL v_a_values v_a_t_2 y2)) ((v_a_t_2 + 1)) = List.replicate ((k5 + 1)) (y1, y2) ++ zt f_kinds f_values n_size; exact zt_rep iZ, hl, hP9, hD9, hS⟩
