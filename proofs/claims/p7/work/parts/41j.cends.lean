set_option maxHeartbeats 4000000 in
set_option maxRecDepth 100000 in
theorem s_Cutter_lexemeEnd6 (l : Launch) (dC : Nat → ClassId) (dI : Nat → Nat → Nat) (sz : Nat) (a_t : Nat) (a_lexemes : Nat) (n_at : Nat) (z_lineStart : Int32) (z_lineIsFresh : Int32) (z_wrongPlace : Int32) (z_tooMany : Int32) (a_y0 : Nat) (a_y0_characters : Nat) (f_y0_characters : Nat → Int32) (n_y0_length : Nat) (y1 : Int32) (ka_y0_characters : ClassId) (b_at : n_at ≤ 241) (b_tooMany : z_tooMany = 0 ∨ z_tooMany = 1) (c_y0_characters : ∀ j, narrow .char (.int (f_y0_characters j)) = .int (f_y0_characters j)) (b_y0_length : n_y0_length ≤ 240) (hp0 : n_at < n_y0_length) : Met l y_Cutter_lexemeEnd w_Cutter_lexemeEnd ({ frames := 6, cells := 0, slots := 0, locals := 147 }) (va_Pc [.ref a_t, .ref a_y0, .int y1] (fun U => U.heap.size = sz ∧ va_P (dC, dI) vcl [(a_t, .inr (3, [.ref a_lexemes, .int (nI n_at), .int z_lineStart, .int z_lineIsFresh, .int z_wrongPlace, .int z_tooMany])), (a_y0, .inr (10, [.ref a_y0_characters, .int (nI n_y0_length)])), (a_y0_characters, .inl (ka_y0_characters, 240, .inl f_y0_characters))] U.heap ∧ va_K (dC, dI) vcl [(ka_y0_characters, .char)] U ∧ va_D (fun _ => True) [(a_t, .inr (3, [.ref a_lexemes, .int (nI n_at), .int z_lineStart, .int z_lineIsFresh, .int z_wrongPlace, .int z_tooMany])), (a_y0, .inr (10, [.ref a_y0_characters, .int (nI n_y0_length)])), (a_y0_characters, .inl (ka_y0_characters, 240, .inl f_y0_characters))] ∧ cx_E (va_A [(a_t, .inr (3, [.ref a_lexemes, .int (nI n_at), .int z_lineStart, .int z_lineIsFresh, .int z_wrongPlace, .int z_tooMany])), (a_y0, .inr (10, [.ref a_y0_characters, .int (nI n_y0_length)])), (a_y0_characters, .inl (ka_y0_characters, 240, .inl f_y0_characters))] sz) U U.heap)) (va_Qi (fun (r : Int32) (_ : Unit) => ∃ j, (j = enO (cN f_y0_characters n_y0_length) n_y0_length y1 n_at) ∧ r = nI j) (fun _ t => va_P (dC, dI) vcl [(a_t, .inr (3, [.ref a_lexemes, .int (nI n_at), .int z_lineStart, .int z_lineIsFresh, .int z_wrongPlace, .int z_tooMany])), (a_y0, .inr (10, [.ref a_y0_characters, .int (nI n_y0_length)])), (a_y0_characters, .inl (ka_y0_characters, 240, .inl f_y0_characters))] t.heap ∧ va_K (dC, dI) vcl [(ka_y0_characters, .char)] t ∧ va_D (va_A [(a_t, .inr (3, [.ref a_lexemes, .int (nI n_at), .int z_lineStart, .int z_lineIsFresh, .int z_wrongPlace, .int z_tooMany])), (a_y0, .inr (10, [.ref a_y0_characters, .int (nI n_y0_length)])), (a_y0_characters, .inl (ka_y0_characters, 240, .inl f_y0_characters))] sz) [(a_t, .inr (3, [.ref a_lexemes, .int (nI n_at), .int z_lineStart, .int z_lineIsFresh, .int z_wrongPlace, .int z_tooMany])), (a_y0, .inr (10, [.ref a_y0_characters, .int (nI n_y0_length)])), (a_y0_characters, .inl (ka_y0_characters, 240, .inl f_y0_characters))]) (va_A [(a_t, .inr (3, [.ref a_lexemes, .int (nI n_at), .int z_lineStart, .int z_lineIsFresh, .int z_wrongPlace, .int z_tooMany])), (a_y0, .inr (10, [.ref a_y0_characters, .int (nI n_y0_length)])), (a_y0_characters, .inl (ka_y0_characters, 240, .inl f_y0_characters))] sz)) 0 0 (va_A [(a_t, .inr (3, [.ref a_lexemes, .int (nI n_at), .int z_lineStart, .int z_lineIsFresh, .int z_wrongPlace, .int z_tooMany])), (a_y0, .inr (10, [.ref a_y0_characters, .int (nI n_y0_length)])), (a_y0_characters, .inl (ka_y0_characters, 240, .inl f_y0_characters))] sz) := by
  refine Met.ofW (cc := b_Cutter_lexemeEnd) (maxL := 4) (ret := (some .int)) (by decide) rfl ?_
  intro p e s m args below meth c s₁ B hml hv
  obtain ⟨rfl, hsz, hP, hK, hD0, hE⟩ := hv
  have hx := B.exec
  have hb := B.bytes
  have hr := B.returns
  have hts := atoms_spec (ws := w_Cutter_lexemeEnd) B.pre
  have hz : ∀ w ∈ wz, w.before _ s = true := fun w h => hts w (List.mem_cons_of_mem _ h)
  have hown : s.vm.findClass R_Cutter = some m.cls := findClass_of_methodNamed B.named
  have hlocks := B.notSynchronized
  subst hsz
  have hD := hD0.self (sz := s.heap.size)
  generalize hAe : va_A [(a_t, .inr (3, [.ref a_lexemes, .int (nI n_at), .int z_lineStart, .int z_lineIsFresh, .int z_wrongPlace, .int z_tooMany])), (a_y0, .inr (10, [.ref a_y0_characters, .int (nI n_y0_length)])), (a_y0_characters, .inl (ka_y0_characters, 240, .inl f_y0_characters))] s.heap.size = A at hD hE ⊢
  have hA : ∀ q : Nat, s.heap.size ≤ q → A q := fun q h => by rw [← hAe]; exact Or.inr h
  have hS : va_S A s.heap s.heap [] := va_S.rf
  have hP : va_P (dC, dI) vcl [(a_t, .inr (3, [.ref a_lexemes, .int (nI n_at), .int z_lineStart, .int z_lineIsFresh, .int z_wrongPlace, .int z_tooMany])), (a_y0, .inr (10, [.ref a_y0_characters, .int (nI n_y0_length)])), (a_y0_characters, .inl (ka_y0_characters, 240, .inl f_y0_characters))] s.heap := hP
  have hl := lv_entry ([.ref a_t, .ref a_y0, .int y1]) (n := 4) (Nat.le_of_ble_eq_true rfl)
  rw [lg_entry_eq]
  generalize (lg_sl ([.ref a_t, .ref a_y0, .int y1]) ++ List.replicate (4 - (lg_sl ([.ref a_t, .ref a_y0, .int y1])).length) Slot.unset).toArray = ls at hl ⊢
  have hl : lv_has ls 4 [(0, .ref a_t), (1, .ref a_y0), (2, .int y1)] := hl
  refine lv_aload_n hx hb d_Cutter_lexemeEnd_0 rfl (lv_at hl 0 rfl) ?_
  refine va_get (D := (dC, dI)) (ci := 3) (v := .int (nI n_at)) (C := R_Cutter) (T := F_Cutter) (N := 6) hx hb hz zu_Cutter hown hK hP 0 rfl rfl 1 (by decide) (hz (.fieldLink R_Cutter 29 "LayoutFront$Cutter" "at" "I") zm_82) (fun _ h9 => h9) rfl d_Cutter_lexemeEnd_1 ?_
  refine lv_iconst (v := 1) hx hb d_Cutter_lexemeEnd_4 (by decide) ?_
  refine xr_iadd (v := (nI (n_at + 1))) hx hb d_Cutter_lexemeEnd_5 (nI_add n_at 1) ?_
  refine lv_istore_n hx hb d_Cutter_lexemeEnd_6 rfl hl (by decide) rfl (fun ls hl => ?_)
  have hl : lv_has ls 4 [(3, .int (nI (n_at + 1))), (0, .ref a_t), (1, .ref a_y0), (2, .int y1)] := hl
  refine xr_loop (α := (Nat)) (fun a => (fun (k3 : Nat) => 242 - k3) a) (fun a H locs ls => (fun (k3 : Nat) => (k3 ≤ 241) ∧ (k3 ≤ n_y0_length) ∧ (n_at + 1 ≤ k3) ∧ (enR (cN f_y0_characters n_y0_length) n_y0_length y1 k3 = enR (cN f_y0_characters n_y0_length) n_y0_length y1 (n_at + 1)) ∧ lv_has ls 4 [(3, .int (nI k3)), (0, .ref a_t), (1, .ref a_y0), (2, .int y1)] ∧ va_P (dC, dI) vcl [(a_t, .inr (3, [.ref a_lexemes, .int (nI n_at), .int z_lineStart, .int z_lineIsFresh, .int z_wrongPlace, .int z_tooMany])), (a_y0, .inr (10, [.ref a_y0_characters, .int (nI n_y0_length)])), (a_y0_characters, .inl (ka_y0_characters, 240, .inl f_y0_characters))] H ∧ va_D A [(a_t, .inr (3, [.ref a_lexemes, .int (nI n_at), .int z_lineStart, .int z_lineIsFresh, .int z_wrongPlace, .int z_tooMany])), (a_y0, .inr (10, [.ref a_y0_characters, .int (nI n_y0_length)])), (a_y0_characters, .inl (ka_y0_characters, 240, .inl f_y0_characters))] ∧ va_S A s.heap H locs) a) (fun a ih7 H locs ls hI => ?_) ((n_at + 1)) _ _ _ ⟨by show ((n_at + 1)) ≤ 241; first | omega | assumption | exact Or.inl rfl | exact Or.inr rfl | decide, by show ((n_at + 1)) ≤ n_y0_length; first | omega | assumption | exact Or.inl rfl | exact Or.inr rfl | decide, by show n_at + 1 ≤ ((n_at + 1)); first | omega | assumption | exact Or.inl rfl | exact Or.inr rfl | decide, by show enR (cN f_y0_characters n_y0_length) n_y0_length y1 ((n_at + 1)) = enR (cN f_y0_characters n_y0_length) n_y0_length y1 (n_at + 1); first | rfl | (rw [Nat.sub_self]; rfl), hl, hP, hD, hS⟩
  generalize a = k3 at ih7 hI
  obtain ⟨bl0, bl1, bl2, bl3, hl, hP, hD, hS⟩ := hI
  have bl0 : k3 ≤ 241 := bl0
  have bl1 : k3 ≤ n_y0_length := bl1
  have bl2 : n_at + 1 ≤ k3 := bl2
  have bl3 : enR (cN f_y0_characters n_y0_length) n_y0_length y1 k3 = enR (cN f_y0_characters n_y0_length) n_y0_length y1 (n_at + 1) := bl3
  have iE := bl3
  have hl : lv_has ls 4 [(3, .int (nI k3)), (0, .ref a_t), (1, .ref a_y0), (2, .int y1)] := hl
  have hP : va_P (dC, dI) vcl [(a_t, .inr (3, [.ref a_lexemes, .int (nI n_at), .int z_lineStart, .int z_lineIsFresh, .int z_wrongPlace, .int z_tooMany])), (a_y0, .inr (10, [.ref a_y0_characters, .int (nI n_y0_length)])), (a_y0_characters, .inl (ka_y0_characters, 240, .inl f_y0_characters))] H := hP
  have hD : va_D A [(a_t, .inr (3, [.ref a_lexemes, .int (nI n_at), .int z_lineStart, .int z_lineIsFresh, .int z_wrongPlace, .int z_tooMany])), (a_y0, .inr (10, [.ref a_y0_characters, .int (nI n_y0_length)])), (a_y0_characters, .inl (ka_y0_characters, 240, .inl f_y0_characters))] := hD
  refine lv_iload_n hx hb d_Cutter_lexemeEnd_7 rfl (lv_at hl 0 rfl) ?_
  refine lv_aload_n hx hb d_Cutter_lexemeEnd_8 rfl (lv_at hl 2 rfl) ?_
  have hPc := hP.sub (ws' := [(a_y0, .inr (10, [.ref a_y0_characters, .int (nI n_y0_length)]))]) [1] rfl
  have hDc := hD.sub (ws' := [(a_y0, .inr (10, [.ref a_y0_characters, .int (nI n_y0_length)]))]) [1] (by decide) rfl
  have hKc := hK.sub (tys' := []) [] rfl
  have hFc := va_free (wc := [(a_y0, .inr (10, [.ref a_y0_characters, .int (nI n_y0_length)]))]) hD hS hA [1] rfl
  refine va_calli (va_runV (As := []) (rest := [.int (nI k3)]) ⟨hx, hb, hml, hown, hz⟩ (s_Text_length l dC dI H.size a_y0 a_y0_characters n_y0_length (by first | omega | assumption | exact Or.inl rfl | exact Or.inr rfl)) (cwV 0 hz (zV zm_85 zm_86 zm_87 zm_7 zm_88) rfl rfl rfl (by decide +kernel) ⟨Nat.le_of_ble_eq_true rfl, Nat.le_of_ble_eq_true rfl⟩) ⟨fun a U g mk q => by obtain ⟨q0, q1, qP, qK, qD⟩ := q; exact ⟨q0, q1, qP, va_K.moved (u := U) (U := U.calling g mk a) (Vm.Alike.refl U.vm) qK, qD⟩, va_recv (q := (R_Text, F_Text, 2)) (q0 := 1) (ci := 10) hK hP rfl rfl, fun U hU hW => ⟨rfl, by rw [hU], by rw [hU]; exact hPc, va_K.moved hW.alike hKc, hDc.weaken (fun _ _ _ _ => trivial)⟩⟩ rfl rfl hl.1 rfl (lv_room (Nat.le_of_ble_eq_true rfl)) d_Cutter_lexemeEnd_9 ⟨Nat.zero_le _, Nat.zero_le _⟩) hS (fun q _ h => hFc q h) hFc (fun r u t H1 locs ht hvm hw hB hz1 hk1 hS => ?_)
  obtain ⟨hP1, hK1, hD1⟩ := hB
  subst r
  rw [ht] at hP1
  obtain ⟨hP, hD⟩ := va_join (wr := [(a_t, .inr (3, [.ref a_lexemes, .int (nI n_at), .int z_lineStart, .int z_lineIsFresh, .int z_wrongPlace, .int z_tooMany])), (a_y0_characters, .inl (ka_y0_characters, 240, .inl f_y0_characters))]) (w1 := [(a_y0, .inr (10, [.ref a_y0_characters, .int (nI n_y0_length)]))]) hP hD [1] [0, 2] rfl rfl (by decide) (by decide) hk1 hFc hP1 hD1
  generalize H1 = H at hP hS ⊢
  have hP : va_P (dC, dI) vcl [(a_t, .inr (3, [.ref a_lexemes, .int (nI n_at), .int z_lineStart, .int z_lineIsFresh, .int z_wrongPlace, .int z_tooMany])), (a_y0_characters, .inl (ka_y0_characters, 240, .inl f_y0_characters)), (a_y0, .inr (10, [.ref a_y0_characters, .int (nI n_y0_length)]))] H := hP
  have hD : va_D A [(a_t, .inr (3, [.ref a_lexemes, .int (nI n_at), .int z_lineStart, .int z_lineIsFresh, .int z_wrongPlace, .int z_tooMany])), (a_y0_characters, .inl (ka_y0_characters, 240, .inl f_y0_characters)), (a_y0, .inr (10, [.ref a_y0_characters, .int (nI n_y0_length)]))] := hD
  refine lv_icmp_ge (tgt := 35) hx hb d_Cutter_lexemeEnd_12 (by decide) (fun h1 => ?_) (fun h1 => ?_)
  · have h1 : n_y0_length ≤ k3 := (nI_leI (a := n_y0_length) (b := k3) (by omega) (by omega)).mp h1
    refine lv_aload_n hx hb d_Cutter_lexemeEnd_35 rfl (lv_at hl 2 rfl) ?_
    have hPc := hP.sub (ws' := [(a_y0, .inr (10, [.ref a_y0_characters, .int (nI n_y0_length)]))]) [2] rfl
    have hDc := hD.sub (ws' := [(a_y0, .inr (10, [.ref a_y0_characters, .int (nI n_y0_length)]))]) [2] (by decide) rfl
    have hKc := hK.sub (tys' := []) [] rfl
    have hFc := va_free (wc := [(a_y0, .inr (10, [.ref a_y0_characters, .int (nI n_y0_length)]))]) hD hS hA [2] rfl
    refine va_calli (va_runV (As := []) (rest := []) ⟨hx, hb, hml, hown, hz⟩ (s_Text_length l dC dI H.size a_y0 a_y0_characters n_y0_length (by first | omega | assumption | exact Or.inl rfl | exact Or.inr rfl)) (cwV 0 hz (zV zm_85 zm_86 zm_87 zm_7 zm_88) rfl rfl rfl (by decide +kernel) ⟨Nat.le_of_ble_eq_true rfl, Nat.le_of_ble_eq_true rfl⟩) ⟨fun a U g mk q => by obtain ⟨q0, q1, qP, qK, qD⟩ := q; exact ⟨q0, q1, qP, va_K.moved (u := U) (U := U.calling g mk a) (Vm.Alike.refl U.vm) qK, qD⟩, va_recv (q := (R_Text, F_Text, 2)) (q0 := 2) (ci := 10) hK hP rfl rfl, fun U hU hW => ⟨rfl, by rw [hU], by rw [hU]; exact hPc, va_K.moved hW.alike hKc, hDc.weaken (fun _ _ _ _ => trivial)⟩⟩ rfl rfl hl.1 rfl (lv_room (Nat.le_of_ble_eq_true rfl)) d_Cutter_lexemeEnd_36 ⟨Nat.zero_le _, Nat.zero_le _⟩) hS (fun q _ h => hFc q h) hFc (fun r u t H1 locs ht hvm hw hB hz1 hk1 hS => ?_)
    obtain ⟨hP1, hK1, hD1⟩ := hB
    subst r
    rw [ht] at hP1
    obtain ⟨hP, hD⟩ := va_join (wr := [(a_t, .inr (3, [.ref a_lexemes, .int (nI n_at), .int z_lineStart, .int z_lineIsFresh, .int z_wrongPlace, .int z_tooMany])), (a_y0_characters, .inl (ka_y0_characters, 240, .inl f_y0_characters))]) (w1 := [(a_y0, .inr (10, [.ref a_y0_characters, .int (nI n_y0_length)]))]) hP hD [2] [0, 1] rfl rfl (by decide) (by decide) hk1 hFc hP1 hD1
    generalize H1 = H at hP hS ⊢
    have hP : va_P (dC, dI) vcl [(a_t, .inr (3, [.ref a_lexemes, .int (nI n_at), .int z_lineStart, .int z_lineIsFresh, .int z_wrongPlace, .int z_tooMany])), (a_y0_characters, .inl (ka_y0_characters, 240, .inl f_y0_characters)), (a_y0, .inr (10, [.ref a_y0_characters, .int (nI n_y0_length)]))] H := hP
    have hD : va_D A [(a_t, .inr (3, [.ref a_lexemes, .int (nI n_at), .int z_lineStart, .int z_lineIsFresh, .int z_wrongPlace, .int z_tooMany])), (a_y0_characters, .inl (ka_y0_characters, 240, .inl f_y0_characters)), (a_y0, .inr (10, [.ref a_y0_characters, .int (nI n_y0_length)]))] := hD
    have hP9 := hP.sub (ws' := [(a_t, .inr (3, [.ref a_lexemes, .int (nI n_at), .int z_lineStart, .int z_lineIsFresh, .int z_wrongPlace, .int z_tooMany])), (a_y0, .inr (10, [.ref a_y0_characters, .int (nI n_y0_length)])), (a_y0_characters, .inl (ka_y0_characters, 240, .inl f_y0_characters))]) [0, 2, 1] rfl
    have hD9 := hD.sub (ws' := [(a_t, .inr (3, [.ref a_lexemes, .int (nI n_at), .int z_lineStart, .int z_lineIsFresh, .int z_wrongPlace, .int z_tooMany])), (a_y0, .inr (10, [.ref a_y0_characters, .int (nI n_y0_length)])), (a_y0_characters, .inl (ka_y0_characters, 240, .inl f_y0_characters))]) [0, 2, 1] (by decide) rfl
    exact W.iret (v := (nI n_y0_length)) hx hb hr (fun t ht hW => ⟨⟨(nI n_y0_length), (), rfl, ⟨n_y0_length, by first | exact (enR_stop e24).symm.trans iE | exact (enR_end (by omega) (by omega)).symm.trans iE, rfl⟩, by rw [ht]; exact hP9, va_K.moved hW.alike hK, hD9⟩, hS.F ht⟩) hS.2.2 d_Cutter_lexemeEnd_39
  · have h1 : ¬ n_y0_length ≤ k3 := fun q => h1 ((nI_leI (a := n_y0_length) (b := k3) (by omega) (by omega)).mpr q)
    refine lv_iload_n hx hb d_Cutter_lexemeEnd_15 rfl (lv_at hl 3 rfl) ?_
    refine lv_aload_n hx hb d_Cutter_lexemeEnd_16 rfl (lv_at hl 2 rfl) ?_
    refine lv_iload_n hx hb d_Cutter_lexemeEnd_17 rfl (lv_at hl 0 rfl) ?_
    have hPc := hP.sub (ws' := [(a_y0, .inr (10, [.ref a_y0_characters, .int (nI n_y0_length)])), (a_y0_characters, .inl (ka_y0_characters, 240, .inl f_y0_characters))]) [2, 1] rfl
    have hDc := hD.sub (ws' := [(a_y0, .inr (10, [.ref a_y0_characters, .int (nI n_y0_length)])), (a_y0_characters, .inl (ka_y0_characters, 240, .inl f_y0_characters))]) [2, 1] (by decide) rfl
    have hKc := hK.sub (tys' := [(ka_y0_characters, .char)]) [0] rfl
    have hFc := va_free (wc := [(a_y0, .inr (10, [.ref a_y0_characters, .int (nI n_y0_length)])), (a_y0_characters, .inl (ka_y0_characters, 240, .inl f_y0_characters))]) hD hS hA [2, 1] rfl
    refine va_calli (va_runV (As := [.int (nI k3)]) (rest := [.int y1]) ⟨hx, hb, hml, hown, hz⟩ (s_Text_at6 l dC dI H.size a_y0 a_y0_characters f_y0_characters n_y0_length k3 ka_y0_characters (by first | omega | assumption | exact Or.inl rfl | exact Or.inr rfl) (by first | omega | assumption | exact Or.inl rfl | exact Or.inr rfl) (by first | omega | assumption | exact Or.inl rfl | exact Or.inr rfl)) (cwV 1 hz (zV zm_89 zm_11 zm_12 zm_7 zm_13) rfl rfl rfl (by decide +kernel) ⟨Nat.le_of_ble_eq_true rfl, Nat.le_of_ble_eq_true rfl⟩) ⟨fun a U g mk q => by obtain ⟨q0, q1, qP, qK, qD⟩ := q; exact ⟨q0, q1, qP, va_K.moved (u := U) (U := U.calling g mk a) (Vm.Alike.refl U.vm) qK, qD⟩, va_recv (q := (R_Text, F_Text, 2)) (q0 := 2) (ci := 10) hK hP rfl rfl, fun U hU hW => ⟨rfl, by rw [hU], by rw [hU]; exact hPc, va_K.moved hW.alike hKc, hDc.weaken (fun _ _ _ _ => trivial)⟩⟩ rfl rfl hl.1 rfl (lv_room (Nat.le_of_ble_eq_true rfl)) d_Cutter_lexemeEnd_18 ⟨Nat.zero_le _, Nat.zero_le _⟩) hS (fun q _ h => hFc q h) hFc (fun r u t H1 locs ht hvm hw hB hz1 hk1 hS => ?_)
    obtain ⟨hP1, hK1, hD1⟩ := hB
    subst r
    rw [ht] at hP1
    obtain ⟨hP, hD⟩ := va_join (wr := [(a_t, .inr (3, [.ref a_lexemes, .int (nI n_at), .int z_lineStart, .int z_lineIsFresh, .int z_wrongPlace, .int z_tooMany]))]) (w1 := [(a_y0, .inr (10, [.ref a_y0_characters, .int (nI n_y0_length)])), (a_y0_characters, .inl (ka_y0_characters, 240, .inl f_y0_characters))]) hP hD [2, 1] [0] rfl rfl (by decide) (by decide) hk1 hFc hP1 hD1
    generalize H1 = H at hP hS ⊢
    have hP : va_P (dC, dI) vcl [(a_t, .inr (3, [.ref a_lexemes, .int (nI n_at), .int z_lineStart, .int z_lineIsFresh, .int z_wrongPlace, .int z_tooMany])), (a_y0, .inr (10, [.ref a_y0_characters, .int (nI n_y0_length)])), (a_y0_characters, .inl (ka_y0_characters, 240, .inl f_y0_characters))] H := hP
    have hD : va_D A [(a_t, .inr (3, [.ref a_lexemes, .int (nI n_at), .int z_lineStart, .int z_lineIsFresh, .int z_wrongPlace, .int z_tooMany])), (a_y0, .inr (10, [.ref a_y0_characters, .int (nI n_y0_length)])), (a_y0_characters, .inl (ka_y0_characters, 240, .inl f_y0_characters))] := hD
    have hPc := hP.sub (ws' := []) [] rfl
    have hDc := hD.sub (ws' := []) [] (by decide) rfl
    have hKc := hK.sub (tys' := []) [] rfl
    have hFc := va_free (wc := []) hD hS hA [] rfl
    refine va_calli (va_runS (As := [.int y1, .int (cN f_y0_characters n_y0_length k3)]) (rest := []) ⟨hx, hb, hml, hown, hz⟩ (s_Cutter_goesOn6 l dC dI H.size y1 ((cN f_y0_characters n_y0_length k3))) (cwS 2 hz (zS zm_161 zm_162 zm_92 zm_163) rfl rfl rfl (by decide +kernel) ⟨Nat.le_of_ble_eq_true rfl, Nat.le_of_ble_eq_true rfl⟩) ⟨fun a U g mk q => by obtain ⟨q0, q1, qP, qK, qD, qx0⟩ := q; exact ⟨q0, q1, qP, va_K.moved (u := U) (U := U.calling g mk a) (Vm.Alike.refl U.vm) qK, qD, cx_E.same (u := U) (U := U.calling g mk a) rfl qx0⟩, fun U hU hW => ⟨rfl, by rw [hU], by rw [hU]; exact hPc, va_K.moved hW.alike hKc, hDc.weaken (fun _ _ _ _ => trivial), by rw [hU]; exact cx_E.to hW hS hFc hE⟩⟩ rfl rfl hl.1 rfl (lv_room (Nat.le_of_ble_eq_true rfl)) d_Cutter_lexemeEnd_21 ⟨Nat.zero_le _, Nat.zero_le _⟩) hS (fun q _ h => hFc q h) hFc (fun r u t H1 locs ht hvm hw_r hB hz1 hk1 hS => ?_)
    obtain ⟨hP1, hK1, hD1⟩ := hB
    obtain ⟨hb_r, he_r⟩ := hw_r
    subst r
    rw [ht] at hP1
    obtain ⟨hP, hD⟩ := va_join (wr := [(a_t, .inr (3, [.ref a_lexemes, .int (nI n_at), .int z_lineStart, .int z_lineIsFresh, .int z_wrongPlace, .int z_tooMany])), (a_y0, .inr (10, [.ref a_y0_characters, .int (nI n_y0_length)])), (a_y0_characters, .inl (ka_y0_characters, 240, .inl f_y0_characters))]) (w1 := []) hP hD [] [0, 1, 2] rfl rfl (by decide) (by decide) hk1 hFc hP1 hD1
    generalize H1 = H at hP hS ⊢
    have hP : va_P (dC, dI) vcl [(a_t, .inr (3, [.ref a_lexemes, .int (nI n_at), .int z_lineStart, .int z_lineIsFresh, .int z_wrongPlace, .int z_tooMany])), (a_y0, .inr (10, [.ref a_y0_characters, .int (nI n_y0_length)])), (a_y0_characters, .inl (ka_y0_characters, 240, .inl f_y0_characters))] H := hP
    have hD : va_D A [(a_t, .inr (3, [.ref a_lexemes, .int (nI n_at), .int z_lineStart, .int z_lineIsFresh, .int z_wrongPlace, .int z_tooMany])), (a_y0, .inr (10, [.ref a_y0_characters, .int (nI n_y0_length)])), (a_y0_characters, .inl (ka_y0_characters, 240, .inl f_y0_characters))] := hD
    refine lv_if_ne (tgt := 29) hx hb d_Cutter_lexemeEnd_24 (by decide) (fun h2 => ?_) (fun h2 => ?_)
    · have e24 := h2
      refine lv_iinc (k := 0) (v := (nI (k3 + 1))) hx hb d_Cutter_lexemeEnd_29 hl rfl (nI_1 k3) (by decide) rfl (fun ls hl => ?_)
      have hl : lv_has ls 4 [(3, .int (nI (k3 + 1))), (0, .ref a_t), (1, .ref a_y0), (2, .int y1)] := hl
      refine lv_goto (tgt := 7) hx hb d_Cutter_lexemeEnd_32 (by decide) ?_
      have hP9 := hP.sub (ws' := [(a_t, .inr (3, [.ref a_lexemes, .int (nI n_at), .int z_lineStart, .int z_lineIsFresh, .int z_wrongPlace, .int z_tooMany])), (a_y0, .inr (10, [.ref a_y0_characters, .int (nI n_y0_length)])), (a_y0_characters, .inl (ka_y0_characters, 240, .inl f_y0_characters))]) [0, 1, 2] rfl
      have hD9 := hD.sub (ws' := [(a_t, .inr (3, [.ref a_lexemes, .int (nI n_at), .int z_lineStart, .int z_lineIsFresh, .int z_wrongPlace, .int z_tooMany])), (a_y0, .inr (10, [.ref a_y0_characters, .int (nI n_y0_length)])), (a_y0_characters, .inl (ka_y0_characters, 240, .inl f_y0_characters))]) [0, 1, 2] (by decide) rfl
      exact ih7 ((k3 + 1)) (by show 242 - ((k3 + 1)) < 242 - k3; omega) _ _ _ ⟨by show ((k3 + 1)) ≤ 241; first | omega | assumption | exact Or.inl rfl | exact Or.inr rfl | decide, by show ((k3 + 1)) ≤ n_y0_length; first | omega | assumption | exact Or.inl rfl | exact Or.inr rfl | decide, by show n_at + 1 ≤ ((k3 + 1)); first | omega | assumption | exact Or.inl rfl | exact Or.inr rfl | decide, by show enR (cN f_y0_characters n_y0_length) n_y0_length y1 ((k3 + 1)) = enR (cN f_y0_characters n_y0_length) n_y0_length y1 (n_at + 1); exact (enR_go (by omega) e24).symm.trans iE, hl, hP9, hD9, hS⟩
    · have e24 := h2
      refine lv_iload_n hx hb d_Cutter_lexemeEnd_27 rfl (lv_at hl 0 rfl) ?_
      have hP9 := hP.sub (ws' := [(a_t, .inr (3, [.ref a_lexemes, .int (nI n_at), .int z_lineStart, .int z_lineIsFresh, .int z_wrongPlace, .int z_tooMany])), (a_y0, .inr (10, [.ref a_y0_characters, .int (nI n_y0_length)])), (a_y0_characters, .inl (ka_y0_characters, 240, .inl f_y0_characters))]) [0, 1, 2] rfl
      have hD9 := hD.sub (ws' := [(a_t, .inr (3, [.ref a_lexemes, .int (nI n_at), .int z_lineStart, .int z_lineIsFresh, .int z_wrongPlace, .int z_tooMany])), (a_y0, .inr (10, [.ref a_y0_characters, .int (nI n_y0_length)])), (a_y0_characters, .inl (ka_y0_characters, 240, .inl f_y0_characters))]) [0, 1, 2] (by decide) rfl
      exact W.iret (v := (nI k3)) hx hb hr (fun t ht hW => ⟨⟨(nI k3), (), rfl, ⟨k3, by first | exact (enR_stop e24).symm.trans iE | exact (enR_end (by omega) (by omega)).symm.trans iE, rfl⟩, by rw [ht]; exact hP9, va_K.moved hW.alike hK, hD9⟩, hS.F ht⟩) hS.2.2 d_Cutter_lexemeEnd_28
set_option maxHeartbeats 4000000 in
set_option maxRecDepth 100000 in
theorem s_Cutter_isDashes6 (l : Launch) (dC : Nat → ClassId) (dI : Nat → Nat → Nat) (sz : Nat) (a_t : Nat) (a_lexemes : Nat) (n_at : Nat) (z_lineStart : Int32) (z_lineIsFresh : Int32) (z_wrongPlace : Int32) (z_tooMany : Int32) (a_y0 : Nat) (a_y0_characters : Nat) (f_y0_characters : Nat → Int32) (n_y0_length : Nat) (y1 : Nat) (ka_y0_characters : ClassId) (b_at : n_at ≤ 241) (b_tooMany : z_tooMany = 0 ∨ z_tooMany = 1) (c_y0_characters : ∀ j, narrow .char (.int (f_y0_characters j)) = .int (f_y0_characters j)) (b_y0_length : n_y0_length ≤ 240) (by1 : y1 ≤ 240) (hp0 : n_at ≤ y1) (hp1 : y1 ≤ n_y0_length) : Met l y_Cutter_isDashes w_Cutter_isDashes ({ frames := 1, cells := 0, slots := 0, locals := 21 }) (va_Pc [.ref a_t, .ref a_y0, .int (nI y1)] (fun U => U.heap.size = sz ∧ va_P (dC, dI) vcl [(a_t, .inr (3, [.ref a_lexemes, .int (nI n_at), .int z_lineStart, .int z_lineIsFresh, .int z_wrongPlace, .int z_tooMany])), (a_y0, .inr (10, [.ref a_y0_characters, .int (nI n_y0_length)])), (a_y0_characters, .inl (ka_y0_characters, 240, .inl f_y0_characters))] U.heap ∧ va_K (dC, dI) vcl [(ka_y0_characters, .char)] U ∧ va_D (fun _ => True) [(a_t, .inr (3, [.ref a_lexemes, .int (nI n_at), .int z_lineStart, .int z_lineIsFresh, .int z_wrongPlace, .int z_tooMany])), (a_y0, .inr (10, [.ref a_y0_characters, .int (nI n_y0_length)])), (a_y0_characters, .inl (ka_y0_characters, 240, .inl f_y0_characters))])) (va_Qi (fun (r : Int32) (_ : Unit) => (r = 0 ∨ r = 1) ∧ (r = b01 (dshO (cN f_y0_characters n_y0_length) n_at y1))) (fun _ t => va_P (dC, dI) vcl [(a_t, .inr (3, [.ref a_lexemes, .int (nI n_at), .int z_lineStart, .int z_lineIsFresh, .int z_wrongPlace, .int z_tooMany])), (a_y0, .inr (10, [.ref a_y0_characters, .int (nI n_y0_length)])), (a_y0_characters, .inl (ka_y0_characters, 240, .inl f_y0_characters))] t.heap ∧ va_K (dC, dI) vcl [(ka_y0_characters, .char)] t ∧ va_D (va_A [(a_t, .inr (3, [.ref a_lexemes, .int (nI n_at), .int z_lineStart, .int z_lineIsFresh, .int z_wrongPlace, .int z_tooMany])), (a_y0, .inr (10, [.ref a_y0_characters, .int (nI n_y0_length)])), (a_y0_characters, .inl (ka_y0_characters, 240, .inl f_y0_characters))] sz) [(a_t, .inr (3, [.ref a_lexemes, .int (nI n_at), .int z_lineStart, .int z_lineIsFresh, .int z_wrongPlace, .int z_tooMany])), (a_y0, .inr (10, [.ref a_y0_characters, .int (nI n_y0_length)])), (a_y0_characters, .inl (ka_y0_characters, 240, .inl f_y0_characters))]) (va_A [(a_t, .inr (3, [.ref a_lexemes, .int (nI n_at), .int z_lineStart, .int z_lineIsFresh, .int z_wrongPlace, .int z_tooMany])), (a_y0, .inr (10, [.ref a_y0_characters, .int (nI n_y0_length)])), (a_y0_characters, .inl (ka_y0_characters, 240, .inl f_y0_characters))] sz)) 0 0 (va_A [(a_t, .inr (3, [.ref a_lexemes, .int (nI n_at), .int z_lineStart, .int z_lineIsFresh, .int z_wrongPlace, .int z_tooMany])), (a_y0, .inr (10, [.ref a_y0_characters, .int (nI n_y0_length)])), (a_y0_characters, .inl (ka_y0_characters, 240, .inl f_y0_characters))] sz) := by
  refine Met.ofW (cc := b_Cutter_isDashes) (maxL := 4) (ret := (some .boolean)) (by decide) rfl ?_
  intro p e s m args below meth c s₁ B hml hv
  obtain ⟨rfl, hsz, hP, hK, hD0⟩ := hv
  have hx := B.exec
  have hb := B.bytes
  have hr := B.returns
  have hts := atoms_spec (ws := w_Cutter_isDashes) B.pre
  have hz : ∀ w ∈ wz, w.before _ s = true := fun w h => hts w (List.mem_cons_of_mem _ h)
  have hown : s.vm.findClass R_Cutter = some m.cls := findClass_of_methodNamed B.named
  have hlocks := B.notSynchronized
  subst hsz
  have hD := hD0.self (sz := s.heap.size)
  generalize hAe : va_A [(a_t, .inr (3, [.ref a_lexemes, .int (nI n_at), .int z_lineStart, .int z_lineIsFresh, .int z_wrongPlace, .int z_tooMany])), (a_y0, .inr (10, [.ref a_y0_characters, .int (nI n_y0_length)])), (a_y0_characters, .inl (ka_y0_characters, 240, .inl f_y0_characters))] s.heap.size = A at hD ⊢
  have hA : ∀ q : Nat, s.heap.size ≤ q → A q := fun q h => by rw [← hAe]; exact Or.inr h
  have hS : va_S A s.heap s.heap [] := va_S.rf
  have hP : va_P (dC, dI) vcl [(a_t, .inr (3, [.ref a_lexemes, .int (nI n_at), .int z_lineStart, .int z_lineIsFresh, .int z_wrongPlace, .int z_tooMany])), (a_y0, .inr (10, [.ref a_y0_characters, .int (nI n_y0_length)])), (a_y0_characters, .inl (ka_y0_characters, 240, .inl f_y0_characters))] s.heap := hP
  have hl := lv_entry ([.ref a_t, .ref a_y0, .int (nI y1)]) (n := 4) (Nat.le_of_ble_eq_true rfl)
  rw [lg_entry_eq]
  generalize (lg_sl ([.ref a_t, .ref a_y0, .int (nI y1)]) ++ List.replicate (4 - (lg_sl ([.ref a_t, .ref a_y0, .int (nI y1)])).length) Slot.unset).toArray = ls at hl ⊢
  have hl : lv_has ls 4 [(0, .ref a_t), (1, .ref a_y0), (2, .int (nI y1))] := hl
  refine lv_aload_n hx hb d_Cutter_isDashes_0 rfl (lv_at hl 0 rfl) ?_
  refine va_get (D := (dC, dI)) (ci := 3) (v := .int (nI n_at)) (C := R_Cutter) (T := F_Cutter) (N := 6) hx hb hz zu_Cutter hown hK hP 0 rfl rfl 1 (by decide) (hz (.fieldLink R_Cutter 29 "LayoutFront$Cutter" "at" "I") zm_82) (fun _ h9 => h9) rfl d_Cutter_isDashes_1 ?_
  refine lv_istore_n hx hb d_Cutter_isDashes_4 rfl hl (by decide) rfl (fun ls hl => ?_)
  have hl : lv_has ls 4 [(3, .int (nI n_at)), (0, .ref a_t), (1, .ref a_y0), (2, .int (nI y1))] := hl
  refine xr_loop (α := (Nat)) (fun a => (fun (k3 : Nat) => 241 - k3) a) (fun a H locs ls => (fun (k3 : Nat) => (k3 ≤ 241) ∧ (n_at ≤ k3) ∧ (k3 ≤ y1) ∧ (alB (cN f_y0_characters n_y0_length) 45 n_at (k3 - n_at) = true) ∧ lv_has ls 4 [(3, .int (nI k3)), (0, .ref a_t), (1, .ref a_y0), (2, .int (nI y1))] ∧ va_P (dC, dI) vcl [(a_t, .inr (3, [.ref a_lexemes, .int (nI n_at), .int z_lineStart, .int z_lineIsFresh, .int z_wrongPlace, .int z_tooMany])), (a_y0, .inr (10, [.ref a_y0_characters, .int (nI n_y0_length)])), (a_y0_characters, .inl (ka_y0_characters, 240, .inl f_y0_characters))] H ∧ va_D A [(a_t, .inr (3, [.ref a_lexemes, .int (nI n_at), .int z_lineStart, .int z_lineIsFresh, .int z_wrongPlace, .int z_tooMany])), (a_y0, .inr (10, [.ref a_y0_characters, .int (nI n_y0_length)])), (a_y0_characters, .inl (ka_y0_characters, 240, .inl f_y0_characters))] ∧ va_S A s.heap H locs) a) (fun a ih5 H locs ls hI => ?_) (n_at) _ _ _ ⟨by show n_at ≤ 241; first | omega | assumption | exact Or.inl rfl | exact Or.inr rfl | decide, by show n_at ≤ n_at; first | omega | assumption | exact Or.inl rfl | exact Or.inr rfl | decide, by show n_at ≤ y1; first | omega | assumption | exact Or.inl rfl | exact Or.inr rfl | decide, by show alB (cN f_y0_characters n_y0_length) 45 n_at (n_at - n_at) = true; first | rfl | (rw [Nat.sub_self]; rfl), hl, hP, hD, hS⟩
  generalize a = k3 at ih5 hI
  obtain ⟨bl0, bl1, bl2, bl3, hl, hP, hD, hS⟩ := hI
  have bl0 : k3 ≤ 241 := bl0
  have bl1 : n_at ≤ k3 := bl1
  have bl2 : k3 ≤ y1 := bl2
  have bl3 : alB (cN f_y0_characters n_y0_length) 45 n_at (k3 - n_at) = true := bl3
  have iE := bl3
  have hl : lv_has ls 4 [(3, .int (nI k3)), (0, .ref a_t), (1, .ref a_y0), (2, .int (nI y1))] := hl
  have hP : va_P (dC, dI) vcl [(a_t, .inr (3, [.ref a_lexemes, .int (nI n_at), .int z_lineStart, .int z_lineIsFresh, .int z_wrongPlace, .int z_tooMany])), (a_y0, .inr (10, [.ref a_y0_characters, .int (nI n_y0_length)])), (a_y0_characters, .inl (ka_y0_characters, 240, .inl f_y0_characters))] H := hP
  have hD : va_D A [(a_t, .inr (3, [.ref a_lexemes, .int (nI n_at), .int z_lineStart, .int z_lineIsFresh, .int z_wrongPlace, .int z_tooMany])), (a_y0, .inr (10, [.ref a_y0_characters, .int (nI n_y0_length)])), (a_y0_characters, .inl (ka_y0_characters, 240, .inl f_y0_characters))] := hD
  refine lv_iload_n hx hb d_Cutter_isDashes_5 rfl (lv_at hl 0 rfl) ?_
  refine lv_iload_n hx hb d_Cutter_isDashes_6 rfl (lv_at hl 3 rfl) ?_
  refine lv_icmp_ge (tgt := 28) hx hb d_Cutter_isDashes_7 (by decide) (fun h1 => ?_) (fun h1 => ?_)
  · have h1 : y1 ≤ k3 := (nI_leI (a := y1) (b := k3) (by omega) (by omega)).mp h1
    refine lv_iload_n hx hb d_Cutter_isDashes_28 rfl (lv_at hl 3 rfl) ?_
    refine lv_aload_n hx hb d_Cutter_isDashes_29 rfl (lv_at hl 1 rfl) ?_
    refine va_get (D := (dC, dI)) (ci := 3) (v := .int (nI n_at)) (C := R_Cutter) (T := F_Cutter) (N := 6) hx hb hz zu_Cutter hown hK hP 0 rfl rfl 1 (by decide) (hz (.fieldLink R_Cutter 29 "LayoutFront$Cutter" "at" "I") zm_82) (fun _ h9 => h9) rfl d_Cutter_isDashes_30 ?_
    refine xr_isub (v := (nI (y1 - n_at))) hx hb d_Cutter_isDashes_33 (pk_sub (a := y1) (b := n_at) (by omega)) ?_
    refine lv_iconst (v := 2) hx hb d_Cutter_isDashes_34 (by decide) ?_
    refine lv_icmp_lt (tgt := 42) hx hb d_Cutter_isDashes_35 (by decide) (fun h2 => ?_) (fun h2 => ?_)
    · have h2 : (y1 - n_at) < 2 := (nI_ltI (a := (y1 - n_at)) (b := 2) (by omega) (by omega)).mp h2
      have e35 := h2
      refine lv_iconst (v := 0) hx hb d_Cutter_isDashes_42 (by decide) ?_
      have hP9 := hP.sub (ws' := [(a_t, .inr (3, [.ref a_lexemes, .int (nI n_at), .int z_lineStart, .int z_lineIsFresh, .int z_wrongPlace, .int z_tooMany])), (a_y0, .inr (10, [.ref a_y0_characters, .int (nI n_y0_length)])), (a_y0_characters, .inl (ka_y0_characters, 240, .inl f_y0_characters))]) [0, 1, 2] rfl
      have hD9 := hD.sub (ws' := [(a_t, .inr (3, [.ref a_lexemes, .int (nI n_at), .int z_lineStart, .int z_lineIsFresh, .int z_wrongPlace, .int z_tooMany])), (a_y0, .inr (10, [.ref a_y0_characters, .int (nI n_y0_length)])), (a_y0_characters, .inl (ka_y0_characters, 240, .inl f_y0_characters))]) [0, 1, 2] (by decide) rfl
      exact W.zret (v := 0) hx hb hr (by decide +kernel) (fun t ht hW => ⟨⟨0, (), rfl, ⟨(by first | assumption | exact Or.inl rfl | exact Or.inr rfl), (by exact dw_2 (by omega))⟩, by rw [ht]; exact hP9, va_K.moved hW.alike hK, hD9⟩, hS.F ht⟩) hS.2.2 d_Cutter_isDashes_43
    · have h2 : ¬ (y1 - n_at) < 2 := fun q => h2 ((nI_ltI (a := (y1 - n_at)) (b := 2) (by omega) (by omega)).mpr q)
      have e35 := h2
      refine lv_iconst (v := 1) hx hb d_Cutter_isDashes_38 (by decide) ?_
      refine lv_goto (tgt := 43) hx hb d_Cutter_isDashes_39 (by decide) ?_
      have hP9 := hP.sub (ws' := [(a_t, .inr (3, [.ref a_lexemes, .int (nI n_at), .int z_lineStart, .int z_lineIsFresh, .int z_wrongPlace, .int z_tooMany])), (a_y0, .inr (10, [.ref a_y0_characters, .int (nI n_y0_length)])), (a_y0_characters, .inl (ka_y0_characters, 240, .inl f_y0_characters))]) [0, 1, 2] rfl
      have hD9 := hD.sub (ws' := [(a_t, .inr (3, [.ref a_lexemes, .int (nI n_at), .int z_lineStart, .int z_lineIsFresh, .int z_wrongPlace, .int z_tooMany])), (a_y0, .inr (10, [.ref a_y0_characters, .int (nI n_y0_length)])), (a_y0_characters, .inl (ka_y0_characters, 240, .inl f_y0_characters))]) [0, 1, 2] (by decide) rfl
      exact W.zret (v := 1) hx hb hr (by decide +kernel) (fun t ht hW => ⟨⟨1, (), rfl, ⟨(by first | assumption | exact Or.inl rfl | exact Or.inr rfl), (by exact dw_1 (b := k3) (by omega) iE (by omega))⟩, by rw [ht]; exact hP9, va_K.moved hW.alike hK, hD9⟩, hS.F ht⟩) hS.2.2 d_Cutter_isDashes_43
  · have h1 : ¬ y1 ≤ k3 := fun q => h1 ((nI_leI (a := y1) (b := k3) (by omega) (by omega)).mpr q)
    refine lv_aload_n hx hb d_Cutter_isDashes_10 rfl (lv_at hl 2 rfl) ?_
    refine lv_iload_n hx hb d_Cutter_isDashes_11 rfl (lv_at hl 0 rfl) ?_
    have hPc := hP.sub (ws' := [(a_y0, .inr (10, [.ref a_y0_characters, .int (nI n_y0_length)])), (a_y0_characters, .inl (ka_y0_characters, 240, .inl f_y0_characters))]) [1, 2] rfl
    have hDc := hD.sub (ws' := [(a_y0, .inr (10, [.ref a_y0_characters, .int (nI n_y0_length)])), (a_y0_characters, .inl (ka_y0_characters, 240, .inl f_y0_characters))]) [1, 2] (by decide) rfl
    have hKc := hK.sub (tys' := [(ka_y0_characters, .char)]) [0] rfl
    have hFc := va_free (wc := [(a_y0, .inr (10, [.ref a_y0_characters, .int (nI n_y0_length)])), (a_y0_characters, .inl (ka_y0_characters, 240, .inl f_y0_characters))]) hD hS hA [1, 2] rfl
    refine va_calli (va_runV (As := [.int (nI k3)]) (rest := []) ⟨hx, hb, hml, hown, hz⟩ (s_Text_at6 l dC dI H.size a_y0 a_y0_characters f_y0_characters n_y0_length k3 ka_y0_characters (by first | omega | assumption | exact Or.inl rfl | exact Or.inr rfl) (by first | omega | assumption | exact Or.inl rfl | exact Or.inr rfl) (by first | omega | assumption | exact Or.inl rfl | exact Or.inr rfl)) (cwV 1 hz (zV zm_89 zm_11 zm_12 zm_7 zm_13) rfl rfl rfl (by decide +kernel) ⟨Nat.le_of_ble_eq_true rfl, Nat.le_of_ble_eq_true rfl⟩) ⟨fun a U g mk q => by obtain ⟨q0, q1, qP, qK, qD⟩ := q; exact ⟨q0, q1, qP, va_K.moved (u := U) (U := U.calling g mk a) (Vm.Alike.refl U.vm) qK, qD⟩, va_recv (q := (R_Text, F_Text, 2)) (q0 := 1) (ci := 10) hK hP rfl rfl, fun U hU hW => ⟨rfl, by rw [hU], by rw [hU]; exact hPc, va_K.moved hW.alike hKc, hDc.weaken (fun _ _ _ _ => trivial)⟩⟩ rfl rfl hl.1 rfl (lv_room (Nat.le_of_ble_eq_true rfl)) d_Cutter_isDashes_12 ⟨Nat.zero_le _, Nat.zero_le _⟩) hS (fun q _ h => hFc q h) hFc (fun r u t H1 locs ht hvm hw hB hz1 hk1 hS => ?_)
    obtain ⟨hP1, hK1, hD1⟩ := hB
    subst r
    rw [ht] at hP1
    obtain ⟨hP, hD⟩ := va_join (wr := [(a_t, .inr (3, [.ref a_lexemes, .int (nI n_at), .int z_lineStart, .int z_lineIsFresh, .int z_wrongPlace, .int z_tooMany]))]) (w1 := [(a_y0, .inr (10, [.ref a_y0_characters, .int (nI n_y0_length)])), (a_y0_characters, .inl (ka_y0_characters, 240, .inl f_y0_characters))]) hP hD [1, 2] [0] rfl rfl (by decide) (by decide) hk1 hFc hP1 hD1
    generalize H1 = H at hP hS ⊢
    have hP : va_P (dC, dI) vcl [(a_t, .inr (3, [.ref a_lexemes, .int (nI n_at), .int z_lineStart, .int z_lineIsFresh, .int z_wrongPlace, .int z_tooMany])), (a_y0, .inr (10, [.ref a_y0_characters, .int (nI n_y0_length)])), (a_y0_characters, .inl (ka_y0_characters, 240, .inl f_y0_characters))] H := hP
    have hD : va_D A [(a_t, .inr (3, [.ref a_lexemes, .int (nI n_at), .int z_lineStart, .int z_lineIsFresh, .int z_wrongPlace, .int z_tooMany])), (a_y0, .inr (10, [.ref a_y0_characters, .int (nI n_y0_length)])), (a_y0_characters, .inl (ka_y0_characters, 240, .inl f_y0_characters))] := hD
    refine lv_bipush (v := 45) hx hb d_Cutter_isDashes_15 (by decide) ?_
    refine lv_icmp_eq (tgt := 22) hx hb d_Cutter_isDashes_17 (by decide) (fun h3 => ?_) (fun h3 => ?_)
    · have e17 := h3
      refine lv_iinc (k := 0) (v := (nI (k3 + 1))) hx hb d_Cutter_isDashes_22 hl rfl (nI_1 k3) (by decide) rfl (fun ls hl => ?_)
      have hl : lv_has ls 4 [(3, .int (nI (k3 + 1))), (0, .ref a_t), (1, .ref a_y0), (2, .int (nI y1))] := hl
      refine lv_goto (tgt := 5) hx hb d_Cutter_isDashes_25 (by decide) ?_
      have hP9 := hP.sub (ws' := [(a_t, .inr (3, [.ref a_lexemes, .int (nI n_at), .int z_lineStart, .int z_lineIsFresh, .int z_wrongPlace, .int z_tooMany])), (a_y0, .inr (10, [.ref a_y0_characters, .int (nI n_y0_length)])), (a_y0_characters, .inl (ka_y0_characters, 240, .inl f_y0_characters))]) [0, 1, 2] rfl
      have hD9 := hD.sub (ws' := [(a_t, .inr (3, [.ref a_lexemes, .int (nI n_at), .int z_lineStart, .int z_lineIsFresh, .int z_wrongPlace, .int z_tooMany])), (a_y0, .inr (10, [.ref a_y0_characters, .int (nI n_y0_length)])), (a_y0_characters, .inl (ka_y0_characters, 240, .inl f_y0_characters))]) [0, 1, 2] (by decide) rfl
      exact ih5 ((k3 + 1)) (by show 241 - ((k3 + 1)) < 241 - k3; omega) _ _ _ ⟨by show ((k3 + 1)) ≤ 241; first | omega | assumption | exact Or.inl rfl | exact Or.inr rfl | decide, by show n_at ≤ ((k3 + 1)); first | omega | assumption | exact Or.inl rfl | exact Or.inr rfl | decide, by show ((k3 + 1)) ≤ y1; first | omega | assumption | exact Or.inl rfl | exact Or.inr rfl | decide, by show alB (cN f_y0_characters n_y0_length) 45 n_at (((k3 + 1)) - n_at) = true; exact dw_s (by omega) iE e17, hl, hP9, hD9, hS⟩
    · have e17 := h3
      refine lv_iconst (v := 0) hx hb d_Cutter_isDashes_20 (by decide) ?_
      have hP9 := hP.sub (ws' := [(a_t, .inr (3, [.ref a_lexemes, .int (nI n_at), .int z_lineStart, .int z_lineIsFresh, .int z_wrongPlace, .int z_tooMany])), (a_y0, .inr (10, [.ref a_y0_characters, .int (nI n_y0_length)])), (a_y0_characters, .inl (ka_y0_characters, 240, .inl f_y0_characters))]) [0, 1, 2] rfl
      have hD9 := hD.sub (ws' := [(a_t, .inr (3, [.ref a_lexemes, .int (nI n_at), .int z_lineStart, .int z_lineIsFresh, .int z_wrongPlace, .int z_tooMany])), (a_y0, .inr (10, [.ref a_y0_characters, .int (nI n_y0_length)])), (a_y0_characters, .inl (ka_y0_characters, 240, .inl f_y0_characters))]) [0, 1, 2] (by decide) rfl
      exact W.zret (v := 0) hx hb hr (by decide +kernel) (fun t ht hW => ⟨⟨0, (), rfl, ⟨(by first | assumption | exact Or.inl rfl | exact Or.inr rfl), (by exact dw_0 (by omega) (by omega) e17)⟩, by rw [ht]; exact hP9, va_K.moved hW.alike hK, hD9⟩, hS.F ht⟩) hS.2.2 d_Cutter_isDashes_21
set_option maxHeartbeats 4000000 in
set_option maxRecDepth 100000 in
theorem s_Cutter_lineEnd6 (l : Launch) (dC : Nat → ClassId) (dI : Nat → Nat → Nat) (sz : Nat) (a_y0 : Nat) (a_y0_characters : Nat) (f_y0_characters : Nat → Int32) (n_y0_length : Nat) (y1 : Nat) (ka_y0_characters : ClassId) (c_y0_characters : ∀ j, narrow .char (.int (f_y0_characters j)) = .int (f_y0_characters j)) (b_y0_length : n_y0_length ≤ 240) (by1 : y1 ≤ 240) (hp0 : y1 ≤ n_y0_length) : Met l y_Cutter_lineEnd w_Cutter_lineEnd ({ frames := 1, cells := 0, slots := 0, locals := 21 }) (va_Pc [.ref a_y0, .int (nI y1)] (fun U => U.heap.size = sz ∧ va_P (dC, dI) vcl [(a_y0, .inr (10, [.ref a_y0_characters, .int (nI n_y0_length)])), (a_y0_characters, .inl (ka_y0_characters, 240, .inl f_y0_characters))] U.heap ∧ va_K (dC, dI) vcl [(ka_y0_characters, .char)] U ∧ va_D (fun _ => True) [(a_y0, .inr (10, [.ref a_y0_characters, .int (nI n_y0_length)])), (a_y0_characters, .inl (ka_y0_characters, 240, .inl f_y0_characters))])) (va_Qi (fun (r : Int32) (_ : Unit) => ∃ j, (j = scE (fun x => !(x == 10)) (cN f_y0_characters n_y0_length) n_y0_length y1) ∧ r = nI j) (fun _ t => va_P (dC, dI) vcl [(a_y0, .inr (10, [.ref a_y0_characters, .int (nI n_y0_length)])), (a_y0_characters, .inl (ka_y0_characters, 240, .inl f_y0_characters))] t.heap ∧ va_K (dC, dI) vcl [(ka_y0_characters, .char)] t ∧ va_D (va_A [(a_y0, .inr (10, [.ref a_y0_characters, .int (nI n_y0_length)])), (a_y0_characters, .inl (ka_y0_characters, 240, .inl f_y0_characters))] sz) [(a_y0, .inr (10, [.ref a_y0_characters, .int (nI n_y0_length)])), (a_y0_characters, .inl (ka_y0_characters, 240, .inl f_y0_characters))]) (va_A [(a_y0, .inr (10, [.ref a_y0_characters, .int (nI n_y0_length)])), (a_y0_characters, .inl (ka_y0_characters, 240, .inl f_y0_characters))] sz)) 0 0 (va_A [(a_y0, .inr (10, [.ref a_y0_characters, .int (nI n_y0_length)])), (a_y0_characters, .inl (ka_y0_characters, 240, .inl f_y0_characters))] sz) := by
  refine Met.ofW (cc := b_Cutter_lineEnd) (maxL := 3) (ret := (some .int)) (by decide) rfl ?_
  intro p e s m args below meth c s₁ B hml hv
  obtain ⟨rfl, hsz, hP, hK, hD0⟩ := hv
  have hx := B.exec
  have hb := B.bytes
  have hr := B.returns
  have hts := atoms_spec (ws := w_Cutter_lineEnd) B.pre
  have hz : ∀ w ∈ wz, w.before _ s = true := fun w h => hts w (List.mem_cons_of_mem _ h)
  have hown : s.vm.findClass R_Cutter = some m.cls := findClass_of_methodNamed B.named
  have hlocks := B.notSynchronized
  subst hsz
  have hD := hD0.self (sz := s.heap.size)
  generalize hAe : va_A [(a_y0, .inr (10, [.ref a_y0_characters, .int (nI n_y0_length)])), (a_y0_characters, .inl (ka_y0_characters, 240, .inl f_y0_characters))] s.heap.size = A at hD ⊢
  have hA : ∀ q : Nat, s.heap.size ≤ q → A q := fun q h => by rw [← hAe]; exact Or.inr h
  have hS : va_S A s.heap s.heap [] := va_S.rf
  have hP : va_P (dC, dI) vcl [(a_y0, .inr (10, [.ref a_y0_characters, .int (nI n_y0_length)])), (a_y0_characters, .inl (ka_y0_characters, 240, .inl f_y0_characters))] s.heap := hP
  have hl := lv_entry ([.ref a_y0, .int (nI y1)]) (n := 3) (Nat.le_of_ble_eq_true rfl)
  rw [lg_entry_eq]
  generalize (lg_sl ([.ref a_y0, .int (nI y1)]) ++ List.replicate (3 - (lg_sl ([.ref a_y0, .int (nI y1)])).length) Slot.unset).toArray = ls at hl ⊢
  have hl : lv_has ls 3 [(0, .ref a_y0), (1, .int (nI y1))] := hl
  refine lv_iload_n hx hb d_Cutter_lineEnd_0 rfl (lv_at hl 1 rfl) ?_
  refine lv_istore_n hx hb d_Cutter_lineEnd_1 rfl hl (by decide) rfl (fun ls hl => ?_)
  have hl : lv_has ls 3 [(2, .int (nI y1)), (0, .ref a_y0), (1, .int (nI y1))] := hl
  refine xr_loop (α := (Nat)) (fun a => (fun (k2 : Nat) => 240 - k2) a) (fun a H locs ls => (fun (k2 : Nat) => (k2 ≤ 240) ∧ (k2 ≤ n_y0_length) ∧ (y1 ≤ k2) ∧ (scE (fun x => !(x == 10)) (cN f_y0_characters n_y0_length) n_y0_length k2 = scE (fun x => !(x == 10)) (cN f_y0_characters n_y0_length) n_y0_length y1) ∧ lv_has ls 3 [(2, .int (nI k2)), (0, .ref a_y0), (1, .int (nI y1))] ∧ va_P (dC, dI) vcl [(a_y0, .inr (10, [.ref a_y0_characters, .int (nI n_y0_length)])), (a_y0_characters, .inl (ka_y0_characters, 240, .inl f_y0_characters))] H ∧ va_D A [(a_y0, .inr (10, [.ref a_y0_characters, .int (nI n_y0_length)])), (a_y0_characters, .inl (ka_y0_characters, 240, .inl f_y0_characters))] ∧ va_S A s.heap H locs) a) (fun a ih2 H locs ls hI => ?_) (y1) _ _ _ ⟨by show y1 ≤ 240; first | omega | assumption | exact Or.inl rfl | exact Or.inr rfl | decide, by show y1 ≤ n_y0_length; first | omega | assumption | exact Or.inl rfl | exact Or.inr rfl | decide, by show y1 ≤ y1; first | omega | assumption | exact Or.inl rfl | exact Or.inr rfl | decide, by show scE (fun x => !(x == 10)) (cN f_y0_characters n_y0_length) n_y0_length y1 = scE (fun x => !(x == 10)) (cN f_y0_characters n_y0_length) n_y0_length y1; first | rfl | (rw [Nat.sub_self]; rfl), hl, hP, hD, hS⟩
  generalize a = k2 at ih2 hI
  obtain ⟨bl0, bl1, bl2, bl3, hl, hP, hD, hS⟩ := hI
  have bl0 : k2 ≤ 240 := bl0
  have bl1 : k2 ≤ n_y0_length := bl1
  have bl2 : y1 ≤ k2 := bl2
  have bl3 : scE (fun x => !(x == 10)) (cN f_y0_characters n_y0_length) n_y0_length k2 = scE (fun x => !(x == 10)) (cN f_y0_characters n_y0_length) n_y0_length y1 := bl3
  have iE := bl3
  have hl : lv_has ls 3 [(2, .int (nI k2)), (0, .ref a_y0), (1, .int (nI y1))] := hl
  have hP : va_P (dC, dI) vcl [(a_y0, .inr (10, [.ref a_y0_characters, .int (nI n_y0_length)])), (a_y0_characters, .inl (ka_y0_characters, 240, .inl f_y0_characters))] H := hP
  have hD : va_D A [(a_y0, .inr (10, [.ref a_y0_characters, .int (nI n_y0_length)])), (a_y0_characters, .inl (ka_y0_characters, 240, .inl f_y0_characters))] := hD
  refine lv_iload_n hx hb d_Cutter_lineEnd_2 rfl (lv_at hl 0 rfl) ?_
  refine lv_aload_n hx hb d_Cutter_lineEnd_3 rfl (lv_at hl 1 rfl) ?_
  have hPc := hP.sub (ws' := [(a_y0, .inr (10, [.ref a_y0_characters, .int (nI n_y0_length)]))]) [0] rfl
  have hDc := hD.sub (ws' := [(a_y0, .inr (10, [.ref a_y0_characters, .int (nI n_y0_length)]))]) [0] (by decide) rfl
  have hKc := hK.sub (tys' := []) [] rfl
  have hFc := va_free (wc := [(a_y0, .inr (10, [.ref a_y0_characters, .int (nI n_y0_length)]))]) hD hS hA [0] rfl
  refine va_calli (va_runV (As := []) (rest := [.int (nI k2)]) ⟨hx, hb, hml, hown, hz⟩ (s_Text_length l dC dI H.size a_y0 a_y0_characters n_y0_length (by first | omega | assumption | exact Or.inl rfl | exact Or.inr rfl)) (cwV 0 hz (zV zm_85 zm_86 zm_87 zm_7 zm_88) rfl rfl rfl (by decide +kernel) ⟨Nat.le_of_ble_eq_true rfl, Nat.le_of_ble_eq_true rfl⟩) ⟨fun a U g mk q => by obtain ⟨q0, q1, qP, qK, qD⟩ := q; exact ⟨q0, q1, qP, va_K.moved (u := U) (U := U.calling g mk a) (Vm.Alike.refl U.vm) qK, qD⟩, va_recv (q := (R_Text, F_Text, 2)) (q0 := 0) (ci := 10) hK hP rfl rfl, fun U hU hW => ⟨rfl, by rw [hU], by rw [hU]; exact hPc, va_K.moved hW.alike hKc, hDc.weaken (fun _ _ _ _ => trivial)⟩⟩ rfl rfl hl.1 rfl (lv_room (Nat.le_of_ble_eq_true rfl)) d_Cutter_lineEnd_4 ⟨Nat.zero_le _, Nat.zero_le _⟩) hS (fun q _ h => hFc q h) hFc (fun r u t H1 locs ht hvm hw hB hz1 hk1 hS => ?_)
  obtain ⟨hP1, hK1, hD1⟩ := hB
  subst r
  rw [ht] at hP1
  obtain ⟨hP, hD⟩ := va_join (wr := [(a_y0_characters, .inl (ka_y0_characters, 240, .inl f_y0_characters))]) (w1 := [(a_y0, .inr (10, [.ref a_y0_characters, .int (nI n_y0_length)]))]) hP hD [0] [1] rfl rfl (by decide) (by decide) hk1 hFc hP1 hD1
  generalize H1 = H at hP hS ⊢
  have hP : va_P (dC, dI) vcl [(a_y0_characters, .inl (ka_y0_characters, 240, .inl f_y0_characters)), (a_y0, .inr (10, [.ref a_y0_characters, .int (nI n_y0_length)]))] H := hP
  have hD : va_D A [(a_y0_characters, .inl (ka_y0_characters, 240, .inl f_y0_characters)), (a_y0, .inr (10, [.ref a_y0_characters, .int (nI n_y0_length)]))] := hD
  refine lv_icmp_ge (tgt := 28) hx hb d_Cutter_lineEnd_7 (by decide) (fun h1 => ?_) (fun h1 => ?_)
  · have h1 : n_y0_length ≤ k2 := (nI_leI (a := n_y0_length) (b := k2) (by omega) (by omega)).mp h1
    refine lv_aload_n hx hb d_Cutter_lineEnd_28 rfl (lv_at hl 1 rfl) ?_
    have hPc := hP.sub (ws' := [(a_y0, .inr (10, [.ref a_y0_characters, .int (nI n_y0_length)]))]) [1] rfl
    have hDc := hD.sub (ws' := [(a_y0, .inr (10, [.ref a_y0_characters, .int (nI n_y0_length)]))]) [1] (by decide) rfl
    have hKc := hK.sub (tys' := []) [] rfl
    have hFc := va_free (wc := [(a_y0, .inr (10, [.ref a_y0_characters, .int (nI n_y0_length)]))]) hD hS hA [1] rfl
    refine va_calli (va_runV (As := []) (rest := []) ⟨hx, hb, hml, hown, hz⟩ (s_Text_length l dC dI H.size a_y0 a_y0_characters n_y0_length (by first | omega | assumption | exact Or.inl rfl | exact Or.inr rfl)) (cwV 0 hz (zV zm_85 zm_86 zm_87 zm_7 zm_88) rfl rfl rfl (by decide +kernel) ⟨Nat.le_of_ble_eq_true rfl, Nat.le_of_ble_eq_true rfl⟩) ⟨fun a U g mk q => by obtain ⟨q0, q1, qP, qK, qD⟩ := q; exact ⟨q0, q1, qP, va_K.moved (u := U) (U := U.calling g mk a) (Vm.Alike.refl U.vm) qK, qD⟩, va_recv (q := (R_Text, F_Text, 2)) (q0 := 1) (ci := 10) hK hP rfl rfl, fun U hU hW => ⟨rfl, by rw [hU], by rw [hU]; exact hPc, va_K.moved hW.alike hKc, hDc.weaken (fun _ _ _ _ => trivial)⟩⟩ rfl rfl hl.1 rfl (lv_room (Nat.le_of_ble_eq_true rfl)) d_Cutter_lineEnd_29 ⟨Nat.zero_le _, Nat.zero_le _⟩) hS (fun q _ h => hFc q h) hFc (fun r u t H1 locs ht hvm hw hB hz1 hk1 hS => ?_)
    obtain ⟨hP1, hK1, hD1⟩ := hB
    subst r
    rw [ht] at hP1
    obtain ⟨hP, hD⟩ := va_join (wr := [(a_y0_characters, .inl (ka_y0_characters, 240, .inl f_y0_characters))]) (w1 := [(a_y0, .inr (10, [.ref a_y0_characters, .int (nI n_y0_length)]))]) hP hD [1] [0] rfl rfl (by decide) (by decide) hk1 hFc hP1 hD1
    generalize H1 = H at hP hS ⊢
    have hP : va_P (dC, dI) vcl [(a_y0_characters, .inl (ka_y0_characters, 240, .inl f_y0_characters)), (a_y0, .inr (10, [.ref a_y0_characters, .int (nI n_y0_length)]))] H := hP
    have hD : va_D A [(a_y0_characters, .inl (ka_y0_characters, 240, .inl f_y0_characters)), (a_y0, .inr (10, [.ref a_y0_characters, .int (nI n_y0_length)]))] := hD
    have hP9 := hP.sub (ws' := [(a_y0, .inr (10, [.ref a_y0_characters, .int (nI n_y0_length)])), (a_y0_characters, .inl (ka_y0_characters, 240, .inl f_y0_characters))]) [1, 0] rfl
    have hD9 := hD.sub (ws' := [(a_y0, .inr (10, [.ref a_y0_characters, .int (nI n_y0_length)])), (a_y0_characters, .inl (ka_y0_characters, 240, .inl f_y0_characters))]) [1, 0] (by decide) rfl
    exact W.iret (v := (nI n_y0_length)) hx hb hr (fun t ht hW => ⟨⟨(nI n_y0_length), (), rfl, ⟨n_y0_length, by first | exact (scE_stop (Or.inr (by rw [e17]; decide))).symm.trans iE | exact (show n_y0_length = k2 by omega).trans ((scE_stop (Or.inl (by omega))).symm.trans iE), rfl⟩, by rw [ht]; exact hP9, va_K.moved hW.alike hK, hD9⟩, hS.F ht⟩) hS.2.2 d_Cutter_lineEnd_32
  · have h1 : ¬ n_y0_length ≤ k2 := fun q => h1 ((nI_leI (a := n_y0_length) (b := k2) (by omega) (by omega)).mpr q)
    refine lv_aload_n hx hb d_Cutter_lineEnd_10 rfl (lv_at hl 1 rfl) ?_
    refine lv_iload_n hx hb d_Cutter_lineEnd_11 rfl (lv_at hl 0 rfl) ?_
    have hPc := hP.sub (ws' := [(a_y0, .inr (10, [.ref a_y0_characters, .int (nI n_y0_length)])), (a_y0_characters, .inl (ka_y0_characters, 240, .inl f_y0_characters))]) [1, 0] rfl
    have hDc := hD.sub (ws' := [(a_y0, .inr (10, [.ref a_y0_characters, .int (nI n_y0_length)])), (a_y0_characters, .inl (ka_y0_characters, 240, .inl f_y0_characters))]) [1, 0] (by decide) rfl
    have hKc := hK.sub (tys' := [(ka_y0_characters, .char)]) [0] rfl
    have hFc := va_free (wc := [(a_y0, .inr (10, [.ref a_y0_characters, .int (nI n_y0_length)])), (a_y0_characters, .inl (ka_y0_characters, 240, .inl f_y0_characters))]) hD hS hA [1, 0] rfl
    refine va_calli (va_runV (As := [.int (nI k2)]) (rest := []) ⟨hx, hb, hml, hown, hz⟩ (s_Text_at6 l dC dI H.size a_y0 a_y0_characters f_y0_characters n_y0_length k2 ka_y0_characters (by first | omega | assumption | exact Or.inl rfl | exact Or.inr rfl) (by first | omega | assumption | exact Or.inl rfl | exact Or.inr rfl) (by first | omega | assumption | exact Or.inl rfl | exact Or.inr rfl)) (cwV 1 hz (zV zm_89 zm_11 zm_12 zm_7 zm_13) rfl rfl rfl (by decide +kernel) ⟨Nat.le_of_ble_eq_true rfl, Nat.le_of_ble_eq_true rfl⟩) ⟨fun a U g mk q => by obtain ⟨q0, q1, qP, qK, qD⟩ := q; exact ⟨q0, q1, qP, va_K.moved (u := U) (U := U.calling g mk a) (Vm.Alike.refl U.vm) qK, qD⟩, va_recv (q := (R_Text, F_Text, 2)) (q0 := 1) (ci := 10) hK hP rfl rfl, fun U hU hW => ⟨rfl, by rw [hU], by rw [hU]; exact hPc, va_K.moved hW.alike hKc, hDc.weaken (fun _ _ _ _ => trivial)⟩⟩ rfl rfl hl.1 rfl (lv_room (Nat.le_of_ble_eq_true rfl)) d_Cutter_lineEnd_12 ⟨Nat.zero_le _, Nat.zero_le _⟩) hS (fun q _ h => hFc q h) hFc (fun r u t H1 locs ht hvm hw hB hz1 hk1 hS => ?_)
    obtain ⟨hP1, hK1, hD1⟩ := hB
    subst r
    rw [ht] at hP1
    obtain ⟨hP, hD⟩ := va_join (wr := []) (w1 := [(a_y0, .inr (10, [.ref a_y0_characters, .int (nI n_y0_length)])), (a_y0_characters, .inl (ka_y0_characters, 240, .inl f_y0_characters))]) hP hD [1, 0] [] rfl rfl (by decide) (by decide) hk1 hFc hP1 hD1
    generalize H1 = H at hP hS ⊢
    have hP : va_P (dC, dI) vcl [(a_y0, .inr (10, [.ref a_y0_characters, .int (nI n_y0_length)])), (a_y0_characters, .inl (ka_y0_characters, 240, .inl f_y0_characters))] H := hP
    have hD : va_D A [(a_y0, .inr (10, [.ref a_y0_characters, .int (nI n_y0_length)])), (a_y0_characters, .inl (ka_y0_characters, 240, .inl f_y0_characters))] := hD
    refine lv_bipush (v := 10) hx hb d_Cutter_lineEnd_15 (by decide) ?_
    refine lv_icmp_ne (tgt := 22) hx hb d_Cutter_lineEnd_17 (by decide) (fun h2 => ?_) (fun h2 => ?_)
    · have e17 := h2
      refine lv_iinc (k := 0) (v := (nI (k2 + 1))) hx hb d_Cutter_lineEnd_22 hl rfl (nI_1 k2) (by decide) rfl (fun ls hl => ?_)
      have hl : lv_has ls 3 [(2, .int (nI (k2 + 1))), (0, .ref a_y0), (1, .int (nI y1))] := hl
      refine lv_goto (tgt := 2) hx hb d_Cutter_lineEnd_25 (by decide) ?_
      have hP9 := hP.sub (ws' := [(a_y0, .inr (10, [.ref a_y0_characters, .int (nI n_y0_length)])), (a_y0_characters, .inl (ka_y0_characters, 240, .inl f_y0_characters))]) [0, 1] rfl
      have hD9 := hD.sub (ws' := [(a_y0, .inr (10, [.ref a_y0_characters, .int (nI n_y0_length)])), (a_y0_characters, .inl (ka_y0_characters, 240, .inl f_y0_characters))]) [0, 1] (by decide) rfl
      exact ih2 ((k2 + 1)) (by show 240 - ((k2 + 1)) < 240 - k2; omega) _ _ _ ⟨by show ((k2 + 1)) ≤ 240; first | omega | assumption | exact Or.inl rfl | exact Or.inr rfl | decide, by show ((k2 + 1)) ≤ n_y0_length; first | omega | assumption | exact Or.inl rfl | exact Or.inr rfl | decide, by show y1 ≤ ((k2 + 1)); first | omega | assumption | exact Or.inl rfl | exact Or.inr rfl | decide, by show scE (fun x => !(x == 10)) (cN f_y0_characters n_y0_length) n_y0_length ((k2 + 1)) = scE (fun x => !(x == 10)) (cN f_y0_characters n_y0_length) n_y0_length y1; exact (scE_go (by omega) (by simpa using e17)).symm.trans iE, hl, hP9, hD9, hS⟩
    · have e17 := h2
      refine lv_iload_n hx hb d_Cutter_lineEnd_20 rfl (lv_at hl 0 rfl) ?_
      have hP9 := hP.sub (ws' := [(a_y0, .inr (10, [.ref a_y0_characters, .int (nI n_y0_length)])), (a_y0_characters, .inl (ka_y0_characters, 240, .inl f_y0_characters))]) [0, 1] rfl
      have hD9 := hD.sub (ws' := [(a_y0, .inr (10, [.ref a_y0_characters, .int (nI n_y0_length)])), (a_y0_characters, .inl (ka_y0_characters, 240, .inl f_y0_characters))]) [0, 1] (by decide) rfl
      exact W.iret (v := (nI k2)) hx hb hr (fun t ht hW => ⟨⟨(nI k2), (), rfl, ⟨k2, by first | exact (scE_stop (Or.inr (by rw [e17]; decide))).symm.trans iE | exact (show n_y0_length = k2 by omega).trans ((scE_stop (Or.inl (by omega))).symm.trans iE), rfl⟩, by rw [ht]; exact hP9, va_K.moved hW.alike hK, hD9⟩, hS.F ht⟩) hS.2.2 d_Cutter_lineEnd_21
set_option maxHeartbeats 4000000 in
set_option maxRecDepth 100000 in
theorem s_Text_packed6 (l : Launch) (dC : Nat → ClassId) (dI : Nat → Nat → Nat) (sz : Nat) (a_t : Nat) (a_characters : Nat) (f_characters : Nat → Int32) (n_length : Nat) (y0 : Nat) (y1 : Nat) (ka_characters : ClassId) (c_characters : ∀ j, narrow .char (.int (f_characters j)) = .int (f_characters j)) (b_length : n_length ≤ 240) (by0 : y0 ≤ 241) (by1 : y1 ≤ 240) (hp0 : y0 ≤ y1) (hp1 : y1 - y0 ≤ 8) : Met l y_Text_packed w_Text_packed ({ frames := 1, cells := 0, slots := 0, locals := 21 }) (va_Pc [.ref a_t, .int (nI y0), .int (nI y1)] (fun U => U.heap.size = sz ∧ va_P (dC, dI) vcl [(a_t, .inr (10, [.ref a_characters, .int (nI n_length)])), (a_characters, .inl (ka_characters, 240, .inl f_characters))] U.heap ∧ va_K (dC, dI) vcl [(ka_characters, .char)] U ∧ va_D (fun _ => True) [(a_t, .inr (10, [.ref a_characters, .int (nI n_length)])), (a_characters, .inl (ka_characters, 240, .inl f_characters))])) (va_Ql (fun (r : Int64) (_ : Unit) => r = pkL (cN f_characters n_length) y0 (y1 - y0)) (fun _ t => va_P (dC, dI) vcl [(a_t, .inr (10, [.ref a_characters, .int (nI n_length)])), (a_characters, .inl (ka_characters, 240, .inl f_characters))] t.heap ∧ va_K (dC, dI) vcl [(ka_characters, .char)] t ∧ va_D (va_A [(a_t, .inr (10, [.ref a_characters, .int (nI n_length)])), (a_characters, .inl (ka_characters, 240, .inl f_characters))] sz) [(a_t, .inr (10, [.ref a_characters, .int (nI n_length)])), (a_characters, .inl (ka_characters, 240, .inl f_characters))]) (va_A [(a_t, .inr (10, [.ref a_characters, .int (nI n_length)])), (a_characters, .inl (ka_characters, 240, .inl f_characters))] sz)) 0 0 (va_A [(a_t, .inr (10, [.ref a_characters, .int (nI n_length)])), (a_characters, .inl (ka_characters, 240, .inl f_characters))] sz) := by
  refine Met.ofW (cc := b_Text_packed) (maxL := 6) (ret := (some .long)) (by decide) rfl ?_
  intro p e s m args below meth c s₁ B hml hv
  obtain ⟨rfl, hsz, hP, hK, hD0⟩ := hv
  have hx := B.exec
  have hb := B.bytes
  have hr := B.returns
  have hts := atoms_spec (ws := w_Text_packed) B.pre
  have hz : ∀ w ∈ wz, w.before _ s = true := fun w h => hts w (List.mem_cons_of_mem _ h)
  have hown : s.vm.findClass R_Text = some m.cls := findClass_of_methodNamed B.named
  have hlocks := B.notSynchronized
  subst hsz
  have hD := hD0.self (sz := s.heap.size)
  generalize hAe : va_A [(a_t, .inr (10, [.ref a_characters, .int (nI n_length)])), (a_characters, .inl (ka_characters, 240, .inl f_characters))] s.heap.size = A at hD ⊢
  have hA : ∀ q : Nat, s.heap.size ≤ q → A q := fun q h => by rw [← hAe]; exact Or.inr h
  have hS : va_S A s.heap s.heap [] := va_S.rf
  have hP : va_P (dC, dI) vcl [(a_t, .inr (10, [.ref a_characters, .int (nI n_length)])), (a_characters, .inl (ka_characters, 240, .inl f_characters))] s.heap := hP
  have hl := lv_entry ([.ref a_t, .int (nI y0), .int (nI y1)]) (n := 6) (Nat.le_of_ble_eq_true rfl)
  rw [lg_entry_eq]
  generalize (lg_sl ([.ref a_t, .int (nI y0), .int (nI y1)]) ++ List.replicate (6 - (lg_sl ([.ref a_t, .int (nI y0), .int (nI y1)])).length) Slot.unset).toArray = ls at hl ⊢
  have hl : lv_has ls 6 [(0, .ref a_t), (1, .int (nI y0)), (2, .int (nI y1))] := hl
  refine lv_lconst (v := 0) hx hb d_Text_packed_0 (by decide) ?_
  refine lv_lstore_n hx hb d_Text_packed_1 rfl hl (by decide) rfl (fun ls hl => ?_)
  have hl : lv_has ls 6 [(3, .long 0), (0, .ref a_t), (1, .int (nI y0)), (2, .int (nI y1))] := hl
  refine lv_iload_n hx hb d_Text_packed_2 rfl (lv_at hl 3 rfl) ?_
  refine lv_iconst (v := 1) hx hb d_Text_packed_3 (by decide) ?_
  refine xr_isub (v := (nI y1 - 1)) hx hb d_Text_packed_4 rfl ?_
  refine lv_istore hx hb d_Text_packed_5 hl (by decide) rfl (fun ls hl => ?_)
  have hl : lv_has ls 6 [(5, .int (nI y1 - 1)), (3, .long 0), (0, .ref a_t), (1, .int (nI y0)), (2, .int (nI y1))] := hl
  refine xr_loop (α := (Nat) × (Int64)) (fun a => (fun (k5 : Nat) (k3 : Int64) => k5) a.1 a.2) (fun a H locs ls => (fun (k5 : Nat) (k3 : Int64) => (k5 ≤ 240) ∧ (y0 ≤ k5) ∧ (k5 ≤ y1) ∧ (k3 = hnL (cN f_characters n_length) k5 (y1 - k5)) ∧ lv_has ls 6 [(5, .int (nI k5 - 1)), (3, .long k3), (0, .ref a_t), (1, .int (nI y0)), (2, .int (nI y1))] ∧ va_P (dC, dI) vcl [(a_t, .inr (10, [.ref a_characters, .int (nI n_length)])), (a_characters, .inl (ka_characters, 240, .inl f_characters))] H ∧ va_D A [(a_t, .inr (10, [.ref a_characters, .int (nI n_length)])), (a_characters, .inl (ka_characters, 240, .inl f_characters))] ∧ va_S A s.heap H locs) a.1 a.2) (fun a ih7 H locs ls hI => ?_) (y1, 0) _ _ _ ⟨by show y1 ≤ 240; first | omega | assumption | exact Or.inl rfl | exact Or.inr rfl | decide, by show y0 ≤ y1; first | omega | assumption | exact Or.inl rfl | exact Or.inr rfl | decide, by show y1 ≤ y1; first | omega | assumption | exact Or.inl rfl | exact Or.inr rfl | decide, by show 0 = hnL (cN f_characters n_length) y1 (y1 - y1); first | rfl | (rw [Nat.sub_self]; rfl), hl, hP, hD, hS⟩
  obtain ⟨k5, k3⟩ := a
  obtain ⟨bl0, bl1, bl2, bl3, hl, hP, hD, hS⟩ := hI
  have bl0 : k5 ≤ 240 := bl0
  have bl1 : y0 ≤ k5 := bl1
  have bl2 : k5 ≤ y1 := bl2
  have bl3 : k3 = hnL (cN f_characters n_length) k5 (y1 - k5) := bl3
  have iE := bl3
  have hl : lv_has ls 6 [(5, .int (nI k5 - 1)), (3, .long k3), (0, .ref a_t), (1, .int (nI y0)), (2, .int (nI y1))] := hl
  have hP : va_P (dC, dI) vcl [(a_t, .inr (10, [.ref a_characters, .int (nI n_length)])), (a_characters, .inl (ka_characters, 240, .inl f_characters))] H := hP
  have hD : va_D A [(a_t, .inr (10, [.ref a_characters, .int (nI n_length)])), (a_characters, .inl (ka_characters, 240, .inl f_characters))] := hD
  refine lv_iload hx hb d_Text_packed_7 (lv_at hl 0 rfl) ?_
  refine lv_iload_n hx hb d_Text_packed_9 rfl (lv_at hl 3 rfl) ?_
  refine lv_icmp_lt (tgt := 32) hx hb d_Text_packed_10 (by decide) (fun h1 => ?_) (fun h1 => ?_)
  · have h1 : k5 ≤ y0 := (xr_pred_ltn (by omega) (by omega)).mp h1
    refine lv_lload_n hx hb d_Text_packed_32 rfl (lv_at hl 1 rfl) ?_
    have hP9 := hP.sub (ws' := [(a_t, .inr (10, [.ref a_characters, .int (nI n_length)])), (a_characters, .inl (ka_characters, 240, .inl f_characters))]) [0, 1] rfl
    have hD9 := hD.sub (ws' := [(a_t, .inr (10, [.ref a_characters, .int (nI n_length)])), (a_characters, .inl (ka_characters, 240, .inl f_characters))]) [0, 1] (by decide) rfl
    exact W.lret (v := k3) hx hb hr (fun t ht hW => ⟨⟨k3, (), rfl, (by have e9 : k5 = y0 := (by omega); rw [e9] at iE; exact iE.trans (hn_pk _ _ (by omega))), by rw [ht]; exact hP9, va_K.moved hW.alike hK, hD9⟩, hS.F ht⟩) hS.2.2 d_Text_packed_33
  · have h1 : ¬ k5 ≤ y0 := fun q => h1 ((xr_pred_ltn (by omega) (by omega)).mpr q)
    have e_h1 : nI k5 - 1 = nI (k5 - 1) := pk_sub (a := k5) (b := 1) (by omega)
    have hl : lv_has ls 6 [(5, .int (nI (k5 - 1))), (3, .long k3), (0, .ref a_t), (1, .int (nI y0)), (2, .int (nI y1))] := Eq.mp (congrArg (lv_has ls 6) (by rw [e_h1])) hl
    refine lv_lload_n hx hb d_Text_packed_13 rfl (lv_at hl 1 rfl) ?_
    refine lv_bipush (v := 8) hx hb d_Text_packed_14 (by decide) ?_
    refine lv_lshl (v := (k3 <<< ((8 : Int32).toInt64 &&& 63))) hx hb d_Text_packed_16 rfl ?_
    refine lv_aload_n hx hb d_Text_packed_17 rfl (lv_at hl 2 rfl) ?_
    refine lv_iload hx hb d_Text_packed_18 (lv_at hl 0 rfl) ?_
    have hPc := hP.sub (ws' := [(a_t, .inr (10, [.ref a_characters, .int (nI n_length)])), (a_characters, .inl (ka_characters, 240, .inl f_characters))]) [0, 1] rfl
    have hDc := hD.sub (ws' := [(a_t, .inr (10, [.ref a_characters, .int (nI n_length)])), (a_characters, .inl (ka_characters, 240, .inl f_characters))]) [0, 1] (by decide) rfl
    have hKc := hK.sub (tys' := [(ka_characters, .char)]) [0] rfl
    have hFc := va_free (wc := [(a_t, .inr (10, [.ref a_characters, .int (nI n_length)])), (a_characters, .inl (ka_characters, 240, .inl f_characters))]) hD hS hA [0, 1] rfl
    refine va_calli (va_runV (As := [.int (nI (k5 - 1))]) (rest := [.long (k3 <<< ((8 : Int32).toInt64 &&& 63))]) ⟨hx, hb, hml, hown, hz⟩ (s_Text_at6 l dC dI H.size a_t a_characters f_characters n_length ((k5 - 1)) ka_characters (by first | omega | assumption | exact Or.inl rfl | exact Or.inr rfl) (by first | omega | assumption | exact Or.inl rfl | exact Or.inr rfl) (by first | omega | assumption | exact Or.inl rfl | exact Or.inr rfl)) (cwV 1 hz (zV zm_10 zm_11 zm_12 zm_7 zm_13) rfl rfl rfl (by decide +kernel) ⟨Nat.le_of_ble_eq_true rfl, Nat.le_of_ble_eq_true rfl⟩) ⟨fun a U g mk q => by obtain ⟨q0, q1, qP, qK, qD⟩ := q; exact ⟨q0, q1, qP, va_K.moved (u := U) (U := U.calling g mk a) (Vm.Alike.refl U.vm) qK, qD⟩, va_recv (q := (R_Text, F_Text, 2)) (q0 := 0) (ci := 10) hK hP rfl rfl, fun U hU hW => ⟨rfl, by rw [hU], by rw [hU]; exact hPc, va_K.moved hW.alike hKc, hDc.weaken (fun _ _ _ _ => trivial)⟩⟩ rfl rfl hl.1 rfl (lv_room (Nat.le_of_ble_eq_true rfl)) d_Text_packed_20 ⟨Nat.zero_le _, Nat.zero_le _⟩) hS (fun q _ h => hFc q h) hFc (fun r u t H1 locs ht hvm hw hB hz1 hk1 hS => ?_)
    obtain ⟨hP1, hK1, hD1⟩ := hB
    subst r
    rw [ht] at hP1
    obtain ⟨hP, hD⟩ := va_join (wr := []) (w1 := [(a_t, .inr (10, [.ref a_characters, .int (nI n_length)])), (a_characters, .inl (ka_characters, 240, .inl f_characters))]) hP hD [0, 1] [] rfl rfl (by decide) (by decide) hk1 hFc hP1 hD1
    generalize H1 = H at hP hS ⊢
    have hP : va_P (dC, dI) vcl [(a_t, .inr (10, [.ref a_characters, .int (nI n_length)])), (a_characters, .inl (ka_characters, 240, .inl f_characters))] H := hP
    have hD : va_D A [(a_t, .inr (10, [.ref a_characters, .int (nI n_length)])), (a_characters, .inl (ka_characters, 240, .inl f_characters))] := hD
    refine lv_i2l (v := (cN f_characters n_length ((k5 - 1))).toInt64) hx hb d_Text_packed_23 rfl ?_
    refine xo_lor (v := ((k3 <<< ((8 : Int32).toInt64 &&& 63)) ||| ((cN f_characters n_length) (k5 - 1)).toInt64)) hx hb d_Text_packed_24 rfl ?_
    refine lv_lstore_n hx hb d_Text_packed_25 rfl hl (by decide) rfl (fun ls hl => ?_)
    have hl : lv_has ls 6 [(3, .long ((k3 <<< ((8 : Int32).toInt64 &&& 63)) ||| ((cN f_characters n_length) (k5 - 1)).toInt64)), (5, .int (nI (k5 - 1))), (0, .ref a_t), (1, .int (nI y0)), (2, .int (nI y1))] := hl
    refine lv_iinc (k := 1) (v := (nI (k5 - 1) - 1)) hx hb d_Text_packed_26 hl rfl (xr_dec2 _) (by decide) rfl (fun ls hl => ?_)
    have hl : lv_has ls 6 [(5, .int (nI (k5 - 1) - 1)), (3, .long ((k3 <<< ((8 : Int32).toInt64 &&& 63)) ||| ((cN f_characters n_length) (k5 - 1)).toInt64)), (0, .ref a_t), (1, .int (nI y0)), (2, .int (nI y1))] := hl
    refine lv_goto (tgt := 7) hx hb d_Text_packed_29 (by decide) ?_
    have hP9 := hP.sub (ws' := [(a_t, .inr (10, [.ref a_characters, .int (nI n_length)])), (a_characters, .inl (ka_characters, 240, .inl f_characters))]) [0, 1] rfl
    have hD9 := hD.sub (ws' := [(a_t, .inr (10, [.ref a_characters, .int (nI n_length)])), (a_characters, .inl (ka_characters, 240, .inl f_characters))]) [0, 1] (by decide) rfl
    exact ih7 ((k5 - 1), ((k3 <<< ((8 : Int32).toInt64 &&& 63)) ||| ((cN f_characters n_length) (k5 - 1)).toInt64)) (by show ((k5 - 1)) < k5; omega) _ _ _ ⟨by show ((k5 - 1)) ≤ 240; first | omega | assumption | exact Or.inl rfl | exact Or.inr rfl | decide, by show y0 ≤ ((k5 - 1)); first | omega | assumption | exact Or.inl rfl | exact Or.inr rfl | decide, by show ((k5 - 1)) ≤ y1; first | omega | assumption | exact Or.inl rfl | exact Or.inr rfl | decide, by show (((k3 <<< ((8 : Int32).toInt64 &&& 63)) ||| ((cN f_characters n_length) (k5 - 1)).toInt64)) = hnL (cN f_characters n_length) ((k5 - 1)) (y1 - ((k5 - 1))); exact hn_s (by omega) iE (by omega), hl, hP9, hD9, hS⟩
set_option maxHeartbeats 4000000 in
set_option maxRecDepth 100000 in
theorem s_Text_number6 (l : Launch) (dC : Nat → ClassId) (dI : Nat → Nat → Nat) (sz : Nat) (a_t : Nat) (a_characters : Nat) (f_characters : Nat → Int32) (n_length : Nat) (y0 : Nat) (y1 : Nat) (ka_characters : ClassId) (c_characters : ∀ j, narrow .char (.int (f_characters j)) = .int (f_characters j)) (b_length : n_length ≤ 240) (by0 : y0 ≤ 241) (by1 : y1 ≤ 240) (hp0 : y0 ≤ y1) (hp1 : ∀ j, y0 ≤ j → j < y1 → ¬ wi ((cN f_characters n_length) j) 48 57 = 0) : Met l y_Text_number w_Text_number ({ frames := 1, cells := 0, slots := 0, locals := 21 }) (va_Pc [.ref a_t, .int (nI y0), .int (nI y1)] (fun U => U.heap.size = sz ∧ va_P (dC, dI) vcl [(a_t, .inr (10, [.ref a_characters, .int (nI n_length)])), (a_characters, .inl (ka_characters, 240, .inl f_characters))] U.heap ∧ va_K (dC, dI) vcl [(ka_characters, .char)] U ∧ va_D (fun _ => True) [(a_t, .inr (10, [.ref a_characters, .int (nI n_length)])), (a_characters, .inl (ka_characters, 240, .inl f_characters))])) (va_Ql (fun (r : Int64) (_ : Unit) => r = nmL (cN f_characters n_length) y0 (y1 - y0)) (fun _ t => va_P (dC, dI) vcl [(a_t, .inr (10, [.ref a_characters, .int (nI n_length)])), (a_characters, .inl (ka_characters, 240, .inl f_characters))] t.heap ∧ va_K (dC, dI) vcl [(ka_characters, .char)] t ∧ va_D (va_A [(a_t, .inr (10, [.ref a_characters, .int (nI n_length)])), (a_characters, .inl (ka_characters, 240, .inl f_characters))] sz) [(a_t, .inr (10, [.ref a_characters, .int (nI n_length)])), (a_characters, .inl (ka_characters, 240, .inl f_characters))]) (va_A [(a_t, .inr (10, [.ref a_characters, .int (nI n_length)])), (a_characters, .inl (ka_characters, 240, .inl f_characters))] sz)) 0 0 (va_A [(a_t, .inr (10, [.ref a_characters, .int (nI n_length)])), (a_characters, .inl (ka_characters, 240, .inl f_characters))] sz) := by
  refine Met.ofW (cc := b_Text_number) (maxL := 6) (ret := (some .long)) (by decide) rfl ?_
  intro p e s m args below meth c s₁ B hml hv
  obtain ⟨rfl, hsz, hP, hK, hD0⟩ := hv
  have hx := B.exec
  have hb := B.bytes
  have hr := B.returns
  have hts := atoms_spec (ws := w_Text_number) B.pre
  have hz : ∀ w ∈ wz, w.before _ s = true := fun w h => hts w (List.mem_cons_of_mem _ h)
  have hown : s.vm.findClass R_Text = some m.cls := findClass_of_methodNamed B.named
  have hlocks := B.notSynchronized
  subst hsz
  have hD := hD0.self (sz := s.heap.size)
  generalize hAe : va_A [(a_t, .inr (10, [.ref a_characters, .int (nI n_length)])), (a_characters, .inl (ka_characters, 240, .inl f_characters))] s.heap.size = A at hD ⊢
  have hA : ∀ q : Nat, s.heap.size ≤ q → A q := fun q h => by rw [← hAe]; exact Or.inr h
  have hS : va_S A s.heap s.heap [] := va_S.rf
  have hP : va_P (dC, dI) vcl [(a_t, .inr (10, [.ref a_characters, .int (nI n_length)])), (a_characters, .inl (ka_characters, 240, .inl f_characters))] s.heap := hP
  have hl := lv_entry ([.ref a_t, .int (nI y0), .int (nI y1)]) (n := 6) (Nat.le_of_ble_eq_true rfl)
  rw [lg_entry_eq]
  generalize (lg_sl ([.ref a_t, .int (nI y0), .int (nI y1)]) ++ List.replicate (6 - (lg_sl ([.ref a_t, .int (nI y0), .int (nI y1)])).length) Slot.unset).toArray = ls at hl ⊢
  have hl : lv_has ls 6 [(0, .ref a_t), (1, .int (nI y0)), (2, .int (nI y1))] := hl
  refine lv_lconst (v := 0) hx hb d_Text_number_0 (by decide) ?_
  refine lv_lstore_n hx hb d_Text_number_1 rfl hl (by decide) rfl (fun ls hl => ?_)
  have hl : lv_has ls 6 [(3, .long 0), (0, .ref a_t), (1, .int (nI y0)), (2, .int (nI y1))] := hl
  refine lv_iload_n hx hb d_Text_number_2 rfl (lv_at hl 2 rfl) ?_
  refine lv_istore hx hb d_Text_number_3 hl (by decide) rfl (fun ls hl => ?_)
  have hl : lv_has ls 6 [(5, .int (nI y0)), (3, .long 0), (0, .ref a_t), (1, .int (nI y0)), (2, .int (nI y1))] := hl
  refine xr_loop (α := (Nat) × (Int64)) (fun a => (fun (k5 : Nat) (k3 : Int64) => 241 - k5) a.1 a.2) (fun a H locs ls => (fun (k5 : Nat) (k3 : Int64) => (k5 ≤ 241) ∧ (y0 ≤ k5) ∧ (k5 ≤ y1) ∧ (k3 = nmL (cN f_characters n_length) y0 (k5 - y0)) ∧ lv_has ls 6 [(5, .int (nI k5)), (3, .long k3), (0, .ref a_t), (1, .int (nI y0)), (2, .int (nI y1))] ∧ va_P (dC, dI) vcl [(a_t, .inr (10, [.ref a_characters, .int (nI n_length)])), (a_characters, .inl (ka_characters, 240, .inl f_characters))] H ∧ va_D A [(a_t, .inr (10, [.ref a_characters, .int (nI n_length)])), (a_characters, .inl (ka_characters, 240, .inl f_characters))] ∧ va_S A s.heap H locs) a.1 a.2) (fun a ih5 H locs ls hI => ?_) (y0, 0) _ _ _ ⟨by show y0 ≤ 241; first | omega | assumption | exact Or.inl rfl | exact Or.inr rfl | decide, by show y0 ≤ y0; first | omega | assumption | exact Or.inl rfl | exact Or.inr rfl | decide, by show y0 ≤ y1; first | omega | assumption | exact Or.inl rfl | exact Or.inr rfl | decide, by show 0 = nmL (cN f_characters n_length) y0 (y0 - y0); first | rfl | (rw [Nat.sub_self]; rfl), hl, hP, hD, hS⟩
  obtain ⟨k5, k3⟩ := a
  obtain ⟨bl0, bl1, bl2, bl3, hl, hP, hD, hS⟩ := hI
  have bl0 : k5 ≤ 241 := bl0
  have bl1 : y0 ≤ k5 := bl1
  have bl2 : k5 ≤ y1 := bl2
  have bl3 : k3 = nmL (cN f_characters n_length) y0 (k5 - y0) := bl3
  have iE := bl3
  have hl : lv_has ls 6 [(5, .int (nI k5)), (3, .long k3), (0, .ref a_t), (1, .int (nI y0)), (2, .int (nI y1))] := hl
  have hP : va_P (dC, dI) vcl [(a_t, .inr (10, [.ref a_characters, .int (nI n_length)])), (a_characters, .inl (ka_characters, 240, .inl f_characters))] H := hP
  have hD : va_D A [(a_t, .inr (10, [.ref a_characters, .int (nI n_length)])), (a_characters, .inl (ka_characters, 240, .inl f_characters))] := hD
  refine lv_iload hx hb d_Text_number_5 (lv_at hl 0 rfl) ?_
  refine lv_iload_n hx hb d_Text_number_7 rfl (lv_at hl 4 rfl) ?_
  refine lv_icmp_ge (tgt := 34) hx hb d_Text_number_8 (by decide) (fun h1 => ?_) (fun h1 => ?_)
  · have h1 : y1 ≤ k5 := (nI_leI (a := y1) (b := k5) (by omega) (by omega)).mp h1
    refine lv_lload_n hx hb d_Text_number_34 rfl (lv_at hl 1 rfl) ?_
    have hP9 := hP.sub (ws' := [(a_t, .inr (10, [.ref a_characters, .int (nI n_length)])), (a_characters, .inl (ka_characters, 240, .inl f_characters))]) [0, 1] rfl
    have hD9 := hD.sub (ws' := [(a_t, .inr (10, [.ref a_characters, .int (nI n_length)])), (a_characters, .inl (ka_characters, 240, .inl f_characters))]) [0, 1] (by decide) rfl
    exact W.lret (v := k3) hx hb hr (fun t ht hW => ⟨⟨k3, (), rfl, (by have e9 : k5 = y1 := (by omega); rw [e9] at iE; exact iE), by rw [ht]; exact hP9, va_K.moved hW.alike hK, hD9⟩, hS.F ht⟩) hS.2.2 d_Text_number_35
  · have h1 : ¬ y1 ≤ k5 := fun q => h1 ((nI_leI (a := y1) (b := k5) (by omega) (by omega)).mpr q)
    refine lv_lload_n hx hb d_Text_number_11 rfl (lv_at hl 1 rfl) ?_
    refine lv_ldc2 (v := 10) hx hb hown (hz (.constantLong R_Text 27 10) zm_14) d_Text_number_12 ?_
    refine lv_lmul hx hb d_Text_number_15 ?_
    refine lv_aload_n hx hb d_Text_number_16 rfl (lv_at hl 2 rfl) ?_
    refine lv_iload hx hb d_Text_number_17 (lv_at hl 0 rfl) ?_
    have hPc := hP.sub (ws' := [(a_t, .inr (10, [.ref a_characters, .int (nI n_length)])), (a_characters, .inl (ka_characters, 240, .inl f_characters))]) [0, 1] rfl
    have hDc := hD.sub (ws' := [(a_t, .inr (10, [.ref a_characters, .int (nI n_length)])), (a_characters, .inl (ka_characters, 240, .inl f_characters))]) [0, 1] (by decide) rfl
    have hKc := hK.sub (tys' := [(ka_characters, .char)]) [0] rfl
    have hFc := va_free (wc := [(a_t, .inr (10, [.ref a_characters, .int (nI n_length)])), (a_characters, .inl (ka_characters, 240, .inl f_characters))]) hD hS hA [0, 1] rfl
    refine va_calli (va_runV (As := [.int (nI k5)]) (rest := [.long (k3 * 10)]) ⟨hx, hb, hml, hown, hz⟩ (s_Text_at6 l dC dI H.size a_t a_characters f_characters n_length k5 ka_characters (by first | omega | assumption | exact Or.inl rfl | exact Or.inr rfl) (by first | omega | assumption | exact Or.inl rfl | exact Or.inr rfl) (by first | omega | assumption | exact Or.inl rfl | exact Or.inr rfl)) (cwV 1 hz (zV zm_10 zm_11 zm_12 zm_7 zm_13) rfl rfl rfl (by decide +kernel) ⟨Nat.le_of_ble_eq_true rfl, Nat.le_of_ble_eq_true rfl⟩) ⟨fun a U g mk q => by obtain ⟨q0, q1, qP, qK, qD⟩ := q; exact ⟨q0, q1, qP, va_K.moved (u := U) (U := U.calling g mk a) (Vm.Alike.refl U.vm) qK, qD⟩, va_recv (q := (R_Text, F_Text, 2)) (q0 := 0) (ci := 10) hK hP rfl rfl, fun U hU hW => ⟨rfl, by rw [hU], by rw [hU]; exact hPc, va_K.moved hW.alike hKc, hDc.weaken (fun _ _ _ _ => trivial)⟩⟩ rfl rfl hl.1 rfl (lv_room (Nat.le_of_ble_eq_true rfl)) d_Text_number_19 ⟨Nat.zero_le _, Nat.zero_le _⟩) hS (fun q _ h => hFc q h) hFc (fun r u t H1 locs ht hvm hw hB hz1 hk1 hS => ?_)
    obtain ⟨hP1, hK1, hD1⟩ := hB
    subst r
    rw [ht] at hP1
    obtain ⟨hP, hD⟩ := va_join (wr := []) (w1 := [(a_t, .inr (10, [.ref a_characters, .int (nI n_length)])), (a_characters, .inl (ka_characters, 240, .inl f_characters))]) hP hD [0, 1] [] rfl rfl (by decide) (by decide) hk1 hFc hP1 hD1
    generalize H1 = H at hP hS ⊢
    have hP : va_P (dC, dI) vcl [(a_t, .inr (10, [.ref a_characters, .int (nI n_length)])), (a_characters, .inl (ka_characters, 240, .inl f_characters))] H := hP
    have hD : va_D A [(a_t, .inr (10, [.ref a_characters, .int (nI n_length)])), (a_characters, .inl (ka_characters, 240, .inl f_characters))] := hD
    refine lv_bipush (v := 48) hx hb d_Text_number_22 (by decide) ?_
    refine xr_isub (v := ((cN f_characters n_length k5) - 48)) hx hb d_Text_number_24 rfl ?_
    refine lv_i2l (v := ((cN f_characters n_length k5) - 48).toInt64) hx hb d_Text_number_25 rfl ?_
    refine lv_ladd hx hb d_Text_number_26 ?_
    refine lv_lstore_n hx hb d_Text_number_27 rfl hl (by decide) rfl (fun ls hl => ?_)
    have hl : lv_has ls 6 [(3, .long ((k3 * 10) + (((cN f_characters n_length) k5) - 48).toInt64)), (5, .int (nI k5)), (0, .ref a_t), (1, .int (nI y0)), (2, .int (nI y1))] := hl
    refine lv_iinc (k := 1) (v := (nI (k5 + 1))) hx hb d_Text_number_28 hl rfl (nI_1 k5) (by decide) rfl (fun ls hl => ?_)
    have hl : lv_has ls 6 [(5, .int (nI (k5 + 1))), (3, .long ((k3 * 10) + (((cN f_characters n_length) k5) - 48).toInt64)), (0, .ref a_t), (1, .int (nI y0)), (2, .int (nI y1))] := hl
    refine lv_goto (tgt := 5) hx hb d_Text_number_31 (by decide) ?_
    have hP9 := hP.sub (ws' := [(a_t, .inr (10, [.ref a_characters, .int (nI n_length)])), (a_characters, .inl (ka_characters, 240, .inl f_characters))]) [0, 1] rfl
    have hD9 := hD.sub (ws' := [(a_t, .inr (10, [.ref a_characters, .int (nI n_length)])), (a_characters, .inl (ka_characters, 240, .inl f_characters))]) [0, 1] (by decide) rfl
    exact ih5 ((k5 + 1), ((k3 * 10) + (((cN f_characters n_length) k5) - 48).toInt64)) (by show 241 - ((k5 + 1)) < 241 - k5; omega) _ _ _ ⟨by show ((k5 + 1)) ≤ 241; first | omega | assumption | exact Or.inl rfl | exact Or.inr rfl | decide, by show y0 ≤ ((k5 + 1)); first | omega | assumption | exact Or.inl rfl | exact Or.inr rfl | decide, by show ((k5 + 1)) ≤ y1; first | omega | assumption | exact Or.inl rfl | exact Or.inr rfl | decide, by show (((k3 * 10) + (((cN f_characters n_length) k5) - 48).toInt64)) = nmL (cN f_characters n_length) y0 (((k5 + 1)) - y0); exact nm_s (by omega) iE (hp1 _ (by omega) (by omega)), hl, hP9, hD9, hS⟩
