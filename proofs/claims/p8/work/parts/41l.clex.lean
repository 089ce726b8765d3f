set_option maxHeartbeats 4000000 in
set_option maxRecDepth 100000 in
theorem s_Cutter_cutLexeme6 (l : Launch) (dC : Nat → ClassId) (dI : Nat → Nat → Nat) (sz : Nat) (a_t : Nat) (a_lexemes : Nat) (a_lexemes_tokens : Nat) (a_lexemes_tokens_kinds : Nat) (f_lexemes_tokens_kinds : Nat → Int32) (a_lexemes_tokens_values : Nat) (f_lexemes_tokens_values : Nat → Int64) (n_lexemes_tokens_size : Nat) (a_lexemes_places : Nat) (f_lexemes_places : Nat → Int32) (a_lexemes_columns : Nat) (f_lexemes_columns : Nat → Int32) (a_lexemes_lineFirsts : Nat) (f_lexemes_lineFirsts : Nat → Int32) (n_at : Nat) (z_lineStart : Int32) (z_lineIsFresh : Int32) (z_wrongPlace : Int32) (z_tooMany : Int32) (a_y0 : Nat) (a_y0_characters : Nat) (f_y0_characters : Nat → Int32) (n_y0_length : Nat) (L : List Lx) (ka_lexemes_tokens_kinds : ClassId) (ka_lexemes_tokens_values : ClassId) (ka_lexemes_places : ClassId) (ka_lexemes_columns : ClassId) (ka_lexemes_lineFirsts : ClassId) (ka_y0_characters : ClassId) (b_lexemes_tokens_size : n_lexemes_tokens_size ≤ 90) (b_at : n_at ≤ 241) (b_tooMany : z_tooMany = 0 ∨ z_tooMany = 1) (c_y0_characters : ∀ j, narrow .char (.int (f_y0_characters j)) = .int (f_y0_characters j)) (b_y0_length : n_y0_length ≤ 240) (hp0 : n_at < n_y0_length) (hp1 : Rp f_lexemes_tokens_kinds f_lexemes_tokens_values f_lexemes_places f_lexemes_columns f_lexemes_lineFirsts L) (hp2 : n_lexemes_tokens_size = L.length) (hp3 : z_lineStart = nI (lnO (cN f_y0_characters n_y0_length) n_at)) (hp4 : z_lineIsFresh = b01 (ldO L (lnO (cN f_y0_characters n_y0_length) n_at))) (hp5 : hdW L n_at) (hp6 : ¬ ((cN f_y0_characters n_y0_length) n_at = 32 ∨ (cN f_y0_characters n_y0_length) n_at = 10)) (hp7 : opC (cN f_y0_characters n_y0_length) n_y0_length n_at = false) : Met l y_Cutter_cutLexeme w_Cutter_cutLexeme ({ frames := 7, cells := 0, slots := 0, locals := 170 }) (va_Pc [.ref a_t, .ref a_y0] (fun U => U.heap.size = sz ∧ va_P (dC, dI) vcl [(a_t, .inr (3, [.ref a_lexemes, .int (nI n_at), .int z_lineStart, .int z_lineIsFresh, .int z_wrongPlace, .int z_tooMany])), (a_lexemes, .inr (5, [.ref a_lexemes_tokens, .ref a_lexemes_places, .ref a_lexemes_columns, .ref a_lexemes_lineFirsts])), (a_lexemes_tokens, .inr (11, [.ref a_lexemes_tokens_kinds, .ref a_lexemes_tokens_values, .int (nI n_lexemes_tokens_size)])), (a_lexemes_tokens_kinds, .inl (ka_lexemes_tokens_kinds, 90, .inl f_lexemes_tokens_kinds)), (a_lexemes_tokens_values, .inl (ka_lexemes_tokens_values, 90, .inr (.inl f_lexemes_tokens_values))), (a_lexemes_places, .inl (ka_lexemes_places, 90, .inl f_lexemes_places)), (a_lexemes_columns, .inl (ka_lexemes_columns, 90, .inl f_lexemes_columns)), (a_lexemes_lineFirsts, .inl (ka_lexemes_lineFirsts, 90, .inl f_lexemes_lineFirsts)), (a_y0, .inr (10, [.ref a_y0_characters, .int (nI n_y0_length)])), (a_y0_characters, .inl (ka_y0_characters, 240, .inl f_y0_characters))] U.heap ∧ va_K (dC, dI) vcl [(ka_lexemes_tokens_kinds, .int), (ka_lexemes_tokens_values, .long), (ka_lexemes_places, .int), (ka_lexemes_columns, .int), (ka_lexemes_lineFirsts, .boolean), (ka_y0_characters, .char)] U ∧ va_D (fun _ => True) [(a_t, .inr (3, [.ref a_lexemes, .int (nI n_at), .int z_lineStart, .int z_lineIsFresh, .int z_wrongPlace, .int z_tooMany])), (a_lexemes, .inr (5, [.ref a_lexemes_tokens, .ref a_lexemes_places, .ref a_lexemes_columns, .ref a_lexemes_lineFirsts])), (a_lexemes_tokens, .inr (11, [.ref a_lexemes_tokens_kinds, .ref a_lexemes_tokens_values, .int (nI n_lexemes_tokens_size)])), (a_lexemes_tokens_kinds, .inl (ka_lexemes_tokens_kinds, 90, .inl f_lexemes_tokens_kinds)), (a_lexemes_tokens_values, .inl (ka_lexemes_tokens_values, 90, .inr (.inl f_lexemes_tokens_values))), (a_lexemes_places, .inl (ka_lexemes_places, 90, .inl f_lexemes_places)), (a_lexemes_columns, .inl (ka_lexemes_columns, 90, .inl f_lexemes_columns)), (a_lexemes_lineFirsts, .inl (ka_lexemes_lineFirsts, 90, .inl f_lexemes_lineFirsts)), (a_y0, .inr (10, [.ref a_y0_characters, .int (nI n_y0_length)])), (a_y0_characters, .inl (ka_y0_characters, 240, .inl f_y0_characters))] ∧ cx_E (va_A [(a_t, .inr (3, [.ref a_lexemes, .int (nI n_at), .int z_lineStart, .int z_lineIsFresh, .int z_wrongPlace, .int z_tooMany])), (a_lexemes, .inr (5, [.ref a_lexemes_tokens, .ref a_lexemes_places, .ref a_lexemes_columns, .ref a_lexemes_lineFirsts])), (a_lexemes_tokens, .inr (11, [.ref a_lexemes_tokens_kinds, .ref a_lexemes_tokens_values, .int (nI n_lexemes_tokens_size)])), (a_lexemes_tokens_kinds, .inl (ka_lexemes_tokens_kinds, 90, .inl f_lexemes_tokens_kinds)), (a_lexemes_tokens_values, .inl (ka_lexemes_tokens_values, 90, .inr (.inl f_lexemes_tokens_values))), (a_lexemes_places, .inl (ka_lexemes_places, 90, .inl f_lexemes_places)), (a_lexemes_columns, .inl (ka_lexemes_columns, 90, .inl f_lexemes_columns)), (a_lexemes_lineFirsts, .inl (ka_lexemes_lineFirsts, 90, .inl f_lexemes_lineFirsts)), (a_y0, .inr (10, [.ref a_y0_characters, .int (nI n_y0_length)])), (a_y0_characters, .inl (ka_y0_characters, 240, .inl f_y0_characters))] sz) U U.heap)) (va_Qv (fun (_ : Unit) => True) (fun _ t => ∃ (w_n_at : Nat) (w_z_lineIsFresh : Int32) (w_z_wrongPlace : Int32) (w_z_tooMany : Int32) (w_n_lexemes_tokens_size : Nat) (w_f_lexemes_tokens_kinds : Nat → Int32) (w_f_lexemes_tokens_values : Nat → Int64) (w_f_lexemes_places : Nat → Int32) (w_f_lexemes_columns : Nat → Int32) (w_f_lexemes_lineFirsts : Nat → Int32), (w_n_at ≤ 241) ∧ (w_z_tooMany = 0 ∨ w_z_tooMany = 1) ∧ (w_n_lexemes_tokens_size ≤ 90) ∧ (stQ (stp (cN f_y0_characters n_y0_length) n_y0_length n_at L) (cN f_y0_characters n_y0_length) (Rp w_f_lexemes_tokens_kinds w_f_lexemes_tokens_values w_f_lexemes_places w_f_lexemes_columns w_f_lexemes_lineFirsts) L w_z_wrongPlace z_wrongPlace w_n_at z_lineStart w_z_lineIsFresh w_n_lexemes_tokens_size) ∧ (w_n_at ≤ n_y0_length) ∧ (w_z_tooMany = z_tooMany ∨ ¬ w_z_wrongPlace = -1) ∧ va_P (dC, dI) vcl [(a_t, .inr (3, [.ref a_lexemes, .int (nI w_n_at), .int z_lineStart, .int w_z_lineIsFresh, .int w_z_wrongPlace, .int w_z_tooMany])), (a_lexemes, .inr (5, [.ref a_lexemes_tokens, .ref a_lexemes_places, .ref a_lexemes_columns, .ref a_lexemes_lineFirsts])), (a_lexemes_tokens, .inr (11, [.ref a_lexemes_tokens_kinds, .ref a_lexemes_tokens_values, .int (nI w_n_lexemes_tokens_size)])), (a_lexemes_tokens_kinds, .inl (ka_lexemes_tokens_kinds, 90, .inl w_f_lexemes_tokens_kinds)), (a_lexemes_tokens_values, .inl (ka_lexemes_tokens_values, 90, .inr (.inl w_f_lexemes_tokens_values))), (a_lexemes_places, .inl (ka_lexemes_places, 90, .inl w_f_lexemes_places)), (a_lexemes_columns, .inl (ka_lexemes_columns, 90, .inl w_f_lexemes_columns)), (a_lexemes_lineFirsts, .inl (ka_lexemes_lineFirsts, 90, .inl w_f_lexemes_lineFirsts)), (a_y0, .inr (10, [.ref a_y0_characters, .int (nI n_y0_length)])), (a_y0_characters, .inl (ka_y0_characters, 240, .inl f_y0_characters))] t.heap ∧ va_K (dC, dI) vcl [(ka_lexemes_tokens_kinds, .int), (ka_lexemes_tokens_values, .long), (ka_lexemes_places, .int), (ka_lexemes_columns, .int), (ka_lexemes_lineFirsts, .boolean), (ka_y0_characters, .char)] t ∧ va_D (va_A [(a_t, .inr (3, [.ref a_lexemes, .int (nI n_at), .int z_lineStart, .int z_lineIsFresh, .int z_wrongPlace, .int z_tooMany])), (a_lexemes, .inr (5, [.ref a_lexemes_tokens, .ref a_lexemes_places, .ref a_lexemes_columns, .ref a_lexemes_lineFirsts])), (a_lexemes_tokens, .inr (11, [.ref a_lexemes_tokens_kinds, .ref a_lexemes_tokens_values, .int (nI n_lexemes_tokens_size)])), (a_lexemes_tokens_kinds, .inl (ka_lexemes_tokens_kinds, 90, .inl f_lexemes_tokens_kinds)), (a_lexemes_tokens_values, .inl (ka_lexemes_tokens_values, 90, .inr (.inl f_lexemes_tokens_values))), (a_lexemes_places, .inl (ka_lexemes_places, 90, .inl f_lexemes_places)), (a_lexemes_columns, .inl (ka_lexemes_columns, 90, .inl f_lexemes_columns)), (a_lexemes_lineFirsts, .inl (ka_lexemes_lineFirsts, 90, .inl f_lexemes_lineFirsts)), (a_y0, .inr (10, [.ref a_y0_characters, .int (nI n_y0_length)])), (a_y0_characters, .inl (ka_y0_characters, 240, .inl f_y0_characters))] sz) [(a_t, .inr (3, [.ref a_lexemes, .int (nI w_n_at), .int z_lineStart, .int w_z_lineIsFresh, .int w_z_wrongPlace, .int w_z_tooMany])), (a_lexemes, .inr (5, [.ref a_lexemes_tokens, .ref a_lexemes_places, .ref a_lexemes_columns, .ref a_lexemes_lineFirsts])), (a_lexemes_tokens, .inr (11, [.ref a_lexemes_tokens_kinds, .ref a_lexemes_tokens_values, .int (nI w_n_lexemes_tokens_size)])), (a_lexemes_tokens_kinds, .inl (ka_lexemes_tokens_kinds, 90, .inl w_f_lexemes_tokens_kinds)), (a_lexemes_tokens_values, .inl (ka_lexemes_tokens_values, 90, .inr (.inl w_f_lexemes_tokens_values))), (a_lexemes_places, .inl (ka_lexemes_places, 90, .inl w_f_lexemes_places)), (a_lexemes_columns, .inl (ka_lexemes_columns, 90, .inl w_f_lexemes_columns)), (a_lexemes_lineFirsts, .inl (ka_lexemes_lineFirsts, 90, .inl w_f_lexemes_lineFirsts)), (a_y0, .inr (10, [.ref a_y0_characters, .int (nI n_y0_length)])), (a_y0_characters, .inl (ka_y0_characters, 240, .inl f_y0_characters))]) (va_A [(a_t, .inr (3, [.ref a_lexemes, .int (nI n_at), .int z_lineStart, .int z_lineIsFresh, .int z_wrongPlace, .int z_tooMany])), (a_lexemes, .inr (5, [.ref a_lexemes_tokens, .ref a_lexemes_places, .ref a_lexemes_columns, .ref a_lexemes_lineFirsts])), (a_lexemes_tokens, .inr (11, [.ref a_lexemes_tokens_kinds, .ref a_lexemes_tokens_values, .int (nI n_lexemes_tokens_size)])), (a_lexemes_tokens_kinds, .inl (ka_lexemes_tokens_kinds, 90, .inl f_lexemes_tokens_kinds)), (a_lexemes_tokens_values, .inl (ka_lexemes_tokens_values, 90, .inr (.inl f_lexemes_tokens_values))), (a_lexemes_places, .inl (ka_lexemes_places, 90, .inl f_lexemes_places)), (a_lexemes_columns, .inl (ka_lexemes_columns, 90, .inl f_lexemes_columns)), (a_lexemes_lineFirsts, .inl (ka_lexemes_lineFirsts, 90, .inl f_lexemes_lineFirsts)), (a_y0, .inr (10, [.ref a_y0_characters, .int (nI n_y0_length)])), (a_y0_characters, .inl (ka_y0_characters, 240, .inl f_y0_characters))] sz)) 0 0 (va_A [(a_t, .inr (3, [.ref a_lexemes, .int (nI n_at), .int z_lineStart, .int z_lineIsFresh, .int z_wrongPlace, .int z_tooMany])), (a_lexemes, .inr (5, [.ref a_lexemes_tokens, .ref a_lexemes_places, .ref a_lexemes_columns, .ref a_lexemes_lineFirsts])), (a_lexemes_tokens, .inr (11, [.ref a_lexemes_tokens_kinds, .ref a_lexemes_tokens_values, .int (nI n_lexemes_tokens_size)])), (a_lexemes_tokens_kinds, .inl (ka_lexemes_tokens_kinds, 90, .inl f_lexemes_tokens_kinds)), (a_lexemes_tokens_values, .inl (ka_lexemes_tokens_values, 90, .inr (.inl f_lexemes_tokens_values))), (a_lexemes_places, .inl (ka_lexemes_places, 90, .inl f_lexemes_places)), (a_lexemes_columns, .inl (ka_lexemes_columns, 90, .inl f_lexemes_columns)), (a_lexemes_lineFirsts, .inl (ka_lexemes_lineFirsts, 90, .inl f_lexemes_lineFirsts)), (a_y0, .inr (10, [.ref a_y0_characters, .int (nI n_y0_length)])), (a_y0_characters, .inl (ka_y0_characters, 240, .inl f_y0_characters))] sz) := by
  refine Met.ofW (cc := b_Cutter_cutLexeme) (maxL := 4) (ret := none) (by decide) rfl ?_
  intro p e s m args below meth c s₁ B hml hv
  obtain ⟨rfl, hsz, hP, hK, hD0, hE⟩ := hv
  have hx := B.exec
  have hb := B.bytes
  have hr := B.returns
  have hts := atoms_spec (ws := w_Cutter_cutLexeme) B.pre
  have hz : ∀ w ∈ wz, w.before _ s = true := fun w h => hts w (List.mem_cons_of_mem _ h)
  have hown : s.vm.findClass R_Cutter = some m.cls := findClass_of_methodNamed B.named
  have hlocks := B.notSynchronized
  subst hsz
  have hD := hD0.self (sz := s.heap.size)
  generalize hAe : va_A [(a_t, .inr (3, [.ref a_lexemes, .int (nI n_at), .int z_lineStart, .int z_lineIsFresh, .int z_wrongPlace, .int z_tooMany])), (a_lexemes, .inr (5, [.ref a_lexemes_tokens, .ref a_lexemes_places, .ref a_lexemes_columns, .ref a_lexemes_lineFirsts])), (a_lexemes_tokens, .inr (11, [.ref a_lexemes_tokens_kinds, .ref a_lexemes_tokens_values, .int (nI n_lexemes_tokens_size)])), (a_lexemes_tokens_kinds, .inl (ka_lexemes_tokens_kinds, 90, .inl f_lexemes_tokens_kinds)), (a_lexemes_tokens_values, .inl (ka_lexemes_tokens_values, 90, .inr (.inl f_lexemes_tokens_values))), (a_lexemes_places, .inl (ka_lexemes_places, 90, .inl f_lexemes_places)), (a_lexemes_columns, .inl (ka_lexemes_columns, 90, .inl f_lexemes_columns)), (a_lexemes_lineFirsts, .inl (ka_lexemes_lineFirsts, 90, .inl f_lexemes_lineFirsts)), (a_y0, .inr (10, [.ref a_y0_characters, .int (nI n_y0_length)])), (a_y0_characters, .inl (ka_y0_characters, 240, .inl f_y0_characters))] s.heap.size = A at hD hE ⊢
  have hA : ∀ q : Nat, s.heap.size ≤ q → A q := fun q h => by rw [← hAe]; exact Or.inr h
  have hS : va_S A s.heap s.heap [] := va_S.rf
  have hP : va_P (dC, dI) vcl [(a_t, .inr (3, [.ref a_lexemes, .int (nI n_at), .int z_lineStart, .int z_lineIsFresh, .int z_wrongPlace, .int z_tooMany])), (a_lexemes, .inr (5, [.ref a_lexemes_tokens, .ref a_lexemes_places, .ref a_lexemes_columns, .ref a_lexemes_lineFirsts])), (a_lexemes_tokens, .inr (11, [.ref a_lexemes_tokens_kinds, .ref a_lexemes_tokens_values, .int (nI n_lexemes_tokens_size)])), (a_lexemes_tokens_kinds, .inl (ka_lexemes_tokens_kinds, 90, .inl f_lexemes_tokens_kinds)), (a_lexemes_tokens_values, .inl (ka_lexemes_tokens_values, 90, .inr (.inl f_lexemes_tokens_values))), (a_lexemes_places, .inl (ka_lexemes_places, 90, .inl f_lexemes_places)), (a_lexemes_columns, .inl (ka_lexemes_columns, 90, .inl f_lexemes_columns)), (a_lexemes_lineFirsts, .inl (ka_lexemes_lineFirsts, 90, .inl f_lexemes_lineFirsts)), (a_y0, .inr (10, [.ref a_y0_characters, .int (nI n_y0_length)])), (a_y0_characters, .inl (ka_y0_characters, 240, .inl f_y0_characters))] s.heap := hP
  have hl := lv_entry ([.ref a_t, .ref a_y0]) (n := 4) (Nat.le_of_ble_eq_true rfl)
  rw [lg_entry_eq]
  generalize (lg_sl ([.ref a_t, .ref a_y0]) ++ List.replicate (4 - (lg_sl ([.ref a_t, .ref a_y0])).length) Slot.unset).toArray = ls at hl ⊢
  have hl : lv_has ls 4 [(0, .ref a_t), (1, .ref a_y0)] := hl
  refine lv_aload_n hx hb d_Cutter_cutLexeme_0 rfl (lv_at hl 1 rfl) ?_
  refine lv_aload_n hx hb d_Cutter_cutLexeme_1 rfl (lv_at hl 0 rfl) ?_
  refine va_get (D := (dC, dI)) (ci := 3) (v := .int (nI n_at)) (C := R_Cutter) (T := F_Cutter) (N := 6) hx hb hz zu_Cutter hown hK hP 0 rfl rfl 1 (by decide) (hz (.fieldLink R_Cutter 29 "LayoutFront$Cutter" "at" "I") zm_82) (fun _ h9 => h9) rfl d_Cutter_cutLexeme_2 ?_
  have hPc := hP.sub (ws' := [(a_y0, .inr (10, [.ref a_y0_characters, .int (nI n_y0_length)])), (a_y0_characters, .inl (ka_y0_characters, 240, .inl f_y0_characters))]) [8, 9] rfl
  have hDc := hD.sub (ws' := [(a_y0, .inr (10, [.ref a_y0_characters, .int (nI n_y0_length)])), (a_y0_characters, .inl (ka_y0_characters, 240, .inl f_y0_characters))]) [8, 9] (by decide) rfl
  have hKc := hK.sub (tys' := [(ka_y0_characters, .char)]) [5] rfl
  have hFc := va_free (wc := [(a_y0, .inr (10, [.ref a_y0_characters, .int (nI n_y0_length)])), (a_y0_characters, .inl (ka_y0_characters, 240, .inl f_y0_characters))]) hD hS hA [8, 9] rfl
  refine va_calli (va_runV (As := [.int (nI n_at)]) (rest := []) ⟨hx, hb, hml, hown, hz⟩ (s_Text_at6 l dC dI s.heap.size a_y0 a_y0_characters f_y0_characters n_y0_length n_at ka_y0_characters (by first | omega | assumption | exact Or.inl rfl | exact Or.inr rfl | decide) (by first | omega | assumption | exact Or.inl rfl | exact Or.inr rfl | decide) (by first | omega | assumption | exact Or.inl rfl | exact Or.inr rfl | decide)) (cwV 1 hz (zV zm_89 zm_11 zm_12 zm_7 zm_13) rfl rfl rfl (by decide +kernel) ⟨Nat.le_of_ble_eq_true rfl, Nat.le_of_ble_eq_true rfl⟩) ⟨fun a U g mk q => by obtain ⟨q0, q1, qP, qK, qD⟩ := q; exact ⟨q0, q1, qP, va_K.moved (u := U) (U := U.calling g mk a) (Vm.Alike.refl U.vm) qK, qD⟩, va_recv (q := (R_Text, F_Text, 2)) (q0 := 8) (ci := 10) hK hP rfl rfl, fun U hU hW => ⟨rfl, by rw [hU], by rw [hU]; exact hPc, va_K.moved hW.alike hKc, hDc.weaken (fun _ _ _ _ => trivial)⟩⟩ rfl rfl hl.1 rfl (lv_room (Nat.le_of_ble_eq_true rfl)) d_Cutter_cutLexeme_5 ⟨Nat.zero_le _, Nat.zero_le _⟩) hS (fun q _ h => hFc q h) hFc (fun r u t H1 locs ht hvm hw hB hz1 hk1 hS => ?_)
  obtain ⟨hP1, hK1, hD1⟩ := hB
  subst r
  rw [ht] at hP1
  obtain ⟨hP, hD⟩ := va_join (wr := [(a_t, .inr (3, [.ref a_lexemes, .int (nI n_at), .int z_lineStart, .int z_lineIsFresh, .int z_wrongPlace, .int z_tooMany])), (a_lexemes, .inr (5, [.ref a_lexemes_tokens, .ref a_lexemes_places, .ref a_lexemes_columns, .ref a_lexemes_lineFirsts])), (a_lexemes_tokens, .inr (11, [.ref a_lexemes_tokens_kinds, .ref a_lexemes_tokens_values, .int (nI n_lexemes_tokens_size)])), (a_lexemes_tokens_kinds, .inl (ka_lexemes_tokens_kinds, 90, .inl f_lexemes_tokens_kinds)), (a_lexemes_tokens_values, .inl (ka_lexemes_tokens_values, 90, .inr (.inl f_lexemes_tokens_values))), (a_lexemes_places, .inl (ka_lexemes_places, 90, .inl f_lexemes_places)), (a_lexemes_columns, .inl (ka_lexemes_columns, 90, .inl f_lexemes_columns)), (a_lexemes_lineFirsts, .inl (ka_lexemes_lineFirsts, 90, .inl f_lexemes_lineFirsts))]) (w1 := [(a_y0, .inr (10, [.ref a_y0_characters, .int (nI n_y0_length)])), (a_y0_characters, .inl (ka_y0_characters, 240, .inl f_y0_characters))]) hP hD [8, 9] [0, 1, 2, 3, 4, 5, 6, 7] rfl rfl (by decide) (by decide) hk1 hFc hP1 hD1
  generalize H1 = H at hP hS ⊢
  have hP : va_P (dC, dI) vcl [(a_t, .inr (3, [.ref a_lexemes, .int (nI n_at), .int z_lineStart, .int z_lineIsFresh, .int z_wrongPlace, .int z_tooMany])), (a_lexemes, .inr (5, [.ref a_lexemes_tokens, .ref a_lexemes_places, .ref a_lexemes_columns, .ref a_lexemes_lineFirsts])), (a_lexemes_tokens, .inr (11, [.ref a_lexemes_tokens_kinds, .ref a_lexemes_tokens_values, .int (nI n_lexemes_tokens_size)])), (a_lexemes_tokens_kinds, .inl (ka_lexemes_tokens_kinds, 90, .inl f_lexemes_tokens_kinds)), (a_lexemes_tokens_values, .inl (ka_lexemes_tokens_values, 90, .inr (.inl f_lexemes_tokens_values))), (a_lexemes_places, .inl (ka_lexemes_places, 90, .inl f_lexemes_places)), (a_lexemes_columns, .inl (ka_lexemes_columns, 90, .inl f_lexemes_columns)), (a_lexemes_lineFirsts, .inl (ka_lexemes_lineFirsts, 90, .inl f_lexemes_lineFirsts)), (a_y0, .inr (10, [.ref a_y0_characters, .int (nI n_y0_length)])), (a_y0_characters, .inl (ka_y0_characters, 240, .inl f_y0_characters))] H := hP
  have hD : va_D A [(a_t, .inr (3, [.ref a_lexemes, .int (nI n_at), .int z_lineStart, .int z_lineIsFresh, .int z_wrongPlace, .int z_tooMany])), (a_lexemes, .inr (5, [.ref a_lexemes_tokens, .ref a_lexemes_places, .ref a_lexemes_columns, .ref a_lexemes_lineFirsts])), (a_lexemes_tokens, .inr (11, [.ref a_lexemes_tokens_kinds, .ref a_lexemes_tokens_values, .int (nI n_lexemes_tokens_size)])), (a_lexemes_tokens_kinds, .inl (ka_lexemes_tokens_kinds, 90, .inl f_lexemes_tokens_kinds)), (a_lexemes_tokens_values, .inl (ka_lexemes_tokens_values, 90, .inr (.inl f_lexemes_tokens_values))), (a_lexemes_places, .inl (ka_lexemes_places, 90, .inl f_lexemes_places)), (a_lexemes_columns, .inl (ka_lexemes_columns, 90, .inl f_lexemes_columns)), (a_lexemes_lineFirsts, .inl (ka_lexemes_lineFirsts, 90, .inl f_lexemes_lineFirsts)), (a_y0, .inr (10, [.ref a_y0_characters, .int (nI n_y0_length)])), (a_y0_characters, .inl (ka_y0_characters, 240, .inl f_y0_characters))] := hD
  have hPc := hP.sub (ws' := []) [] rfl
  have hDc := hD.sub (ws' := []) [] (by decide) rfl
  have hKc := hK.sub (tys' := []) [] rfl
  have hFc := va_free (wc := []) hD hS hA [] rfl
  refine va_calli (va_runS (As := [.int (cN f_y0_characters n_y0_length n_at)]) (rest := []) ⟨hx, hb, hml, hown, hz⟩ (s_Cutter_kindBegunBy6 l dC dI H.size ((cN f_y0_characters n_y0_length n_at))) (cwS 1 hz (zS zm_112 zm_113 zm_92 zm_114) rfl rfl rfl (by decide +kernel) ⟨Nat.le_of_ble_eq_true rfl, Nat.le_of_ble_eq_true rfl⟩) ⟨fun a U g mk q => by obtain ⟨q0, q1, qP, qK, qD, qx0⟩ := q; exact ⟨q0, q1, qP, va_K.moved (u := U) (U := U.calling g mk a) (Vm.Alike.refl U.vm) qK, qD, cx_E.same (u := U) (U := U.calling g mk a) rfl qx0⟩, fun U hU hW => ⟨rfl, by rw [hU], by rw [hU]; exact hPc, va_K.moved hW.alike hKc, hDc.weaken (fun _ _ _ _ => trivial), by rw [hU]; exact cx_E.to hW hS hFc hE⟩⟩ rfl rfl hl.1 rfl (lv_room (Nat.le_of_ble_eq_true rfl)) d_Cutter_cutLexeme_8 ⟨Nat.zero_le _, Nat.zero_le _⟩) hS (fun q _ h => hFc q h) hFc (fun r u t H1 locs ht hvm hw hB hz1 hk1 hS => ?_)
  obtain ⟨hP1, hK1, hD1⟩ := hB
  subst r
  rw [ht] at hP1
  obtain ⟨hP, hD⟩ := va_join (wr := [(a_t, .inr (3, [.ref a_lexemes, .int (nI n_at), .int z_lineStart, .int z_lineIsFresh, .int z_wrongPlace, .int z_tooMany])), (a_lexemes, .inr (5, [.ref a_lexemes_tokens, .ref a_lexemes_places, .ref a_lexemes_columns, .ref a_lexemes_lineFirsts])), (a_lexemes_tokens, .inr (11, [.ref a_lexemes_tokens_kinds, .ref a_lexemes_tokens_values, .int (nI n_lexemes_tokens_size)])), (a_lexemes_tokens_kinds, .inl (ka_lexemes_tokens_kinds, 90, .inl f_lexemes_tokens_kinds)), (a_lexemes_tokens_values, .inl (ka_lexemes_tokens_values, 90, .inr (.inl f_lexemes_tokens_values))), (a_lexemes_places, .inl (ka_lexemes_places, 90, .inl f_lexemes_places)), (a_lexemes_columns, .inl (ka_lexemes_columns, 90, .inl f_lexemes_columns)), (a_lexemes_lineFirsts, .inl (ka_lexemes_lineFirsts, 90, .inl f_lexemes_lineFirsts)), (a_y0, .inr (10, [.ref a_y0_characters, .int (nI n_y0_length)])), (a_y0_characters, .inl (ka_y0_characters, 240, .inl f_y0_characters))]) (w1 := []) hP hD [] [0, 1, 2, 3, 4, 5, 6, 7, 8, 9] rfl rfl (by decide) (by decide) hk1 hFc hP1 hD1
  generalize H1 = H at hP hS ⊢
  have hP : va_P (dC, dI) vcl [(a_t, .inr (3, [.ref a_lexemes, .int (nI n_at), .int z_lineStart, .int z_lineIsFresh, .int z_wrongPlace, .int z_tooMany])), (a_lexemes, .inr (5, [.ref a_lexemes_tokens, .ref a_lexemes_places, .ref a_lexemes_columns, .ref a_lexemes_lineFirsts])), (a_lexemes_tokens, .inr (11, [.ref a_lexemes_tokens_kinds, .ref a_lexemes_tokens_values, .int (nI n_lexemes_tokens_size)])), (a_lexemes_tokens_kinds, .inl (ka_lexemes_tokens_kinds, 90, .inl f_lexemes_tokens_kinds)), (a_lexemes_tokens_values, .inl (ka_lexemes_tokens_values, 90, .inr (.inl f_lexemes_tokens_values))), (a_lexemes_places, .inl (ka_lexemes_places, 90, .inl f_lexemes_places)), (a_lexemes_columns, .inl (ka_lexemes_columns, 90, .inl f_lexemes_columns)), (a_lexemes_lineFirsts, .inl (ka_lexemes_lineFirsts, 90, .inl f_lexemes_lineFirsts)), (a_y0, .inr (10, [.ref a_y0_characters, .int (nI n_y0_length)])), (a_y0_characters, .inl (ka_y0_characters, 240, .inl f_y0_characters))] H := hP
  have hD : va_D A [(a_t, .inr (3, [.ref a_lexemes, .int (nI n_at), .int z_lineStart, .int z_lineIsFresh, .int z_wrongPlace, .int z_tooMany])), (a_lexemes, .inr (5, [.ref a_lexemes_tokens, .ref a_lexemes_places, .ref a_lexemes_columns, .ref a_lexemes_lineFirsts])), (a_lexemes_tokens, .inr (11, [.ref a_lexemes_tokens_kinds, .ref a_lexemes_tokens_values, .int (nI n_lexemes_tokens_size)])), (a_lexemes_tokens_kinds, .inl (ka_lexemes_tokens_kinds, 90, .inl f_lexemes_tokens_kinds)), (a_lexemes_tokens_values, .inl (ka_lexemes_tokens_values, 90, .inr (.inl f_lexemes_tokens_values))), (a_lexemes_places, .inl (ka_lexemes_places, 90, .inl f_lexemes_places)), (a_lexemes_columns, .inl (ka_lexemes_columns, 90, .inl f_lexemes_columns)), (a_lexemes_lineFirsts, .inl (ka_lexemes_lineFirsts, 90, .inl f_lexemes_lineFirsts)), (a_y0, .inr (10, [.ref a_y0_characters, .int (nI n_y0_length)])), (a_y0_characters, .inl (ka_y0_characters, 240, .inl f_y0_characters))] := hD
  refine lv_istore_n hx hb d_Cutter_cutLexeme_11 rfl hl (by decide) rfl (fun ls hl => ?_)
  have hl : lv_has ls 4 [(2, .int (kdO ((cN f_y0_characters n_y0_length n_at)))), (0, .ref a_t), (1, .ref a_y0)] := hl
  refine lv_aload_n hx hb d_Cutter_cutLexeme_12 rfl (lv_at hl 1 rfl) ?_
  refine lv_aload_n hx hb d_Cutter_cutLexeme_13 rfl (lv_at hl 2 rfl) ?_
  refine lv_iload_n hx hb d_Cutter_cutLexeme_14 rfl (lv_at hl 0 rfl) ?_
  have hPc := hP.sub (ws' := [(a_t, .inr (3, [.ref a_lexemes, .int (nI n_at), .int z_lineStart, .int z_lineIsFresh, .int z_wrongPlace, .int z_tooMany])), (a_y0, .inr (10, [.ref a_y0_characters, .int (nI n_y0_length)])), (a_y0_characters, .inl (ka_y0_characters, 240, .inl f_y0_characters))]) [0, 8, 9] rfl
  have hDc := hD.sub (ws' := [(a_t, .inr (3, [.ref a_lexemes, .int (nI n_at), .int z_lineStart, .int z_lineIsFresh, .int z_wrongPlace, .int z_tooMany])), (a_y0, .inr (10, [.ref a_y0_characters, .int (nI n_y0_length)])), (a_y0_characters, .inl (ka_y0_characters, 240, .inl f_y0_characters))]) [0, 8, 9] (by decide) rfl
  have hKc := hK.sub (tys' := [(ka_y0_characters, .char)]) [5] rfl
  have hFc := va_free (wc := [(a_t, .inr (3, [.ref a_lexemes, .int (nI n_at), .int z_lineStart, .int z_lineIsFresh, .int z_wrongPlace, .int z_tooMany])), (a_y0, .inr (10, [.ref a_y0_characters, .int (nI n_y0_length)])), (a_y0_characters, .inl (ka_y0_characters, 240, .inl f_y0_characters))]) hD hS hA [0, 8, 9] rfl
  refine va_calli (va_runV (As := [.ref a_y0, .int (kdO ((cN f_y0_characters n_y0_length n_at)))]) (rest := []) ⟨hx, hb, hml, hown, hz⟩ (s_Cutter_lexemeEnd6 l dC dI H.size a_t a_lexemes n_at z_lineStart z_lineIsFresh z_wrongPlace z_tooMany a_y0 a_y0_characters f_y0_characters n_y0_length ((kdO ((cN f_y0_characters n_y0_length n_at)))) ka_y0_characters (by first | omega | assumption | exact Or.inl rfl | exact Or.inr rfl | decide) (by first | omega | assumption | exact Or.inl rfl | exact Or.inr rfl | decide) (by first | omega | assumption | exact Or.inl rfl | exact Or.inr rfl | decide) (by first | omega | assumption | exact Or.inl rfl | exact Or.inr rfl | decide) (by first | omega | assumption | exact Or.inl rfl | exact Or.inr rfl | decide)) (cwV 2 hz (zV zm_115 zm_116 zm_117 zm_92 zm_118) rfl rfl rfl (by decide +kernel) ⟨Nat.le_of_ble_eq_true rfl, Nat.le_of_ble_eq_true rfl⟩) ⟨fun a U g mk q => by obtain ⟨q0, q1, qP, qK, qD, qx0⟩ := q; exact ⟨q0, q1, qP, va_K.moved (u := U) (U := U.calling g mk a) (Vm.Alike.refl U.vm) qK, qD, cx_E.same (u := U) (U := U.calling g mk a) rfl qx0⟩, va_recv (q := (R_Cutter, F_Cutter, 6)) (q0 := 0) (ci := 3) hK hP rfl rfl, fun U hU hW => ⟨rfl, by rw [hU], by rw [hU]; exact hPc, va_K.moved hW.alike hKc, hDc.weaken (fun _ _ _ _ => trivial), by rw [hU]; exact cx_E.to hW hS hFc hE⟩⟩ rfl rfl hl.1 rfl (lv_room (Nat.le_of_ble_eq_true rfl)) d_Cutter_cutLexeme_15 ⟨Nat.zero_le _, Nat.zero_le _⟩) hS (fun q _ h => hFc q h) hFc (fun r u t H1 locs ht hvm hw hB hz1 hk1 hS => ?_)
  obtain ⟨hP1, hK1, hD1⟩ := hB
  obtain ⟨j1, l_j1, e_j1⟩ := hw
  subst r
  rw [ht] at hP1
  obtain ⟨hP, hD⟩ := va_join (wr := [(a_lexemes, .inr (5, [.ref a_lexemes_tokens, .ref a_lexemes_places, .ref a_lexemes_columns, .ref a_lexemes_lineFirsts])), (a_lexemes_tokens, .inr (11, [.ref a_lexemes_tokens_kinds, .ref a_lexemes_tokens_values, .int (nI n_lexemes_tokens_size)])), (a_lexemes_tokens_kinds, .inl (ka_lexemes_tokens_kinds, 90, .inl f_lexemes_tokens_kinds)), (a_lexemes_tokens_values, .inl (ka_lexemes_tokens_values, 90, .inr (.inl f_lexemes_tokens_values))), (a_lexemes_places, .inl (ka_lexemes_places, 90, .inl f_lexemes_places)), (a_lexemes_columns, .inl (ka_lexemes_columns, 90, .inl f_lexemes_columns)), (a_lexemes_lineFirsts, .inl (ka_lexemes_lineFirsts, 90, .inl f_lexemes_lineFirsts))]) (w1 := [(a_t, .inr (3, [.ref a_lexemes, .int (nI n_at), .int z_lineStart, .int z_lineIsFresh, .int z_wrongPlace, .int z_tooMany])), (a_y0, .inr (10, [.ref a_y0_characters, .int (nI n_y0_length)])), (a_y0_characters, .inl (ka_y0_characters, 240, .inl f_y0_characters))]) hP hD [0, 8, 9] [1, 2, 3, 4, 5, 6, 7] rfl rfl (by decide) (by decide) hk1 hFc hP1 hD1
  generalize H1 = H at hP hS ⊢
  have hP : va_P (dC, dI) vcl [(a_lexemes, .inr (5, [.ref a_lexemes_tokens, .ref a_lexemes_places, .ref a_lexemes_columns, .ref a_lexemes_lineFirsts])), (a_lexemes_tokens, .inr (11, [.ref a_lexemes_tokens_kinds, .ref a_lexemes_tokens_values, .int (nI n_lexemes_tokens_size)])), (a_lexemes_tokens_kinds, .inl (ka_lexemes_tokens_kinds, 90, .inl f_lexemes_tokens_kinds)), (a_lexemes_tokens_values, .inl (ka_lexemes_tokens_values, 90, .inr (.inl f_lexemes_tokens_values))), (a_lexemes_places, .inl (ka_lexemes_places, 90, .inl f_lexemes_places)), (a_lexemes_columns, .inl (ka_lexemes_columns, 90, .inl f_lexemes_columns)), (a_lexemes_lineFirsts, .inl (ka_lexemes_lineFirsts, 90, .inl f_lexemes_lineFirsts)), (a_t, .inr (3, [.ref a_lexemes, .int (nI n_at), .int z_lineStart, .int z_lineIsFresh, .int z_wrongPlace, .int z_tooMany])), (a_y0, .inr (10, [.ref a_y0_characters, .int (nI n_y0_length)])), (a_y0_characters, .inl (ka_y0_characters, 240, .inl f_y0_characters))] H := hP
  have hD : va_D A [(a_lexemes, .inr (5, [.ref a_lexemes_tokens, .ref a_lexemes_places, .ref a_lexemes_columns, .ref a_lexemes_lineFirsts])), (a_lexemes_tokens, .inr (11, [.ref a_lexemes_tokens_kinds, .ref a_lexemes_tokens_values, .int (nI n_lexemes_tokens_size)])), (a_lexemes_tokens_kinds, .inl (ka_lexemes_tokens_kinds, 90, .inl f_lexemes_tokens_kinds)), (a_lexemes_tokens_values, .inl (ka_lexemes_tokens_values, 90, .inr (.inl f_lexemes_tokens_values))), (a_lexemes_places, .inl (ka_lexemes_places, 90, .inl f_lexemes_places)), (a_lexemes_columns, .inl (ka_lexemes_columns, 90, .inl f_lexemes_columns)), (a_lexemes_lineFirsts, .inl (ka_lexemes_lineFirsts, 90, .inl f_lexemes_lineFirsts)), (a_t, .inr (3, [.ref a_lexemes, .int (nI n_at), .int z_lineStart, .int z_lineIsFresh, .int z_wrongPlace, .int z_tooMany])), (a_y0, .inr (10, [.ref a_y0_characters, .int (nI n_y0_length)])), (a_y0_characters, .inl (ka_y0_characters, 240, .inl f_y0_characters))] := hD
  have en := enO_in (c := (cN f_y0_characters n_y0_length)) (k := kdO ((cN f_y0_characters n_y0_length) n_at)) hp0
  refine lv_istore_n hx hb d_Cutter_cutLexeme_18 rfl hl (by decide) rfl (fun ls hl => ?_)
  have hl : lv_has ls 4 [(3, .int (nI j1)), (2, .int (kdO ((cN f_y0_characters n_y0_length n_at)))), (0, .ref a_t), (1, .ref a_y0)] := hl
  refine lv_iload_n hx hb d_Cutter_cutLexeme_19 rfl (lv_at hl 1 rfl) ?_
  refine lv_iconst (v := 2) hx hb d_Cutter_cutLexeme_20 (by decide) ?_
  refine lv_icmp_ne (tgt := 45) hx hb d_Cutter_cutLexeme_21 (by decide) (fun h2 => ?_) (fun h2 => ?_)
  · have e21 := h2
    refine lv_iload_n hx hb d_Cutter_cutLexeme_45 rfl (lv_at hl 1 rfl) ?_
    refine lv_iconst (v := (-1)) hx hb d_Cutter_cutLexeme_46 (by decide) ?_
    refine lv_icmp_eq (tgt := 63) hx hb d_Cutter_cutLexeme_47 (by decide) (fun h3 => ?_) (fun h3 => ?_)
    · have e47 := h3
      refine lv_aload_n hx hb d_Cutter_cutLexeme_63 rfl (lv_at hl 2 rfl) ?_
      refine lv_aload_n hx hb d_Cutter_cutLexeme_64 rfl (lv_at hl 2 rfl) ?_
      refine va_get (D := (dC, dI)) (ci := 3) (v := .int (nI n_at)) (C := R_Cutter) (T := F_Cutter) (N := 6) hx hb hz zu_Cutter hown hK hP 7 rfl rfl 1 (by decide) (hz (.fieldLink R_Cutter 29 "LayoutFront$Cutter" "at" "I") zm_82) (fun _ h9 => h9) rfl d_Cutter_cutLexeme_65 ?_
      refine va_put (D := (dC, dI)) (ci := 3) (v := .int (nI n_at)) (ty := .int) (C := R_Cutter) (T := F_Cutter) (N := 6) hx hb hz zu_Cutter t_Cutter t_Cutter_ok n_Cutter hown hK hP hD hS 7 rfl rfl 4 (by decide) (hz (.fieldLink R_Cutter 18 "LayoutFront$Cutter" "wrongPlace" "I") zm_75) (fun _ h9 => h9) rfl (by decide +kernel) rfl rfl (Nat.le_of_ble_eq_true rfl) d_Cutter_cutLexeme_68 (fun H locs hP hD hS => ?_)
      have hP : va_P (dC, dI) vcl [(a_lexemes, .inr (5, [.ref a_lexemes_tokens, .ref a_lexemes_places, .ref a_lexemes_columns, .ref a_lexemes_lineFirsts])), (a_lexemes_tokens, .inr (11, [.ref a_lexemes_tokens_kinds, .ref a_lexemes_tokens_values, .int (nI n_lexemes_tokens_size)])), (a_lexemes_tokens_kinds, .inl (ka_lexemes_tokens_kinds, 90, .inl f_lexemes_tokens_kinds)), (a_lexemes_tokens_values, .inl (ka_lexemes_tokens_values, 90, .inr (.inl f_lexemes_tokens_values))), (a_lexemes_places, .inl (ka_lexemes_places, 90, .inl f_lexemes_places)), (a_lexemes_columns, .inl (ka_lexemes_columns, 90, .inl f_lexemes_columns)), (a_lexemes_lineFirsts, .inl (ka_lexemes_lineFirsts, 90, .inl f_lexemes_lineFirsts)), (a_t, .inr (3, [.ref a_lexemes, .int (nI n_at), .int z_lineStart, .int z_lineIsFresh, .int (nI n_at), .int z_tooMany])), (a_y0, .inr (10, [.ref a_y0_characters, .int (nI n_y0_length)])), (a_y0_characters, .inl (ka_y0_characters, 240, .inl f_y0_characters))] H := hP
      have hD : va_D A [(a_lexemes, .inr (5, [.ref a_lexemes_tokens, .ref a_lexemes_places, .ref a_lexemes_columns, .ref a_lexemes_lineFirsts])), (a_lexemes_tokens, .inr (11, [.ref a_lexemes_tokens_kinds, .ref a_lexemes_tokens_values, .int (nI n_lexemes_tokens_size)])), (a_lexemes_tokens_kinds, .inl (ka_lexemes_tokens_kinds, 90, .inl f_lexemes_tokens_kinds)), (a_lexemes_tokens_values, .inl (ka_lexemes_tokens_values, 90, .inr (.inl f_lexemes_tokens_values))), (a_lexemes_places, .inl (ka_lexemes_places, 90, .inl f_lexemes_places)), (a_lexemes_columns, .inl (ka_lexemes_columns, 90, .inl f_lexemes_columns)), (a_lexemes_lineFirsts, .inl (ka_lexemes_lineFirsts, 90, .inl f_lexemes_lineFirsts)), (a_t, .inr (3, [.ref a_lexemes, .int (nI n_at), .int z_lineStart, .int z_lineIsFresh, .int (nI n_at), .int z_tooMany])), (a_y0, .inr (10, [.ref a_y0_characters, .int (nI n_y0_length)])), (a_y0_characters, .inl (ka_y0_characters, 240, .inl f_y0_characters))] := hD
      refine lv_goto (tgt := 107) hx hb d_Cutter_cutLexeme_71 (by decide) ?_
      have hP9 := hP.sub (ws' := [(a_t, .inr (3, [.ref a_lexemes, .int (nI n_at), .int z_lineStart, .int z_lineIsFresh, .int (nI n_at), .int z_tooMany])), (a_lexemes, .inr (5, [.ref a_lexemes_tokens, .ref a_lexemes_places, .ref a_lexemes_columns, .ref a_lexemes_lineFirsts])), (a_lexemes_tokens, .inr (11, [.ref a_lexemes_tokens_kinds, .ref a_lexemes_tokens_values, .int (nI n_lexemes_tokens_size)])), (a_lexemes_tokens_kinds, .inl (ka_lexemes_tokens_kinds, 90, .inl f_lexemes_tokens_kinds)), (a_lexemes_tokens_values, .inl (ka_lexemes_tokens_values, 90, .inr (.inl f_lexemes_tokens_values))), (a_lexemes_places, .inl (ka_lexemes_places, 90, .inl f_lexemes_places)), (a_lexemes_columns, .inl (ka_lexemes_columns, 90, .inl f_lexemes_columns)), (a_lexemes_lineFirsts, .inl (ka_lexemes_lineFirsts, 90, .inl f_lexemes_lineFirsts)), (a_y0, .inr (10, [.ref a_y0_characters, .int (nI n_y0_length)])), (a_y0_characters, .inl (ka_y0_characters, 240, .inl f_y0_characters))]) [7, 0, 1, 2, 3, 4, 5, 6, 8, 9] rfl
      have hD9 := hD.sub (ws' := [(a_t, .inr (3, [.ref a_lexemes, .int (nI n_at), .int z_lineStart, .int z_lineIsFresh, .int (nI n_at), .int z_tooMany])), (a_lexemes, .inr (5, [.ref a_lexemes_tokens, .ref a_lexemes_places, .ref a_lexemes_columns, .ref a_lexemes_lineFirsts])), (a_lexemes_tokens, .inr (11, [.ref a_lexemes_tokens_kinds, .ref a_lexemes_tokens_values, .int (nI n_lexemes_tokens_size)])), (a_lexemes_tokens_kinds, .inl (ka_lexemes_tokens_kinds, 90, .inl f_lexemes_tokens_kinds)), (a_lexemes_tokens_values, .inl (ka_lexemes_tokens_values, 90, .inr (.inl f_lexemes_tokens_values))), (a_lexemes_places, .inl (ka_lexemes_places, 90, .inl f_lexemes_places)), (a_lexemes_columns, .inl (ka_lexemes_columns, 90, .inl f_lexemes_columns)), (a_lexemes_lineFirsts, .inl (ka_lexemes_lineFirsts, 90, .inl f_lexemes_lineFirsts)), (a_y0, .inr (10, [.ref a_y0_characters, .int (nI n_y0_length)])), (a_y0_characters, .inl (ka_y0_characters, 240, .inl f_y0_characters))]) [7, 0, 1, 2, 3, 4, 5, 6, 8, 9] (by decide) rfl
      exact W.vret hx hb hr (fun t ht hW => ⟨⟨(), rfl, trivial, n_at, z_lineIsFresh, ((nI n_at)), z_tooMany, n_lexemes_tokens_size, f_lexemes_tokens_kinds, f_lexemes_tokens_values, f_lexemes_places, f_lexemes_columns, f_lexemes_lineFirsts, by first | omega | assumption | exact Or.inl rfl | exact Or.inr rfl | decide, by first | omega | assumption | exact Or.inl rfl | exact Or.inr rfl | decide, by first | omega | assumption | exact Or.inl rfl | exact Or.inr rfl | decide, by exact cl_x hp6 hp7 (nd_1 e21) (Or.inl e47) hp1 hp2, by first | omega | assumption | exact Or.inl rfl | exact Or.inr rfl | decide, by exact Or.inl rfl, by rw [ht]; exact hP9, va_K.moved hW.alike hK, hD9⟩, hS.F ht⟩) hS.2.2 d_Cutter_cutLexeme_107
    · have e47 := h3
      refine lv_iload_n hx hb d_Cutter_cutLexeme_50 rfl (lv_at hl 0 rfl) ?_
      refine lv_aload_n hx hb d_Cutter_cutLexeme_51 rfl (lv_at hl 2 rfl) ?_
      refine va_get (D := (dC, dI)) (ci := 3) (v := .int (nI n_at)) (C := R_Cutter) (T := F_Cutter) (N := 6) hx hb hz zu_Cutter hown hK hP 7 rfl rfl 1 (by decide) (hz (.fieldLink R_Cutter 29 "LayoutFront$Cutter" "at" "I") zm_82) (fun _ h9 => h9) rfl d_Cutter_cutLexeme_52 ?_
      refine xr_isub (v := (nI (j1 - n_at))) hx hb d_Cutter_cutLexeme_55 (pk_sub (a := j1) (b := n_at) (by omega)) ?_
      refine lv_iload_n hx hb d_Cutter_cutLexeme_56 rfl (lv_at hl 1 rfl) ?_
      have hPc := hP.sub (ws' := []) [] rfl
      have hDc := hD.sub (ws' := []) [] (by decide) rfl
      have hKc := hK.sub (tys' := []) [] rfl
      have hFc := va_free (wc := []) hD hS hA [] rfl
      refine va_calli (va_runS (As := [.int (kdO ((cN f_y0_characters n_y0_length n_at)))]) (rest := [.int (nI (j1 - n_at))]) ⟨hx, hb, hml, hown, hz⟩ (s_Cutter_longest6 l dC dI H.size ((kdO ((cN f_y0_characters n_y0_length n_at))))) (cwS 1 hz (zS zm_126 zm_127 zm_92 zm_128) rfl rfl rfl (by decide +kernel) ⟨Nat.le_of_ble_eq_true rfl, Nat.le_of_ble_eq_true rfl⟩) ⟨fun a U g mk q => by obtain ⟨q0, q1, qP, qK, qD⟩ := q; exact ⟨q0, q1, qP, va_K.moved (u := U) (U := U.calling g mk a) (Vm.Alike.refl U.vm) qK, qD⟩, fun U hU hW => ⟨rfl, by rw [hU], by rw [hU]; exact hPc, va_K.moved hW.alike hKc, hDc.weaken (fun _ _ _ _ => trivial)⟩⟩ rfl rfl hl.1 rfl (lv_room (Nat.le_of_ble_eq_true rfl)) d_Cutter_cutLexeme_57 ⟨Nat.zero_le _, Nat.zero_le _⟩) hS (fun q _ h => hFc q h) hFc (fun r u t H1 locs ht hvm hw hB hz1 hk1 hS => ?_)
      obtain ⟨hP1, hK1, hD1⟩ := hB
      obtain ⟨j4, l_j4, e_j4⟩ := hw
      subst r
      rw [ht] at hP1
      obtain ⟨hP, hD⟩ := va_join (wr := [(a_lexemes, .inr (5, [.ref a_lexemes_tokens, .ref a_lexemes_places, .ref a_lexemes_columns, .ref a_lexemes_lineFirsts])), (a_lexemes_tokens, .inr (11, [.ref a_lexemes_tokens_kinds, .ref a_lexemes_tokens_values, .int (nI n_lexemes_tokens_size)])), (a_lexemes_tokens_kinds, .inl (ka_lexemes_tokens_kinds, 90, .inl f_lexemes_tokens_kinds)), (a_lexemes_tokens_values, .inl (ka_lexemes_tokens_values, 90, .inr (.inl f_lexemes_tokens_values))), (a_lexemes_places, .inl (ka_lexemes_places, 90, .inl f_lexemes_places)), (a_lexemes_columns, .inl (ka_lexemes_columns, 90, .inl f_lexemes_columns)), (a_lexemes_lineFirsts, .inl (ka_lexemes_lineFirsts, 90, .inl f_lexemes_lineFirsts)), (a_t, .inr (3, [.ref a_lexemes, .int (nI n_at), .int z_lineStart, .int z_lineIsFresh, .int z_wrongPlace, .int z_tooMany])), (a_y0, .inr (10, [.ref a_y0_characters, .int (nI n_y0_length)])), (a_y0_characters, .inl (ka_y0_characters, 240, .inl f_y0_characters))]) (w1 := []) hP hD [] [0, 1, 2, 3, 4, 5, 6, 7, 8, 9] rfl rfl (by decide) (by decide) hk1 hFc hP1 hD1
      generalize H1 = H at hP hS ⊢
      have hP : va_P (dC, dI) vcl [(a_lexemes, .inr (5, [.ref a_lexemes_tokens, .ref a_lexemes_places, .ref a_lexemes_columns, .ref a_lexemes_lineFirsts])), (a_lexemes_tokens, .inr (11, [.ref a_lexemes_tokens_kinds, .ref a_lexemes_tokens_values, .int (nI n_lexemes_tokens_size)])), (a_lexemes_tokens_kinds, .inl (ka_lexemes_tokens_kinds, 90, .inl f_lexemes_tokens_kinds)), (a_lexemes_tokens_values, .inl (ka_lexemes_tokens_values, 90, .inr (.inl f_lexemes_tokens_values))), (a_lexemes_places, .inl (ka_lexemes_places, 90, .inl f_lexemes_places)), (a_lexemes_columns, .inl (ka_lexemes_columns, 90, .inl f_lexemes_columns)), (a_lexemes_lineFirsts, .inl (ka_lexemes_lineFirsts, 90, .inl f_lexemes_lineFirsts)), (a_t, .inr (3, [.ref a_lexemes, .int (nI n_at), .int z_lineStart, .int z_lineIsFresh, .int z_wrongPlace, .int z_tooMany])), (a_y0, .inr (10, [.ref a_y0_characters, .int (nI n_y0_length)])), (a_y0_characters, .inl (ka_y0_characters, 240, .inl f_y0_characters))] H := hP
      have hD : va_D A [(a_lexemes, .inr (5, [.ref a_lexemes_tokens, .ref a_lexemes_places, .ref a_lexemes_columns, .ref a_lexemes_lineFirsts])), (a_lexemes_tokens, .inr (11, [.ref a_lexemes_tokens_kinds, .ref a_lexemes_tokens_values, .int (nI n_lexemes_tokens_size)])), (a_lexemes_tokens_kinds, .inl (ka_lexemes_tokens_kinds, 90, .inl f_lexemes_tokens_kinds)), (a_lexemes_tokens_values, .inl (ka_lexemes_tokens_values, 90, .inr (.inl f_lexemes_tokens_values))), (a_lexemes_places, .inl (ka_lexemes_places, 90, .inl f_lexemes_places)), (a_lexemes_columns, .inl (ka_lexemes_columns, 90, .inl f_lexemes_columns)), (a_lexemes_lineFirsts, .inl (ka_lexemes_lineFirsts, 90, .inl f_lexemes_lineFirsts)), (a_t, .inr (3, [.ref a_lexemes, .int (nI n_at), .int z_lineStart, .int z_lineIsFresh, .int z_wrongPlace, .int z_tooMany])), (a_y0, .inr (10, [.ref a_y0_characters, .int (nI n_y0_length)])), (a_y0_characters, .inl (ka_y0_characters, 240, .inl f_y0_characters))] := hD
      have lg := lng_le (kdO ((cN f_y0_characters n_y0_length) n_at))
      refine lv_icmp_le (tgt := 74) hx hb d_Cutter_cutLexeme_60 (by decide) (fun h5 => ?_) (fun h5 => ?_)
      · have h5 : (j1 - n_at) ≤ j4 := (nI_leI (a := (j1 - n_at)) (b := j4) (by omega) (by omega)).mp h5
        have e60 := h5
        refine lv_aload_n hx hb d_Cutter_cutLexeme_74 rfl (lv_at hl 2 rfl) ?_
        refine va_get (D := (dC, dI)) (ci := 3) (v := .ref a_lexemes) (C := R_Cutter) (T := F_Cutter) (N := 6) hx hb hz zu_Cutter hown hK hP 7 rfl rfl 0 (by decide) (hz (.fieldLink R_Cutter 12 "LayoutFront$Cutter" "lexemes" "LLayoutFront$Lexemes;") zm_74) (fun _ h9 => h9) rfl d_Cutter_cutLexeme_75 ?_
        have hPc := hP.sub (ws' := [(a_lexemes, .inr (5, [.ref a_lexemes_tokens, .ref a_lexemes_places, .ref a_lexemes_columns, .ref a_lexemes_lineFirsts])), (a_lexemes_tokens, .inr (11, [.ref a_lexemes_tokens_kinds, .ref a_lexemes_tokens_values, .int (nI n_lexemes_tokens_size)]))]) [0, 1] rfl
        have hDc := hD.sub (ws' := [(a_lexemes, .inr (5, [.ref a_lexemes_tokens, .ref a_lexemes_places, .ref a_lexemes_columns, .ref a_lexemes_lineFirsts])), (a_lexemes_tokens, .inr (11, [.ref a_lexemes_tokens_kinds, .ref a_lexemes_tokens_values, .int (nI n_lexemes_tokens_size)]))]) [0, 1] (by decide) rfl
        have hKc := hK.sub (tys' := []) [] rfl
        have hFc := va_free (wc := [(a_lexemes, .inr (5, [.ref a_lexemes_tokens, .ref a_lexemes_places, .ref a_lexemes_columns, .ref a_lexemes_lineFirsts])), (a_lexemes_tokens, .inr (11, [.ref a_lexemes_tokens_kinds, .ref a_lexemes_tokens_values, .int (nI n_lexemes_tokens_size)]))]) hD hS hA [0, 1] rfl
        refine va_calli (va_runV (As := []) (rest := []) ⟨hx, hb, hml, hown, hz⟩ (s_Lexemes_isFull6 l dC dI H.size a_lexemes a_lexemes_tokens a_lexemes_tokens_kinds a_lexemes_tokens_values n_lexemes_tokens_size a_lexemes_places a_lexemes_columns a_lexemes_lineFirsts (by first | omega | assumption | exact Or.inl rfl | exact Or.inr rfl | decide)) (cwV 0 hz (zV zm_129 zm_130 zm_131 zm_71 zm_132) rfl rfl rfl (by decide +kernel) ⟨Nat.le_of_ble_eq_true rfl, Nat.le_of_ble_eq_true rfl⟩) ⟨fun a U g mk q => by obtain ⟨q0, q1, qP, qK, qD⟩ := q; exact ⟨q0, q1, qP, va_K.moved (u := U) (U := U.calling g mk a) (Vm.Alike.refl U.vm) qK, qD⟩, va_recv (q := (R_Lexemes, F_Lexemes, 4)) (q0 := 0) (ci := 5) hK hP rfl rfl, fun U hU hW => ⟨rfl, by rw [hU], by rw [hU]; exact hPc, va_K.moved hW.alike hKc, hDc.weaken (fun _ _ _ _ => trivial)⟩⟩ rfl rfl hl.1 rfl (lv_room (Nat.le_of_ble_eq_true rfl)) d_Cutter_cutLexeme_78 ⟨Nat.zero_le _, Nat.zero_le _⟩) hS (fun q _ h => hFc q h) hFc (fun r u t H1 locs ht hvm hw_r hB hz1 hk1 hS => ?_)
        obtain ⟨hP1, hK1, hD1⟩ := hB
        obtain ⟨hb_r, he_r⟩ := hw_r
        subst r
        rw [ht] at hP1
        obtain ⟨hP, hD⟩ := va_join (wr := [(a_lexemes_tokens_kinds, .inl (ka_lexemes_tokens_kinds, 90, .inl f_lexemes_tokens_kinds)), (a_lexemes_tokens_values, .inl (ka_lexemes_tokens_values, 90, .inr (.inl f_lexemes_tokens_values))), (a_lexemes_places, .inl (ka_lexemes_places, 90, .inl f_lexemes_places)), (a_lexemes_columns, .inl (ka_lexemes_columns, 90, .inl f_lexemes_columns)), (a_lexemes_lineFirsts, .inl (ka_lexemes_lineFirsts, 90, .inl f_lexemes_lineFirsts)), (a_t, .inr (3, [.ref a_lexemes, .int (nI n_at), .int z_lineStart, .int z_lineIsFresh, .int z_wrongPlace, .int z_tooMany])), (a_y0, .inr (10, [.ref a_y0_characters, .int (nI n_y0_length)])), (a_y0_characters, .inl (ka_y0_characters, 240, .inl f_y0_characters))]) (w1 := [(a_lexemes, .inr (5, [.ref a_lexemes_tokens, .ref a_lexemes_places, .ref a_lexemes_columns, .ref a_lexemes_lineFirsts])), (a_lexemes_tokens, .inr (11, [.ref a_lexemes_tokens_kinds, .ref a_lexemes_tokens_values, .int (nI n_lexemes_tokens_size)]))]) hP hD [0, 1] [2, 3, 4, 5, 6, 7, 8, 9] rfl rfl (by decide) (by decide) hk1 hFc hP1 hD1
        generalize H1 = H at hP hS ⊢
        have hP : va_P (dC, dI) vcl [(a_lexemes_tokens_kinds, .inl (ka_lexemes_tokens_kinds, 90, .inl f_lexemes_tokens_kinds)), (a_lexemes_tokens_values, .inl (ka_lexemes_tokens_values, 90, .inr (.inl f_lexemes_tokens_values))), (a_lexemes_places, .inl (ka_lexemes_places, 90, .inl f_lexemes_places)), (a_lexemes_columns, .inl (ka_lexemes_columns, 90, .inl f_lexemes_columns)), (a_lexemes_lineFirsts, .inl (ka_lexemes_lineFirsts, 90, .inl f_lexemes_lineFirsts)), (a_t, .inr (3, [.ref a_lexemes, .int (nI n_at), .int z_lineStart, .int z_lineIsFresh, .int z_wrongPlace, .int z_tooMany])), (a_y0, .inr (10, [.ref a_y0_characters, .int (nI n_y0_length)])), (a_y0_characters, .inl (ka_y0_characters, 240, .inl f_y0_characters)), (a_lexemes, .inr (5, [.ref a_lexemes_tokens, .ref a_lexemes_places, .ref a_lexemes_columns, .ref a_lexemes_lineFirsts])), (a_lexemes_tokens, .inr (11, [.ref a_lexemes_tokens_kinds, .ref a_lexemes_tokens_values, .int (nI n_lexemes_tokens_size)]))] H := hP
        have hD : va_D A [(a_lexemes_tokens_kinds, .inl (ka_lexemes_tokens_kinds, 90, .inl f_lexemes_tokens_kinds)), (a_lexemes_tokens_values, .inl (ka_lexemes_tokens_values, 90, .inr (.inl f_lexemes_tokens_values))), (a_lexemes_places, .inl (ka_lexemes_places, 90, .inl f_lexemes_places)), (a_lexemes_columns, .inl (ka_lexemes_columns, 90, .inl f_lexemes_columns)), (a_lexemes_lineFirsts, .inl (ka_lexemes_lineFirsts, 90, .inl f_lexemes_lineFirsts)), (a_t, .inr (3, [.ref a_lexemes, .int (nI n_at), .int z_lineStart, .int z_lineIsFresh, .int z_wrongPlace, .int z_tooMany])), (a_y0, .inr (10, [.ref a_y0_characters, .int (nI n_y0_length)])), (a_y0_characters, .inl (ka_y0_characters, 240, .inl f_y0_characters)), (a_lexemes, .inr (5, [.ref a_lexemes_tokens, .ref a_lexemes_places, .ref a_lexemes_columns, .ref a_lexemes_lineFirsts])), (a_lexemes_tokens, .inr (11, [.ref a_lexemes_tokens_kinds, .ref a_lexemes_tokens_values, .int (nI n_lexemes_tokens_size)]))] := hD
        refine lv_if_eq (tgt := 100) hx hb d_Cutter_cutLexeme_81 (by decide) (fun h6 => ?_) (fun h6 => ?_)
        · have e81 := of_decide_eq_false (b01_no h6)
          refine lv_aload_n hx hb d_Cutter_cutLexeme_100 rfl (lv_at hl 2 rfl) ?_
          refine lv_aload_n hx hb d_Cutter_cutLexeme_101 rfl (lv_at hl 3 rfl) ?_
          refine lv_iload_n hx hb d_Cutter_cutLexeme_102 rfl (lv_at hl 1 rfl) ?_
          refine lv_iload_n hx hb d_Cutter_cutLexeme_103 rfl (lv_at hl 0 rfl) ?_
          have hPc := hP.sub (ws' := [(a_t, .inr (3, [.ref a_lexemes, .int (nI n_at), .int z_lineStart, .int z_lineIsFresh, .int z_wrongPlace, .int z_tooMany])), (a_lexemes, .inr (5, [.ref a_lexemes_tokens, .ref a_lexemes_places, .ref a_lexemes_columns, .ref a_lexemes_lineFirsts])), (a_lexemes_tokens, .inr (11, [.ref a_lexemes_tokens_kinds, .ref a_lexemes_tokens_values, .int (nI n_lexemes_tokens_size)])), (a_lexemes_tokens_kinds, .inl (ka_lexemes_tokens_kinds, 90, .inl f_lexemes_tokens_kinds)), (a_lexemes_tokens_values, .inl (ka_lexemes_tokens_values, 90, .inr (.inl f_lexemes_tokens_values))), (a_lexemes_places, .inl (ka_lexemes_places, 90, .inl f_lexemes_places)), (a_lexemes_columns, .inl (ka_lexemes_columns, 90, .inl f_lexemes_columns)), (a_lexemes_lineFirsts, .inl (ka_lexemes_lineFirsts, 90, .inl f_lexemes_lineFirsts)), (a_y0, .inr (10, [.ref a_y0_characters, .int (nI n_y0_length)])), (a_y0_characters, .inl (ka_y0_characters, 240, .inl f_y0_characters))]) [5, 8, 9, 0, 1, 2, 3, 4, 6, 7] rfl
          have hDc := hD.sub (ws' := [(a_t, .inr (3, [.ref a_lexemes, .int (nI n_at), .int z_lineStart, .int z_lineIsFresh, .int z_wrongPlace, .int z_tooMany])), (a_lexemes, .inr (5, [.ref a_lexemes_tokens, .ref a_lexemes_places, .ref a_lexemes_columns, .ref a_lexemes_lineFirsts])), (a_lexemes_tokens, .inr (11, [.ref a_lexemes_tokens_kinds, .ref a_lexemes_tokens_values, .int (nI n_lexemes_tokens_size)])), (a_lexemes_tokens_kinds, .inl (ka_lexemes_tokens_kinds, 90, .inl f_lexemes_tokens_kinds)), (a_lexemes_tokens_values, .inl (ka_lexemes_tokens_values, 90, .inr (.inl f_lexemes_tokens_values))), (a_lexemes_places, .inl (ka_lexemes_places, 90, .inl f_lexemes_places)), (a_lexemes_columns, .inl (ka_lexemes_columns, 90, .inl f_lexemes_columns)), (a_lexemes_lineFirsts, .inl (ka_lexemes_lineFirsts, 90, .inl f_lexemes_lineFirsts)), (a_y0, .inr (10, [.ref a_y0_characters, .int (nI n_y0_length)])), (a_y0_characters, .inl (ka_y0_characters, 240, .inl f_y0_characters))]) [5, 8, 9, 0, 1, 2, 3, 4, 6, 7] (by decide) rfl
          have hKc := hK.sub (tys' := [(ka_lexemes_tokens_kinds, .int), (ka_lexemes_tokens_values, .long), (ka_lexemes_places, .int), (ka_lexemes_columns, .int), (ka_lexemes_lineFirsts, .boolean), (ka_y0_characters, .char)]) [0, 1, 2, 3, 4, 5] rfl
          have hFc := va_free (wc := [(a_t, .inr (3, [.ref a_lexemes, .int (nI n_at), .int z_lineStart, .int z_lineIsFresh, .int z_wrongPlace, .int z_tooMany])), (a_lexemes, .inr (5, [.ref a_lexemes_tokens, .ref a_lexemes_places, .ref a_lexemes_columns, .ref a_lexemes_lineFirsts])), (a_lexemes_tokens, .inr (11, [.ref a_lexemes_tokens_kinds, .ref a_lexemes_tokens_values, .int (nI n_lexemes_tokens_size)])), (a_lexemes_tokens_kinds, .inl (ka_lexemes_tokens_kinds, 90, .inl f_lexemes_tokens_kinds)), (a_lexemes_tokens_values, .inl (ka_lexemes_tokens_values, 90, .inr (.inl f_lexemes_tokens_values))), (a_lexemes_places, .inl (ka_lexemes_places, 90, .inl f_lexemes_places)), (a_lexemes_columns, .inl (ka_lexemes_columns, 90, .inl f_lexemes_columns)), (a_lexemes_lineFirsts, .inl (ka_lexemes_lineFirsts, 90, .inl f_lexemes_lineFirsts)), (a_y0, .inr (10, [.ref a_y0_characters, .int (nI n_y0_length)])), (a_y0_characters, .inl (ka_y0_characters, 240, .inl f_y0_characters))]) hD hS hA [5, 8, 9, 0, 1, 2, 3, 4, 6, 7] rfl
          refine va_callv (va_runV (As := [.ref a_y0, .int (kdO ((cN f_y0_characters n_y0_length n_at))), .int (nI j1)]) (rest := []) ⟨hx, hb, hml, hown, hz⟩ (s_Cutter_take6 l dC dI H.size a_t a_lexemes a_lexemes_tokens a_lexemes_tokens_kinds f_lexemes_tokens_kinds a_lexemes_tokens_values f_lexemes_tokens_values n_lexemes_tokens_size a_lexemes_places f_lexemes_places a_lexemes_columns f_lexemes_columns a_lexemes_lineFirsts f_lexemes_lineFirsts n_at z_lineStart z_lineIsFresh z_wrongPlace z_tooMany a_y0 a_y0_characters f_y0_characters n_y0_length ((kdO ((cN f_y0_characters n_y0_length n_at)))) j1 L ka_lexemes_tokens_kinds ka_lexemes_tokens_values ka_lexemes_places ka_lexemes_columns ka_lexemes_lineFirsts ka_y0_characters (by first | omega | assumption | exact Or.inl rfl | exact Or.inr rfl | decide) (by first | omega | assumption | exact Or.inl rfl | exact Or.inr rfl | decide) (by first | omega | assumption | exact Or.inl rfl | exact Or.inr rfl | decide) (by first | omega | assumption | exact Or.inl rfl | exact Or.inr rfl | decide) (by first | omega | assumption | exact Or.inl rfl | exact Or.inr rfl | decide) (by first | omega | assumption | exact Or.inl rfl | exact Or.inr rfl | decide) (by first | omega | assumption | exact Or.inl rfl | exact Or.inr rfl | decide) (by first | omega | assumption | exact Or.inl rfl | exact Or.inr rfl | decide) (by first | omega | assumption | exact Or.inl rfl | exact Or.inr rfl | decide) (by exact fun z9 => en_7 z9 (by omega)) (by exact fun z9 j9 g1 g2 => en_dig hp0 z9 (by rw [← l_j1]; exact g2) g1) (by first | omega | assumption | exact Or.inl rfl | exact Or.inr rfl | decide) (by first | omega | assumption | exact Or.inl rfl | exact Or.inr rfl | decide) (by first | omega | assumption | exact Or.inl rfl | exact Or.inr rfl | decide) (by first | omega | assumption | exact Or.inl rfl | exact Or.inr rfl | decide) (by first | omega | assumption | exact Or.inl rfl | exact Or.inr rfl | decide)) (cwV 3 hz (zV zm_133 zm_134 zm_135 zm_92 zm_136) rfl rfl rfl (by decide +kernel) ⟨Nat.le_of_ble_eq_true rfl, Nat.le_of_ble_eq_true rfl⟩) ⟨fun a U g mk q => by obtain ⟨q0, q1, qP, qK, qD⟩ := q; exact ⟨q0, q1, qP, va_K.moved (u := U) (U := U.calling g mk a) (Vm.Alike.refl U.vm) qK, qD⟩, va_recv (q := (R_Cutter, F_Cutter, 6)) (q0 := 5) (ci := 3) hK hP rfl rfl, fun U hU hW => ⟨rfl, by rw [hU], by rw [hU]; exact hPc, va_K.moved hW.alike hKc, hDc.weaken (fun _ _ _ _ => trivial)⟩⟩ rfl rfl hl.1 rfl (lv_room (Nat.le_of_ble_eq_true rfl)) d_Cutter_cutLexeme_104 ⟨Nat.zero_le _, Nat.zero_le _⟩) hS (fun q _ h => hFc q h) hFc (fun u t H1 locs ht hvm hw hB hz1 hk1 hS => ?_)
          obtain ⟨g7, g8, g9, g10, g11, g12, g13, g14, hb_g7, hb_g9, hq0_104, hq1_104, hq2_104, hq3_104, hP1, hK1, hD1⟩ := hB
          subst g7
          subst g8
          rw [ht] at hP1
          obtain ⟨hP, hD⟩ := va_join (wr := []) (w1 := [(a_t, .inr (3, [.ref a_lexemes, .int (nI (j1)), .int z_lineStart, .int (0), .int z_wrongPlace, .int z_tooMany])), (a_lexemes, .inr (5, [.ref a_lexemes_tokens, .ref a_lexemes_places, .ref a_lexemes_columns, .ref a_lexemes_lineFirsts])), (a_lexemes_tokens, .inr (11, [.ref a_lexemes_tokens_kinds, .ref a_lexemes_tokens_values, .int (nI g9)])), (a_lexemes_tokens_kinds, .inl (ka_lexemes_tokens_kinds, 90, .inl g10)), (a_lexemes_tokens_values, .inl (ka_lexemes_tokens_values, 90, .inr (.inl g11))), (a_lexemes_places, .inl (ka_lexemes_places, 90, .inl g12)), (a_lexemes_columns, .inl (ka_lexemes_columns, 90, .inl g13)), (a_lexemes_lineFirsts, .inl (ka_lexemes_lineFirsts, 90, .inl g14)), (a_y0, .inr (10, [.ref a_y0_characters, .int (nI n_y0_length)])), (a_y0_characters, .inl (ka_y0_characters, 240, .inl f_y0_characters))]) hP hD [5, 8, 9, 0, 1, 2, 3, 4, 6, 7] [] rfl rfl (by decide) (by decide) hk1 hFc hP1 hD1
          generalize H1 = H at hP hS ⊢
          have hP : va_P (dC, dI) vcl [(a_t, .inr (3, [.ref a_lexemes, .int (nI (j1)), .int z_lineStart, .int (0), .int z_wrongPlace, .int z_tooMany])), (a_lexemes, .inr (5, [.ref a_lexemes_tokens, .ref a_lexemes_places, .ref a_lexemes_columns, .ref a_lexemes_lineFirsts])), (a_lexemes_tokens, .inr (11, [.ref a_lexemes_tokens_kinds, .ref a_lexemes_tokens_values, .int (nI g9)])), (a_lexemes_tokens_kinds, .inl (ka_lexemes_tokens_kinds, 90, .inl g10)), (a_lexemes_tokens_values, .inl (ka_lexemes_tokens_values, 90, .inr (.inl g11))), (a_lexemes_places, .inl (ka_lexemes_places, 90, .inl g12)), (a_lexemes_columns, .inl (ka_lexemes_columns, 90, .inl g13)), (a_lexemes_lineFirsts, .inl (ka_lexemes_lineFirsts, 90, .inl g14)), (a_y0, .inr (10, [.ref a_y0_characters, .int (nI n_y0_length)])), (a_y0_characters, .inl (ka_y0_characters, 240, .inl f_y0_characters))] H := hP
          have hD : va_D A [(a_t, .inr (3, [.ref a_lexemes, .int (nI (j1)), .int z_lineStart, .int (0), .int z_wrongPlace, .int z_tooMany])), (a_lexemes, .inr (5, [.ref a_lexemes_tokens, .ref a_lexemes_places, .ref a_lexemes_columns, .ref a_lexemes_lineFirsts])), (a_lexemes_tokens, .inr (11, [.ref a_lexemes_tokens_kinds, .ref a_lexemes_tokens_values, .int (nI g9)])), (a_lexemes_tokens_kinds, .inl (ka_lexemes_tokens_kinds, 90, .inl g10)), (a_lexemes_tokens_values, .inl (ka_lexemes_tokens_values, 90, .inr (.inl g11))), (a_lexemes_places, .inl (ka_lexemes_places, 90, .inl g12)), (a_lexemes_columns, .inl (ka_lexemes_columns, 90, .inl g13)), (a_lexemes_lineFirsts, .inl (ka_lexemes_lineFirsts, 90, .inl g14)), (a_y0, .inr (10, [.ref a_y0_characters, .int (nI n_y0_length)])), (a_y0_characters, .inl (ka_y0_characters, 240, .inl f_y0_characters))] := hD
          have hP9 := hP.sub (ws' := [(a_t, .inr (3, [.ref a_lexemes, .int (nI (j1)), .int z_lineStart, .int (0), .int z_wrongPlace, .int z_tooMany])), (a_lexemes, .inr (5, [.ref a_lexemes_tokens, .ref a_lexemes_places, .ref a_lexemes_columns, .ref a_lexemes_lineFirsts])), (a_lexemes_tokens, .inr (11, [.ref a_lexemes_tokens_kinds, .ref a_lexemes_tokens_values, .int (nI g9)])), (a_lexemes_tokens_kinds, .inl (ka_lexemes_tokens_kinds, 90, .inl g10)), (a_lexemes_tokens_values, .inl (ka_lexemes_tokens_values, 90, .inr (.inl g11))), (a_lexemes_places, .inl (ka_lexemes_places, 90, .inl g12)), (a_lexemes_columns, .inl (ka_lexemes_columns, 90, .inl g13)), (a_lexemes_lineFirsts, .inl (ka_lexemes_lineFirsts, 90, .inl g14)), (a_y0, .inr (10, [.ref a_y0_characters, .int (nI n_y0_length)])), (a_y0_characters, .inl (ka_y0_characters, 240, .inl f_y0_characters))]) [0, 1, 2, 3, 4, 5, 6, 7, 8, 9] rfl
          have hD9 := hD.sub (ws' := [(a_t, .inr (3, [.ref a_lexemes, .int (nI (j1)), .int z_lineStart, .int (0), .int z_wrongPlace, .int z_tooMany])), (a_lexemes, .inr (5, [.ref a_lexemes_tokens, .ref a_lexemes_places, .ref a_lexemes_columns, .ref a_lexemes_lineFirsts])), (a_lexemes_tokens, .inr (11, [.ref a_lexemes_tokens_kinds, .ref a_lexemes_tokens_values, .int (nI g9)])), (a_lexemes_tokens_kinds, .inl (ka_lexemes_tokens_kinds, 90, .inl g10)), (a_lexemes_tokens_values, .inl (ka_lexemes_tokens_values, 90, .inr (.inl g11))), (a_lexemes_places, .inl (ka_lexemes_places, 90, .inl g12)), (a_lexemes_columns, .inl (ka_lexemes_columns, 90, .inl g13)), (a_lexemes_lineFirsts, .inl (ka_lexemes_lineFirsts, 90, .inl g14)), (a_y0, .inr (10, [.ref a_y0_characters, .int (nI n_y0_length)])), (a_y0_characters, .inl (ka_y0_characters, 240, .inl f_y0_characters))]) [0, 1, 2, 3, 4, 5, 6, 7, 8, 9] (by decide) rfl
          exact W.vret hx hb hr (fun t ht hW => ⟨⟨(), rfl, trivial, ((j1)), ((0)), z_wrongPlace, z_tooMany, g9, g10, g11, g12, g13, g14, by first | omega | assumption | exact Or.inl rfl | exact Or.inr rfl | decide, by first | omega | assumption | exact Or.inl rfl | exact Or.inr rfl | decide, by first | omega | assumption | exact Or.inl rfl | exact Or.inr rfl | decide, by exact cl_t hp0 hp6 hp7 (nd_1 e21) (fun z9 => z9.elim e47 (fun z9 => z9.elim (fun z8 => by rw [← l_j1] at z8; omega) (fun z8 => by omega))) l_j1 hq2_104 (by rw [← hp2]; exact hq3_104) hp3, by first | omega | assumption | exact Or.inl rfl | exact Or.inr rfl | decide, by exact Or.inl rfl, by rw [ht]; exact hP9, va_K.moved hW.alike hK, hD9⟩, hS.F ht⟩) hS.2.2 d_Cutter_cutLexeme_107
        · have e81 := of_decide_eq_true (b01_yes h6)
          refine lv_aload_n hx hb d_Cutter_cutLexeme_84 rfl (lv_at hl 2 rfl) ?_
          refine lv_aload_n hx hb d_Cutter_cutLexeme_85 rfl (lv_at hl 2 rfl) ?_
          refine va_get (D := (dC, dI)) (ci := 3) (v := .int (nI n_at)) (C := R_Cutter) (T := F_Cutter) (N := 6) hx hb hz zu_Cutter hown hK hP 5 rfl rfl 1 (by decide) (hz (.fieldLink R_Cutter 29 "LayoutFront$Cutter" "at" "I") zm_82) (fun _ h9 => h9) rfl d_Cutter_cutLexeme_86 ?_
          refine va_put (D := (dC, dI)) (ci := 3) (v := .int (nI n_at)) (ty := .int) (C := R_Cutter) (T := F_Cutter) (N := 6) hx hb hz zu_Cutter t_Cutter t_Cutter_ok n_Cutter hown hK hP hD hS 5 rfl rfl 4 (by decide) (hz (.fieldLink R_Cutter 18 "LayoutFront$Cutter" "wrongPlace" "I") zm_75) (fun _ h9 => h9) rfl (by decide +kernel) rfl rfl (Nat.le_of_ble_eq_true rfl) d_Cutter_cutLexeme_89 (fun H locs hP hD hS => ?_)
          have hP : va_P (dC, dI) vcl [(a_lexemes_tokens_kinds, .inl (ka_lexemes_tokens_kinds, 90, .inl f_lexemes_tokens_kinds)), (a_lexemes_tokens_values, .inl (ka_lexemes_tokens_values, 90, .inr (.inl f_lexemes_tokens_values))), (a_lexemes_places, .inl (ka_lexemes_places, 90, .inl f_lexemes_places)), (a_lexemes_columns, .inl (ka_lexemes_columns, 90, .inl f_lexemes_columns)), (a_lexemes_lineFirsts, .inl (ka_lexemes_lineFirsts, 90, .inl f_lexemes_lineFirsts)), (a_t, .inr (3, [.ref a_lexemes, .int (nI n_at), .int z_lineStart, .int z_lineIsFresh, .int (nI n_at), .int z_tooMany])), (a_y0, .inr (10, [.ref a_y0_characters, .int (nI n_y0_length)])), (a_y0_characters, .inl (ka_y0_characters, 240, .inl f_y0_characters)), (a_lexemes, .inr (5, [.ref a_lexemes_tokens, .ref a_lexemes_places, .ref a_lexemes_columns, .ref a_lexemes_lineFirsts])), (a_lexemes_tokens, .inr (11, [.ref a_lexemes_tokens_kinds, .ref a_lexemes_tokens_values, .int (nI n_lexemes_tokens_size)]))] H := hP
          have hD : va_D A [(a_lexemes_tokens_kinds, .inl (ka_lexemes_tokens_kinds, 90, .inl f_lexemes_tokens_kinds)), (a_lexemes_tokens_values, .inl (ka_lexemes_tokens_values, 90, .inr (.inl f_lexemes_tokens_values))), (a_lexemes_places, .inl (ka_lexemes_places, 90, .inl f_lexemes_places)), (a_lexemes_columns, .inl (ka_lexemes_columns, 90, .inl f_lexemes_columns)), (a_lexemes_lineFirsts, .inl (ka_lexemes_lineFirsts, 90, .inl f_lexemes_lineFirsts)), (a_t, .inr (3, [.ref a_lexemes, .int (nI n_at), .int z_lineStart, .int z_lineIsFresh, .int (nI n_at), .int z_tooMany])), (a_y0, .inr (10, [.ref a_y0_characters, .int (nI n_y0_length)])), (a_y0_characters, .inl (ka_y0_characters, 240, .inl f_y0_characters)), (a_lexemes, .inr (5, [.ref a_lexemes_tokens, .ref a_lexemes_places, .ref a_lexemes_columns, .ref a_lexemes_lineFirsts])), (a_lexemes_tokens, .inr (11, [.ref a_lexemes_tokens_kinds, .ref a_lexemes_tokens_values, .int (nI n_lexemes_tokens_size)]))] := hD
          refine lv_aload_n hx hb d_Cutter_cutLexeme_92 rfl (lv_at hl 2 rfl) ?_
          refine lv_iconst (v := 1) hx hb d_Cutter_cutLexeme_93 (by decide) ?_
          refine va_put (D := (dC, dI)) (ci := 3) (v := .int 1) (ty := .boolean) (C := R_Cutter) (T := F_Cutter) (N := 6) hx hb hz zu_Cutter t_Cutter t_Cutter_ok n_Cutter hown hK hP hD hS 5 rfl rfl 5 (by decide) (hz (.fieldLink R_Cutter 22 "LayoutFront$Cutter" "tooMany" "Z") zm_77) (fun _ h9 => h9) rfl (by decide +kernel) (by decide +kernel) rfl (Nat.le_of_ble_eq_true rfl) d_Cutter_cutLexeme_94 (fun H locs hP hD hS => ?_)
          have hP : va_P (dC, dI) vcl [(a_lexemes_tokens_kinds, .inl (ka_lexemes_tokens_kinds, 90, .inl f_lexemes_tokens_kinds)), (a_lexemes_tokens_values, .inl (ka_lexemes_tokens_values, 90, .inr (.inl f_lexemes_tokens_values))), (a_lexemes_places, .inl (ka_lexemes_places, 90, .inl f_lexemes_places)), (a_lexemes_columns, .inl (ka_lexemes_columns, 90, .inl f_lexemes_columns)), (a_lexemes_lineFirsts, .inl (ka_lexemes_lineFirsts, 90, .inl f_lexemes_lineFirsts)), (a_t, .inr (3, [.ref a_lexemes, .int (nI n_at), .int z_lineStart, .int z_lineIsFresh, .int (nI n_at), .int 1])), (a_y0, .inr (10, [.ref a_y0_characters, .int (nI n_y0_length)])), (a_y0_characters, .inl (ka_y0_characters, 240, .inl f_y0_characters)), (a_lexemes, .inr (5, [.ref a_lexemes_tokens, .ref a_lexemes_places, .ref a_lexemes_columns, .ref a_lexemes_lineFirsts])), (a_lexemes_tokens, .inr (11, [.ref a_lexemes_tokens_kinds, .ref a_lexemes_tokens_values, .int (nI n_lexemes_tokens_size)]))] H := hP
          have hD : va_D A [(a_lexemes_tokens_kinds, .inl (ka_lexemes_tokens_kinds, 90, .inl f_lexemes_tokens_kinds)), (a_lexemes_tokens_values, .inl (ka_lexemes_tokens_values, 90, .inr (.inl f_lexemes_tokens_values))), (a_lexemes_places, .inl (ka_lexemes_places, 90, .inl f_lexemes_places)), (a_lexemes_columns, .inl (ka_lexemes_columns, 90, .inl f_lexemes_columns)), (a_lexemes_lineFirsts, .inl (ka_lexemes_lineFirsts, 90, .inl f_lexemes_lineFirsts)), (a_t, .inr (3, [.ref a_lexemes, .int (nI n_at), .int z_lineStart, .int z_lineIsFresh, .int (nI n_at), .int 1])), (a_y0, .inr (10, [.ref a_y0_characters, .int (nI n_y0_length)])), (a_y0_characters, .inl (ka_y0_characters, 240, .inl f_y0_characters)), (a_lexemes, .inr (5, [.ref a_lexemes_tokens, .ref a_lexemes_places, .ref a_lexemes_columns, .ref a_lexemes_lineFirsts])), (a_lexemes_tokens, .inr (11, [.ref a_lexemes_tokens_kinds, .ref a_lexemes_tokens_values, .int (nI n_lexemes_tokens_size)]))] := hD
          refine lv_goto (tgt := 107) hx hb d_Cutter_cutLexeme_97 (by decide) ?_
          have hP9 := hP.sub (ws' := [(a_t, .inr (3, [.ref a_lexemes, .int (nI n_at), .int z_lineStart, .int z_lineIsFresh, .int (nI n_at), .int 1])), (a_lexemes, .inr (5, [.ref a_lexemes_tokens, .ref a_lexemes_places, .ref a_lexemes_columns, .ref a_lexemes_lineFirsts])), (a_lexemes_tokens, .inr (11, [.ref a_lexemes_tokens_kinds, .ref a_lexemes_tokens_values, .int (nI n_lexemes_tokens_size)])), (a_lexemes_tokens_kinds, .inl (ka_lexemes_tokens_kinds, 90, .inl f_lexemes_tokens_kinds)), (a_lexemes_tokens_values, .inl (ka_lexemes_tokens_values, 90, .inr (.inl f_lexemes_tokens_values))), (a_lexemes_places, .inl (ka_lexemes_places, 90, .inl f_lexemes_places)), (a_lexemes_columns, .inl (ka_lexemes_columns, 90, .inl f_lexemes_columns)), (a_lexemes_lineFirsts, .inl (ka_lexemes_lineFirsts, 90, .inl f_lexemes_lineFirsts)), (a_y0, .inr (10, [.ref a_y0_characters, .int (nI n_y0_length)])), (a_y0_characters, .inl (ka_y0_characters, 240, .inl f_y0_characters))]) [5, 8, 9, 0, 1, 2, 3, 4, 6, 7] rfl
          have hD9 := hD.sub (ws' := [(a_t, .inr (3, [.ref a_lexemes, .int (nI n_at), .int z_lineStart, .int z_lineIsFresh, .int (nI n_at), .int 1])), (a_lexemes, .inr (5, [.ref a_lexemes_tokens, .ref a_lexemes_places, .ref a_lexemes_columns, .ref a_lexemes_lineFirsts])), (a_lexemes_tokens, .inr (11, [.ref a_lexemes_tokens_kinds, .ref a_lexemes_tokens_values, .int (nI n_lexemes_tokens_size)])), (a_lexemes_tokens_kinds, .inl (ka_lexemes_tokens_kinds, 90, .inl f_lexemes_tokens_kinds)), (a_lexemes_tokens_values, .inl (ka_lexemes_tokens_values, 90, .inr (.inl f_lexemes_tokens_values))), (a_lexemes_places, .inl (ka_lexemes_places, 90, .inl f_lexemes_places)), (a_lexemes_columns, .inl (ka_lexemes_columns, 90, .inl f_lexemes_columns)), (a_lexemes_lineFirsts, .inl (ka_lexemes_lineFirsts, 90, .inl f_lexemes_lineFirsts)), (a_y0, .inr (10, [.ref a_y0_characters, .int (nI n_y0_length)])), (a_y0_characters, .inl (ka_y0_characters, 240, .inl f_y0_characters))]) [5, 8, 9, 0, 1, 2, 3, 4, 6, 7] (by decide) rfl
          exact W.vret hx hb hr (fun t ht hW => ⟨⟨(), rfl, trivial, n_at, z_lineIsFresh, ((nI n_at)), 1, n_lexemes_tokens_size, f_lexemes_tokens_kinds, f_lexemes_tokens_values, f_lexemes_places, f_lexemes_columns, f_lexemes_lineFirsts, by first | omega | assumption | exact Or.inl rfl | exact Or.inr rfl | decide, by first | omega | assumption | exact Or.inl rfl | exact Or.inr rfl | decide, by first | omega | assumption | exact Or.inl rfl | exact Or.inr rfl | decide, by exact cl_x hp6 hp7 (nd_1 e21) (Or.inr (Or.inr (by omega))) hp1 hp2, by first | omega | assumption | exact Or.inl rfl | exact Or.inr rfl | decide, by exact Or.inr (nI_n1 (by omega)), by rw [ht]; exact hP9, va_K.moved hW.alike hK, hD9⟩, hS.F ht⟩) hS.2.2 d_Cutter_cutLexeme_107
      · have h5 : ¬ (j1 - n_at) ≤ j4 := fun q => h5 ((nI_leI (a := (j1 - n_at)) (b := j4) (by omega) (by omega)).mpr q)
        have e60 := h5
        refine lv_aload_n hx hb d_Cutter_cutLexeme_63 rfl (lv_at hl 2 rfl) ?_
        refine lv_aload_n hx hb d_Cutter_cutLexeme_64 rfl (lv_at hl 2 rfl) ?_
        refine va_get (D := (dC, dI)) (ci := 3) (v := .int (nI n_at)) (C := R_Cutter) (T := F_Cutter) (N := 6) hx hb hz zu_Cutter hown hK hP 7 rfl rfl 1 (by decide) (hz (.fieldLink R_Cutter 29 "LayoutFront$Cutter" "at" "I") zm_82) (fun _ h9 => h9) rfl d_Cutter_cutLexeme_65 ?_
        refine va_put (D := (dC, dI)) (ci := 3) (v := .int (nI n_at)) (ty := .int) (C := R_Cutter) (T := F_Cutter) (N := 6) hx hb hz zu_Cutter t_Cutter t_Cutter_ok n_Cutter hown hK hP hD hS 7 rfl rfl 4 (by decide) (hz (.fieldLink R_Cutter 18 "LayoutFront$Cutter" "wrongPlace" "I") zm_75) (fun _ h9 => h9) rfl (by decide +kernel) rfl rfl (Nat.le_of_ble_eq_true rfl) d_Cutter_cutLexeme_68 (fun H locs hP hD hS => ?_)
        have hP : va_P (dC, dI) vcl [(a_lexemes, .inr (5, [.ref a_lexemes_tokens, .ref a_lexemes_places, .ref a_lexemes_columns, .ref a_lexemes_lineFirsts])), (a_lexemes_tokens, .inr (11, [.ref a_lexemes_tokens_kinds, .ref a_lexemes_tokens_values, .int (nI n_lexemes_tokens_size)])), (a_lexemes_tokens_kinds, .inl (ka_lexemes_tokens_kinds, 90, .inl f_lexemes_tokens_kinds)), (a_lexemes_tokens_values, .inl (ka_lexemes_tokens_values, 90, .inr (.inl f_lexemes_tokens_values))), (a_lexemes_places, .inl (ka_lexemes_places, 90, .inl f_lexemes_places)), (a_lexemes_columns, .inl (ka_lexemes_columns, 90, .inl f_lexemes_columns)), (a_lexemes_lineFirsts, .inl (ka_lexemes_lineFirsts, 90, .inl f_lexemes_lineFirsts)), (a_t, .inr (3, [.ref a_lexemes, .int (nI n_at), .int z_lineStart, .int z_lineIsFresh, .int (nI n_at), .int z_tooMany])), (a_y0, .inr (10, [.ref a_y0_characters, .int (nI n_y0_length)])), (a_y0_characters, .inl (ka_y0_characters, 240, .inl f_y0_characters))] H := hP
        have hD : va_D A [(a_lexemes, .inr (5, [.ref a_lexemes_tokens, .ref a_lexemes_places, .ref a_lexemes_columns, .ref a_lexemes_lineFirsts])), (a_lexemes_tokens, .inr (11, [.ref a_lexemes_tokens_kinds, .ref a_lexemes_tokens_values, .int (nI n_lexemes_tokens_size)])), (a_lexemes_tokens_kinds, .inl (ka_lexemes_tokens_kinds, 90, .inl f_lexemes_tokens_kinds)), (a_lexemes_tokens_values, .inl (ka_lexemes_tokens_values, 90, .inr (.inl f_lexemes_tokens_values))), (a_lexemes_places, .inl (ka_lexemes_places, 90, .inl f_lexemes_places)), (a_lexemes_columns, .inl (ka_lexemes_columns, 90, .inl f_lexemes_columns)), (a_lexemes_lineFirsts, .inl (ka_lexemes_lineFirsts, 90, .inl f_lexemes_lineFirsts)), (a_t, .inr (3, [.ref a_lexemes, .int (nI n_at), .int z_lineStart, .int z_lineIsFresh, .int (nI n_at), .int z_tooMany])), (a_y0, .inr (10, [.ref a_y0_characters, .int (nI n_y0_length)])), (a_y0_characters, .inl (ka_y0_characters, 240, .inl f_y0_characters))] := hD
        refine lv_goto (tgt := 107) hx hb d_Cutter_cutLexeme_71 (by decide) ?_
        have hP9 := hP.sub (ws' := [(a_t, .inr (3, [.ref a_lexemes, .int (nI n_at), .int z_lineStart, .int z_lineIsFresh, .int (nI n_at), .int z_tooMany])), (a_lexemes, .inr (5, [.ref a_lexemes_tokens, .ref a_lexemes_places, .ref a_lexemes_columns, .ref a_lexemes_lineFirsts])), (a_lexemes_tokens, .inr (11, [.ref a_lexemes_tokens_kinds, .ref a_lexemes_tokens_values, .int (nI n_lexemes_tokens_size)])), (a_lexemes_tokens_kinds, .inl (ka_lexemes_tokens_kinds, 90, .inl f_lexemes_tokens_kinds)), (a_lexemes_tokens_values, .inl (ka_lexemes_tokens_values, 90, .inr (.inl f_lexemes_tokens_values))), (a_lexemes_places, .inl (ka_lexemes_places, 90, .inl f_lexemes_places)), (a_lexemes_columns, .inl (ka_lexemes_columns, 90, .inl f_lexemes_columns)), (a_lexemes_lineFirsts, .inl (ka_lexemes_lineFirsts, 90, .inl f_lexemes_lineFirsts)), (a_y0, .inr (10, [.ref a_y0_characters, .int (nI n_y0_length)])), (a_y0_characters, .inl (ka_y0_characters, 240, .inl f_y0_characters))]) [7, 0, 1, 2, 3, 4, 5, 6, 8, 9] rfl
        have hD9 := hD.sub (ws' := [(a_t, .inr (3, [.ref a_lexemes, .int (nI n_at), .int z_lineStart, .int z_lineIsFresh, .int (nI n_at), .int z_tooMany])), (a_lexemes, .inr (5, [.ref a_lexemes_tokens, .ref a_lexemes_places, .ref a_lexemes_columns, .ref a_lexemes_lineFirsts])), (a_lexemes_tokens, .inr (11, [.ref a_lexemes_tokens_kinds, .ref a_lexemes_tokens_values, .int (nI n_lexemes_tokens_size)])), (a_lexemes_tokens_kinds, .inl (ka_lexemes_tokens_kinds, 90, .inl f_lexemes_tokens_kinds)), (a_lexemes_tokens_values, .inl (ka_lexemes_tokens_values, 90, .inr (.inl f_lexemes_tokens_values))), (a_lexemes_places, .inl (ka_lexemes_places, 90, .inl f_lexemes_places)), (a_lexemes_columns, .inl (ka_lexemes_columns, 90, .inl f_lexemes_columns)), (a_lexemes_lineFirsts, .inl (ka_lexemes_lineFirsts, 90, .inl f_lexemes_lineFirsts)), (a_y0, .inr (10, [.ref a_y0_characters, .int (nI n_y0_length)])), (a_y0_characters, .inl (ka_y0_characters, 240, .inl f_y0_characters))]) [7, 0, 1, 2, 3, 4, 5, 6, 8, 9] (by decide) rfl
        exact W.vret hx hb hr (fun t ht hW => ⟨⟨(), rfl, trivial, n_at, z_lineIsFresh, ((nI n_at)), z_tooMany, n_lexemes_tokens_size, f_lexemes_tokens_kinds, f_lexemes_tokens_values, f_lexemes_places, f_lexemes_columns, f_lexemes_lineFirsts, by first | omega | assumption | exact Or.inl rfl | exact Or.inr rfl | decide, by first | omega | assumption | exact Or.inl rfl | exact Or.inr rfl | decide, by first | omega | assumption | exact Or.inl rfl | exact Or.inr rfl | decide, by exact cl_x hp6 hp7 (nd_1 e21) (Or.inr (Or.inl (by rw [← l_j1]; omega))) hp1 hp2, by first | omega | assumption | exact Or.inl rfl | exact Or.inr rfl | decide, by exact Or.inl rfl, by rw [ht]; exact hP9, va_K.moved hW.alike hK, hD9⟩, hS.F ht⟩) hS.2.2 d_Cutter_cutLexeme_107
  · have e21 := h2
    refine lv_aload_n hx hb d_Cutter_cutLexeme_24 rfl (lv_at hl 2 rfl) ?_
    refine lv_aload_n hx hb d_Cutter_cutLexeme_25 rfl (lv_at hl 3 rfl) ?_
    refine lv_iload_n hx hb d_Cutter_cutLexeme_26 rfl (lv_at hl 0 rfl) ?_
    have hPc := hP.sub (ws' := [(a_t, .inr (3, [.ref a_lexemes, .int (nI n_at), .int z_lineStart, .int z_lineIsFresh, .int z_wrongPlace, .int z_tooMany])), (a_y0, .inr (10, [.ref a_y0_characters, .int (nI n_y0_length)])), (a_y0_characters, .inl (ka_y0_characters, 240, .inl f_y0_characters))]) [7, 8, 9] rfl
    have hDc := hD.sub (ws' := [(a_t, .inr (3, [.ref a_lexemes, .int (nI n_at), .int z_lineStart, .int z_lineIsFresh, .int z_wrongPlace, .int z_tooMany])), (a_y0, .inr (10, [.ref a_y0_characters, .int (nI n_y0_length)])), (a_y0_characters, .inl (ka_y0_characters, 240, .inl f_y0_characters))]) [7, 8, 9] (by decide) rfl
    have hKc := hK.sub (tys' := [(ka_y0_characters, .char)]) [5] rfl
    have hFc := va_free (wc := [(a_t, .inr (3, [.ref a_lexemes, .int (nI n_at), .int z_lineStart, .int z_lineIsFresh, .int z_wrongPlace, .int z_tooMany])), (a_y0, .inr (10, [.ref a_y0_characters, .int (nI n_y0_length)])), (a_y0_characters, .inl (ka_y0_characters, 240, .inl f_y0_characters))]) hD hS hA [7, 8, 9] rfl
    refine va_calli (va_runV (As := [.ref a_y0, .int (nI j1)]) (rest := []) ⟨hx, hb, hml, hown, hz⟩ (s_Cutter_isDashes6 l dC dI H.size a_t a_lexemes n_at z_lineStart z_lineIsFresh z_wrongPlace z_tooMany a_y0 a_y0_characters f_y0_characters n_y0_length j1 ka_y0_characters (by first | omega | assumption | exact Or.inl rfl | exact Or.inr rfl | decide) (by first | omega | assumption | exact Or.inl rfl | exact Or.inr rfl | decide) (by first | omega | assumption | exact Or.inl rfl | exact Or.inr rfl | decide) (by first | omega | assumption | exact Or.inl rfl | exact Or.inr rfl | decide) (by first | omega | assumption | exact Or.inl rfl | exact Or.inr rfl | decide) (by first | omega | assumption | exact Or.inl rfl | exact Or.inr rfl | decide) (by first | omega | assumption | exact Or.inl rfl | exact Or.inr rfl | decide)) (cwV 2 hz (zV zm_119 zm_120 zm_121 zm_92 zm_122) rfl rfl rfl (by decide +kernel) ⟨Nat.le_of_ble_eq_true rfl, Nat.le_of_ble_eq_true rfl⟩) ⟨fun a U g mk q => by obtain ⟨q0, q1, qP, qK, qD⟩ := q; exact ⟨q0, q1, qP, va_K.moved (u := U) (U := U.calling g mk a) (Vm.Alike.refl U.vm) qK, qD⟩, va_recv (q := (R_Cutter, F_Cutter, 6)) (q0 := 7) (ci := 3) hK hP rfl rfl, fun U hU hW => ⟨rfl, by rw [hU], by rw [hU]; exact hPc, va_K.moved hW.alike hKc, hDc.weaken (fun _ _ _ _ => trivial)⟩⟩ rfl rfl hl.1 rfl (lv_room (Nat.le_of_ble_eq_true rfl)) d_Cutter_cutLexeme_27 ⟨Nat.zero_le _, Nat.zero_le _⟩) hS (fun q _ h => hFc q h) hFc (fun r u t H1 locs ht hvm hw_r hB hz1 hk1 hS => ?_)
    obtain ⟨hP1, hK1, hD1⟩ := hB
    obtain ⟨hb_r, he_r⟩ := hw_r
    subst r
    rw [ht] at hP1
    obtain ⟨hP, hD⟩ := va_join (wr := [(a_lexemes, .inr (5, [.ref a_lexemes_tokens, .ref a_lexemes_places, .ref a_lexemes_columns, .ref a_lexemes_lineFirsts])), (a_lexemes_tokens, .inr (11, [.ref a_lexemes_tokens_kinds, .ref a_lexemes_tokens_values, .int (nI n_lexemes_tokens_size)])), (a_lexemes_tokens_kinds, .inl (ka_lexemes_tokens_kinds, 90, .inl f_lexemes_tokens_kinds)), (a_lexemes_tokens_values, .inl (ka_lexemes_tokens_values, 90, .inr (.inl f_lexemes_tokens_values))), (a_lexemes_places, .inl (ka_lexemes_places, 90, .inl f_lexemes_places)), (a_lexemes_columns, .inl (ka_lexemes_columns, 90, .inl f_lexemes_columns)), (a_lexemes_lineFirsts, .inl (ka_lexemes_lineFirsts, 90, .inl f_lexemes_lineFirsts))]) (w1 := [(a_t, .inr (3, [.ref a_lexemes, .int (nI n_at), .int z_lineStart, .int z_lineIsFresh, .int z_wrongPlace, .int z_tooMany])), (a_y0, .inr (10, [.ref a_y0_characters, .int (nI n_y0_length)])), (a_y0_characters, .inl (ka_y0_characters, 240, .inl f_y0_characters))]) hP hD [7, 8, 9] [0, 1, 2, 3, 4, 5, 6] rfl rfl (by decide) (by decide) hk1 hFc hP1 hD1
    generalize H1 = H at hP hS ⊢
    have hP : va_P (dC, dI) vcl [(a_lexemes, .inr (5, [.ref a_lexemes_tokens, .ref a_lexemes_places, .ref a_lexemes_columns, .ref a_lexemes_lineFirsts])), (a_lexemes_tokens, .inr (11, [.ref a_lexemes_tokens_kinds, .ref a_lexemes_tokens_values, .int (nI n_lexemes_tokens_size)])), (a_lexemes_tokens_kinds, .inl (ka_lexemes_tokens_kinds, 90, .inl f_lexemes_tokens_kinds)), (a_lexemes_tokens_values, .inl (ka_lexemes_tokens_values, 90, .inr (.inl f_lexemes_tokens_values))), (a_lexemes_places, .inl (ka_lexemes_places, 90, .inl f_lexemes_places)), (a_lexemes_columns, .inl (ka_lexemes_columns, 90, .inl f_lexemes_columns)), (a_lexemes_lineFirsts, .inl (ka_lexemes_lineFirsts, 90, .inl f_lexemes_lineFirsts)), (a_t, .inr (3, [.ref a_lexemes, .int (nI n_at), .int z_lineStart, .int z_lineIsFresh, .int z_wrongPlace, .int z_tooMany])), (a_y0, .inr (10, [.ref a_y0_characters, .int (nI n_y0_length)])), (a_y0_characters, .inl (ka_y0_characters, 240, .inl f_y0_characters))] H := hP
    have hD : va_D A [(a_lexemes, .inr (5, [.ref a_lexemes_tokens, .ref a_lexemes_places, .ref a_lexemes_columns, .ref a_lexemes_lineFirsts])), (a_lexemes_tokens, .inr (11, [.ref a_lexemes_tokens_kinds, .ref a_lexemes_tokens_values, .int (nI n_lexemes_tokens_size)])), (a_lexemes_tokens_kinds, .inl (ka_lexemes_tokens_kinds, 90, .inl f_lexemes_tokens_kinds)), (a_lexemes_tokens_values, .inl (ka_lexemes_tokens_values, 90, .inr (.inl f_lexemes_tokens_values))), (a_lexemes_places, .inl (ka_lexemes_places, 90, .inl f_lexemes_places)), (a_lexemes_columns, .inl (ka_lexemes_columns, 90, .inl f_lexemes_columns)), (a_lexemes_lineFirsts, .inl (ka_lexemes_lineFirsts, 90, .inl f_lexemes_lineFirsts)), (a_t, .inr (3, [.ref a_lexemes, .int (nI n_at), .int z_lineStart, .int z_lineIsFresh, .int z_wrongPlace, .int z_tooMany])), (a_y0, .inr (10, [.ref a_y0_characters, .int (nI n_y0_length)])), (a_y0_characters, .inl (ka_y0_characters, 240, .inl f_y0_characters))] := hD
    refine lv_if_eq (tgt := 45) hx hb d_Cutter_cutLexeme_30 (by decide) (fun h15 => ?_) (fun h15 => ?_)
    · have e30 := b01_no h15
      refine lv_iload_n hx hb d_Cutter_cutLexeme_45 rfl (lv_at hl 1 rfl) ?_
      refine lv_iconst (v := (-1)) hx hb d_Cutter_cutLexeme_46 (by decide) ?_
      refine lv_icmp_eq (tgt := 63) hx hb d_Cutter_cutLexeme_47 (by decide) (fun h16 => ?_) (fun h16 => ?_)
      · have e47 := h16
        refine lv_aload_n hx hb d_Cutter_cutLexeme_63 rfl (lv_at hl 2 rfl) ?_
        refine lv_aload_n hx hb d_Cutter_cutLexeme_64 rfl (lv_at hl 2 rfl) ?_
        refine va_get (D := (dC, dI)) (ci := 3) (v := .int (nI n_at)) (C := R_Cutter) (T := F_Cutter) (N := 6) hx hb hz zu_Cutter hown hK hP 7 rfl rfl 1 (by decide) (hz (.fieldLink R_Cutter 29 "LayoutFront$Cutter" "at" "I") zm_82) (fun _ h9 => h9) rfl d_Cutter_cutLexeme_65 ?_
        refine va_put (D := (dC, dI)) (ci := 3) (v := .int (nI n_at)) (ty := .int) (C := R_Cutter) (T := F_Cutter) (N := 6) hx hb hz zu_Cutter t_Cutter t_Cutter_ok n_Cutter hown hK hP hD hS 7 rfl rfl 4 (by decide) (hz (.fieldLink R_Cutter 18 "LayoutFront$Cutter" "wrongPlace" "I") zm_75) (fun _ h9 => h9) rfl (by decide +kernel) rfl rfl (Nat.le_of_ble_eq_true rfl) d_Cutter_cutLexeme_68 (fun H locs hP hD hS => ?_)
        have hP : va_P (dC, dI) vcl [(a_lexemes, .inr (5, [.ref a_lexemes_tokens, .ref a_lexemes_places, .ref a_lexemes_columns, .ref a_lexemes_lineFirsts])), (a_lexemes_tokens, .inr (11, [.ref a_lexemes_tokens_kinds, .ref a_lexemes_tokens_values, .int (nI n_lexemes_tokens_size)])), (a_lexemes_tokens_kinds, .inl (ka_lexemes_tokens_kinds, 90, .inl f_lexemes_tokens_kinds)), (a_lexemes_tokens_values, .inl (ka_lexemes_tokens_values, 90, .inr (.inl f_lexemes_tokens_values))), (a_lexemes_places, .inl (ka_lexemes_places, 90, .inl f_lexemes_places)), (a_lexemes_columns, .inl (ka_lexemes_columns, 90, .inl f_lexemes_columns)), (a_lexemes_lineFirsts, .inl (ka_lexemes_lineFirsts, 90, .inl f_lexemes_lineFirsts)), (a_t, .inr (3, [.ref a_lexemes, .int (nI n_at), .int z_lineStart, .int z_lineIsFresh, .int (nI n_at), .int z_tooMany])), (a_y0, .inr (10, [.ref a_y0_characters, .int (nI n_y0_length)])), (a_y0_characters, .inl (ka_y0_characters, 240, .inl f_y0_characters))] H := hP
        have hD : va_D A [(a_lexemes, .inr (5, [.ref a_lexemes_tokens, .ref a_lexemes_places, .ref a_lexemes_columns, .ref a_lexemes_lineFirsts])), (a_lexemes_tokens, .inr (11, [.ref a_lexemes_tokens_kinds, .ref a_lexemes_tokens_values, .int (nI n_lexemes_tokens_size)])), (a_lexemes_tokens_kinds, .inl (ka_lexemes_tokens_kinds, 90, .inl f_lexemes_tokens_kinds)), (a_lexemes_tokens_values, .inl (ka_lexemes_tokens_values, 90, .inr (.inl f_lexemes_tokens_values))), (a_lexemes_places, .inl (ka_lexemes_places, 90, .inl f_lexemes_places)), (a_lexemes_columns, .inl (ka_lexemes_columns, 90, .inl f_lexemes_columns)), (a_lexemes_lineFirsts, .inl (ka_lexemes_lineFirsts, 90, .inl f_lexemes_lineFirsts)), (a_t, .inr (3, [.ref a_lexemes, .int (nI n_at), .int z_lineStart, .int z_lineIsFresh, .int (nI n_at), .int z_tooMany])), (a_y0, .inr (10, [.ref a_y0_characters, .int (nI n_y0_length)])), (a_y0_characters, .inl (ka_y0_characters, 240, .inl f_y0_characters))] := hD
        refine lv_goto (tgt := 107) hx hb d_Cutter_cutLexeme_71 (by decide) ?_
        have hP9 := hP.sub (ws' := [(a_t, .inr (3, [.ref a_lexemes, .int (nI n_at), .int z_lineStart, .int z_lineIsFresh, .int (nI n_at), .int z_tooMany])), (a_lexemes, .inr (5, [.ref a_lexemes_tokens, .ref a_lexemes_places, .ref a_lexemes_columns, .ref a_lexemes_lineFirsts])), (a_lexemes_tokens, .inr (11, [.ref a_lexemes_tokens_kinds, .ref a_lexemes_tokens_values, .int (nI n_lexemes_tokens_size)])), (a_lexemes_tokens_kinds, .inl (ka_lexemes_tokens_kinds, 90, .inl f_lexemes_tokens_kinds)), (a_lexemes_tokens_values, .inl (ka_lexemes_tokens_values, 90, .inr (.inl f_lexemes_tokens_values))), (a_lexemes_places, .inl (ka_lexemes_places, 90, .inl f_lexemes_places)), (a_lexemes_columns, .inl (ka_lexemes_columns, 90, .inl f_lexemes_columns)), (a_lexemes_lineFirsts, .inl (ka_lexemes_lineFirsts, 90, .inl f_lexemes_lineFirsts)), (a_y0, .inr (10, [.ref a_y0_characters, .int (nI n_y0_length)])), (a_y0_characters, .inl (ka_y0_characters, 240, .inl f_y0_characters))]) [7, 0, 1, 2, 3, 4, 5, 6, 8, 9] rfl
        have hD9 := hD.sub (ws' := [(a_t, .inr (3, [.ref a_lexemes, .int (nI n_at), .int z_lineStart, .int z_lineIsFresh, .int (nI n_at), .int z_tooMany])), (a_lexemes, .inr (5, [.ref a_lexemes_tokens, .ref a_lexemes_places, .ref a_lexemes_columns, .ref a_lexemes_lineFirsts])), (a_lexemes_tokens, .inr (11, [.ref a_lexemes_tokens_kinds, .ref a_lexemes_tokens_values, .int (nI n_lexemes_tokens_size)])), (a_lexemes_tokens_kinds, .inl (ka_lexemes_tokens_kinds, 90, .inl f_lexemes_tokens_kinds)), (a_lexemes_tokens_values, .inl (ka_lexemes_tokens_values, 90, .inr (.inl f_lexemes_tokens_values))), (a_lexemes_places, .inl (ka_lexemes_places, 90, .inl f_lexemes_places)), (a_lexemes_columns, .inl (ka_lexemes_columns, 90, .inl f_lexemes_columns)), (a_lexemes_lineFirsts, .inl (ka_lexemes_lineFirsts, 90, .inl f_lexemes_lineFirsts)), (a_y0, .inr (10, [.ref a_y0_characters, .int (nI n_y0_length)])), (a_y0_characters, .inl (ka_y0_characters, 240, .inl f_y0_characters))]) [7, 0, 1, 2, 3, 4, 5, 6, 8, 9] (by decide) rfl
        exact W.vret hx hb hr (fun t ht hW => ⟨⟨(), rfl, trivial, n_at, z_lineIsFresh, ((nI n_at)), z_tooMany, n_lexemes_tokens_size, f_lexemes_tokens_kinds, f_lexemes_tokens_values, f_lexemes_places, f_lexemes_columns, f_lexemes_lineFirsts, by first | omega | assumption | exact Or.inl rfl | exact Or.inr rfl | decide, by first | omega | assumption | exact Or.inl rfl | exact Or.inr rfl | decide, by first | omega | assumption | exact Or.inl rfl | exact Or.inr rfl | decide, by exact cl_x hp6 hp7 (nd_2 l_j1 e30) (Or.inl e47) hp1 hp2, by first | omega | assumption | exact Or.inl rfl | exact Or.inr rfl | decide, by exact Or.inl rfl, by rw [ht]; exact hP9, va_K.moved hW.alike hK, hD9⟩, hS.F ht⟩) hS.2.2 d_Cutter_cutLexeme_107
      · have e47 := h16
        refine lv_iload_n hx hb d_Cutter_cutLexeme_50 rfl (lv_at hl 0 rfl) ?_
        refine lv_aload_n hx hb d_Cutter_cutLexeme_51 rfl (lv_at hl 2 rfl) ?_
        refine va_get (D := (dC, dI)) (ci := 3) (v := .int (nI n_at)) (C := R_Cutter) (T := F_Cutter) (N := 6) hx hb hz zu_Cutter hown hK hP 7 rfl rfl 1 (by decide) (hz (.fieldLink R_Cutter 29 "LayoutFront$Cutter" "at" "I") zm_82) (fun _ h9 => h9) rfl d_Cutter_cutLexeme_52 ?_
        refine xr_isub (v := (nI (j1 - n_at))) hx hb d_Cutter_cutLexeme_55 (pk_sub (a := j1) (b := n_at) (by omega)) ?_
        refine lv_iload_n hx hb d_Cutter_cutLexeme_56 rfl (lv_at hl 1 rfl) ?_
        have hPc := hP.sub (ws' := []) [] rfl
        have hDc := hD.sub (ws' := []) [] (by decide) rfl
        have hKc := hK.sub (tys' := []) [] rfl
        have hFc := va_free (wc := []) hD hS hA [] rfl
        refine va_calli (va_runS (As := [.int (kdO ((cN f_y0_characters n_y0_length n_at)))]) (rest := [.int (nI (j1 - n_at))]) ⟨hx, hb, hml, hown, hz⟩ (s_Cutter_longest6 l dC dI H.size ((kdO ((cN f_y0_characters n_y0_length n_at))))) (cwS 1 hz (zS zm_126 zm_127 zm_92 zm_128) rfl rfl rfl (by decide +kernel) ⟨Nat.le_of_ble_eq_true rfl, Nat.le_of_ble_eq_true rfl⟩) ⟨fun a U g mk q => by obtain ⟨q0, q1, qP, qK, qD⟩ := q; exact ⟨q0, q1, qP, va_K.moved (u := U) (U := U.calling g mk a) (Vm.Alike.refl U.vm) qK, qD⟩, fun U hU hW => ⟨rfl, by rw [hU], by rw [hU]; exact hPc, va_K.moved hW.alike hKc, hDc.weaken (fun _ _ _ _ => trivial)⟩⟩ rfl rfl hl.1 rfl (lv_room (Nat.le_of_ble_eq_true rfl)) d_Cutter_cutLexeme_57 ⟨Nat.zero_le _, Nat.zero_le _⟩) hS (fun q _ h => hFc q h) hFc (fun r u t H1 locs ht hvm hw hB hz1 hk1 hS => ?_)
        obtain ⟨hP1, hK1, hD1⟩ := hB
        obtain ⟨j17, l_j17, e_j17⟩ := hw
        subst r
        rw [ht] at hP1
        obtain ⟨hP, hD⟩ := va_join (wr := [(a_lexemes, .inr (5, [.ref a_lexemes_tokens, .ref a_lexemes_places, .ref a_lexemes_columns, .ref a_lexemes_lineFirsts])), (a_lexemes_tokens, .inr (11, [.ref a_lexemes_tokens_kinds, .ref a_lexemes_tokens_values, .int (nI n_lexemes_tokens_size)])), (a_lexemes_tokens_kinds, .inl (ka_lexemes_tokens_kinds, 90, .inl f_lexemes_tokens_kinds)), (a_lexemes_tokens_values, .inl (ka_lexemes_tokens_values, 90, .inr (.inl f_lexemes_tokens_values))), (a_lexemes_places, .inl (ka_lexemes_places, 90, .inl f_lexemes_places)), (a_lexemes_columns, .inl (ka_lexemes_columns, 90, .inl f_lexemes_columns)), (a_lexemes_lineFirsts, .inl (ka_lexemes_lineFirsts, 90, .inl f_lexemes_lineFirsts)), (a_t, .inr (3, [.ref a_lexemes, .int (nI n_at), .int z_lineStart, .int z_lineIsFresh, .int z_wrongPlace, .int z_tooMany])), (a_y0, .inr (10, [.ref a_y0_characters, .int (nI n_y0_length)])), (a_y0_characters, .inl (ka_y0_characters, 240, .inl f_y0_characters))]) (w1 := []) hP hD [] [0, 1, 2, 3, 4, 5, 6, 7, 8, 9] rfl rfl (by decide) (by decide) hk1 hFc hP1 hD1
        generalize H1 = H at hP hS ⊢
        have hP : va_P (dC, dI) vcl [(a_lexemes, .inr (5, [.ref a_lexemes_tokens, .ref a_lexemes_places, .ref a_lexemes_columns, .ref a_lexemes_lineFirsts])), (a_lexemes_tokens, .inr (11, [.ref a_lexemes_tokens_kinds, .ref a_lexemes_tokens_values, .int (nI n_lexemes_tokens_size)])), (a_lexemes_tokens_kinds, .inl (ka_lexemes_tokens_kinds, 90, .inl f_lexemes_tokens_kinds)), (a_lexemes_tokens_values, .inl (ka_lexemes_tokens_values, 90, .inr (.inl f_lexemes_tokens_values))), (a_lexemes_places, .inl (ka_lexemes_places, 90, .inl f_lexemes_places)), (a_lexemes_columns, .inl (ka_lexemes_columns, 90, .inl f_lexemes_columns)), (a_lexemes_lineFirsts, .inl (ka_lexemes_lineFirsts, 90, .inl f_lexemes_lineFirsts)), (a_t, .inr (3, [.ref a_lexemes, .int (nI n_at), .int z_lineStart, .int z_lineIsFresh, .int z_wrongPlace, .int z_tooMany])), (a_y0, .inr (10, [.ref a_y0_characters, .int (nI n_y0_length)])), (a_y0_characters, .inl (ka_y0_characters, 240, .inl f_y0_characters))] H := hP
        have hD : va_D A [(a_lexemes, .inr (5, [.ref a_lexemes_tokens, .ref a_lexemes_places, .ref a_lexemes_columns, .ref a_lexemes_lineFirsts])), (a_lexemes_tokens, .inr (11, [.ref a_lexemes_tokens_kinds, .ref a_lexemes_tokens_values, .int (nI n_lexemes_tokens_size)])), (a_lexemes_tokens_kinds, .inl (ka_lexemes_tokens_kinds, 90, .inl f_lexemes_tokens_kinds)), (a_lexemes_tokens_values, .inl (ka_lexemes_tokens_values, 90, .inr (.inl f_lexemes_tokens_values))), (a_lexemes_places, .inl (ka_lexemes_places, 90, .inl f_lexemes_places)), (a_lexemes_columns, .inl (ka_lexemes_columns, 90, .inl f_lexemes_columns)), (a_lexemes_lineFirsts, .inl (ka_lexemes_lineFirsts, 90, .inl f_lexemes_lineFirsts)), (a_t, .inr (3, [.ref a_lexemes, .int (nI n_at), .int z_lineStart, .int z_lineIsFresh, .int z_wrongPlace, .int z_tooMany])), (a_y0, .inr (10, [.ref a_y0_characters, .int (nI n_y0_length)])), (a_y0_characters, .inl (ka_y0_characters, 240, .inl f_y0_characters))] := hD
        have lg := lng_le (kdO ((cN f_y0_characters n_y0_length) n_at))
        refine lv_icmp_le (tgt := 74) hx hb d_Cutter_cutLexeme_60 (by decide) (fun h18 => ?_) (fun h18 => ?_)
        · have h18 : (j1 - n_at) ≤ j17 := (nI_leI (a := (j1 - n_at)) (b := j17) (by omega) (by omega)).mp h18
          have e60 := h18
          refine lv_aload_n hx hb d_Cutter_cutLexeme_74 rfl (lv_at hl 2 rfl) ?_
          refine va_get (D := (dC, dI)) (ci := 3) (v := .ref a_lexemes) (C := R_Cutter) (T := F_Cutter) (N := 6) hx hb hz zu_Cutter hown hK hP 7 rfl rfl 0 (by decide) (hz (.fieldLink R_Cutter 12 "LayoutFront$Cutter" "lexemes" "LLayoutFront$Lexemes;") zm_74) (fun _ h9 => h9) rfl d_Cutter_cutLexeme_75 ?_
          have hPc := hP.sub (ws' := [(a_lexemes, .inr (5, [.ref a_lexemes_tokens, .ref a_lexemes_places, .ref a_lexemes_columns, .ref a_lexemes_lineFirsts])), (a_lexemes_tokens, .inr (11, [.ref a_lexemes_tokens_kinds, .ref a_lexemes_tokens_values, .int (nI n_lexemes_tokens_size)]))]) [0, 1] rfl
          have hDc := hD.sub (ws' := [(a_lexemes, .inr (5, [.ref a_lexemes_tokens, .ref a_lexemes_places, .ref a_lexemes_columns, .ref a_lexemes_lineFirsts])), (a_lexemes_tokens, .inr (11, [.ref a_lexemes_tokens_kinds, .ref a_lexemes_tokens_values, .int (nI n_lexemes_tokens_size)]))]) [0, 1] (by decide) rfl
          have hKc := hK.sub (tys' := []) [] rfl
          have hFc := va_free (wc := [(a_lexemes, .inr (5, [.ref a_lexemes_tokens, .ref a_lexemes_places, .ref a_lexemes_columns, .ref a_lexemes_lineFirsts])), (a_lexemes_tokens, .inr (11, [.ref a_lexemes_tokens_kinds, .ref a_lexemes_tokens_values, .int (nI n_lexemes_tokens_size)]))]) hD hS hA [0, 1] rfl
          refine va_calli (va_runV (As := []) (rest := []) ⟨hx, hb, hml, hown, hz⟩ (s_Lexemes_isFull6 l dC dI H.size a_lexemes a_lexemes_tokens a_lexemes_tokens_kinds a_lexemes_tokens_values n_lexemes_tokens_size a_lexemes_places a_lexemes_columns a_lexemes_lineFirsts (by first | omega | assumption | exact Or.inl rfl | exact Or.inr rfl | decide)) (cwV 0 hz (zV zm_129 zm_130 zm_131 zm_71 zm_132) rfl rfl rfl (by decide +kernel) ⟨Nat.le_of_ble_eq_true rfl, Nat.le_of_ble_eq_true rfl⟩) ⟨fun a U g mk q => by obtain ⟨q0, q1, qP, qK, qD⟩ := q; exact ⟨q0, q1, qP, va_K.moved (u := U) (U := U.calling g mk a) (Vm.Alike.refl U.vm) qK, qD⟩, va_recv (q := (R_Lexemes, F_Lexemes, 4)) (q0 := 0) (ci := 5) hK hP rfl rfl, fun U hU hW => ⟨rfl, by rw [hU], by rw [hU]; exact hPc, va_K.moved hW.alike hKc, hDc.weaken (fun _ _ _ _ => trivial)⟩⟩ rfl rfl hl.1 rfl (lv_room (Nat.le_of_ble_eq_true rfl)) d_Cutter_cutLexeme_78 ⟨Nat.zero_le _, Nat.zero_le _⟩) hS (fun q _ h => hFc q h) hFc (fun r u t H1 locs ht hvm hw_r hB hz1 hk1 hS => ?_)
          obtain ⟨hP1, hK1, hD1⟩ := hB
          obtain ⟨hb_r, he_r⟩ := hw_r
          subst r
          rw [ht] at hP1
          obtain ⟨hP, hD⟩ := va_join (wr := [(a_lexemes_tokens_kinds, .inl (ka_lexemes_tokens_kinds, 90, .inl f_lexemes_tokens_kinds)), (a_lexemes_tokens_values, .inl (ka_lexemes_tokens_values, 90, .inr (.inl f_lexemes_tokens_values))), (a_lexemes_places, .inl (ka_lexemes_places, 90, .inl f_lexemes_places)), (a_lexemes_columns, .inl (ka_lexemes_columns, 90, .inl f_lexemes_columns)), (a_lexemes_lineFirsts, .inl (ka_lexemes_lineFirsts, 90, .inl f_lexemes_lineFirsts)), (a_t, .inr (3, [.ref a_lexemes, .int (nI n_at), .int z_lineStart, .int z_lineIsFresh, .int z_wrongPlace, .int z_tooMany])), (a_y0, .inr (10, [.ref a_y0_characters, .int (nI n_y0_length)])), (a_y0_characters, .inl (ka_y0_characters, 240, .inl f_y0_characters))]) (w1 := [(a_lexemes, .inr (5, [.ref a_lexemes_tokens, .ref a_lexemes_places, .ref a_lexemes_columns, .ref a_lexemes_lineFirsts])), (a_lexemes_tokens, .inr (11, [.ref a_lexemes_tokens_kinds, .ref a_lexemes_tokens_values, .int (nI n_lexemes_tokens_size)]))]) hP hD [0, 1] [2, 3, 4, 5, 6, 7, 8, 9] rfl rfl (by decide) (by decide) hk1 hFc hP1 hD1
          generalize H1 = H at hP hS ⊢
          have hP : va_P (dC, dI) vcl [(a_lexemes_tokens_kinds, .inl (ka_lexemes_tokens_kinds, 90, .inl f_lexemes_tokens_kinds)), (a_lexemes_tokens_values, .inl (ka_lexemes_tokens_values, 90, .inr (.inl f_lexemes_tokens_values))), (a_lexemes_places, .inl (ka_lexemes_places, 90, .inl f_lexemes_places)), (a_lexemes_columns, .inl (ka_lexemes_columns, 90, .inl f_lexemes_columns)), (a_lexemes_lineFirsts, .inl (ka_lexemes_lineFirsts, 90, .inl f_lexemes_lineFirsts)), (a_t, .inr (3, [.ref a_lexemes, .int (nI n_at), .int z_lineStart, .int z_lineIsFresh, .int z_wrongPlace, .int z_tooMany])), (a_y0, .inr (10, [.ref a_y0_characters, .int (nI n_y0_length)])), (a_y0_characters, .inl (ka_y0_characters, 240, .inl f_y0_characters)), (a_lexemes, .inr (5, [.ref a_lexemes_tokens, .ref a_lexemes_places, .ref a_lexemes_columns, .ref a_lexemes_lineFirsts])), (a_lexemes_tokens, .inr (11, [.ref a_lexemes_tokens_kinds, .ref a_lexemes_tokens_values, .int (nI n_lexemes_tokens_size)]))] H := hP
          have hD : va_D A [(a_lexemes_tokens_kinds, .inl (ka_lexemes_tokens_kinds, 90, .inl f_lexemes_tokens_kinds)), (a_lexemes_tokens_values, .inl (ka_lexemes_tokens_values, 90, .inr (.inl f_lexemes_tokens_values))), (a_lexemes_places, .inl (ka_lexemes_places, 90, .inl f_lexemes_places)), (a_lexemes_columns, .inl (ka_lexemes_columns, 90, .inl f_lexemes_columns)), (a_lexemes_lineFirsts, .inl (ka_lexemes_lineFirsts, 90, .inl f_lexemes_lineFirsts)), (a_t, .inr (3, [.ref a_lexemes, .int (nI n_at), .int z_lineStart, .int z_lineIsFresh, .int z_wrongPlace, .int z_tooMany])), (a_y0, .inr (10, [.ref a_y0_characters, .int (nI n_y0_length)])), (a_y0_characters, .inl (ka_y0_characters, 240, .inl f_y0_characters)), (a_lexemes, .inr (5, [.ref a_lexemes_tokens, .ref a_lexemes_places, .ref a_lexemes_columns, .ref a_lexemes_lineFirsts])), (a_lexemes_tokens, .inr (11, [.ref a_lexemes_tokens_kinds, .ref a_lexemes_tokens_values, .int (nI n_lexemes_tokens_size)]))] := hD
          refine lv_if_eq (tgt := 100) hx hb d_Cutter_cutLexeme_81 (by decide) (fun h19 => ?_) (fun h19 => ?_)
          · have e81 := of_decide_eq_false (b01_no h19)
            refine lv_aload_n hx hb d_Cutter_cutLexeme_100 rfl (lv_at hl 2 rfl) ?_
            refine lv_aload_n hx hb d_Cutter_cutLexeme_101 rfl (lv_at hl 3 rfl) ?_
            refine lv_iload_n hx hb d_Cutter_cutLexeme_102 rfl (lv_at hl 1 rfl) ?_
            refine lv_iload_n hx hb d_Cutter_cutLexeme_103 rfl (lv_at hl 0 rfl) ?_
            have hPc := hP.sub (ws' := [(a_t, .inr (3, [.ref a_lexemes, .int (nI n_at), .int z_lineStart, .int z_lineIsFresh, .int z_wrongPlace, .int z_tooMany])), (a_lexemes, .inr (5, [.ref a_lexemes_tokens, .ref a_lexemes_places, .ref a_lexemes_columns, .ref a_lexemes_lineFirsts])), (a_lexemes_tokens, .inr (11, [.ref a_lexemes_tokens_kinds, .ref a_lexemes_tokens_values, .int (nI n_lexemes_tokens_size)])), (a_lexemes_tokens_kinds, .inl (ka_lexemes_tokens_kinds, 90, .inl f_lexemes_tokens_kinds)), (a_lexemes_tokens_values, .inl (ka_lexemes_tokens_values, 90, .inr (.inl f_lexemes_tokens_values))), (a_lexemes_places, .inl (ka_lexemes_places, 90, .inl f_lexemes_places)), (a_lexemes_columns, .inl (ka_lexemes_columns, 90, .inl f_lexemes_columns)), (a_lexemes_lineFirsts, .inl (ka_lexemes_lineFirsts, 90, .inl f_lexemes_lineFirsts)), (a_y0, .inr (10, [.ref a_y0_characters, .int (nI n_y0_length)])), (a_y0_characters, .inl (ka_y0_characters, 240, .inl f_y0_characters))]) [5, 8, 9, 0, 1, 2, 3, 4, 6, 7] rfl
            have hDc := hD.sub (ws' := [(a_t, .inr (3, [.ref a_lexemes, .int (nI n_at), .int z_lineStart, .int z_lineIsFresh, .int z_wrongPlace, .int z_tooMany])), (a_lexemes, .inr (5, [.ref a_lexemes_tokens, .ref a_lexemes_places, .ref a_lexemes_columns, .ref a_lexemes_lineFirsts])), (a_lexemes_tokens, .inr (11, [.ref a_lexemes_tokens_kinds, .ref a_lexemes_tokens_values, .int (nI n_lexemes_tokens_size)])), (a_lexemes_tokens_kinds, .inl (ka_lexemes_tokens_kinds, 90, .inl f_lexemes_tokens_kinds)), (a_lexemes_tokens_values, .inl (ka_lexemes_tokens_values, 90, .inr (.inl f_lexemes_tokens_values))), (a_lexemes_places, .inl (ka_lexemes_places, 90, .inl f_lexemes_places)), (a_lexemes_columns, .inl (ka_lexemes_columns, 90, .inl f_lexemes_columns)), (a_lexemes_lineFirsts, .inl (ka_lexemes_lineFirsts, 90, .inl f_lexemes_lineFirsts)), (a_y0, .inr (10, [.ref a_y0_characters, .int (nI n_y0_length)])), (a_y0_characters, .inl (ka_y0_characters, 240, .inl f_y0_characters))]) [5, 8, 9, 0, 1, 2, 3, 4, 6, 7] (by decide) rfl
            have hKc := hK.sub (tys' := [(ka_lexemes_tokens_kinds, .int), (ka_lexemes_tokens_values, .long), (ka_lexemes_places, .int), (ka_lexemes_columns, .int), (ka_lexemes_lineFirsts, .boolean), (ka_y0_characters, .char)]) [0, 1, 2, 3, 4, 5] rfl
            have hFc := va_free (wc := [(a_t, .inr (3, [.ref a_lexemes, .int (nI n_at), .int z_lineStart, .int z_lineIsFresh, .int z_wrongPlace, .int z_tooMany])), (a_lexemes, .inr (5, [.ref a_lexemes_tokens, .ref a_lexemes_places, .ref a_lexemes_columns, .ref a_lexemes_lineFirsts])), (a_lexemes_tokens, .inr (11, [.ref a_lexemes_tokens_kinds, .ref a_lexemes_tokens_values, .int (nI n_lexemes_tokens_size)])), (a_lexemes_tokens_kinds, .inl (ka_lexemes_tokens_kinds, 90, .inl f_lexemes_tokens_kinds)), (a_lexemes_tokens_values, .inl (ka_lexemes_tokens_values, 90, .inr (.inl f_lexemes_tokens_values))), (a_lexemes_places, .inl (ka_lexemes_places, 90, .inl f_lexemes_places)), (a_lexemes_columns, .inl (ka_lexemes_columns, 90, .inl f_lexemes_columns)), (a_lexemes_lineFirsts, .inl (ka_lexemes_lineFirsts, 90, .inl f_lexemes_lineFirsts)), (a_y0, .inr (10, [.ref a_y0_characters, .int (nI n_y0_length)])), (a_y0_characters, .inl (ka_y0_characters, 240, .inl f_y0_characters))]) hD hS hA [5, 8, 9, 0, 1, 2, 3, 4, 6, 7] rfl
            refine va_callv (va_runV (As := [.ref a_y0, .int (kdO ((cN f_y0_characters n_y0_length n_at))), .int (nI j1)]) (rest := []) ⟨hx, hb, hml, hown, hz⟩ (s_Cutter_take6 l dC dI H.size a_t a_lexemes a_lexemes_tokens a_lexemes_tokens_kinds f_lexemes_tokens_kinds a_lexemes_tokens_values f_lexemes_tokens_values n_lexemes_tokens_size a_lexemes_places f_lexemes_places a_lexemes_columns f_lexemes_columns a_lexemes_lineFirsts f_lexemes_lineFirsts n_at z_lineStart z_lineIsFresh z_wrongPlace z_tooMany a_y0 a_y0_characters f_y0_characters n_y0_length ((kdO ((cN f_y0_characters n_y0_length n_at)))) j1 L ka_lexemes_tokens_kinds ka_lexemes_tokens_values ka_lexemes_places ka_lexemes_columns ka_lexemes_lineFirsts ka_y0_characters (by first | omega | assumption | exact Or.inl rfl | exact Or.inr rfl | decide) (by first | omega | assumption | exact Or.inl rfl | exact Or.inr rfl | decide) (by first | omega | assumption | exact Or.inl rfl | exact Or.inr rfl | decide) (by first | omega | assumption | exact Or.inl rfl | exact Or.inr rfl | decide) (by first | omega | assumption | exact Or.inl rfl | exact Or.inr rfl | decide) (by first | omega | assumption | exact Or.inl rfl | exact Or.inr rfl | decide) (by first | omega | assumption | exact Or.inl rfl | exact Or.inr rfl | decide) (by first | omega | assumption | exact Or.inl rfl | exact Or.inr rfl | decide) (by first | omega | assumption | exact Or.inl rfl | exact Or.inr rfl | decide) (by exact fun z9 => en_7 z9 (by omega)) (by exact fun z9 j9 g1 g2 => en_dig hp0 z9 (by rw [← l_j1]; exact g2) g1) (by first | omega | assumption | exact Or.inl rfl | exact Or.inr rfl | decide) (by first | omega | assumption | exact Or.inl rfl | exact Or.inr rfl | decide) (by first | omega | assumption | exact Or.inl rfl | exact Or.inr rfl | decide) (by first | omega | assumption | exact Or.inl rfl | exact Or.inr rfl | decide) (by first | omega | assumption | exact Or.inl rfl | exact Or.inr rfl | decide)) (cwV 3 hz (zV zm_133 zm_134 zm_135 zm_92 zm_136) rfl rfl rfl (by decide +kernel) ⟨Nat.le_of_ble_eq_true rfl, Nat.le_of_ble_eq_true rfl⟩) ⟨fun a U g mk q => by obtain ⟨q0, q1, qP, qK, qD⟩ := q; exact ⟨q0, q1, qP, va_K.moved (u := U) (U := U.calling g mk a) (Vm.Alike.refl U.vm) qK, qD⟩, va_recv (q := (R_Cutter, F_Cutter, 6)) (q0 := 5) (ci := 3) hK hP rfl rfl, fun U hU hW => ⟨rfl, by rw [hU], by rw [hU]; exact hPc, va_K.moved hW.alike hKc, hDc.weaken (fun _ _ _ _ => trivial)⟩⟩ rfl rfl hl.1 rfl (lv_room (Nat.le_of_ble_eq_true rfl)) d_Cutter_cutLexeme_104 ⟨Nat.zero_le _, Nat.zero_le _⟩) hS (fun q _ h => hFc q h) hFc (fun u t H1 locs ht hvm hw hB hz1 hk1 hS => ?_)
            obtain ⟨g20, g21, g22, g23, g24, g25, g26, g27, hb_g20, hb_g22, hq0_104, hq1_104, hq2_104, hq3_104, hP1, hK1, hD1⟩ := hB
            subst g20
            subst g21
            rw [ht] at hP1
            obtain ⟨hP, hD⟩ := va_join (wr := []) (w1 := [(a_t, .inr (3, [.ref a_lexemes, .int (nI (j1)), .int z_lineStart, .int (0), .int z_wrongPlace, .int z_tooMany])), (a_lexemes, .inr (5, [.ref a_lexemes_tokens, .ref a_lexemes_places, .ref a_lexemes_columns, .ref a_lexemes_lineFirsts])), (a_lexemes_tokens, .inr (11, [.ref a_lexemes_tokens_kinds, .ref a_lexemes_tokens_values, .int (nI g22)])), (a_lexemes_tokens_kinds, .inl (ka_lexemes_tokens_kinds, 90, .inl g23)), (a_lexemes_tokens_values, .inl (ka_lexemes_tokens_values, 90, .inr (.inl g24))), (a_lexemes_places, .inl (ka_lexemes_places, 90, .inl g25)), (a_lexemes_columns, .inl (ka_lexemes_columns, 90, .inl g26)), (a_lexemes_lineFirsts, .inl (ka_lexemes_lineFirsts, 90, .inl g27)), (a_y0, .inr (10, [.ref a_y0_characters, .int (nI n_y0_length)])), (a_y0_characters, .inl (ka_y0_characters, 240, .inl f_y0_characters))]) hP hD [5, 8, 9, 0, 1, 2, 3, 4, 6, 7] [] rfl rfl (by decide) (by decide) hk1 hFc hP1 hD1
            generalize H1 = H at hP hS ⊢
            have hP : va_P (dC, dI) vcl [(a_t, .inr (3, [.ref a_lexemes, .int (nI (j1)), .int z_lineStart, .int (0), .int z_wrongPlace, .int z_tooMany])), (a_lexemes, .inr (5, [.ref a_lexemes_tokens, .ref a_lexemes_places, .ref a_lexemes_columns, .ref a_lexemes_lineFirsts])), (a_lexemes_tokens, .inr (11, [.ref a_lexemes_tokens_kinds, .ref a_lexemes_tokens_values, .int (nI g22)])), (a_lexemes_tokens_kinds, .inl (ka_lexemes_tokens_kinds, 90, .inl g23)), (a_lexemes_tokens_values, .inl (ka_lexemes_tokens_values, 90, .inr (.inl g24))), (a_lexemes_places, .inl (ka_lexemes_places, 90, .inl g25)), (a_lexemes_columns, .inl (ka_lexemes_columns, 90, .inl g26)), (a_lexemes_lineFirsts, .inl (ka_lexemes_lineFirsts, 90, .inl g27)), (a_y0, .inr (10, [.ref a_y0_characters, .int (nI n_y0_length)])), (a_y0_characters, .inl (ka_y0_characters, 240, .inl f_y0_characters))] H := hP
            have hD : va_D A [(a_t, .inr (3, [.ref a_lexemes, .int (nI (j1)), .int z_lineStart, .int (0), .int z_wrongPlace, .int z_tooMany])), (a_lexemes, .inr (5, [.ref a_lexemes_tokens, .ref a_lexemes_places, .ref a_lexemes_columns, .ref a_lexemes_lineFirsts])), (a_lexemes_tokens, .inr (11, [.ref a_lexemes_tokens_kinds, .ref a_lexemes_tokens_values, .int (nI g22)])), (a_lexemes_tokens_kinds, .inl (ka_lexemes_tokens_kinds, 90, .inl g23)), (a_lexemes_tokens_values, .inl (ka_lexemes_tokens_values, 90, .inr (.inl g24))), (a_lexemes_places, .inl (ka_lexemes_places, 90, .inl g25)), (a_lexemes_columns, .inl (ka_lexemes_columns, 90, .inl g26)), (a_lexemes_lineFirsts, .inl (ka_lexemes_lineFirsts, 90, .inl g27)), (a_y0, .inr (10, [.ref a_y0_characters, .int (nI n_y0_length)])), (a_y0_characters, .inl (ka_y0_characters, 240, .inl f_y0_characters))] := hD
            have hP9 := hP.sub (ws' := [(a_t, .inr (3, [.ref a_lexemes, .int (nI (j1)), .int z_lineStart, .int (0), .int z_wrongPlace, .int z_tooMany])), (a_lexemes, .inr (5, [.ref a_lexemes_tokens, .ref a_lexemes_places, .ref a_lexemes_columns, .ref a_lexemes_lineFirsts])), (a_lexemes_tokens, .inr (11, [.ref a_lexemes_tokens_kinds, .ref a_lexemes_tokens_values, .int (nI g22)])), (a_lexemes_tokens_kinds, .inl (ka_lexemes_tokens_kinds, 90, .inl g23)), (a_lexemes_tokens_values, .inl (ka_lexemes_tokens_values, 90, .inr (.inl g24))), (a_lexemes_places, .inl (ka_lexemes_places, 90, .inl g25)), (a_lexemes_columns, .inl (ka_lexemes_columns, 90, .inl g26)), (a_lexemes_lineFirsts, .inl (ka_lexemes_lineFirsts, 90, .inl g27)), (a_y0, .inr (10, [.ref a_y0_characters, .int (nI n_y0_length)])), (a_y0_characters, .inl (ka_y0_characters, 240, .inl f_y0_characters))]) [0, 1, 2, 3, 4, 5, 6, 7, 8, 9] rfl
            have hD9 := hD.sub (ws' := [(a_t, .inr (3, [.ref a_lexemes, .int (nI (j1)), .int z_lineStart, .int (0), .int z_wrongPlace, .int z_tooMany])), (a_lexemes, .inr (5, [.ref a_lexemes_tokens, .ref a_lexemes_places, .ref a_lexemes_columns, .ref a_lexemes_lineFirsts])), (a_lexemes_tokens, .inr (11, [.ref a_lexemes_tokens_kinds, .ref a_lexemes_tokens_values, .int (nI g22)])), (a_lexemes_tokens_kinds, .inl (ka_lexemes_tokens_kinds, 90, .inl g23)), (a_lexemes_tokens_values, .inl (ka_lexemes_tokens_values, 90, .inr (.inl g24))), (a_lexemes_places, .inl (ka_lexemes_places, 90, .inl g25)), (a_lexemes_columns, .inl (ka_lexemes_columns, 90, .inl g26)), (a_lexemes_lineFirsts, .inl (ka_lexemes_lineFirsts, 90, .inl g27)), (a_y0, .inr (10, [.ref a_y0_characters, .int (nI n_y0_length)])), (a_y0_characters, .inl (ka_y0_characters, 240, .inl f_y0_characters))]) [0, 1, 2, 3, 4, 5, 6, 7, 8, 9] (by decide) rfl
            exact W.vret hx hb hr (fun t ht hW => ⟨⟨(), rfl, trivial, ((j1)), ((0)), z_wrongPlace, z_tooMany, g22, g23, g24, g25, g26, g27, by first | omega | assumption | exact Or.inl rfl | exact Or.inr rfl | decide, by first | omega | assumption | exact Or.inl rfl | exact Or.inr rfl | decide, by first | omega | assumption | exact Or.inl rfl | exact Or.inr rfl | decide, by exact cl_t hp0 hp6 hp7 (nd_2 l_j1 e30) (fun z9 => z9.elim e47 (fun z9 => z9.elim (fun z8 => by rw [← l_j1] at z8; omega) (fun z8 => by omega))) l_j1 hq2_104 (by rw [← hp2]; exact hq3_104) hp3, by first | omega | assumption | exact Or.inl rfl | exact Or.inr rfl | decide, by exact Or.inl rfl, by rw [ht]; exact hP9, va_K.moved hW.alike hK, hD9⟩, hS.F ht⟩) hS.2.2 d_Cutter_cutLexeme_107
          · have e81 := of_decide_eq_true (b01_yes h19)
            refine lv_aload_n hx hb d_Cutter_cutLexeme_84 rfl (lv_at hl 2 rfl) ?_
            refine lv_aload_n hx hb d_Cutter_cutLexeme_85 rfl (lv_at hl 2 rfl) ?_
            refine va_get (D := (dC, dI)) (ci := 3) (v := .int (nI n_at)) (C := R_Cutter) (T := F_Cutter) (N := 6) hx hb hz zu_Cutter hown hK hP 5 rfl rfl 1 (by decide) (hz (.fieldLink R_Cutter 29 "LayoutFront$Cutter" "at" "I") zm_82) (fun _ h9 => h9) rfl d_Cutter_cutLexeme_86 ?_
            refine va_put (D := (dC, dI)) (ci := 3) (v := .int (nI n_at)) (ty := .int) (C := R_Cutter) (T := F_Cutter) (N := 6) hx hb hz zu_Cutter t_Cutter t_Cutter_ok n_Cutter hown hK hP hD hS 5 rfl rfl 4 (by decide) (hz (.fieldLink R_Cutter 18 "LayoutFront$Cutter" "wrongPlace" "I") zm_75) (fun _ h9 => h9) rfl (by decide +kernel) rfl rfl (Nat.le_of_ble_eq_true rfl) d_Cutter_cutLexeme_89 (fun H locs hP hD hS => ?_)
            have hP : va_P (dC, dI) vcl [(a_lexemes_tokens_kinds, .inl (ka_lexemes_tokens_kinds, 90, .inl f_lexemes_tokens_kinds)), (a_lexemes_tokens_values, .inl (ka_lexemes_tokens_values, 90, .inr (.inl f_lexemes_tokens_values))), (a_lexemes_places, .inl (ka_lexemes_places, 90, .inl f_lexemes_places)), (a_lexemes_columns, .inl (ka_lexemes_columns, 90, .inl f_lexemes_columns)), (a_lexemes_lineFirsts, .inl (ka_lexemes_lineFirsts, 90, .inl f_lexemes_lineFirsts)), (a_t, .inr (3, [.ref a_lexemes, .int (nI n_at), .int z_lineStart, .int z_lineIsFresh, .int (nI n_at), .int z_tooMany])), (a_y0, .inr (10, [.ref a_y0_characters, .int (nI n_y0_length)])), (a_y0_characters, .inl (ka_y0_characters, 240, .inl f_y0_characters)), (a_lexemes, .inr (5, [.ref a_lexemes_tokens, .ref a_lexemes_places, .ref a_lexemes_columns, .ref a_lexemes_lineFirsts])), (a_lexemes_tokens, .inr (11, [.ref a_lexemes_tokens_kinds, .ref a_lexemes_tokens_values, .int (nI n_lexemes_tokens_size)]))] H := hP
            have hD : va_D A [(a_lexemes_tokens_kinds, .inl (ka_lexemes_tokens_kinds, 90, .inl f_lexemes_tokens_kinds)), (a_lexemes_tokens_values, .inl (ka_lexemes_tokens_values, 90, .inr (.inl f_lexemes_tokens_values))), (a_lexemes_places, .inl (ka_lexemes_places, 90, .inl f_lexemes_places)), (a_lexemes_columns, .inl (ka_lexemes_columns, 90, .inl f_lexemes_columns)), (a_lexemes_lineFirsts, .inl (ka_lexemes_lineFirsts, 90, .inl f_lexemes_lineFirsts)), (a_t, .inr (3, [.ref a_lexemes, .int (nI n_at), .int z_lineStart, .int z_lineIsFresh, .int (nI n_at), .int z_tooMany])), (a_y0, .inr (10, [.ref a_y0_characters, .int (nI n_y0_length)])), (a_y0_characters, .inl (ka_y0_characters, 240, .inl f_y0_characters)), (a_lexemes, .inr (5, [.ref a_lexemes_tokens, .ref a_lexemes_places, .ref a_lexemes_columns, .ref a_lexemes_lineFirsts])), (a_lexemes_tokens, .inr (11, [.ref a_lexemes_tokens_kinds, .ref a_lexemes_tokens_values, .int (nI n_lexemes_tokens_size)]))] := hD
            refine lv_aload_n hx hb d_Cutter_cutLexeme_92 rfl (lv_at hl 2 rfl) ?_
            refine lv_iconst (v := 1) hx hb d_Cutter_cutLexeme_93 (by decide) ?_
            refine va_put (D := (dC, dI)) (ci := 3) (v := .int 1) (ty := .boolean) (C := R_Cutter) (T := F_Cutter) (N := 6) hx hb hz zu_Cutter t_Cutter t_Cutter_ok n_Cutter hown hK hP hD hS 5 rfl rfl 5 (by decide) (hz (.fieldLink R_Cutter 22 "LayoutFront$Cutter" "tooMany" "Z") zm_77) (fun _ h9 => h9) rfl (by decide +kernel) (by decide +kernel) rfl (Nat.le_of_ble_eq_true rfl) d_Cutter_cutLexeme_94 (fun H locs hP hD hS => ?_)
            have hP : va_P (dC, dI) vcl [(a_lexemes_tokens_kinds, .inl (ka_lexemes_tokens_kinds, 90, .inl f_lexemes_tokens_kinds)), (a_lexemes_tokens_values, .inl (ka_lexemes_tokens_values, 90, .inr (.inl f_lexemes_tokens_values))), (a_lexemes_places, .inl (ka_lexemes_places, 90, .inl f_lexemes_places)), (a_lexemes_columns, .inl (ka_lexemes_columns, 90, .inl f_lexemes_columns)), (a_lexemes_lineFirsts, .inl (ka_lexemes_lineFirsts, 90, .inl f_lexemes_lineFirsts)), (a_t, .inr (3, [.ref a_lexemes, .int (nI n_at), .int z_lineStart, .int z_lineIsFresh, .int (nI n_at), .int 1])), (a_y0, .inr (10, [.ref a_y0_characters, .int (nI n_y0_length)])), (a_y0_characters, .inl (ka_y0_characters, 240, .inl f_y0_characters)), (a_lexemes, .inr (5, [.ref a_lexemes_tokens, .ref a_lexemes_places, .ref a_lexemes_columns, .ref a_lexemes_lineFirsts])), (a_lexemes_tokens, .inr (11, [.ref a_lexemes_tokens_kinds, .ref a_lexemes_tokens_values, .int (nI n_lexemes_tokens_size)]))] H := hP
            have hD : va_D A [(a_lexemes_tokens_kinds, .inl (ka_lexemes_tokens_kinds, 90, .inl f_lexemes_tokens_kinds)), (a_lexemes_tokens_values, .inl (ka_lexemes_tokens_values, 90, .inr (.inl f_lexemes_tokens_values))), (a_lexemes_places, .inl (ka_lexemes_places, 90, .inl f_lexemes_places)), (a_lexemes_columns, .inl (ka_lexemes_columns, 90, .inl f_lexemes_columns)), (a_lexemes_lineFirsts, .inl (ka_lexemes_lineFirsts, 90, .inl f_lexemes_lineFirsts)), (a_t, .inr (3, [.ref a_lexemes, .int (nI n_at), .int z_lineStart, .int z_lineIsFresh, .int (nI n_at), .int 1])), (a_y0, .inr (10, [.ref a_y0_characters, .int (nI n_y0_length)])), (a_y0_characters, .inl (ka_y0_characters, 240, .inl f_y0_characters)), (a_lexemes, .inr (5, [.ref a_lexemes_tokens, .ref a_lexemes_places, .ref a_lexemes_columns, .ref a_lexemes_lineFirsts])), (a_lexemes_tokens, .inr (11, [.ref a_lexemes_tokens_kinds, .ref a_lexemes_tokens_values, .int (nI n_lexemes_tokens_size)]))] := hD
            refine lv_goto (tgt := 107) hx hb d_Cutter_cutLexeme_97 (by decide) ?_
            have hP9 := hP.sub (ws' := [(a_t, .inr (3, [.ref a_lexemes, .int (nI n_at), .int z_lineStart, .int z_lineIsFresh, .int (nI n_at), .int 1])), (a_lexemes, .inr (5, [.ref a_lexemes_tokens, .ref a_lexemes_places, .ref a_lexemes_columns, .ref a_lexemes_lineFirsts])), (a_lexemes_tokens, .inr (11, [.ref a_lexemes_tokens_kinds, .ref a_lexemes_tokens_values, .int (nI n_lexemes_tokens_size)])), (a_lexemes_tokens_kinds, .inl (ka_lexemes_tokens_kinds, 90, .inl f_lexemes_tokens_kinds)), (a_lexemes_tokens_values, .inl (ka_lexemes_tokens_values, 90, .inr (.inl f_lexemes_tokens_values))), (a_lexemes_places, .inl (ka_lexemes_places, 90, .inl f_lexemes_places)), (a_lexemes_columns, .inl (ka_lexemes_columns, 90, .inl f_lexemes_columns)), (a_lexemes_lineFirsts, .inl (ka_lexemes_lineFirsts, 90, .inl f_lexemes_lineFirsts)), (a_y0, .inr (10, [.ref a_y0_characters, .int (nI n_y0_length)])), (a_y0_characters, .inl (ka_y0_characters, 240, .inl f_y0_characters))]) [5, 8, 9, 0, 1, 2, 3, 4, 6, 7] rfl
            have hD9 := hD.sub (ws' := [(a_t, .inr (3, [.ref a_lexemes, .int (nI n_at), .int z_lineStart, .int z_lineIsFresh, .int (nI n_at), .int 1])), (a_lexemes, .inr (5, [.ref a_lexemes_tokens, .ref a_lexemes_places, .ref a_lexemes_columns, .ref a_lexemes_lineFirsts])), (a_lexemes_tokens, .inr (11, [.ref a_lexemes_tokens_kinds, .ref a_lexemes_tokens_values, .int (nI n_lexemes_tokens_size)])), (a_lexemes_tokens_kinds, .inl (ka_lexemes_tokens_kinds, 90, .inl f_lexemes_tokens_kinds)), (a_lexemes_tokens_values, .inl (ka_lexemes_tokens_values, 90, .inr (.inl f_lexemes_tokens_values))), (a_lexemes_places, .inl (ka_lexemes_places, 90, .inl f_lexemes_places)), (a_lexemes_columns, .inl (ka_lexemes_columns, 90, .inl f_lexemes_columns)), (a_lexemes_lineFirsts, .inl (ka_lexemes_lineFirsts, 90, .inl f_lexemes_lineFirsts)), (a_y0, .inr (10, [.ref a_y0_characters, .int (nI n_y0_length)])), (a_y0_characters, .inl (ka_y0_characters, 240, .inl f_y0_characters))]) [5, 8, 9, 0, 1, 2, 3, 4, 6, 7] (by decide) rfl
            exact W.vret hx hb hr (fun t ht hW => ⟨⟨(), rfl, trivial, n_at, z_lineIsFresh, ((nI n_at)), 1, n_lexemes_tokens_size, f_lexemes_tokens_kinds, f_lexemes_tokens_values, f_lexemes_places, f_lexemes_columns, f_lexemes_lineFirsts, by first | omega | assumption | exact Or.inl rfl | exact Or.inr rfl | decide, by first | omega | assumption | exact Or.inl rfl | exact Or.inr rfl | decide, by first | omega | assumption | exact Or.inl rfl | exact Or.inr rfl | decide, by exact cl_x hp6 hp7 (nd_2 l_j1 e30) (Or.inr (Or.inr (by omega))) hp1 hp2, by first | omega | assumption | exact Or.inl rfl | exact Or.inr rfl | decide, by exact Or.inr (nI_n1 (by omega)), by rw [ht]; exact hP9, va_K.moved hW.alike hK, hD9⟩, hS.F ht⟩) hS.2.2 d_Cutter_cutLexeme_107
        · have h18 : ¬ (j1 - n_at) ≤ j17 := fun q => h18 ((nI_leI (a := (j1 - n_at)) (b := j17) (by omega) (by omega)).mpr q)
          have e60 := h18
          refine lv_aload_n hx hb d_Cutter_cutLexeme_63 rfl (lv_at hl 2 rfl) ?_
          refine lv_aload_n hx hb d_Cutter_cutLexeme_64 rfl (lv_at hl 2 rfl) ?_
          refine va_get (D := (dC, dI)) (ci := 3) (v := .int (nI n_at)) (C := R_Cutter) (T := F_Cutter) (N := 6) hx hb hz zu_Cutter hown hK hP 7 rfl rfl 1 (by decide) (hz (.fieldLink R_Cutter 29 "LayoutFront$Cutter" "at" "I") zm_82) (fun _ h9 => h9) rfl d_Cutter_cutLexeme_65 ?_
          refine va_put (D := (dC, dI)) (ci := 3) (v := .int (nI n_at)) (ty := .int) (C := R_Cutter) (T := F_Cutter) (N := 6) hx hb hz zu_Cutter t_Cutter t_Cutter_ok n_Cutter hown hK hP hD hS 7 rfl rfl 4 (by decide) (hz (.fieldLink R_Cutter 18 "LayoutFront$Cutter" "wrongPlace" "I") zm_75) (fun _ h9 => h9) rfl (by decide +kernel) rfl rfl (Nat.le_of_ble_eq_true rfl) d_Cutter_cutLexeme_68 (fun H locs hP hD hS => ?_)
          have hP : va_P (dC, dI) vcl [(a_lexemes, .inr (5, [.ref a_lexemes_tokens, .ref a_lexemes_places, .ref a_lexemes_columns, .ref a_lexemes_lineFirsts])), (a_lexemes_tokens, .inr (11, [.ref a_lexemes_tokens_kinds, .ref a_lexemes_tokens_values, .int (nI n_lexemes_tokens_size)])), (a_lexemes_tokens_kinds, .inl (ka_lexemes_tokens_kinds, 90, .inl f_lexemes_tokens_kinds)), (a_lexemes_tokens_values, .inl (ka_lexemes_tokens_values, 90, .inr (.inl f_lexemes_tokens_values))), (a_lexemes_places, .inl (ka_lexemes_places, 90, .inl f_lexemes_places)), (a_lexemes_columns, .inl (ka_lexemes_columns, 90, .inl f_lexemes_columns)), (a_lexemes_lineFirsts, .inl (ka_lexemes_lineFirsts, 90, .inl f_lexemes_lineFirsts)), (a_t, .inr (3, [.ref a_lexemes, .int (nI n_at), .int z_lineStart, .int z_lineIsFresh, .int (nI n_at), .int z_tooMany])), (a_y0, .inr (10, [.ref a_y0_characters, .int (nI n_y0_length)])), (a_y0_characters, .inl (ka_y0_characters, 240, .inl f_y0_characters))] H := hP
          have hD : va_D A [(a_lexemes, .inr (5, [.ref a_lexemes_tokens, .ref a_lexemes_places, .ref a_lexemes_columns, .ref a_lexemes_lineFirsts])), (a_lexemes_tokens, .inr (11, [.ref a_lexemes_tokens_kinds, .ref a_lexemes_tokens_values, .int (nI n_lexemes_tokens_size)])), (a_lexemes_tokens_kinds, .inl (ka_lexemes_tokens_kinds, 90, .inl f_lexemes_tokens_kinds)), (a_lexemes_tokens_values, .inl (ka_lexemes_tokens_values, 90, .inr (.inl f_lexemes_tokens_values))), (a_lexemes_places, .inl (ka_lexemes_places, 90, .inl f_lexemes_places)), (a_lexemes_columns, .inl (ka_lexemes_columns, 90, .inl f_lexemes_columns)), (a_lexemes_lineFirsts, .inl (ka_lexemes_lineFirsts, 90, .inl f_lexemes_lineFirsts)), (a_t, .inr (3, [.ref a_lexemes, .int (nI n_at), .int z_lineStart, .int z_lineIsFresh, .int (nI n_at), .int z_tooMany])), (a_y0, .inr (10, [.ref a_y0_characters, .int (nI n_y0_length)])), (a_y0_characters, .inl (ka_y0_characters, 240, .inl f_y0_characters))] := hD
          refine lv_goto (tgt := 107) hx hb d_Cutter_cutLexeme_71 (by decide) ?_
          have hP9 := hP.sub (ws' := [(a_t, .inr (3, [.ref a_lexemes, .int (nI n_at), .int z_lineStart, .int z_lineIsFresh, .int (nI n_at), .int z_tooMany])), (a_lexemes, .inr (5, [.ref a_lexemes_tokens, .ref a_lexemes_places, .ref a_lexemes_columns, .ref a_lexemes_lineFirsts])), (a_lexemes_tokens, .inr (11, [.ref a_lexemes_tokens_kinds, .ref a_lexemes_tokens_values, .int (nI n_lexemes_tokens_size)])), (a_lexemes_tokens_kinds, .inl (ka_lexemes_tokens_kinds, 90, .inl f_lexemes_tokens_kinds)), (a_lexemes_tokens_values, .inl (ka_lexemes_tokens_values, 90, .inr (.inl f_lexemes_tokens_values))), (a_lexemes_places, .inl (ka_lexemes_places, 90, .inl f_lexemes_places)), (a_lexemes_columns, .inl (ka_lexemes_columns, 90, .inl f_lexemes_columns)), (a_lexemes_lineFirsts, .inl (ka_lexemes_lineFirsts, 90, .inl f_lexemes_lineFirsts)), (a_y0, .inr (10, [.ref a_y0_characters, .int (nI n_y0_length)])), (a_y0_characters, .inl (ka_y0_characters, 240, .inl f_y0_characters))]) [7, 0, 1, 2, 3, 4, 5, 6, 8, 9] rfl
          have hD9 := hD.sub (ws' := [(a_t, .inr (3, [.ref a_lexemes, .int (nI n_at), .int z_lineStart, .int z_lineIsFresh, .int (nI n_at), .int z_tooMany])), (a_lexemes, .inr (5, [.ref a_lexemes_tokens, .ref a_lexemes_places, .ref a_lexemes_columns, .ref a_lexemes_lineFirsts])), (a_lexemes_tokens, .inr (11, [.ref a_lexemes_tokens_kinds, .ref a_lexemes_tokens_values, .int (nI n_lexemes_tokens_size)])), (a_lexemes_tokens_kinds, .inl (ka_lexemes_tokens_kinds, 90, .inl f_lexemes_tokens_kinds)), (a_lexemes_tokens_values, .inl (ka_lexemes_tokens_values, 90, .inr (.inl f_lexemes_tokens_values))), (a_lexemes_places, .inl (ka_lexemes_places, 90, .inl f_lexemes_places)), (a_lexemes_columns, .inl (ka_lexemes_columns, 90, .inl f_lexemes_columns)), (a_lexemes_lineFirsts, .inl (ka_lexemes_lineFirsts, 90, .inl f_lexemes_lineFirsts)), (a_y0, .inr (10, [.ref a_y0_characters, .int (nI n_y0_length)])), (a_y0_characters, .inl (ka_y0_characters, 240, .inl f_y0_characters))]) [7, 0, 1, 2, 3, 4, 5, 6, 8, 9] (by decide) rfl
          exact W.vret hx hb hr (fun t ht hW => ⟨⟨(), rfl, trivial, n_at, z_lineIsFresh, ((nI n_at)), z_tooMany, n_lexemes_tokens_size, f_lexemes_tokens_kinds, f_lexemes_tokens_values, f_lexemes_places, f_lexemes_columns, f_lexemes_lineFirsts, by first | omega | assumption | exact Or.inl rfl | exact Or.inr rfl | decide, by first | omega | assumption | exact Or.inl rfl | exact Or.inr rfl | decide, by first | omega | assumption | exact Or.inl rfl | exact Or.inr rfl | decide, by exact cl_x hp6 hp7 (nd_2 l_j1 e30) (Or.inr (Or.inl (by rw [← l_j1]; omega))) hp1 hp2, by first | omega | assumption | exact Or.inl rfl | exact Or.inr rfl | decide, by exact Or.inl rfl, by rw [ht]; exact hP9, va_K.moved hW.alike hK, hD9⟩, hS.F ht⟩) hS.2.2 d_Cutter_cutLexeme_107
    · have e30 := b01_yes h15
      refine lv_aload_n hx hb d_Cutter_cutLexeme_33 rfl (lv_at hl 2 rfl) ?_
      refine lv_aload_n hx hb d_Cutter_cutLexeme_34 rfl (lv_at hl 3 rfl) ?_
      refine lv_iload_n hx hb d_Cutter_cutLexeme_35 rfl (lv_at hl 0 rfl) ?_
      have hPc := hP.sub (ws' := [(a_y0, .inr (10, [.ref a_y0_characters, .int (nI n_y0_length)])), (a_y0_characters, .inl (ka_y0_characters, 240, .inl f_y0_characters))]) [8, 9] rfl
      have hDc := hD.sub (ws' := [(a_y0, .inr (10, [.ref a_y0_characters, .int (nI n_y0_length)])), (a_y0_characters, .inl (ka_y0_characters, 240, .inl f_y0_characters))]) [8, 9] (by decide) rfl
      have hKc := hK.sub (tys' := [(ka_y0_characters, .char)]) [5] rfl
      have hFc := va_free (wc := [(a_y0, .inr (10, [.ref a_y0_characters, .int (nI n_y0_length)])), (a_y0_characters, .inl (ka_y0_characters, 240, .inl f_y0_characters))]) hD hS hA [8, 9] rfl
      refine va_calli (va_runS (As := [.ref a_y0, .int (nI j1)]) (rest := [.ref a_t]) ⟨hx, hb, hml, hown, hz⟩ (s_Cutter_lineEnd6 l dC dI H.size a_y0 a_y0_characters f_y0_characters n_y0_length j1 ka_y0_characters (by first | omega | assumption | exact Or.inl rfl | exact Or.inr rfl | decide) (by first | omega | assumption | exact Or.inl rfl | exact Or.inr rfl | decide) (by first | omega | assumption | exact Or.inl rfl | exact Or.inr rfl | decide) (by first | omega | assumption | exact Or.inl rfl | exact Or.inr rfl | decide)) (cwS 2 hz (zS zm_123 zm_124 zm_92 zm_125) rfl rfl rfl (by decide +kernel) ⟨Nat.le_of_ble_eq_true rfl, Nat.le_of_ble_eq_true rfl⟩) ⟨fun a U g mk q => by obtain ⟨q0, q1, qP, qK, qD⟩ := q; exact ⟨q0, q1, qP, va_K.moved (u := U) (U := U.calling g mk a) (Vm.Alike.refl U.vm) qK, qD⟩, fun U hU hW => ⟨rfl, by rw [hU], by rw [hU]; exact hPc, va_K.moved hW.alike hKc, hDc.weaken (fun _ _ _ _ => trivial)⟩⟩ rfl rfl hl.1 rfl (lv_room (Nat.le_of_ble_eq_true rfl)) d_Cutter_cutLexeme_36 ⟨Nat.zero_le _, Nat.zero_le _⟩) hS (fun q _ h => hFc q h) hFc (fun r u t H1 locs ht hvm hw hB hz1 hk1 hS => ?_)
      obtain ⟨hP1, hK1, hD1⟩ := hB
      obtain ⟨j28, l_j28, e_j28⟩ := hw
      subst r
      rw [ht] at hP1
      obtain ⟨hP, hD⟩ := va_join (wr := [(a_lexemes, .inr (5, [.ref a_lexemes_tokens, .ref a_lexemes_places, .ref a_lexemes_columns, .ref a_lexemes_lineFirsts])), (a_lexemes_tokens, .inr (11, [.ref a_lexemes_tokens_kinds, .ref a_lexemes_tokens_values, .int (nI n_lexemes_tokens_size)])), (a_lexemes_tokens_kinds, .inl (ka_lexemes_tokens_kinds, 90, .inl f_lexemes_tokens_kinds)), (a_lexemes_tokens_values, .inl (ka_lexemes_tokens_values, 90, .inr (.inl f_lexemes_tokens_values))), (a_lexemes_places, .inl (ka_lexemes_places, 90, .inl f_lexemes_places)), (a_lexemes_columns, .inl (ka_lexemes_columns, 90, .inl f_lexemes_columns)), (a_lexemes_lineFirsts, .inl (ka_lexemes_lineFirsts, 90, .inl f_lexemes_lineFirsts)), (a_t, .inr (3, [.ref a_lexemes, .int (nI n_at), .int z_lineStart, .int z_lineIsFresh, .int z_wrongPlace, .int z_tooMany]))]) (w1 := [(a_y0, .inr (10, [.ref a_y0_characters, .int (nI n_y0_length)])), (a_y0_characters, .inl (ka_y0_characters, 240, .inl f_y0_characters))]) hP hD [8, 9] [0, 1, 2, 3, 4, 5, 6, 7] rfl rfl (by decide) (by decide) hk1 hFc hP1 hD1
      generalize H1 = H at hP hS ⊢
      have hP : va_P (dC, dI) vcl [(a_lexemes, .inr (5, [.ref a_lexemes_tokens, .ref a_lexemes_places, .ref a_lexemes_columns, .ref a_lexemes_lineFirsts])), (a_lexemes_tokens, .inr (11, [.ref a_lexemes_tokens_kinds, .ref a_lexemes_tokens_values, .int (nI n_lexemes_tokens_size)])), (a_lexemes_tokens_kinds, .inl (ka_lexemes_tokens_kinds, 90, .inl f_lexemes_tokens_kinds)), (a_lexemes_tokens_values, .inl (ka_lexemes_tokens_values, 90, .inr (.inl f_lexemes_tokens_values))), (a_lexemes_places, .inl (ka_lexemes_places, 90, .inl f_lexemes_places)), (a_lexemes_columns, .inl (ka_lexemes_columns, 90, .inl f_lexemes_columns)), (a_lexemes_lineFirsts, .inl (ka_lexemes_lineFirsts, 90, .inl f_lexemes_lineFirsts)), (a_t, .inr (3, [.ref a_lexemes, .int (nI n_at), .int z_lineStart, .int z_lineIsFresh, .int z_wrongPlace, .int z_tooMany])), (a_y0, .inr (10, [.ref a_y0_characters, .int (nI n_y0_length)])), (a_y0_characters, .inl (ka_y0_characters, 240, .inl f_y0_characters))] H := hP
      have hD : va_D A [(a_lexemes, .inr (5, [.ref a_lexemes_tokens, .ref a_lexemes_places, .ref a_lexemes_columns, .ref a_lexemes_lineFirsts])), (a_lexemes_tokens, .inr (11, [.ref a_lexemes_tokens_kinds, .ref a_lexemes_tokens_values, .int (nI n_lexemes_tokens_size)])), (a_lexemes_tokens_kinds, .inl (ka_lexemes_tokens_kinds, 90, .inl f_lexemes_tokens_kinds)), (a_lexemes_tokens_values, .inl (ka_lexemes_tokens_values, 90, .inr (.inl f_lexemes_tokens_values))), (a_lexemes_places, .inl (ka_lexemes_places, 90, .inl f_lexemes_places)), (a_lexemes_columns, .inl (ka_lexemes_columns, 90, .inl f_lexemes_columns)), (a_lexemes_lineFirsts, .inl (ka_lexemes_lineFirsts, 90, .inl f_lexemes_lineFirsts)), (a_t, .inr (3, [.ref a_lexemes, .int (nI n_at), .int z_lineStart, .int z_lineIsFresh, .int z_wrongPlace, .int z_tooMany])), (a_y0, .inr (10, [.ref a_y0_characters, .int (nI n_y0_length)])), (a_y0_characters, .inl (ka_y0_characters, 240, .inl f_y0_characters))] := hD
      have sE := scE_in (P := (fun x => !(x == 10))) (c := (cN f_y0_characters n_y0_length)) (n := n_y0_length) _ _ rfl (Nat.le_trans (Nat.le_of_eq (by assumption)) en.2)
      refine va_put (D := (dC, dI)) (ci := 3) (v := .int (nI j28)) (ty := .int) (C := R_Cutter) (T := F_Cutter) (N := 6) hx hb hz zu_Cutter t_Cutter t_Cutter_ok n_Cutter hown hK hP hD hS 7 rfl rfl 1 (by decide) (hz (.fieldLink R_Cutter 29 "LayoutFront$Cutter" "at" "I") zm_82) (fun _ h9 => h9) rfl (by decide +kernel) rfl rfl (Nat.le_of_ble_eq_true rfl) d_Cutter_cutLexeme_39 (fun H locs hP hD hS => ?_)
      have hP : va_P (dC, dI) vcl [(a_lexemes, .inr (5, [.ref a_lexemes_tokens, .ref a_lexemes_places, .ref a_lexemes_columns, .ref a_lexemes_lineFirsts])), (a_lexemes_tokens, .inr (11, [.ref a_lexemes_tokens_kinds, .ref a_lexemes_tokens_values, .int (nI n_lexemes_tokens_size)])), (a_lexemes_tokens_kinds, .inl (ka_lexemes_tokens_kinds, 90, .inl f_lexemes_tokens_kinds)), (a_lexemes_tokens_values, .inl (ka_lexemes_tokens_values, 90, .inr (.inl f_lexemes_tokens_values))), (a_lexemes_places, .inl (ka_lexemes_places, 90, .inl f_lexemes_places)), (a_lexemes_columns, .inl (ka_lexemes_columns, 90, .inl f_lexemes_columns)), (a_lexemes_lineFirsts, .inl (ka_lexemes_lineFirsts, 90, .inl f_lexemes_lineFirsts)), (a_t, .inr (3, [.ref a_lexemes, .int (nI j28), .int z_lineStart, .int z_lineIsFresh, .int z_wrongPlace, .int z_tooMany])), (a_y0, .inr (10, [.ref a_y0_characters, .int (nI n_y0_length)])), (a_y0_characters, .inl (ka_y0_characters, 240, .inl f_y0_characters))] H := hP
      have hD : va_D A [(a_lexemes, .inr (5, [.ref a_lexemes_tokens, .ref a_lexemes_places, .ref a_lexemes_columns, .ref a_lexemes_lineFirsts])), (a_lexemes_tokens, .inr (11, [.ref a_lexemes_tokens_kinds, .ref a_lexemes_tokens_values, .int (nI n_lexemes_tokens_size)])), (a_lexemes_tokens_kinds, .inl (ka_lexemes_tokens_kinds, 90, .inl f_lexemes_tokens_kinds)), (a_lexemes_tokens_values, .inl (ka_lexemes_tokens_values, 90, .inr (.inl f_lexemes_tokens_values))), (a_lexemes_places, .inl (ka_lexemes_places, 90, .inl f_lexemes_places)), (a_lexemes_columns, .inl (ka_lexemes_columns, 90, .inl f_lexemes_columns)), (a_lexemes_lineFirsts, .inl (ka_lexemes_lineFirsts, 90, .inl f_lexemes_lineFirsts)), (a_t, .inr (3, [.ref a_lexemes, .int (nI j28), .int z_lineStart, .int z_lineIsFresh, .int z_wrongPlace, .int z_tooMany])), (a_y0, .inr (10, [.ref a_y0_characters, .int (nI n_y0_length)])), (a_y0_characters, .inl (ka_y0_characters, 240, .inl f_y0_characters))] := hD
      refine lv_goto (tgt := 107) hx hb d_Cutter_cutLexeme_42 (by decide) ?_
      have hP9 := hP.sub (ws' := [(a_t, .inr (3, [.ref a_lexemes, .int (nI j28), .int z_lineStart, .int z_lineIsFresh, .int z_wrongPlace, .int z_tooMany])), (a_lexemes, .inr (5, [.ref a_lexemes_tokens, .ref a_lexemes_places, .ref a_lexemes_columns, .ref a_lexemes_lineFirsts])), (a_lexemes_tokens, .inr (11, [.ref a_lexemes_tokens_kinds, .ref a_lexemes_tokens_values, .int (nI n_lexemes_tokens_size)])), (a_lexemes_tokens_kinds, .inl (ka_lexemes_tokens_kinds, 90, .inl f_lexemes_tokens_kinds)), (a_lexemes_tokens_values, .inl (ka_lexemes_tokens_values, 90, .inr (.inl f_lexemes_tokens_values))), (a_lexemes_places, .inl (ka_lexemes_places, 90, .inl f_lexemes_places)), (a_lexemes_columns, .inl (ka_lexemes_columns, 90, .inl f_lexemes_columns)), (a_lexemes_lineFirsts, .inl (ka_lexemes_lineFirsts, 90, .inl f_lexemes_lineFirsts)), (a_y0, .inr (10, [.ref a_y0_characters, .int (nI n_y0_length)])), (a_y0_characters, .inl (ka_y0_characters, 240, .inl f_y0_characters))]) [7, 0, 1, 2, 3, 4, 5, 6, 8, 9] rfl
      have hD9 := hD.sub (ws' := [(a_t, .inr (3, [.ref a_lexemes, .int (nI j28), .int z_lineStart, .int z_lineIsFresh, .int z_wrongPlace, .int z_tooMany])), (a_lexemes, .inr (5, [.ref a_lexemes_tokens, .ref a_lexemes_places, .ref a_lexemes_columns, .ref a_lexemes_lineFirsts])), (a_lexemes_tokens, .inr (11, [.ref a_lexemes_tokens_kinds, .ref a_lexemes_tokens_values, .int (nI n_lexemes_tokens_size)])), (a_lexemes_tokens_kinds, .inl (ka_lexemes_tokens_kinds, 90, .inl f_lexemes_tokens_kinds)), (a_lexemes_tokens_values, .inl (ka_lexemes_tokens_values, 90, .inr (.inl f_lexemes_tokens_values))), (a_lexemes_places, .inl (ka_lexemes_places, 90, .inl f_lexemes_places)), (a_lexemes_columns, .inl (ka_lexemes_columns, 90, .inl f_lexemes_columns)), (a_lexemes_lineFirsts, .inl (ka_lexemes_lineFirsts, 90, .inl f_lexemes_lineFirsts)), (a_y0, .inr (10, [.ref a_y0_characters, .int (nI n_y0_length)])), (a_y0_characters, .inl (ka_y0_characters, 240, .inl f_y0_characters))]) [7, 0, 1, 2, 3, 4, 5, 6, 8, 9] (by decide) rfl
      exact W.vret hx hb hr (fun t ht hW => ⟨⟨(), rfl, trivial, j28, z_lineIsFresh, z_wrongPlace, z_tooMany, n_lexemes_tokens_size, f_lexemes_tokens_kinds, f_lexemes_tokens_values, f_lexemes_places, f_lexemes_columns, f_lexemes_lineFirsts, by first | omega | assumption | exact Or.inl rfl | exact Or.inr rfl | decide, by first | omega | assumption | exact Or.inl rfl | exact Or.inr rfl | decide, by first | omega | assumption | exact Or.inl rfl | exact Or.inr rfl | decide, by exact cl_d hp0 hp6 hp7 e21 l_j1 e30 hp1 hp2 hp3 hp4 hp5 l_j28, by first | omega | assumption | exact Or.inl rfl | exact Or.inr rfl | decide, by exact Or.inl rfl, by rw [ht]; exact hP9, va_K.moved hW.alike hK, hD9⟩, hS.F ht⟩) hS.2.2 d_Cutter_cutLexeme_107
set_option maxHeartbeats 4000000 in
set_option maxRecDepth 100000 in
theorem s_Cutter_cut6 (l : Launch) (dC : Nat → ClassId) (dI : Nat → Nat → Nat) (sz : Nat) (a_t : Nat) (a_lexemes : Nat) (a_lexemes_tokens : Nat) (a_lexemes_tokens_kinds : Nat) (f_lexemes_tokens_kinds : Nat → Int32) (a_lexemes_tokens_values : Nat) (f_lexemes_tokens_values : Nat → Int64) (n_lexemes_tokens_size : Nat) (a_lexemes_places : Nat) (f_lexemes_places : Nat → Int32) (a_lexemes_columns : Nat) (f_lexemes_columns : Nat → Int32) (a_lexemes_lineFirsts : Nat) (f_lexemes_lineFirsts : Nat → Int32) (n_at : Nat) (z_lineStart : Int32) (z_lineIsFresh : Int32) (z_wrongPlace : Int32) (z_tooMany : Int32) (a_y0 : Nat) (a_y0_characters : Nat) (f_y0_characters : Nat → Int32) (n_y0_length : Nat) (ka_lexemes_tokens_kinds : ClassId) (ka_lexemes_tokens_values : ClassId) (ka_lexemes_places : ClassId) (ka_lexemes_columns : ClassId) (ka_lexemes_lineFirsts : ClassId) (ka_y0_characters : ClassId) (b_lexemes_tokens_size : n_lexemes_tokens_size ≤ 90) (b_at : n_at ≤ 241) (b_tooMany : z_tooMany = 0 ∨ z_tooMany = 1) (c_y0_characters : ∀ j, narrow .char (.int (f_y0_characters j)) = .int (f_y0_characters j)) (b_y0_length : n_y0_length ≤ 240) : Met l y_Cutter_cut w_Cutter_cut ({ frames := 8, cells := 0, slots := 0, locals := 193 }) (va_Pc [.ref a_t, .ref a_y0] (fun U => U.heap.size = sz ∧ va_P (dC, dI) vcl [(a_t, .inr (3, [.ref a_lexemes, .int (nI n_at), .int z_lineStart, .int z_lineIsFresh, .int z_wrongPlace, .int z_tooMany])), (a_lexemes, .inr (5, [.ref a_lexemes_tokens, .ref a_lexemes_places, .ref a_lexemes_columns, .ref a_lexemes_lineFirsts])), (a_lexemes_tokens, .inr (11, [.ref a_lexemes_tokens_kinds, .ref a_lexemes_tokens_values, .int (nI n_lexemes_tokens_size)])), (a_lexemes_tokens_kinds, .inl (ka_lexemes_tokens_kinds, 90, .inl f_lexemes_tokens_kinds)), (a_lexemes_tokens_values, .inl (ka_lexemes_tokens_values, 90, .inr (.inl f_lexemes_tokens_values))), (a_lexemes_places, .inl (ka_lexemes_places, 90, .inl f_lexemes_places)), (a_lexemes_columns, .inl (ka_lexemes_columns, 90, .inl f_lexemes_columns)), (a_lexemes_lineFirsts, .inl (ka_lexemes_lineFirsts, 90, .inl f_lexemes_lineFirsts)), (a_y0, .inr (10, [.ref a_y0_characters, .int (nI n_y0_length)])), (a_y0_characters, .inl (ka_y0_characters, 240, .inl f_y0_characters))] U.heap ∧ va_K (dC, dI) vcl [(ka_lexemes_tokens_kinds, .int), (ka_lexemes_tokens_values, .long), (ka_lexemes_places, .int), (ka_lexemes_columns, .int), (ka_lexemes_lineFirsts, .boolean), (ka_y0_characters, .char)] U ∧ va_D (fun _ => True) [(a_t, .inr (3, [.ref a_lexemes, .int (nI n_at), .int z_lineStart, .int z_lineIsFresh, .int z_wrongPlace, .int z_tooMany])), (a_lexemes, .inr (5, [.ref a_lexemes_tokens, .ref a_lexemes_places, .ref a_lexemes_columns, .ref a_lexemes_lineFirsts])), (a_lexemes_tokens, .inr (11, [.ref a_lexemes_tokens_kinds, .ref a_lexemes_tokens_values, .int (nI n_lexemes_tokens_size)])), (a_lexemes_tokens_kinds, .inl (ka_lexemes_tokens_kinds, 90, .inl f_lexemes_tokens_kinds)), (a_lexemes_tokens_values, .inl (ka_lexemes_tokens_values, 90, .inr (.inl f_lexemes_tokens_values))), (a_lexemes_places, .inl (ka_lexemes_places, 90, .inl f_lexemes_places)), (a_lexemes_columns, .inl (ka_lexemes_columns, 90, .inl f_lexemes_columns)), (a_lexemes_lineFirsts, .inl (ka_lexemes_lineFirsts, 90, .inl f_lexemes_lineFirsts)), (a_y0, .inr (10, [.ref a_y0_characters, .int (nI n_y0_length)])), (a_y0_characters, .inl (ka_y0_characters, 240, .inl f_y0_characters))] ∧ cx_E (va_A [(a_t, .inr (3, [.ref a_lexemes, .int (nI n_at), .int z_lineStart, .int z_lineIsFresh, .int z_wrongPlace, .int z_tooMany])), (a_lexemes, .inr (5, [.ref a_lexemes_tokens, .ref a_lexemes_places, .ref a_lexemes_columns, .ref a_lexemes_lineFirsts])), (a_lexemes_tokens, .inr (11, [.ref a_lexemes_tokens_kinds, .ref a_lexemes_tokens_values, .int (nI n_lexemes_tokens_size)])), (a_lexemes_tokens_kinds, .inl (ka_lexemes_tokens_kinds, 90, .inl f_lexemes_tokens_kinds)), (a_lexemes_tokens_values, .inl (ka_lexemes_tokens_values, 90, .inr (.inl f_lexemes_tokens_values))), (a_lexemes_places, .inl (ka_lexemes_places, 90, .inl f_lexemes_places)), (a_lexemes_columns, .inl (ka_lexemes_columns, 90, .inl f_lexemes_columns)), (a_lexemes_lineFirsts, .inl (ka_lexemes_lineFirsts, 90, .inl f_lexemes_lineFirsts)), (a_y0, .inr (10, [.ref a_y0_characters, .int (nI n_y0_length)])), (a_y0_characters, .inl (ka_y0_characters, 240, .inl f_y0_characters))] sz) U U.heap)) (va_Qi (fun (r : Int32) (_ : Unit) => r = wpO (cuE (cN f_y0_characters n_y0_length) n_y0_length 0 [])) (fun _ t => ∃ (w_n_at : Nat) (w_z_lineStart : Int32) (w_z_lineIsFresh : Int32) (w_z_wrongPlace : Int32) (w_z_tooMany : Int32) (w_n_lexemes_tokens_size : Nat) (w_f_lexemes_tokens_kinds : Nat → Int32) (w_f_lexemes_tokens_values : Nat → Int64) (w_f_lexemes_places : Nat → Int32) (w_f_lexemes_columns : Nat → Int32) (w_f_lexemes_lineFirsts : Nat → Int32), (w_n_at ≤ 241) ∧ (w_z_tooMany = 0 ∨ w_z_tooMany = 1) ∧ (w_n_lexemes_tokens_size ≤ 90) ∧ (Rp w_f_lexemes_tokens_kinds w_f_lexemes_tokens_values w_f_lexemes_places w_f_lexemes_columns w_f_lexemes_lineFirsts (cuE (cN f_y0_characters n_y0_length) n_y0_length 0 []).2) ∧ (w_n_lexemes_tokens_size = (cuE (cN f_y0_characters n_y0_length) n_y0_length 0 []).2.length) ∧ (w_z_wrongPlace = wpO (cuE (cN f_y0_characters n_y0_length) n_y0_length 0 [])) ∧ (w_z_tooMany = 0 ∨ ¬ wpO (cuE (cN f_y0_characters n_y0_length) n_y0_length 0 []) = -1) ∧ va_P (dC, dI) vcl [(a_t, .inr (3, [.ref a_lexemes, .int (nI w_n_at), .int w_z_lineStart, .int w_z_lineIsFresh, .int w_z_wrongPlace, .int w_z_tooMany])), (a_lexemes, .inr (5, [.ref a_lexemes_tokens, .ref a_lexemes_places, .ref a_lexemes_columns, .ref a_lexemes_lineFirsts])), (a_lexemes_tokens, .inr (11, [.ref a_lexemes_tokens_kinds, .ref a_lexemes_tokens_values, .int (nI w_n_lexemes_tokens_size)])), (a_lexemes_tokens_kinds, .inl (ka_lexemes_tokens_kinds, 90, .inl w_f_lexemes_tokens_kinds)), (a_lexemes_tokens_values, .inl (ka_lexemes_tokens_values, 90, .inr (.inl w_f_lexemes_tokens_values))), (a_lexemes_places, .inl (ka_lexemes_places, 90, .inl w_f_lexemes_places)), (a_lexemes_columns, .inl (ka_lexemes_columns, 90, .inl w_f_lexemes_columns)), (a_lexemes_lineFirsts, .inl (ka_lexemes_lineFirsts, 90, .inl w_f_lexemes_lineFirsts)), (a_y0, .inr (10, [.ref a_y0_characters, .int (nI n_y0_length)])), (a_y0_characters, .inl (ka_y0_characters, 240, .inl f_y0_characters))] t.heap ∧ va_K (dC, dI) vcl [(ka_lexemes_tokens_kinds, .int), (ka_lexemes_tokens_values, .long), (ka_lexemes_places, .int), (ka_lexemes_columns, .int), (ka_lexemes_lineFirsts, .boolean), (ka_y0_characters, .char)] t ∧ va_D (va_A [(a_t, .inr (3, [.ref a_lexemes, .int (nI n_at), .int z_lineStart, .int z_lineIsFresh, .int z_wrongPlace, .int z_tooMany])), (a_lexemes, .inr (5, [.ref a_lexemes_tokens, .ref a_lexemes_places, .ref a_lexemes_columns, .ref a_lexemes_lineFirsts])), (a_lexemes_tokens, .inr (11, [.ref a_lexemes_tokens_kinds, .ref a_lexemes_tokens_values, .int (nI n_lexemes_tokens_size)])), (a_lexemes_tokens_kinds, .inl (ka_lexemes_tokens_kinds, 90, .inl f_lexemes_tokens_kinds)), (a_lexemes_tokens_values, .inl (ka_lexemes_tokens_values, 90, .inr (.inl f_lexemes_tokens_values))), (a_lexemes_places, .inl (ka_lexemes_places, 90, .inl f_lexemes_places)), (a_lexemes_columns, .inl (ka_lexemes_columns, 90, .inl f_lexemes_columns)), (a_lexemes_lineFirsts, .inl (ka_lexemes_lineFirsts, 90, .inl f_lexemes_lineFirsts)), (a_y0, .inr (10, [.ref a_y0_characters, .int (nI n_y0_length)])), (a_y0_characters, .inl (ka_y0_characters, 240, .inl f_y0_characters))] sz) [(a_t, .inr (3, [.ref a_lexemes, .int (nI w_n_at), .int w_z_lineStart, .int w_z_lineIsFresh, .int w_z_wrongPlace, .int w_z_tooMany])), (a_lexemes, .inr (5, [.ref a_lexemes_tokens, .ref a_lexemes_places, .ref a_lexemes_columns, .ref a_lexemes_lineFirsts])), (a_lexemes_tokens, .inr (11, [.ref a_lexemes_tokens_kinds, .ref a_lexemes_tokens_values, .int (nI w_n_lexemes_tokens_size)])), (a_lexemes_tokens_kinds, .inl (ka_lexemes_tokens_kinds, 90, .inl w_f_lexemes_tokens_kinds)), (a_lexemes_tokens_values, .inl (ka_lexemes_tokens_values, 90, .inr (.inl w_f_lexemes_tokens_values))), (a_lexemes_places, .inl (ka_lexemes_places, 90, .inl w_f_lexemes_places)), (a_lexemes_columns, .inl (ka_lexemes_columns, 90, .inl w_f_lexemes_columns)), (a_lexemes_lineFirsts, .inl (ka_lexemes_lineFirsts, 90, .inl w_f_lexemes_lineFirsts)), (a_y0, .inr (10, [.ref a_y0_characters, .int (nI n_y0_length)])), (a_y0_characters, .inl (ka_y0_characters, 240, .inl f_y0_characters))]) (va_A [(a_t, .inr (3, [.ref a_lexemes, .int (nI n_at), .int z_lineStart, .int z_lineIsFresh, .int z_wrongPlace, .int z_tooMany])), (a_lexemes, .inr (5, [.ref a_lexemes_tokens, .ref a_lexemes_places, .ref a_lexemes_columns, .ref a_lexemes_lineFirsts])), (a_lexemes_tokens, .inr (11, [.ref a_lexemes_tokens_kinds, .ref a_lexemes_tokens_values, .int (nI n_lexemes_tokens_size)])), (a_lexemes_tokens_kinds, .inl (ka_lexemes_tokens_kinds, 90, .inl f_lexemes_tokens_kinds)), (a_lexemes_tokens_values, .inl (ka_lexemes_tokens_values, 90, .inr (.inl f_lexemes_tokens_values))), (a_lexemes_places, .inl (ka_lexemes_places, 90, .inl f_lexemes_places)), (a_lexemes_columns, .inl (ka_lexemes_columns, 90, .inl f_lexemes_columns)), (a_lexemes_lineFirsts, .inl (ka_lexemes_lineFirsts, 90, .inl f_lexemes_lineFirsts)), (a_y0, .inr (10, [.ref a_y0_characters, .int (nI n_y0_length)])), (a_y0_characters, .inl (ka_y0_characters, 240, .inl f_y0_characters))] sz)) 0 0 (va_A [(a_t, .inr (3, [.ref a_lexemes, .int (nI n_at), .int z_lineStart, .int z_lineIsFresh, .int z_wrongPlace, .int z_tooMany])), (a_lexemes, .inr (5, [.ref a_lexemes_tokens, .ref a_lexemes_places, .ref a_lexemes_columns, .ref a_lexemes_lineFirsts])), (a_lexemes_tokens, .inr (11, [.ref a_lexemes_tokens_kinds, .ref a_lexemes_tokens_values, .int (nI n_lexemes_tokens_size)])), (a_lexemes_tokens_kinds, .inl (ka_lexemes_tokens_kinds, 90, .inl f_lexemes_tokens_kinds)), (a_lexemes_tokens_values, .inl (ka_lexemes_tokens_values, 90, .inr (.inl f_lexemes_tokens_values))), (a_lexemes_places, .inl (ka_lexemes_places, 90, .inl f_lexemes_places)), (a_lexemes_columns, .inl (ka_lexemes_columns, 90, .inl f_lexemes_columns)), (a_lexemes_lineFirsts, .inl (ka_lexemes_lineFirsts, 90, .inl f_lexemes_lineFirsts)), (a_y0, .inr (10, [.ref a_y0_characters, .int (nI n_y0_length)])), (a_y0_characters, .inl (ka_y0_characters, 240, .inl f_y0_characters))] sz) := by
  refine Met.ofW (cc := b_Cutter_cut) (maxL := 3) (ret := (some .int)) (by decide) rfl ?_
  intro p e s m args below meth c s₁ B hml hv
  obtain ⟨rfl, hsz, hP, hK, hD0, hE⟩ := hv
  have hx := B.exec
  have hb := B.bytes
  have hr := B.returns
  have hts := atoms_spec (ws := w_Cutter_cut) B.pre
  have hz : ∀ w ∈ wz, w.before _ s = true := fun w h => hts w (List.mem_cons_of_mem _ h)
  have hown : s.vm.findClass R_Cutter = some m.cls := findClass_of_methodNamed B.named
  have hlocks := B.notSynchronized
  subst hsz
  have hD := hD0.self (sz := s.heap.size)
  generalize hAe : va_A [(a_t, .inr (3, [.ref a_lexemes, .int (nI n_at), .int z_lineStart, .int z_lineIsFresh, .int z_wrongPlace, .int z_tooMany])), (a_lexemes, .inr (5, [.ref a_lexemes_tokens, .ref a_lexemes_places, .ref a_lexemes_columns, .ref a_lexemes_lineFirsts])), (a_lexemes_tokens, .inr (11, [.ref a_lexemes_tokens_kinds, .ref a_lexemes_tokens_values, .int (nI n_lexemes_tokens_size)])), (a_lexemes_tokens_kinds, .inl (ka_lexemes_tokens_kinds, 90, .inl f_lexemes_tokens_kinds)), (a_lexemes_tokens_values, .inl (ka_lexemes_tokens_values, 90, .inr (.inl f_lexemes_tokens_values))), (a_lexemes_places, .inl (ka_lexemes_places, 90, .inl f_lexemes_places)), (a_lexemes_columns, .inl (ka_lexemes_columns, 90, .inl f_lexemes_columns)), (a_lexemes_lineFirsts, .inl (ka_lexemes_lineFirsts, 90, .inl f_lexemes_lineFirsts)), (a_y0, .inr (10, [.ref a_y0_characters, .int (nI n_y0_length)])), (a_y0_characters, .inl (ka_y0_characters, 240, .inl f_y0_characters))] s.heap.size = A at hD hE ⊢
  have hA : ∀ q : Nat, s.heap.size ≤ q → A q := fun q h => by rw [← hAe]; exact Or.inr h
  have hS : va_S A s.heap s.heap [] := va_S.rf
  have hP : va_P (dC, dI) vcl [(a_t, .inr (3, [.ref a_lexemes, .int (nI n_at), .int z_lineStart, .int z_lineIsFresh, .int z_wrongPlace, .int z_tooMany])), (a_lexemes, .inr (5, [.ref a_lexemes_tokens, .ref a_lexemes_places, .ref a_lexemes_columns, .ref a_lexemes_lineFirsts])), (a_lexemes_tokens, .inr (11, [.ref a_lexemes_tokens_kinds, .ref a_lexemes_tokens_values, .int (nI n_lexemes_tokens_size)])), (a_lexemes_tokens_kinds, .inl (ka_lexemes_tokens_kinds, 90, .inl f_lexemes_tokens_kinds)), (a_lexemes_tokens_values, .inl (ka_lexemes_tokens_values, 90, .inr (.inl f_lexemes_tokens_values))), (a_lexemes_places, .inl (ka_lexemes_places, 90, .inl f_lexemes_places)), (a_lexemes_columns, .inl (ka_lexemes_columns, 90, .inl f_lexemes_columns)), (a_lexemes_lineFirsts, .inl (ka_lexemes_lineFirsts, 90, .inl f_lexemes_lineFirsts)), (a_y0, .inr (10, [.ref a_y0_characters, .int (nI n_y0_length)])), (a_y0_characters, .inl (ka_y0_characters, 240, .inl f_y0_characters))] s.heap := hP
  have hl := lv_entry ([.ref a_t, .ref a_y0]) (n := 3) (Nat.le_of_ble_eq_true rfl)
  rw [lg_entry_eq]
  generalize (lg_sl ([.ref a_t, .ref a_y0]) ++ List.replicate (3 - (lg_sl ([.ref a_t, .ref a_y0])).length) Slot.unset).toArray = ls at hl ⊢
  have hl : lv_has ls 3 [(0, .ref a_t), (1, .ref a_y0)] := hl
  refine lv_aload_n hx hb d_Cutter_cut_0 rfl (lv_at hl 0 rfl) ?_
  refine va_get (D := (dC, dI)) (ci := 3) (v := .ref a_lexemes) (C := R_Cutter) (T := F_Cutter) (N := 6) hx hb hz zu_Cutter hown hK hP 0 rfl rfl 0 (by decide) (hz (.fieldLink R_Cutter 12 "LayoutFront$Cutter" "lexemes" "LLayoutFront$Lexemes;") zm_74) (fun _ h9 => h9) rfl d_Cutter_cut_1 ?_
  have hPc := hP.sub (ws' := [(a_lexemes, .inr (5, [.ref a_lexemes_tokens, .ref a_lexemes_places, .ref a_lexemes_columns, .ref a_lexemes_lineFirsts])), (a_lexemes_tokens, .inr (11, [.ref a_lexemes_tokens_kinds, .ref a_lexemes_tokens_values, .int (nI n_lexemes_tokens_size)]))]) [1, 2] rfl
  have hDc := hD.sub (ws' := [(a_lexemes, .inr (5, [.ref a_lexemes_tokens, .ref a_lexemes_places, .ref a_lexemes_columns, .ref a_lexemes_lineFirsts])), (a_lexemes_tokens, .inr (11, [.ref a_lexemes_tokens_kinds, .ref a_lexemes_tokens_values, .int (nI n_lexemes_tokens_size)]))]) [1, 2] (by decide) rfl
  have hKc := hK.sub (tys' := []) [] rfl
  have hFc := va_free (wc := [(a_lexemes, .inr (5, [.ref a_lexemes_tokens, .ref a_lexemes_places, .ref a_lexemes_columns, .ref a_lexemes_lineFirsts])), (a_lexemes_tokens, .inr (11, [.ref a_lexemes_tokens_kinds, .ref a_lexemes_tokens_values, .int (nI n_lexemes_tokens_size)]))]) hD hS hA [1, 2] rfl
  refine va_callv (va_runV (As := []) (rest := []) ⟨hx, hb, hml, hown, hz⟩ (s_Lexemes_clear6 l dC dI s.heap.size a_lexemes a_lexemes_tokens a_lexemes_tokens_kinds a_lexemes_tokens_values n_lexemes_tokens_size a_lexemes_places a_lexemes_columns a_lexemes_lineFirsts (by first | omega | assumption | exact bk_n e74)) (cwV 0 hz (zV zm_78 zm_79 zm_80 zm_71 zm_81) rfl rfl rfl (by decide +kernel) ⟨Nat.le_of_ble_eq_true rfl, Nat.le_of_ble_eq_true rfl⟩) ⟨fun a U g mk q => by obtain ⟨q0, q1, qP, qK, qD⟩ := q; exact ⟨q0, q1, qP, va_K.moved (u := U) (U := U.calling g mk a) (Vm.Alike.refl U.vm) qK, qD⟩, va_recv (q := (R_Lexemes, F_Lexemes, 4)) (q0 := 1) (ci := 5) hK hP rfl rfl, fun U hU hW => ⟨rfl, by rw [hU], by rw [hU]; exact hPc, va_K.moved hW.alike hKc, hDc.weaken (fun _ _ _ _ => trivial)⟩⟩ rfl rfl hl.1 rfl (lv_room (Nat.le_of_ble_eq_true rfl)) d_Cutter_cut_4 ⟨Nat.zero_le _, Nat.zero_le _⟩) hS (fun q _ h => hFc q h) hFc (fun u t H1 locs ht hvm hw hB hz1 hk1 hS => ?_)
  obtain ⟨g1, hb_g1, hq0_4, hP1, hK1, hD1⟩ := hB
  subst g1
  rw [ht] at hP1
  obtain ⟨hP, hD⟩ := va_join (wr := [(a_t, .inr (3, [.ref a_lexemes, .int (nI n_at), .int z_lineStart, .int z_lineIsFresh, .int z_wrongPlace, .int z_tooMany])), (a_lexemes_tokens_kinds, .inl (ka_lexemes_tokens_kinds, 90, .inl f_lexemes_tokens_kinds)), (a_lexemes_tokens_values, .inl (ka_lexemes_tokens_values, 90, .inr (.inl f_lexemes_tokens_values))), (a_lexemes_places, .inl (ka_lexemes_places, 90, .inl f_lexemes_places)), (a_lexemes_columns, .inl (ka_lexemes_columns, 90, .inl f_lexemes_columns)), (a_lexemes_lineFirsts, .inl (ka_lexemes_lineFirsts, 90, .inl f_lexemes_lineFirsts)), (a_y0, .inr (10, [.ref a_y0_characters, .int (nI n_y0_length)])), (a_y0_characters, .inl (ka_y0_characters, 240, .inl f_y0_characters))]) (w1 := [(a_lexemes, .inr (5, [.ref a_lexemes_tokens, .ref a_lexemes_places, .ref a_lexemes_columns, .ref a_lexemes_lineFirsts])), (a_lexemes_tokens, .inr (11, [.ref a_lexemes_tokens_kinds, .ref a_lexemes_tokens_values, .int (nI (0))]))]) hP hD [1, 2] [0, 3, 4, 5, 6, 7, 8, 9] rfl rfl (by decide) (by decide) hk1 hFc hP1 hD1
  generalize H1 = H at hP hS ⊢
  have hP : va_P (dC, dI) vcl [(a_t, .inr (3, [.ref a_lexemes, .int (nI n_at), .int z_lineStart, .int z_lineIsFresh, .int z_wrongPlace, .int z_tooMany])), (a_lexemes_tokens_kinds, .inl (ka_lexemes_tokens_kinds, 90, .inl f_lexemes_tokens_kinds)), (a_lexemes_tokens_values, .inl (ka_lexemes_tokens_values, 90, .inr (.inl f_lexemes_tokens_values))), (a_lexemes_places, .inl (ka_lexemes_places, 90, .inl f_lexemes_places)), (a_lexemes_columns, .inl (ka_lexemes_columns, 90, .inl f_lexemes_columns)), (a_lexemes_lineFirsts, .inl (ka_lexemes_lineFirsts, 90, .inl f_lexemes_lineFirsts)), (a_y0, .inr (10, [.ref a_y0_characters, .int (nI n_y0_length)])), (a_y0_characters, .inl (ka_y0_characters, 240, .inl f_y0_characters)), (a_lexemes, .inr (5, [.ref a_lexemes_tokens, .ref a_lexemes_places, .ref a_lexemes_columns, .ref a_lexemes_lineFirsts])), (a_lexemes_tokens, .inr (11, [.ref a_lexemes_tokens_kinds, .ref a_lexemes_tokens_values, .int (nI (0))]))] H := hP
  have hD : va_D A [(a_t, .inr (3, [.ref a_lexemes, .int (nI n_at), .int z_lineStart, .int z_lineIsFresh, .int z_wrongPlace, .int z_tooMany])), (a_lexemes_tokens_kinds, .inl (ka_lexemes_tokens_kinds, 90, .inl f_lexemes_tokens_kinds)), (a_lexemes_tokens_values, .inl (ka_lexemes_tokens_values, 90, .inr (.inl f_lexemes_tokens_values))), (a_lexemes_places, .inl (ka_lexemes_places, 90, .inl f_lexemes_places)), (a_lexemes_columns, .inl (ka_lexemes_columns, 90, .inl f_lexemes_columns)), (a_lexemes_lineFirsts, .inl (ka_lexemes_lineFirsts, 90, .inl f_lexemes_lineFirsts)), (a_y0, .inr (10, [.ref a_y0_characters, .int (nI n_y0_length)])), (a_y0_characters, .inl (ka_y0_characters, 240, .inl f_y0_characters)), (a_lexemes, .inr (5, [.ref a_lexemes_tokens, .ref a_lexemes_places, .ref a_lexemes_columns, .ref a_lexemes_lineFirsts])), (a_lexemes_tokens, .inr (11, [.ref a_lexemes_tokens_kinds, .ref a_lexemes_tokens_values, .int (nI (0))]))] := hD
  refine lv_aload_n hx hb d_Cutter_cut_7 rfl (lv_at hl 0 rfl) ?_
  refine lv_iconst (v := 0) hx hb d_Cutter_cut_8 (by decide) ?_
  refine va_put (D := (dC, dI)) (ci := 3) (v := .int 0) (ty := .int) (C := R_Cutter) (T := F_Cutter) (N := 6) hx hb hz zu_Cutter t_Cutter t_Cutter_ok n_Cutter hown hK hP hD hS 0 rfl rfl 1 (by decide) (hz (.fieldLink R_Cutter 29 "LayoutFront$Cutter" "at" "I") zm_82) (fun _ h9 => h9) rfl (by decide +kernel) (by decide +kernel) rfl (Nat.le_of_ble_eq_true rfl) d_Cutter_cut_9 (fun H locs hP hD hS => ?_)
  have hP : va_P (dC, dI) vcl [(a_t, .inr (3, [.ref a_lexemes, .int 0, .int z_lineStart, .int z_lineIsFresh, .int z_wrongPlace, .int z_tooMany])), (a_lexemes_tokens_kinds, .inl (ka_lexemes_tokens_kinds, 90, .inl f_lexemes_tokens_kinds)), (a_lexemes_tokens_values, .inl (ka_lexemes_tokens_values, 90, .inr (.inl f_lexemes_tokens_values))), (a_lexemes_places, .inl (ka_lexemes_places, 90, .inl f_lexemes_places)), (a_lexemes_columns, .inl (ka_lexemes_columns, 90, .inl f_lexemes_columns)), (a_lexemes_lineFirsts, .inl (ka_lexemes_lineFirsts, 90, .inl f_lexemes_lineFirsts)), (a_y0, .inr (10, [.ref a_y0_characters, .int (nI n_y0_length)])), (a_y0_characters, .inl (ka_y0_characters, 240, .inl f_y0_characters)), (a_lexemes, .inr (5, [.ref a_lexemes_tokens, .ref a_lexemes_places, .ref a_lexemes_columns, .ref a_lexemes_lineFirsts])), (a_lexemes_tokens, .inr (11, [.ref a_lexemes_tokens_kinds, .ref a_lexemes_tokens_values, .int (nI (0))]))] H := hP
  have hD : va_D A [(a_t, .inr (3, [.ref a_lexemes, .int 0, .int z_lineStart, .int z_lineIsFresh, .int z_wrongPlace, .int z_tooMany])), (a_lexemes_tokens_kinds, .inl (ka_lexemes_tokens_kinds, 90, .inl f_lexemes_tokens_kinds)), (a_lexemes_tokens_values, .inl (ka_lexemes_tokens_values, 90, .inr (.inl f_lexemes_tokens_values))), (a_lexemes_places, .inl (ka_lexemes_places, 90, .inl f_lexemes_places)), (a_lexemes_columns, .inl (ka_lexemes_columns, 90, .inl f_lexemes_columns)), (a_lexemes_lineFirsts, .inl (ka_lexemes_lineFirsts, 90, .inl f_lexemes_lineFirsts)), (a_y0, .inr (10, [.ref a_y0_characters, .int (nI n_y0_length)])), (a_y0_characters, .inl (ka_y0_characters, 240, .inl f_y0_characters)), (a_lexemes, .inr (5, [.ref a_lexemes_tokens, .ref a_lexemes_places, .ref a_lexemes_columns, .ref a_lexemes_lineFirsts])), (a_lexemes_tokens, .inr (11, [.ref a_lexemes_tokens_kinds, .ref a_lexemes_tokens_values, .int (nI (0))]))] := hD
  refine lv_aload_n hx hb d_Cutter_cut_12 rfl (lv_at hl 0 rfl) ?_
  refine lv_iconst (v := 0) hx hb d_Cutter_cut_13 (by decide) ?_
  refine va_put (D := (dC, dI)) (ci := 3) (v := .int 0) (ty := .int) (C := R_Cutter) (T := F_Cutter) (N := 6) hx hb hz zu_Cutter t_Cutter t_Cutter_ok n_Cutter hown hK hP hD hS 0 rfl rfl 2 (by decide) (hz (.fieldLink R_Cutter 32 "LayoutFront$Cutter" "lineStart" "I") zm_83) (fun _ h9 => h9) rfl (by decide +kernel) (by decide +kernel) rfl (Nat.le_of_ble_eq_true rfl) d_Cutter_cut_14 (fun H locs hP hD hS => ?_)
  have hP : va_P (dC, dI) vcl [(a_t, .inr (3, [.ref a_lexemes, .int 0, .int 0, .int z_lineIsFresh, .int z_wrongPlace, .int z_tooMany])), (a_lexemes_tokens_kinds, .inl (ka_lexemes_tokens_kinds, 90, .inl f_lexemes_tokens_kinds)), (a_lexemes_tokens_values, .inl (ka_lexemes_tokens_values, 90, .inr (.inl f_lexemes_tokens_values))), (a_lexemes_places, .inl (ka_lexemes_places, 90, .inl f_lexemes_places)), (a_lexemes_columns, .inl (ka_lexemes_columns, 90, .inl f_lexemes_columns)), (a_lexemes_lineFirsts, .inl (ka_lexemes_lineFirsts, 90, .inl f_lexemes_lineFirsts)), (a_y0, .inr (10, [.ref a_y0_characters, .int (nI n_y0_length)])), (a_y0_characters, .inl (ka_y0_characters, 240, .inl f_y0_characters)), (a_lexemes, .inr (5, [.ref a_lexemes_tokens, .ref a_lexemes_places, .ref a_lexemes_columns, .ref a_lexemes_lineFirsts])), (a_lexemes_tokens, .inr (11, [.ref a_lexemes_tokens_kinds, .ref a_lexemes_tokens_values, .int (nI (0))]))] H := hP
  have hD : va_D A [(a_t, .inr (3, [.ref a_lexemes, .int 0, .int 0, .int z_lineIsFresh, .int z_wrongPlace, .int z_tooMany])), (a_lexemes_tokens_kinds, .inl (ka_lexemes_tokens_kinds, 90, .inl f_lexemes_tokens_kinds)), (a_lexemes_tokens_values, .inl (ka_lexemes_tokens_values, 90, .inr (.inl f_lexemes_tokens_values))), (a_lexemes_places, .inl (ka_lexemes_places, 90, .inl f_lexemes_places)), (a_lexemes_columns, .inl (ka_lexemes_columns, 90, .inl f_lexemes_columns)), (a_lexemes_lineFirsts, .inl (ka_lexemes_lineFirsts, 90, .inl f_lexemes_lineFirsts)), (a_y0, .inr (10, [.ref a_y0_characters, .int (nI n_y0_length)])), (a_y0_characters, .inl (ka_y0_characters, 240, .inl f_y0_characters)), (a_lexemes, .inr (5, [.ref a_lexemes_tokens, .ref a_lexemes_places, .ref a_lexemes_columns, .ref a_lexemes_lineFirsts])), (a_lexemes_tokens, .inr (11, [.ref a_lexemes_tokens_kinds, .ref a_lexemes_tokens_values, .int (nI (0))]))] := hD
  refine lv_aload_n hx hb d_Cutter_cut_17 rfl (lv_at hl 0 rfl) ?_
  refine lv_iconst (v := 1) hx hb d_Cutter_cut_18 (by decide) ?_
  refine va_put (D := (dC, dI)) (ci := 3) (v := .int 1) (ty := .boolean) (C := R_Cutter) (T := F_Cutter) (N := 6) hx hb hz zu_Cutter t_Cutter t_Cutter_ok n_Cutter hown hK hP hD hS 0 rfl rfl 3 (by decide) (hz (.fieldLink R_Cutter 35 "LayoutFront$Cutter" "lineIsFresh" "Z") zm_84) (fun _ h9 => h9) rfl (by decide +kernel) (by decide +kernel) rfl (Nat.le_of_ble_eq_true rfl) d_Cutter_cut_19 (fun H locs hP hD hS => ?_)
  have hP : va_P (dC, dI) vcl [(a_t, .inr (3, [.ref a_lexemes, .int 0, .int 0, .int 1, .int z_wrongPlace, .int z_tooMany])), (a_lexemes_tokens_kinds, .inl (ka_lexemes_tokens_kinds, 90, .inl f_lexemes_tokens_kinds)), (a_lexemes_tokens_values, .inl (ka_lexemes_tokens_values, 90, .inr (.inl f_lexemes_tokens_values))), (a_lexemes_places, .inl (ka_lexemes_places, 90, .inl f_lexemes_places)), (a_lexemes_columns, .inl (ka_lexemes_columns, 90, .inl f_lexemes_columns)), (a_lexemes_lineFirsts, .inl (ka_lexemes_lineFirsts, 90, .inl f_lexemes_lineFirsts)), (a_y0, .inr (10, [.ref a_y0_characters, .int (nI n_y0_length)])), (a_y0_characters, .inl (ka_y0_characters, 240, .inl f_y0_characters)), (a_lexemes, .inr (5, [.ref a_lexemes_tokens, .ref a_lexemes_places, .ref a_lexemes_columns, .ref a_lexemes_lineFirsts])), (a_lexemes_tokens, .inr (11, [.ref a_lexemes_tokens_kinds, .ref a_lexemes_tokens_values, .int (nI (0))]))] H := hP
  have hD : va_D A [(a_t, .inr (3, [.ref a_lexemes, .int 0, .int 0, .int 1, .int z_wrongPlace, .int z_tooMany])), (a_lexemes_tokens_kinds, .inl (ka_lexemes_tokens_kinds, 90, .inl f_lexemes_tokens_kinds)), (a_lexemes_tokens_values, .inl (ka_lexemes_tokens_values, 90, .inr (.inl f_lexemes_tokens_values))), (a_lexemes_places, .inl (ka_lexemes_places, 90, .inl f_lexemes_places)), (a_lexemes_columns, .inl (ka_lexemes_columns, 90, .inl f_lexemes_columns)), (a_lexemes_lineFirsts, .inl (ka_lexemes_lineFirsts, 90, .inl f_lexemes_lineFirsts)), (a_y0, .inr (10, [.ref a_y0_characters, .int (nI n_y0_length)])), (a_y0_characters, .inl (ka_y0_characters, 240, .inl f_y0_characters)), (a_lexemes, .inr (5, [.ref a_lexemes_tokens, .ref a_lexemes_places, .ref a_lexemes_columns, .ref a_lexemes_lineFirsts])), (a_lexemes_tokens, .inr (11, [.ref a_lexemes_tokens_kinds, .ref a_lexemes_tokens_values, .int (nI (0))]))] := hD
  refine lv_aload_n hx hb d_Cutter_cut_22 rfl (lv_at hl 0 rfl) ?_
  refine lv_iconst (v := (-1)) hx hb d_Cutter_cut_23 (by decide) ?_
  refine va_put (D := (dC, dI)) (ci := 3) (v := .int (-1)) (ty := .int) (C := R_Cutter) (T := F_Cutter) (N := 6) hx hb hz zu_Cutter t_Cutter t_Cutter_ok n_Cutter hown hK hP hD hS 0 rfl rfl 4 (by decide) (hz (.fieldLink R_Cutter 18 "LayoutFront$Cutter" "wrongPlace" "I") zm_75) (fun _ h9 => h9) rfl (by decide +kernel) (by decide +kernel) rfl (Nat.le_of_ble_eq_true rfl) d_Cutter_cut_24 (fun H locs hP hD hS => ?_)
  have hP : va_P (dC, dI) vcl [(a_t, .inr (3, [.ref a_lexemes, .int 0, .int 0, .int 1, .int (-1), .int z_tooMany])), (a_lexemes_tokens_kinds, .inl (ka_lexemes_tokens_kinds, 90, .inl f_lexemes_tokens_kinds)), (a_lexemes_tokens_values, .inl (ka_lexemes_tokens_values, 90, .inr (.inl f_lexemes_tokens_values))), (a_lexemes_places, .inl (ka_lexemes_places, 90, .inl f_lexemes_places)), (a_lexemes_columns, .inl (ka_lexemes_columns, 90, .inl f_lexemes_columns)), (a_lexemes_lineFirsts, .inl (ka_lexemes_lineFirsts, 90, .inl f_lexemes_lineFirsts)), (a_y0, .inr (10, [.ref a_y0_characters, .int (nI n_y0_length)])), (a_y0_characters, .inl (ka_y0_characters, 240, .inl f_y0_characters)), (a_lexemes, .inr (5, [.ref a_lexemes_tokens, .ref a_lexemes_places, .ref a_lexemes_columns, .ref a_lexemes_lineFirsts])), (a_lexemes_tokens, .inr (11, [.ref a_lexemes_tokens_kinds, .ref a_lexemes_tokens_values, .int (nI (0))]))] H := hP
  have hD : va_D A [(a_t, .inr (3, [.ref a_lexemes, .int 0, .int 0, .int 1, .int (-1), .int z_tooMany])), (a_lexemes_tokens_kinds, .inl (ka_lexemes_tokens_kinds, 90, .inl f_lexemes_tokens_kinds)), (a_lexemes_tokens_values, .inl (ka_lexemes_tokens_values, 90, .inr (.inl f_lexemes_tokens_values))), (a_lexemes_places, .inl (ka_lexemes_places, 90, .inl f_lexemes_places)), (a_lexemes_columns, .inl (ka_lexemes_columns, 90, .inl f_lexemes_columns)), (a_lexemes_lineFirsts, .inl (ka_lexemes_lineFirsts, 90, .inl f_lexemes_lineFirsts)), (a_y0, .inr (10, [.ref a_y0_characters, .int (nI n_y0_length)])), (a_y0_characters, .inl (ka_y0_characters, 240, .inl f_y0_characters)), (a_lexemes, .inr (5, [.ref a_lexemes_tokens, .ref a_lexemes_places, .ref a_lexemes_columns, .ref a_lexemes_lineFirsts])), (a_lexemes_tokens, .inr (11, [.ref a_lexemes_tokens_kinds, .ref a_lexemes_tokens_values, .int (nI (0))]))] := hD
  refine lv_aload_n hx hb d_Cutter_cut_27 rfl (lv_at hl 0 rfl) ?_
  refine lv_iconst (v := 0) hx hb d_Cutter_cut_28 (by decide) ?_
  refine va_put (D := (dC, dI)) (ci := 3) (v := .int 0) (ty := .boolean) (C := R_Cutter) (T := F_Cutter) (N := 6) hx hb hz zu_Cutter t_Cutter t_Cutter_ok n_Cutter hown hK hP hD hS 0 rfl rfl 5 (by decide) (hz (.fieldLink R_Cutter 22 "LayoutFront$Cutter" "tooMany" "Z") zm_77) (fun _ h9 => h9) rfl (by decide +kernel) (by decide +kernel) rfl (Nat.le_of_ble_eq_true rfl) d_Cutter_cut_29 (fun H locs hP hD hS => ?_)
  have hP : va_P (dC, dI) vcl [(a_t, .inr (3, [.ref a_lexemes, .int 0, .int 0, .int 1, .int (-1), .int 0])), (a_lexemes_tokens_kinds, .inl (ka_lexemes_tokens_kinds, 90, .inl f_lexemes_tokens_kinds)), (a_lexemes_tokens_values, .inl (ka_lexemes_tokens_values, 90, .inr (.inl f_lexemes_tokens_values))), (a_lexemes_places, .inl (ka_lexemes_places, 90, .inl f_lexemes_places)), (a_lexemes_columns, .inl (ka_lexemes_columns, 90, .inl f_lexemes_columns)), (a_lexemes_lineFirsts, .inl (ka_lexemes_lineFirsts, 90, .inl f_lexemes_lineFirsts)), (a_y0, .inr (10, [.ref a_y0_characters, .int (nI n_y0_length)])), (a_y0_characters, .inl (ka_y0_characters, 240, .inl f_y0_characters)), (a_lexemes, .inr (5, [.ref a_lexemes_tokens, .ref a_lexemes_places, .ref a_lexemes_columns, .ref a_lexemes_lineFirsts])), (a_lexemes_tokens, .inr (11, [.ref a_lexemes_tokens_kinds, .ref a_lexemes_tokens_values, .int (nI (0))]))] H := hP
  have hD : va_D A [(a_t, .inr (3, [.ref a_lexemes, .int 0, .int 0, .int 1, .int (-1), .int 0])), (a_lexemes_tokens_kinds, .inl (ka_lexemes_tokens_kinds, 90, .inl f_lexemes_tokens_kinds)), (a_lexemes_tokens_values, .inl (ka_lexemes_tokens_values, 90, .inr (.inl f_lexemes_tokens_values))), (a_lexemes_places, .inl (ka_lexemes_places, 90, .inl f_lexemes_places)), (a_lexemes_columns, .inl (ka_lexemes_columns, 90, .inl f_lexemes_columns)), (a_lexemes_lineFirsts, .inl (ka_lexemes_lineFirsts, 90, .inl f_lexemes_lineFirsts)), (a_y0, .inr (10, [.ref a_y0_characters, .int (nI n_y0_length)])), (a_y0_characters, .inl (ka_y0_characters, 240, .inl f_y0_characters)), (a_lexemes, .inr (5, [.ref a_lexemes_tokens, .ref a_lexemes_places, .ref a_lexemes_columns, .ref a_lexemes_lineFirsts])), (a_lexemes_tokens, .inr (11, [.ref a_lexemes_tokens_kinds, .ref a_lexemes_tokens_values, .int (nI (0))]))] := hD
  refine lv_iconst (v := 0) hx hb d_Cutter_cut_32 (by decide) ?_
  refine lv_istore_n hx hb d_Cutter_cut_33 rfl hl (by decide) rfl (fun ls hl => ?_)
  have hl : lv_has ls 3 [(2, .int 0), (0, .ref a_t), (1, .ref a_y0)] := hl
  refine xr_loop (α := (Nat) × (Nat → Int32) × (Nat → Int32) × (Nat → Int32) × (Nat) × (Nat → Int32) × (Nat → Int64) × (Nat) × (Int32) × (Int32) × (Int32) × (Int32) × (List Lx)) (fun a => (fun (k2 : Nat) (v_a_lexemes_columns : Nat → Int32) (v_a_lexemes_lineFirsts : Nat → Int32) (v_a_lexemes_places : Nat → Int32) (v_a_lexemes_tokens_2 : Nat) (v_a_lexemes_tokens_kinds : Nat → Int32) (v_a_lexemes_tokens_values : Nat → Int64) (v_a_t_1 : Nat) (v_a_t_2 : Int32) (v_a_t_3 : Int32) (v_a_t_4 : Int32) (v_a_t_5 : Int32) (vL : List Lx) => 240 - k2) a.1 a.2.1 a.2.2.1 a.2.2.2.1 a.2.2.2.2.1 a.2.2.2.2.2.1 a.2.2.2.2.2.2.1 a.2.2.2.2.2.2.2.1 a.2.2.2.2.2.2.2.2.1 a.2.2.2.2.2.2.2.2.2.1 a.2.2.2.2.2.2.2.2.2.2.1 a.2.2.2.2.2.2.2.2.2.2.2.1 a.2.2.2.2.2.2.2.2.2.2.2.2) (fun a H locs ls => (fun (k2 : Nat) (v_a_lexemes_columns : Nat → Int32) (v_a_lexemes_lineFirsts : Nat → Int32) (v_a_lexemes_places : Nat → Int32) (v_a_lexemes_tokens_2 : Nat) (v_a_lexemes_tokens_kinds : Nat → Int32) (v_a_lexemes_tokens_values : Nat → Int64) (v_a_t_1 : Nat) (v_a_t_2 : Int32) (v_a_t_3 : Int32) (v_a_t_4 : Int32) (v_a_t_5 : Int32) (vL : List Lx) => (k2 ≤ 240) ∧ (v_a_lexemes_tokens_2 ≤ 90) ∧ (v_a_t_1 ≤ 241) ∧ (v_a_t_5 = 0 ∨ v_a_t_5 = 1) ∧ (v_a_t_1 ≤ n_y0_length) ∧ (Rp v_a_lexemes_tokens_kinds v_a_lexemes_tokens_values v_a_lexemes_places v_a_lexemes_columns v_a_lexemes_lineFirsts vL) ∧ (v_a_lexemes_tokens_2 = vL.length) ∧ (v_a_t_4 = -1 → (cuE (cN f_y0_characters n_y0_length) n_y0_length 0 [] = cuE (cN f_y0_characters n_y0_length) n_y0_length v_a_t_1 vL ∧ v_a_t_2 = nI (lnO (cN f_y0_characters n_y0_length) v_a_t_1) ∧ v_a_t_3 = b01 (ldO vL (lnO (cN f_y0_characters n_y0_length) v_a_t_1)) ∧ hdW vL v_a_t_1 ∧ k2 ≤ v_a_t_1)) ∧ (¬ v_a_t_4 = -1 → ∃ p, p ≤ 240 ∧ cuE (cN f_y0_characters n_y0_length) n_y0_length 0 [] = (some p, vL) ∧ v_a_t_4 = nI p) ∧ (v_a_t_5 = 0 ∨ ¬ v_a_t_4 = -1) ∧ lv_has ls 3 [(2, .int (nI k2)), (0, .ref a_t), (1, .ref a_y0)] ∧ va_P (dC, dI) vcl [(a_t, .inr (3, [.ref a_lexemes, .int (nI v_a_t_1), .int v_a_t_2, .int v_a_t_3, .int v_a_t_4, .int v_a_t_5])), (a_lexemes_tokens_kinds, .inl (ka_lexemes_tokens_kinds, 90, .inl v_a_lexemes_tokens_kinds)), (a_lexemes_tokens_values, .inl (ka_lexemes_tokens_values, 90, .inr (.inl v_a_lexemes_tokens_values))), (a_lexemes_places, .inl (ka_lexemes_places, 90, .inl v_a_lexemes_places)), (a_lexemes_columns, .inl (ka_lexemes_columns, 90, .inl v_a_lexemes_columns)), (a_lexemes_lineFirsts, .inl (ka_lexemes_lineFirsts, 90, .inl v_a_lexemes_lineFirsts)), (a_y0, .inr (10, [.ref a_y0_characters, .int (nI n_y0_length)])), (a_y0_characters, .inl (ka_y0_characters, 240, .inl f_y0_characters)), (a_lexemes, .inr (5, [.ref a_lexemes_tokens, .ref a_lexemes_places, .ref a_lexemes_columns, .ref a_lexemes_lineFirsts])), (a_lexemes_tokens, .inr (11, [.ref a_lexemes_tokens_kinds, .ref a_lexemes_tokens_values, .int (nI v_a_lexemes_tokens_2)]))] H ∧ va_D A [(a_t, .inr (3, [.ref a_lexemes, .int (nI v_a_t_1), .int v_a_t_2, .int v_a_t_3, .int v_a_t_4, .int v_a_t_5])), (a_lexemes_tokens_kinds, .inl (ka_lexemes_tokens_kinds, 90, .inl v_a_lexemes_tokens_kinds)), (a_lexemes_tokens_values, .inl (ka_lexemes_tokens_values, 90, .inr (.inl v_a_lexemes_tokens_values))), (a_lexemes_places, .inl (ka_lexemes_places, 90, .inl v_a_lexemes_places)), (a_lexemes_columns, .inl (ka_lexemes_columns, 90, .inl v_a_lexemes_columns)), (a_lexemes_lineFirsts, .inl (ka_lexemes_lineFirsts, 90, .inl v_a_lexemes_lineFirsts)), (a_y0, .inr (10, [.ref a_y0_characters, .int (nI n_y0_length)])), (a_y0_characters, .inl (ka_y0_characters, 240, .inl f_y0_characters)), (a_lexemes, .inr (5, [.ref a_lexemes_tokens, .ref a_lexemes_places, .ref a_lexemes_columns, .ref a_lexemes_lineFirsts])), (a_lexemes_tokens, .inr (11, [.ref a_lexemes_tokens_kinds, .ref a_lexemes_tokens_values, .int (nI v_a_lexemes_tokens_2)]))] ∧ va_S A s.heap H locs) a.1 a.2.1 a.2.2.1 a.2.2.2.1 a.2.2.2.2.1 a.2.2.2.2.2.1 a.2.2.2.2.2.2.1 a.2.2.2.2.2.2.2.1 a.2.2.2.2.2.2.2.2.1 a.2.2.2.2.2.2.2.2.2.1 a.2.2.2.2.2.2.2.2.2.2.1 a.2.2.2.2.2.2.2.2.2.2.2.1 a.2.2.2.2.2.2.2.2.2.2.2.2) (fun a ih34 H locs ls hI => ?_) (0, f_lexemes_columns, f_lexemes_lineFirsts, f_lexemes_places, (0), f_lexemes_tokens_kinds, f_lexemes_tokens_values, 0, 0, 1, (-1), 0, ([] : List Lx)) _ _ _ (by exact ⟨by show 0 ≤ 240; first | omega | assumption | exact Or.inl rfl | exact Or.inr rfl | decide | exact Nat.zero_le _, by show ((0)) ≤ 90; first | omega | assumption | exact Or.inl rfl | exact Or.inr rfl | decide | exact Nat.zero_le _, by show 0 ≤ 241; first | omega | assumption | exact Or.inl rfl | exact Or.inr rfl | decide | exact Nat.zero_le _, by show (0 : Int32) = 0 ∨ (0 : Int32) = 1; first | omega | assumption | exact Or.inl rfl | exact Or.inr rfl | decide | exact Nat.zero_le _, by show 0 ≤ n_y0_length; first | omega | assumption | exact Or.inl rfl | exact Or.inr rfl | decide | exact Nat.zero_le _, by show Rp f_lexemes_tokens_kinds f_lexemes_tokens_values f_lexemes_places f_lexemes_columns f_lexemes_lineFirsts (([] : List Lx)); exact trivial, by show ((0)) = (([] : List Lx)).length; rfl, by show ((-1) : Int32) = -1 → (cuE (cN f_y0_characters n_y0_length) n_y0_length 0 [] = cuE (cN f_y0_characters n_y0_length) n_y0_length 0 (([] : List Lx)) ∧ (0 : Int32) = nI (lnO (cN f_y0_characters n_y0_length) 0) ∧ (1 : Int32) = b01 (ldO (([] : List Lx)) (lnO (cN f_y0_characters n_y0_length) 0)) ∧ hdW (([] : List Lx)) 0 ∧ 0 ≤ 0); (intro _; exact ⟨rfl, rfl, rfl, hdW.nil, Nat.le_refl _⟩), by show ¬ ((-1) : Int32) = -1 → ∃ p, p ≤ 240 ∧ cuE (cN f_y0_characters n_y0_length) n_y0_length 0 [] = (some p, (([] : List Lx))) ∧ ((-1) : Int32) = nI p; (intro hh; exact absurd rfl hh), by show (0 : Int32) = 0 ∨ ¬ ((-1) : Int32) = -1; exact Or.inl rfl, hl, hP, hD, hS⟩)
  obtain ⟨k2, v_a_lexemes_columns, v_a_lexemes_lineFirsts, v_a_lexemes_places, v_a_lexemes_tokens_2, v_a_lexemes_tokens_kinds, v_a_lexemes_tokens_values, v_a_t_1, v_a_t_2, v_a_t_3, v_a_t_4, v_a_t_5, vL⟩ := a
  obtain ⟨bl0, bl1, bl2, bl3, bl4, bl5, bl6, bl7, bl8, bl9, hl, hP, hD, hS⟩ := hI
  have bl0 : k2 ≤ 240 := bl0
  have bl1 : v_a_lexemes_tokens_2 ≤ 90 := bl1
  have bl2 : v_a_t_1 ≤ 241 := bl2
  have bl3 : v_a_t_5 = 0 ∨ v_a_t_5 = 1 := bl3
  have bl4 : v_a_t_1 ≤ n_y0_length := bl4
  have cA := bl4
  have bl5 : Rp v_a_lexemes_tokens_kinds v_a_lexemes_tokens_values v_a_lexemes_places v_a_lexemes_columns v_a_lexemes_lineFirsts vL := bl5
  have cR := bl5
  have bl6 : v_a_lexemes_tokens_2 = vL.length := bl6
  have cS := bl6
  have bl7 : v_a_t_4 = -1 → (cuE (cN f_y0_characters n_y0_length) n_y0_length 0 [] = cuE (cN f_y0_characters n_y0_length) n_y0_length v_a_t_1 vL ∧ v_a_t_2 = nI (lnO (cN f_y0_characters n_y0_length) v_a_t_1) ∧ v_a_t_3 = b01 (ldO vL (lnO (cN f_y0_characters n_y0_length) v_a_t_1)) ∧ hdW vL v_a_t_1 ∧ k2 ≤ v_a_t_1) := bl7
  have cG := bl7
  have bl8 : ¬ v_a_t_4 = -1 → ∃ p, p ≤ 240 ∧ cuE (cN f_y0_characters n_y0_length) n_y0_length 0 [] = (some p, vL) ∧ v_a_t_4 = nI p := bl8
  have cW := bl8
  have bl9 : v_a_t_5 = 0 ∨ ¬ v_a_t_4 = -1 := bl9
  have cT := bl9
  have hl : lv_has ls 3 [(2, .int (nI k2)), (0, .ref a_t), (1, .ref a_y0)] := hl
  have hP : va_P (dC, dI) vcl [(a_t, .inr (3, [.ref a_lexemes, .int (nI v_a_t_1), .int v_a_t_2, .int v_a_t_3, .int v_a_t_4, .int v_a_t_5])), (a_lexemes_tokens_kinds, .inl (ka_lexemes_tokens_kinds, 90, .inl v_a_lexemes_tokens_kinds)), (a_lexemes_tokens_values, .inl (ka_lexemes_tokens_values, 90, .inr (.inl v_a_lexemes_tokens_values))), (a_lexemes_places, .inl (ka_lexemes_places, 90, .inl v_a_lexemes_places)), (a_lexemes_columns, .inl (ka_lexemes_columns, 90, .inl v_a_lexemes_columns)), (a_lexemes_lineFirsts, .inl (ka_lexemes_lineFirsts, 90, .inl v_a_lexemes_lineFirsts)), (a_y0, .inr (10, [.ref a_y0_characters, .int (nI n_y0_length)])), (a_y0_characters, .inl (ka_y0_characters, 240, .inl f_y0_characters)), (a_lexemes, .inr (5, [.ref a_lexemes_tokens, .ref a_lexemes_places, .ref a_lexemes_columns, .ref a_lexemes_lineFirsts])), (a_lexemes_tokens, .inr (11, [.ref a_lexemes_tokens_kinds, .ref a_lexemes_tokens_values, .int (nI v_a_lexemes_tokens_2)]))] H := hP
  have hD : va_D A [(a_t, .inr (3, [.ref a_lexemes, .int (nI v_a_t_1), .int v_a_t_2, .int v_a_t_3, .int v_a_t_4, .int v_a_t_5])), (a_lexemes_tokens_kinds, .inl (ka_lexemes_tokens_kinds, 90, .inl v_a_lexemes_tokens_kinds)), (a_lexemes_tokens_values, .inl (ka_lexemes_tokens_values, 90, .inr (.inl v_a_lexemes_tokens_values))), (a_lexemes_places, .inl (ka_lexemes_places, 90, .inl v_a_lexemes_places)), (a_lexemes_columns, .inl (ka_lexemes_columns, 90, .inl v_a_lexemes_columns)), (a_lexemes_lineFirsts, .inl (ka_lexemes_lineFirsts, 90, .inl v_a_lexemes_lineFirsts)), (a_y0, .inr (10, [.ref a_y0_characters, .int (nI n_y0_length)])), (a_y0_characters, .inl (ka_y0_characters, 240, .inl f_y0_characters)), (a_lexemes, .inr (5, [.ref a_lexemes_tokens, .ref a_lexemes_places, .ref a_lexemes_columns, .ref a_lexemes_lineFirsts])), (a_lexemes_tokens, .inr (11, [.ref a_lexemes_tokens_kinds, .ref a_lexemes_tokens_values, .int (nI v_a_lexemes_tokens_2)]))] := hD
  refine lv_iload_n hx hb d_Cutter_cut_34 rfl (lv_at hl 0 rfl) ?_
  refine lv_sipush (v := 240) hx hb d_Cutter_cut_35 (by decide) ?_
  refine lv_icmp_ge (tgt := 122) hx hb d_Cutter_cut_38 (by decide) (fun h23 => ?_) (fun h23 => ?_)
  · have h23 : 240 ≤ k2 := (nI_leI (a := 240) (b := k2) (by omega) (by omega)).mp h23
    refine lv_aload_n hx hb d_Cutter_cut_122 rfl (lv_at hl 1 rfl) ?_
    refine va_get (D := (dC, dI)) (ci := 3) (v := .int v_a_t_4) (C := R_Cutter) (T := F_Cutter) (N := 6) hx hb hz zu_Cutter hown hK hP 0 rfl rfl 4 (by decide) (hz (.fieldLink R_Cutter 18 "LayoutFront$Cutter" "wrongPlace" "I") zm_75) (fun _ h9 => h9) rfl d_Cutter_cut_123 ?_
    have hP9 := hP.sub (ws' := [(a_t, .inr (3, [.ref a_lexemes, .int (nI v_a_t_1), .int v_a_t_2, .int v_a_t_3, .int v_a_t_4, .int v_a_t_5])), (a_lexemes, .inr (5, [.ref a_lexemes_tokens, .ref a_lexemes_places, .ref a_lexemes_columns, .ref a_lexemes_lineFirsts])), (a_lexemes_tokens, .inr (11, [.ref a_lexemes_tokens_kinds, .ref a_lexemes_tokens_values, .int (nI v_a_lexemes_tokens_2)])), (a_lexemes_tokens_kinds, .inl (ka_lexemes_tokens_kinds, 90, .inl v_a_lexemes_tokens_kinds)), (a_lexemes_tokens_values, .inl (ka_lexemes_tokens_values, 90, .inr (.inl v_a_lexemes_tokens_values))), (a_lexemes_places, .inl (ka_lexemes_places, 90, .inl v_a_lexemes_places)), (a_lexemes_columns, .inl (ka_lexemes_columns, 90, .inl v_a_lexemes_columns)), (a_lexemes_lineFirsts, .inl (ka_lexemes_lineFirsts, 90, .inl v_a_lexemes_lineFirsts)), (a_y0, .inr (10, [.ref a_y0_characters, .int (nI n_y0_length)])), (a_y0_characters, .inl (ka_y0_characters, 240, .inl f_y0_characters))]) [0, 8, 9, 1, 2, 3, 4, 5, 6, 7] rfl
    have hD9 := hD.sub (ws' := [(a_t, .inr (3, [.ref a_lexemes, .int (nI v_a_t_1), .int v_a_t_2, .int v_a_t_3, .int v_a_t_4, .int v_a_t_5])), (a_lexemes, .inr (5, [.ref a_lexemes_tokens, .ref a_lexemes_places, .ref a_lexemes_columns, .ref a_lexemes_lineFirsts])), (a_lexemes_tokens, .inr (11, [.ref a_lexemes_tokens_kinds, .ref a_lexemes_tokens_values, .int (nI v_a_lexemes_tokens_2)])), (a_lexemes_tokens_kinds, .inl (ka_lexemes_tokens_kinds, 90, .inl v_a_lexemes_tokens_kinds)), (a_lexemes_tokens_values, .inl (ka_lexemes_tokens_values, 90, .inr (.inl v_a_lexemes_tokens_values))), (a_lexemes_places, .inl (ka_lexemes_places, 90, .inl v_a_lexemes_places)), (a_lexemes_columns, .inl (ka_lexemes_columns, 90, .inl v_a_lexemes_columns)), (a_lexemes_lineFirsts, .inl (ka_lexemes_lineFirsts, 90, .inl v_a_lexemes_lineFirsts)), (a_y0, .inr (10, [.ref a_y0_characters, .int (nI n_y0_length)])), (a_y0_characters, .inl (ka_y0_characters, 240, .inl f_y0_characters))]) [0, 8, 9, 1, 2, 3, 4, 5, 6, 7] (by decide) rfl
    exact W.iret (v := v_a_t_4) hx hb hr (fun t ht hW => ⟨⟨v_a_t_4, (), rfl, (by exact (cu_fin cG cW (fun z9 y9 => by omega)).1), v_a_t_1, v_a_t_2, v_a_t_3, v_a_t_4, v_a_t_5, v_a_lexemes_tokens_2, v_a_lexemes_tokens_kinds, v_a_lexemes_tokens_values, v_a_lexemes_places, v_a_lexemes_columns, v_a_lexemes_lineFirsts, by first | omega | assumption | exact Or.inl rfl | exact Or.inr rfl | decide, by first | omega | assumption | exact Or.inl rfl | exact Or.inr rfl | decide, by first | omega | assumption | exact Or.inl rfl | exact Or.inr rfl | decide, by exact Eq.subst (motive := fun z => Rp _ _ _ _ _ z) (cu_fin cG cW (fun z9 y9 => by omega)).2 cR, by exact cS.trans (congrArg List.length (cu_fin cG cW (fun z9 y9 => by omega)).2), by exact (cu_fin cG cW (fun z9 y9 => by omega)).1, by exact cT.elim Or.inl (fun z9 => Or.inr (fun y9 => z9 ((cu_fin cG cW (fun z9 y9 => by omega)).1.trans y9))), by rw [ht]; exact hP9, va_K.moved hW.alike hK, hD9⟩, hS.F ht⟩) hS.2.2 d_Cutter_cut_126
  · have h23 : ¬ 240 ≤ k2 := fun q => h23 ((nI_leI (a := 240) (b := k2) (by omega) (by omega)).mpr q)
    refine lv_aload_n hx hb d_Cutter_cut_41 rfl (lv_at hl 1 rfl) ?_
    refine va_get (D := (dC, dI)) (ci := 3) (v := .int (nI v_a_t_1)) (C := R_Cutter) (T := F_Cutter) (N := 6) hx hb hz zu_Cutter hown hK hP 0 rfl rfl 1 (by decide) (hz (.fieldLink R_Cutter 29 "LayoutFront$Cutter" "at" "I") zm_82) (fun _ h9 => h9) rfl d_Cutter_cut_42 ?_
    refine lv_aload_n hx hb d_Cutter_cut_45 rfl (lv_at hl 2 rfl) ?_
    have hPc := hP.sub (ws' := [(a_y0, .inr (10, [.ref a_y0_characters, .int (nI n_y0_length)]))]) [6] rfl
    have hDc := hD.sub (ws' := [(a_y0, .inr (10, [.ref a_y0_characters, .int (nI n_y0_length)]))]) [6] (by decide) rfl
    have hKc := hK.sub (tys' := []) [] rfl
    have hFc := va_free (wc := [(a_y0, .inr (10, [.ref a_y0_characters, .int (nI n_y0_length)]))]) hD hS hA [6] rfl
    refine va_calli (va_runV (As := []) (rest := [.int (nI v_a_t_1)]) ⟨hx, hb, hml, hown, hz⟩ (s_Text_length l dC dI H.size a_y0 a_y0_characters n_y0_length (by first | omega | assumption | exact bk_n e74)) (cwV 0 hz (zV zm_85 zm_86 zm_87 zm_7 zm_88) rfl rfl rfl (by decide +kernel) ⟨Nat.le_of_ble_eq_true rfl, Nat.le_of_ble_eq_true rfl⟩) ⟨fun a U g mk q => by obtain ⟨q0, q1, qP, qK, qD⟩ := q; exact ⟨q0, q1, qP, va_K.moved (u := U) (U := U.calling g mk a) (Vm.Alike.refl U.vm) qK, qD⟩, va_recv (q := (R_Text, F_Text, 2)) (q0 := 6) (ci := 10) hK hP rfl rfl, fun U hU hW => ⟨rfl, by rw [hU], by rw [hU]; exact hPc, va_K.moved hW.alike hKc, hDc.weaken (fun _ _ _ _ => trivial)⟩⟩ rfl rfl hl.1 rfl (lv_room (Nat.le_of_ble_eq_true rfl)) d_Cutter_cut_46 ⟨Nat.zero_le _, Nat.zero_le _⟩) hS (fun q _ h => hFc q h) hFc (fun r u t H1 locs ht hvm hw hB hz1 hk1 hS => ?_)
    obtain ⟨hP1, hK1, hD1⟩ := hB
    subst r
    rw [ht] at hP1
    obtain ⟨hP, hD⟩ := va_join (wr := [(a_t, .inr (3, [.ref a_lexemes, .int (nI v_a_t_1), .int v_a_t_2, .int v_a_t_3, .int v_a_t_4, .int v_a_t_5])), (a_lexemes_tokens_kinds, .inl (ka_lexemes_tokens_kinds, 90, .inl v_a_lexemes_tokens_kinds)), (a_lexemes_tokens_values, .inl (ka_lexemes_tokens_values, 90, .inr (.inl v_a_lexemes_tokens_values))), (a_lexemes_places, .inl (ka_lexemes_places, 90, .inl v_a_lexemes_places)), (a_lexemes_columns, .inl (ka_lexemes_columns, 90, .inl v_a_lexemes_columns)), (a_lexemes_lineFirsts, .inl (ka_lexemes_lineFirsts, 90, .inl v_a_lexemes_lineFirsts)), (a_y0_characters, .inl (ka_y0_characters, 240, .inl f_y0_characters)), (a_lexemes, .inr (5, [.ref a_lexemes_tokens, .ref a_lexemes_places, .ref a_lexemes_columns, .ref a_lexemes_lineFirsts])), (a_lexemes_tokens, .inr (11, [.ref a_lexemes_tokens_kinds, .ref a_lexemes_tokens_values, .int (nI v_a_lexemes_tokens_2)]))]) (w1 := [(a_y0, .inr (10, [.ref a_y0_characters, .int (nI n_y0_length)]))]) hP hD [6] [0, 1, 2, 3, 4, 5, 7, 8, 9] rfl rfl (by decide) (by decide) hk1 hFc hP1 hD1
    generalize H1 = H at hP hS ⊢
    have hP : va_P (dC, dI) vcl [(a_t, .inr (3, [.ref a_lexemes, .int (nI v_a_t_1), .int v_a_t_2, .int v_a_t_3, .int v_a_t_4, .int v_a_t_5])), (a_lexemes_tokens_kinds, .inl (ka_lexemes_tokens_kinds, 90, .inl v_a_lexemes_tokens_kinds)), (a_lexemes_tokens_values, .inl (ka_lexemes_tokens_values, 90, .inr (.inl v_a_lexemes_tokens_values))), (a_lexemes_places, .inl (ka_lexemes_places, 90, .inl v_a_lexemes_places)), (a_lexemes_columns, .inl (ka_lexemes_columns, 90, .inl v_a_lexemes_columns)), (a_lexemes_lineFirsts, .inl (ka_lexemes_lineFirsts, 90, .inl v_a_lexemes_lineFirsts)), (a_y0_characters, .inl (ka_y0_characters, 240, .inl f_y0_characters)), (a_lexemes, .inr (5, [.ref a_lexemes_tokens, .ref a_lexemes_places, .ref a_lexemes_columns, .ref a_lexemes_lineFirsts])), (a_lexemes_tokens, .inr (11, [.ref a_lexemes_tokens_kinds, .ref a_lexemes_tokens_values, .int (nI v_a_lexemes_tokens_2)])), (a_y0, .inr (10, [.ref a_y0_characters, .int (nI n_y0_length)]))] H := hP
    have hD : va_D A [(a_t, .inr (3, [.ref a_lexemes, .int (nI v_a_t_1), .int v_a_t_2, .int v_a_t_3, .int v_a_t_4, .int v_a_t_5])), (a_lexemes_tokens_kinds, .inl (ka_lexemes_tokens_kinds, 90, .inl v_a_lexemes_tokens_kinds)), (a_lexemes_tokens_values, .inl (ka_lexemes_tokens_values, 90, .inr (.inl v_a_lexemes_tokens_values))), (a_lexemes_places, .inl (ka_lexemes_places, 90, .inl v_a_lexemes_places)), (a_lexemes_columns, .inl (ka_lexemes_columns, 90, .inl v_a_lexemes_columns)), (a_lexemes_lineFirsts, .inl (ka_lexemes_lineFirsts, 90, .inl v_a_lexemes_lineFirsts)), (a_y0_characters, .inl (ka_y0_characters, 240, .inl f_y0_characters)), (a_lexemes, .inr (5, [.ref a_lexemes_tokens, .ref a_lexemes_places, .ref a_lexemes_columns, .ref a_lexemes_lineFirsts])), (a_lexemes_tokens, .inr (11, [.ref a_lexemes_tokens_kinds, .ref a_lexemes_tokens_values, .int (nI v_a_lexemes_tokens_2)])), (a_y0, .inr (10, [.ref a_y0_characters, .int (nI n_y0_length)]))] := hD
    refine lv_icmp_ge (tgt := 122) hx hb d_Cutter_cut_49 (by decide) (fun h24 => ?_) (fun h24 => ?_)
    · have h24 : n_y0_length ≤ v_a_t_1 := (nI_leI (a := n_y0_length) (b := v_a_t_1) (by omega) (by omega)).mp h24
      refine lv_aload_n hx hb d_Cutter_cut_122 rfl (lv_at hl 1 rfl) ?_
      refine va_get (D := (dC, dI)) (ci := 3) (v := .int v_a_t_4) (C := R_Cutter) (T := F_Cutter) (N := 6) hx hb hz zu_Cutter hown hK hP 0 rfl rfl 4 (by decide) (hz (.fieldLink R_Cutter 18 "LayoutFront$Cutter" "wrongPlace" "I") zm_75) (fun _ h9 => h9) rfl d_Cutter_cut_123 ?_
      have hP9 := hP.sub (ws' := [(a_t, .inr (3, [.ref a_lexemes, .int (nI v_a_t_1), .int v_a_t_2, .int v_a_t_3, .int v_a_t_4, .int v_a_t_5])), (a_lexemes, .inr (5, [.ref a_lexemes_tokens, .ref a_lexemes_places, .ref a_lexemes_columns, .ref a_lexemes_lineFirsts])), (a_lexemes_tokens, .inr (11, [.ref a_lexemes_tokens_kinds, .ref a_lexemes_tokens_values, .int (nI v_a_lexemes_tokens_2)])), (a_lexemes_tokens_kinds, .inl (ka_lexemes_tokens_kinds, 90, .inl v_a_lexemes_tokens_kinds)), (a_lexemes_tokens_values, .inl (ka_lexemes_tokens_values, 90, .inr (.inl v_a_lexemes_tokens_values))), (a_lexemes_places, .inl (ka_lexemes_places, 90, .inl v_a_lexemes_places)), (a_lexemes_columns, .inl (ka_lexemes_columns, 90, .inl v_a_lexemes_columns)), (a_lexemes_lineFirsts, .inl (ka_lexemes_lineFirsts, 90, .inl v_a_lexemes_lineFirsts)), (a_y0, .inr (10, [.ref a_y0_characters, .int (nI n_y0_length)])), (a_y0_characters, .inl (ka_y0_characters, 240, .inl f_y0_characters))]) [0, 7, 8, 1, 2, 3, 4, 5, 9, 6] rfl
      have hD9 := hD.sub (ws' := [(a_t, .inr (3, [.ref a_lexemes, .int (nI v_a_t_1), .int v_a_t_2, .int v_a_t_3, .int v_a_t_4, .int v_a_t_5])), (a_lexemes, .inr (5, [.ref a_lexemes_tokens, .ref a_lexemes_places, .ref a_lexemes_columns, .ref a_lexemes_lineFirsts])), (a_lexemes_tokens, .inr (11, [.ref a_lexemes_tokens_kinds, .ref a_lexemes_tokens_values, .int (nI v_a_lexemes_tokens_2)])), (a_lexemes_tokens_kinds, .inl (ka_lexemes_tokens_kinds, 90, .inl v_a_lexemes_tokens_kinds)), (a_lexemes_tokens_values, .inl (ka_lexemes_tokens_values, 90, .inr (.inl v_a_lexemes_tokens_values))), (a_lexemes_places, .inl (ka_lexemes_places, 90, .inl v_a_lexemes_places)), (a_lexemes_columns, .inl (ka_lexemes_columns, 90, .inl v_a_lexemes_columns)), (a_lexemes_lineFirsts, .inl (ka_lexemes_lineFirsts, 90, .inl v_a_lexemes_lineFirsts)), (a_y0, .inr (10, [.ref a_y0_characters, .int (nI n_y0_length)])), (a_y0_characters, .inl (ka_y0_characters, 240, .inl f_y0_characters))]) [0, 7, 8, 1, 2, 3, 4, 5, 9, 6] (by decide) rfl
      exact W.iret (v := v_a_t_4) hx hb hr (fun t ht hW => ⟨⟨v_a_t_4, (), rfl, (by exact (cu_fin cG cW (fun z9 y9 => by omega)).1), v_a_t_1, v_a_t_2, v_a_t_3, v_a_t_4, v_a_t_5, v_a_lexemes_tokens_2, v_a_lexemes_tokens_kinds, v_a_lexemes_tokens_values, v_a_lexemes_places, v_a_lexemes_columns, v_a_lexemes_lineFirsts, by first | omega | assumption | exact Or.inl rfl | exact Or.inr rfl | decide, by first | omega | assumption | exact Or.inl rfl | exact Or.inr rfl | decide, by first | omega | assumption | exact Or.inl rfl | exact Or.inr rfl | decide, by exact Eq.subst (motive := fun z => Rp _ _ _ _ _ z) (cu_fin cG cW (fun z9 y9 => by omega)).2 cR, by exact cS.trans (congrArg List.length (cu_fin cG cW (fun z9 y9 => by omega)).2), by exact (cu_fin cG cW (fun z9 y9 => by omega)).1, by exact cT.elim Or.inl (fun z9 => Or.inr (fun y9 => z9 ((cu_fin cG cW (fun z9 y9 => by omega)).1.trans y9))), by rw [ht]; exact hP9, va_K.moved hW.alike hK, hD9⟩, hS.F ht⟩) hS.2.2 d_Cutter_cut_126
    · have h24 : ¬ n_y0_length ≤ v_a_t_1 := fun q => h24 ((nI_leI (a := n_y0_length) (b := v_a_t_1) (by omega) (by omega)).mpr q)
      have pL : v_a_t_1 < n_y0_length := (by omega)
      refine lv_aload_n hx hb d_Cutter_cut_52 rfl (lv_at hl 1 rfl) ?_
      refine va_get (D := (dC, dI)) (ci := 3) (v := .int v_a_t_4) (C := R_Cutter) (T := F_Cutter) (N := 6) hx hb hz zu_Cutter hown hK hP 0 rfl rfl 4 (by decide) (hz (.fieldLink R_Cutter 18 "LayoutFront$Cutter" "wrongPlace" "I") zm_75) (fun _ h9 => h9) rfl d_Cutter_cut_53 ?_
      refine lv_iconst (v := (-1)) hx hb d_Cutter_cut_56 (by decide) ?_
      refine lv_icmp_eq (tgt := 63) hx hb d_Cutter_cut_57 (by decide) (fun h25 => ?_) (fun h25 => ?_)
      · have e57 := h25
        obtain ⟨g1, g2, g3, g4, g5⟩ := cG h25
        refine lv_aload_n hx hb d_Cutter_cut_63 rfl (lv_at hl 2 rfl) ?_
        refine lv_aload_n hx hb d_Cutter_cut_64 rfl (lv_at hl 1 rfl) ?_
        refine va_get (D := (dC, dI)) (ci := 3) (v := .int (nI v_a_t_1)) (C := R_Cutter) (T := F_Cutter) (N := 6) hx hb hz zu_Cutter hown hK hP 0 rfl rfl 1 (by decide) (hz (.fieldLink R_Cutter 29 "LayoutFront$Cutter" "at" "I") zm_82) (fun _ h9 => h9) rfl d_Cutter_cut_65 ?_
        have hPc := hP.sub (ws' := [(a_y0, .inr (10, [.ref a_y0_characters, .int (nI n_y0_length)])), (a_y0_characters, .inl (ka_y0_characters, 240, .inl f_y0_characters))]) [9, 6] rfl
        have hDc := hD.sub (ws' := [(a_y0, .inr (10, [.ref a_y0_characters, .int (nI n_y0_length)])), (a_y0_characters, .inl (ka_y0_characters, 240, .inl f_y0_characters))]) [9, 6] (by decide) rfl
        have hKc := hK.sub (tys' := [(ka_y0_characters, .char)]) [5] rfl
        have hFc := va_free (wc := [(a_y0, .inr (10, [.ref a_y0_characters, .int (nI n_y0_length)])), (a_y0_characters, .inl (ka_y0_characters, 240, .inl f_y0_characters))]) hD hS hA [9, 6] rfl
        refine va_calli (va_runV (As := [.int (nI v_a_t_1)]) (rest := []) ⟨hx, hb, hml, hown, hz⟩ (s_Text_at6 l dC dI H.size a_y0 a_y0_characters f_y0_characters n_y0_length v_a_t_1 ka_y0_characters (by first | omega | assumption | exact bk_n e74) (by first | omega | assumption | exact bk_n e74) (by first | omega | assumption | exact bk_n e74)) (cwV 1 hz (zV zm_89 zm_11 zm_12 zm_7 zm_13) rfl rfl rfl (by decide +kernel) ⟨Nat.le_of_ble_eq_true rfl, Nat.le_of_ble_eq_true rfl⟩) ⟨fun a U g mk q => by obtain ⟨q0, q1, qP, qK, qD⟩ := q; exact ⟨q0, q1, qP, va_K.moved (u := U) (U := U.calling g mk a) (Vm.Alike.refl U.vm) qK, qD⟩, va_recv (q := (R_Text, F_Text, 2)) (q0 := 9) (ci := 10) hK hP rfl rfl, fun U hU hW => ⟨rfl, by rw [hU], by rw [hU]; exact hPc, va_K.moved hW.alike hKc, hDc.weaken (fun _ _ _ _ => trivial)⟩⟩ rfl rfl hl.1 rfl (lv_room (Nat.le_of_ble_eq_true rfl)) d_Cutter_cut_68 ⟨Nat.zero_le _, Nat.zero_le _⟩) hS (fun q _ h => hFc q h) hFc (fun r u t H1 locs ht hvm hw hB hz1 hk1 hS => ?_)
        obtain ⟨hP1, hK1, hD1⟩ := hB
        subst r
        rw [ht] at hP1
        obtain ⟨hP, hD⟩ := va_join (wr := [(a_t, .inr (3, [.ref a_lexemes, .int (nI v_a_t_1), .int v_a_t_2, .int v_a_t_3, .int v_a_t_4, .int v_a_t_5])), (a_lexemes_tokens_kinds, .inl (ka_lexemes_tokens_kinds, 90, .inl v_a_lexemes_tokens_kinds)), (a_lexemes_tokens_values, .inl (ka_lexemes_tokens_values, 90, .inr (.inl v_a_lexemes_tokens_values))), (a_lexemes_places, .inl (ka_lexemes_places, 90, .inl v_a_lexemes_places)), (a_lexemes_columns, .inl (ka_lexemes_columns, 90, .inl v_a_lexemes_columns)), (a_lexemes_lineFirsts, .inl (ka_lexemes_lineFirsts, 90, .inl v_a_lexemes_lineFirsts)), (a_lexemes, .inr (5, [.ref a_lexemes_tokens, .ref a_lexemes_places, .ref a_lexemes_columns, .ref a_lexemes_lineFirsts])), (a_lexemes_tokens, .inr (11, [.ref a_lexemes_tokens_kinds, .ref a_lexemes_tokens_values, .int (nI v_a_lexemes_tokens_2)]))]) (w1 := [(a_y0, .inr (10, [.ref a_y0_characters, .int (nI n_y0_length)])), (a_y0_characters, .inl (ka_y0_characters, 240, .inl f_y0_characters))]) hP hD [9, 6] [0, 1, 2, 3, 4, 5, 7, 8] rfl rfl (by decide) (by decide) hk1 hFc hP1 hD1
        generalize H1 = H at hP hS ⊢
        have hP : va_P (dC, dI) vcl [(a_t, .inr (3, [.ref a_lexemes, .int (nI v_a_t_1), .int v_a_t_2, .int v_a_t_3, .int v_a_t_4, .int v_a_t_5])), (a_lexemes_tokens_kinds, .inl (ka_lexemes_tokens_kinds, 90, .inl v_a_lexemes_tokens_kinds)), (a_lexemes_tokens_values, .inl (ka_lexemes_tokens_values, 90, .inr (.inl v_a_lexemes_tokens_values))), (a_lexemes_places, .inl (ka_lexemes_places, 90, .inl v_a_lexemes_places)), (a_lexemes_columns, .inl (ka_lexemes_columns, 90, .inl v_a_lexemes_columns)), (a_lexemes_lineFirsts, .inl (ka_lexemes_lineFirsts, 90, .inl v_a_lexemes_lineFirsts)), (a_lexemes, .inr (5, [.ref a_lexemes_tokens, .ref a_lexemes_places, .ref a_lexemes_columns, .ref a_lexemes_lineFirsts])), (a_lexemes_tokens, .inr (11, [.ref a_lexemes_tokens_kinds, .ref a_lexemes_tokens_values, .int (nI v_a_lexemes_tokens_2)])), (a_y0, .inr (10, [.ref a_y0_characters, .int (nI n_y0_length)])), (a_y0_characters, .inl (ka_y0_characters, 240, .inl f_y0_characters))] H := hP
        have hD : va_D A [(a_t, .inr (3, [.ref a_lexemes, .int (nI v_a_t_1), .int v_a_t_2, .int v_a_t_3, .int v_a_t_4, .int v_a_t_5])), (a_lexemes_tokens_kinds, .inl (ka_lexemes_tokens_kinds, 90, .inl v_a_lexemes_tokens_kinds)), (a_lexemes_tokens_values, .inl (ka_lexemes_tokens_values, 90, .inr (.inl v_a_lexemes_tokens_values))), (a_lexemes_places, .inl (ka_lexemes_places, 90, .inl v_a_lexemes_places)), (a_lexemes_columns, .inl (ka_lexemes_columns, 90, .inl v_a_lexemes_columns)), (a_lexemes_lineFirsts, .inl (ka_lexemes_lineFirsts, 90, .inl v_a_lexemes_lineFirsts)), (a_lexemes, .inr (5, [.ref a_lexemes_tokens, .ref a_lexemes_places, .ref a_lexemes_columns, .ref a_lexemes_lineFirsts])), (a_lexemes_tokens, .inr (11, [.ref a_lexemes_tokens_kinds, .ref a_lexemes_tokens_values, .int (nI v_a_lexemes_tokens_2)])), (a_y0, .inr (10, [.ref a_y0_characters, .int (nI n_y0_length)])), (a_y0_characters, .inl (ka_y0_characters, 240, .inl f_y0_characters))] := hD
        have hPc := hP.sub (ws' := []) [] rfl
        have hDc := hD.sub (ws' := []) [] (by decide) rfl
        have hKc := hK.sub (tys' := []) [] rfl
        have hFc := va_free (wc := []) hD hS hA [] rfl
        refine va_calli (va_runS (As := [.int (cN f_y0_characters n_y0_length v_a_t_1)]) (rest := []) ⟨hx, hb, hml, hown, hz⟩ (s_Cutter_isBlank6 l dC dI H.size ((cN f_y0_characters n_y0_length v_a_t_1))) (cwS 1 hz (zS zm_90 zm_91 zm_92 zm_93) rfl rfl rfl (by decide +kernel) ⟨Nat.le_of_ble_eq_true rfl, Nat.le_of_ble_eq_true rfl⟩) ⟨fun a U g mk q => by obtain ⟨q0, q1, qP, qK, qD⟩ := q; exact ⟨q0, q1, qP, va_K.moved (u := U) (U := U.calling g mk a) (Vm.Alike.refl U.vm) qK, qD⟩, fun U hU hW => ⟨rfl, by rw [hU], by rw [hU]; exact hPc, va_K.moved hW.alike hKc, hDc.weaken (fun _ _ _ _ => trivial)⟩⟩ rfl rfl hl.1 rfl (lv_room (Nat.le_of_ble_eq_true rfl)) d_Cutter_cut_71 ⟨Nat.zero_le _, Nat.zero_le _⟩) hS (fun q _ h => hFc q h) hFc (fun r u t H1 locs ht hvm hw_r hB hz1 hk1 hS => ?_)
        obtain ⟨hP1, hK1, hD1⟩ := hB
        obtain ⟨hb_r, he_r⟩ := hw_r
        subst r
        rw [ht] at hP1
        obtain ⟨hP, hD⟩ := va_join (wr := [(a_t, .inr (3, [.ref a_lexemes, .int (nI v_a_t_1), .int v_a_t_2, .int v_a_t_3, .int v_a_t_4, .int v_a_t_5])), (a_lexemes_tokens_kinds, .inl (ka_lexemes_tokens_kinds, 90, .inl v_a_lexemes_tokens_kinds)), (a_lexemes_tokens_values, .inl (ka_lexemes_tokens_values, 90, .inr (.inl v_a_lexemes_tokens_values))), (a_lexemes_places, .inl (ka_lexemes_places, 90, .inl v_a_lexemes_places)), (a_lexemes_columns, .inl (ka_lexemes_columns, 90, .inl v_a_lexemes_columns)), (a_lexemes_lineFirsts, .inl (ka_lexemes_lineFirsts, 90, .inl v_a_lexemes_lineFirsts)), (a_lexemes, .inr (5, [.ref a_lexemes_tokens, .ref a_lexemes_places, .ref a_lexemes_columns, .ref a_lexemes_lineFirsts])), (a_lexemes_tokens, .inr (11, [.ref a_lexemes_tokens_kinds, .ref a_lexemes_tokens_values, .int (nI v_a_lexemes_tokens_2)])), (a_y0, .inr (10, [.ref a_y0_characters, .int (nI n_y0_length)])), (a_y0_characters, .inl (ka_y0_characters, 240, .inl f_y0_characters))]) (w1 := []) hP hD [] [0, 1, 2, 3, 4, 5, 6, 7, 8, 9] rfl rfl (by decide) (by decide) hk1 hFc hP1 hD1
        generalize H1 = H at hP hS ⊢
        have hP : va_P (dC, dI) vcl [(a_t, .inr (3, [.ref a_lexemes, .int (nI v_a_t_1), .int v_a_t_2, .int v_a_t_3, .int v_a_t_4, .int v_a_t_5])), (a_lexemes_tokens_kinds, .inl (ka_lexemes_tokens_kinds, 90, .inl v_a_lexemes_tokens_kinds)), (a_lexemes_tokens_values, .inl (ka_lexemes_tokens_values, 90, .inr (.inl v_a_lexemes_tokens_values))), (a_lexemes_places, .inl (ka_lexemes_places, 90, .inl v_a_lexemes_places)), (a_lexemes_columns, .inl (ka_lexemes_columns, 90, .inl v_a_lexemes_columns)), (a_lexemes_lineFirsts, .inl (ka_lexemes_lineFirsts, 90, .inl v_a_lexemes_lineFirsts)), (a_lexemes, .inr (5, [.ref a_lexemes_tokens, .ref a_lexemes_places, .ref a_lexemes_columns, .ref a_lexemes_lineFirsts])), (a_lexemes_tokens, .inr (11, [.ref a_lexemes_tokens_kinds, .ref a_lexemes_tokens_values, .int (nI v_a_lexemes_tokens_2)])), (a_y0, .inr (10, [.ref a_y0_characters, .int (nI n_y0_length)])), (a_y0_characters, .inl (ka_y0_characters, 240, .inl f_y0_characters))] H := hP
        have hD : va_D A [(a_t, .inr (3, [.ref a_lexemes, .int (nI v_a_t_1), .int v_a_t_2, .int v_a_t_3, .int v_a_t_4, .int v_a_t_5])), (a_lexemes_tokens_kinds, .inl (ka_lexemes_tokens_kinds, 90, .inl v_a_lexemes_tokens_kinds)), (a_lexemes_tokens_values, .inl (ka_lexemes_tokens_values, 90, .inr (.inl v_a_lexemes_tokens_values))), (a_lexemes_places, .inl (ka_lexemes_places, 90, .inl v_a_lexemes_places)), (a_lexemes_columns, .inl (ka_lexemes_columns, 90, .inl v_a_lexemes_columns)), (a_lexemes_lineFirsts, .inl (ka_lexemes_lineFirsts, 90, .inl v_a_lexemes_lineFirsts)), (a_lexemes, .inr (5, [.ref a_lexemes_tokens, .ref a_lexemes_places, .ref a_lexemes_columns, .ref a_lexemes_lineFirsts])), (a_lexemes_tokens, .inr (11, [.ref a_lexemes_tokens_kinds, .ref a_lexemes_tokens_values, .int (nI v_a_lexemes_tokens_2)])), (a_y0, .inr (10, [.ref a_y0_characters, .int (nI n_y0_length)])), (a_y0_characters, .inl (ka_y0_characters, 240, .inl f_y0_characters))] := hD
        refine lv_if_eq (tgt := 92) hx hb d_Cutter_cut_74 (by decide) (fun h26 => ?_) (fun h26 => ?_)
        · have e74 := b01_no h26
          refine lv_aload_n hx hb d_Cutter_cut_92 rfl (lv_at hl 2 rfl) ?_
          refine lv_aload_n hx hb d_Cutter_cut_93 rfl (lv_at hl 1 rfl) ?_
          refine va_get (D := (dC, dI)) (ci := 3) (v := .int (nI v_a_t_1)) (C := R_Cutter) (T := F_Cutter) (N := 6) hx hb hz zu_Cutter hown hK hP 0 rfl rfl 1 (by decide) (hz (.fieldLink R_Cutter 29 "LayoutFront$Cutter" "at" "I") zm_82) (fun _ h9 => h9) rfl d_Cutter_cut_94 ?_
          have hPc := hP.sub (ws' := [(a_y0, .inr (10, [.ref a_y0_characters, .int (nI n_y0_length)])), (a_y0_characters, .inl (ka_y0_characters, 240, .inl f_y0_characters))]) [8, 9] rfl
          have hDc := hD.sub (ws' := [(a_y0, .inr (10, [.ref a_y0_characters, .int (nI n_y0_length)])), (a_y0_characters, .inl (ka_y0_characters, 240, .inl f_y0_characters))]) [8, 9] (by decide) rfl
          have hKc := hK.sub (tys' := [(ka_y0_characters, .char)]) [5] rfl
          have hFc := va_free (wc := [(a_y0, .inr (10, [.ref a_y0_characters, .int (nI n_y0_length)])), (a_y0_characters, .inl (ka_y0_characters, 240, .inl f_y0_characters))]) hD hS hA [8, 9] rfl
          refine va_calli (va_runS (As := [.ref a_y0, .int (nI v_a_t_1)]) (rest := []) ⟨hx, hb, hml, hown, hz⟩ (s_Cutter_opensComment6 l dC dI H.size a_y0 a_y0_characters f_y0_characters n_y0_length v_a_t_1 ka_y0_characters (by first | omega | assumption | exact bk_n e74) (by first | omega | assumption | exact bk_n e74) (by first | omega | assumption | exact bk_n e74)) (cwS 2 hz (zS zm_98 zm_99 zm_92 zm_100) rfl rfl rfl (by decide +kernel) ⟨Nat.le_of_ble_eq_true rfl, Nat.le_of_ble_eq_true rfl⟩) ⟨fun a U g mk q => by obtain ⟨q0, q1, qP, qK, qD⟩ := q; exact ⟨q0, q1, qP, va_K.moved (u := U) (U := U.calling g mk a) (Vm.Alike.refl U.vm) qK, qD⟩, fun U hU hW => ⟨rfl, by rw [hU], by rw [hU]; exact hPc, va_K.moved hW.alike hKc, hDc.weaken (fun _ _ _ _ => trivial)⟩⟩ rfl rfl hl.1 rfl (lv_room (Nat.le_of_ble_eq_true rfl)) d_Cutter_cut_97 ⟨Nat.zero_le _, Nat.zero_le _⟩) hS (fun q _ h => hFc q h) hFc (fun r u t H1 locs ht hvm hw_r hB hz1 hk1 hS => ?_)
          obtain ⟨hP1, hK1, hD1⟩ := hB
          obtain ⟨hb_r, he_r⟩ := hw_r
          subst r
          rw [ht] at hP1
          obtain ⟨hP, hD⟩ := va_join (wr := [(a_t, .inr (3, [.ref a_lexemes, .int (nI v_a_t_1), .int v_a_t_2, .int v_a_t_3, .int v_a_t_4, .int v_a_t_5])), (a_lexemes_tokens_kinds, .inl (ka_lexemes_tokens_kinds, 90, .inl v_a_lexemes_tokens_kinds)), (a_lexemes_tokens_values, .inl (ka_lexemes_tokens_values, 90, .inr (.inl v_a_lexemes_tokens_values))), (a_lexemes_places, .inl (ka_lexemes_places, 90, .inl v_a_lexemes_places)), (a_lexemes_columns, .inl (ka_lexemes_columns, 90, .inl v_a_lexemes_columns)), (a_lexemes_lineFirsts, .inl (ka_lexemes_lineFirsts, 90, .inl v_a_lexemes_lineFirsts)), (a_lexemes, .inr (5, [.ref a_lexemes_tokens, .ref a_lexemes_places, .ref a_lexemes_columns, .ref a_lexemes_lineFirsts])), (a_lexemes_tokens, .inr (11, [.ref a_lexemes_tokens_kinds, .ref a_lexemes_tokens_values, .int (nI v_a_lexemes_tokens_2)]))]) (w1 := [(a_y0, .inr (10, [.ref a_y0_characters, .int (nI n_y0_length)])), (a_y0_characters, .inl (ka_y0_characters, 240, .inl f_y0_characters))]) hP hD [8, 9] [0, 1, 2, 3, 4, 5, 6, 7] rfl rfl (by decide) (by decide) hk1 hFc hP1 hD1
          generalize H1 = H at hP hS ⊢
          have hP : va_P (dC, dI) vcl [(a_t, .inr (3, [.ref a_lexemes, .int (nI v_a_t_1), .int v_a_t_2, .int v_a_t_3, .int v_a_t_4, .int v_a_t_5])), (a_lexemes_tokens_kinds, .inl (ka_lexemes_tokens_kinds, 90, .inl v_a_lexemes_tokens_kinds)), (a_lexemes_tokens_values, .inl (ka_lexemes_tokens_values, 90, .inr (.inl v_a_lexemes_tokens_values))), (a_lexemes_places, .inl (ka_lexemes_places, 90, .inl v_a_lexemes_places)), (a_lexemes_columns, .inl (ka_lexemes_columns, 90, .inl v_a_lexemes_columns)), (a_lexemes_lineFirsts, .inl (ka_lexemes_lineFirsts, 90, .inl v_a_lexemes_lineFirsts)), (a_lexemes, .inr (5, [.ref a_lexemes_tokens, .ref a_lexemes_places, .ref a_lexemes_columns, .ref a_lexemes_lineFirsts])), (a_lexemes_tokens, .inr (11, [.ref a_lexemes_tokens_kinds, .ref a_lexemes_tokens_values, .int (nI v_a_lexemes_tokens_2)])), (a_y0, .inr (10, [.ref a_y0_characters, .int (nI n_y0_length)])), (a_y0_characters, .inl (ka_y0_characters, 240, .inl f_y0_characters))] H := hP
          have hD : va_D A [(a_t, .inr (3, [.ref a_lexemes, .int (nI v_a_t_1), .int v_a_t_2, .int v_a_t_3, .int v_a_t_4, .int v_a_t_5])), (a_lexemes_tokens_kinds, .inl (ka_lexemes_tokens_kinds, 90, .inl v_a_lexemes_tokens_kinds)), (a_lexemes_tokens_values, .inl (ka_lexemes_tokens_values, 90, .inr (.inl v_a_lexemes_tokens_values))), (a_lexemes_places, .inl (ka_lexemes_places, 90, .inl v_a_lexemes_places)), (a_lexemes_columns, .inl (ka_lexemes_columns, 90, .inl v_a_lexemes_columns)), (a_lexemes_lineFirsts, .inl (ka_lexemes_lineFirsts, 90, .inl v_a_lexemes_lineFirsts)), (a_lexemes, .inr (5, [.ref a_lexemes_tokens, .ref a_lexemes_places, .ref a_lexemes_columns, .ref a_lexemes_lineFirsts])), (a_lexemes_tokens, .inr (11, [.ref a_lexemes_tokens_kinds, .ref a_lexemes_tokens_values, .int (nI v_a_lexemes_tokens_2)])), (a_y0, .inr (10, [.ref a_y0_characters, .int (nI n_y0_length)])), (a_y0_characters, .inl (ka_y0_characters, 240, .inl f_y0_characters))] := hD
          refine lv_if_eq (tgt := 111) hx hb d_Cutter_cut_100 (by decide) (fun h27 => ?_) (fun h27 => ?_)
          · have e100 := b01_no h27
            refine lv_aload_n hx hb d_Cutter_cut_111 rfl (lv_at hl 1 rfl) ?_
            refine lv_aload_n hx hb d_Cutter_cut_112 rfl (lv_at hl 2 rfl) ?_
            have hPc := hP.sub (ws' := [(a_t, .inr (3, [.ref a_lexemes, .int (nI v_a_t_1), .int v_a_t_2, .int v_a_t_3, .int v_a_t_4, .int v_a_t_5])), (a_lexemes, .inr (5, [.ref a_lexemes_tokens, .ref a_lexemes_places, .ref a_lexemes_columns, .ref a_lexemes_lineFirsts])), (a_lexemes_tokens, .inr (11, [.ref a_lexemes_tokens_kinds, .ref a_lexemes_tokens_values, .int (nI v_a_lexemes_tokens_2)])), (a_lexemes_tokens_kinds, .inl (ka_lexemes_tokens_kinds, 90, .inl v_a_lexemes_tokens_kinds)), (a_lexemes_tokens_values, .inl (ka_lexemes_tokens_values, 90, .inr (.inl v_a_lexemes_tokens_values))), (a_lexemes_places, .inl (ka_lexemes_places, 90, .inl v_a_lexemes_places)), (a_lexemes_columns, .inl (ka_lexemes_columns, 90, .inl v_a_lexemes_columns)), (a_lexemes_lineFirsts, .inl (ka_lexemes_lineFirsts, 90, .inl v_a_lexemes_lineFirsts)), (a_y0, .inr (10, [.ref a_y0_characters, .int (nI n_y0_length)])), (a_y0_characters, .inl (ka_y0_characters, 240, .inl f_y0_characters))]) [0, 6, 7, 1, 2, 3, 4, 5, 8, 9] rfl
            have hDc := hD.sub (ws' := [(a_t, .inr (3, [.ref a_lexemes, .int (nI v_a_t_1), .int v_a_t_2, .int v_a_t_3, .int v_a_t_4, .int v_a_t_5])), (a_lexemes, .inr (5, [.ref a_lexemes_tokens, .ref a_lexemes_places, .ref a_lexemes_columns, .ref a_lexemes_lineFirsts])), (a_lexemes_tokens, .inr (11, [.ref a_lexemes_tokens_kinds, .ref a_lexemes_tokens_values, .int (nI v_a_lexemes_tokens_2)])), (a_lexemes_tokens_kinds, .inl (ka_lexemes_tokens_kinds, 90, .inl v_a_lexemes_tokens_kinds)), (a_lexemes_tokens_values, .inl (ka_lexemes_tokens_values, 90, .inr (.inl v_a_lexemes_tokens_values))), (a_lexemes_places, .inl (ka_lexemes_places, 90, .inl v_a_lexemes_places)), (a_lexemes_columns, .inl (ka_lexemes_columns, 90, .inl v_a_lexemes_columns)), (a_lexemes_lineFirsts, .inl (ka_lexemes_lineFirsts, 90, .inl v_a_lexemes_lineFirsts)), (a_y0, .inr (10, [.ref a_y0_characters, .int (nI n_y0_length)])), (a_y0_characters, .inl (ka_y0_characters, 240, .inl f_y0_characters))]) [0, 6, 7, 1, 2, 3, 4, 5, 8, 9] (by decide) rfl
            have hKc := hK.sub (tys' := [(ka_lexemes_tokens_kinds, .int), (ka_lexemes_tokens_values, .long), (ka_lexemes_places, .int), (ka_lexemes_columns, .int), (ka_lexemes_lineFirsts, .boolean), (ka_y0_characters, .char)]) [0, 1, 2, 3, 4, 5] rfl
            have hFc := va_free (wc := [(a_t, .inr (3, [.ref a_lexemes, .int (nI v_a_t_1), .int v_a_t_2, .int v_a_t_3, .int v_a_t_4, .int v_a_t_5])), (a_lexemes, .inr (5, [.ref a_lexemes_tokens, .ref a_lexemes_places, .ref a_lexemes_columns, .ref a_lexemes_lineFirsts])), (a_lexemes_tokens, .inr (11, [.ref a_lexemes_tokens_kinds, .ref a_lexemes_tokens_values, .int (nI v_a_lexemes_tokens_2)])), (a_lexemes_tokens_kinds, .inl (ka_lexemes_tokens_kinds, 90, .inl v_a_lexemes_tokens_kinds)), (a_lexemes_tokens_values, .inl (ka_lexemes_tokens_values, 90, .inr (.inl v_a_lexemes_tokens_values))), (a_lexemes_places, .inl (ka_lexemes_places, 90, .inl v_a_lexemes_places)), (a_lexemes_columns, .inl (ka_lexemes_columns, 90, .inl v_a_lexemes_columns)), (a_lexemes_lineFirsts, .inl (ka_lexemes_lineFirsts, 90, .inl v_a_lexemes_lineFirsts)), (a_y0, .inr (10, [.ref a_y0_characters, .int (nI n_y0_length)])), (a_y0_characters, .inl (ka_y0_characters, 240, .inl f_y0_characters))]) hD hS hA [0, 6, 7, 1, 2, 3, 4, 5, 8, 9] rfl
            refine va_callv (va_runV (As := [.ref a_y0]) (rest := []) ⟨hx, hb, hml, hown, hz⟩ (s_Cutter_cutLexeme6 l dC dI H.size a_t a_lexemes a_lexemes_tokens a_lexemes_tokens_kinds v_a_lexemes_tokens_kinds a_lexemes_tokens_values v_a_lexemes_tokens_values v_a_lexemes_tokens_2 a_lexemes_places v_a_lexemes_places a_lexemes_columns v_a_lexemes_columns a_lexemes_lineFirsts v_a_lexemes_lineFirsts v_a_t_1 v_a_t_2 v_a_t_3 v_a_t_4 v_a_t_5 a_y0 a_y0_characters f_y0_characters n_y0_length vL ka_lexemes_tokens_kinds ka_lexemes_tokens_values ka_lexemes_places ka_lexemes_columns ka_lexemes_lineFirsts ka_y0_characters (by first | omega | assumption | exact bk_n e74) (by first | omega | assumption | exact bk_n e74) (by first | omega | assumption | exact bk_n e74) (by first | omega | assumption | exact bk_n e74) (by first | omega | assumption | exact bk_n e74) (by first | omega | assumption | exact bk_n e74) (by first | omega | assumption | exact bk_n e74) (by first | omega | assumption | exact bk_n e74) (by first | omega | assumption | exact bk_n e74) (by first | omega | assumption | exact bk_n e74) (by first | omega | assumption | exact bk_n e74) (by first | omega | assumption | exact bk_n e74) (by first | omega | assumption | exact bk_n e74)) (cwV 1 hz (zV zm_105 zm_106 zm_107 zm_92 zm_108) rfl rfl rfl (by decide +kernel) ⟨Nat.le_of_ble_eq_true rfl, Nat.le_of_ble_eq_true rfl⟩) ⟨fun a U g mk q => by obtain ⟨q0, q1, qP, qK, qD, qx0⟩ := q; exact ⟨q0, q1, qP, va_K.moved (u := U) (U := U.calling g mk a) (Vm.Alike.refl U.vm) qK, qD, cx_E.same (u := U) (U := U.calling g mk a) rfl qx0⟩, va_recv (q := (R_Cutter, F_Cutter, 6)) (q0 := 0) (ci := 3) hK hP rfl rfl, fun U hU hW => ⟨rfl, by rw [hU], by rw [hU]; exact hPc, va_K.moved hW.alike hKc, hDc.weaken (fun _ _ _ _ => trivial), by rw [hU]; exact cx_E.to hW hS hFc hE⟩⟩ rfl rfl hl.1 rfl (lv_room (Nat.le_of_ble_eq_true rfl)) d_Cutter_cut_113 ⟨Nat.zero_le _, Nat.zero_le _⟩) hS (fun q _ h => hFc q h) hFc (fun u t H1 locs ht hvm hw hB hz1 hk1 hS => ?_)
            obtain ⟨g28, g29, g30, g31, g32, g33, g34, g35, g36, g37, hb_g28, hb_g31, hb_g32, hq0_113, hq1_113, hq2_113, hP1, hK1, hD1⟩ := hB
            rw [ht] at hP1
            obtain ⟨hP, hD⟩ := va_join (wr := []) (w1 := [(a_t, .inr (3, [.ref a_lexemes, .int (nI g28), .int v_a_t_2, .int g29, .int g30, .int g31])), (a_lexemes, .inr (5, [.ref a_lexemes_tokens, .ref a_lexemes_places, .ref a_lexemes_columns, .ref a_lexemes_lineFirsts])), (a_lexemes_tokens, .inr (11, [.ref a_lexemes_tokens_kinds, .ref a_lexemes_tokens_values, .int (nI g32)])), (a_lexemes_tokens_kinds, .inl (ka_lexemes_tokens_kinds, 90, .inl g33)), (a_lexemes_tokens_values, .inl (ka_lexemes_tokens_values, 90, .inr (.inl g34))), (a_lexemes_places, .inl (ka_lexemes_places, 90, .inl g35)), (a_lexemes_columns, .inl (ka_lexemes_columns, 90, .inl g36)), (a_lexemes_lineFirsts, .inl (ka_lexemes_lineFirsts, 90, .inl g37)), (a_y0, .inr (10, [.ref a_y0_characters, .int (nI n_y0_length)])), (a_y0_characters, .inl (ka_y0_characters, 240, .inl f_y0_characters))]) hP hD [0, 6, 7, 1, 2, 3, 4, 5, 8, 9] [] rfl rfl (by decide) (by decide) hk1 hFc hP1 hD1
            generalize H1 = H at hP hS ⊢
            have hP : va_P (dC, dI) vcl [(a_t, .inr (3, [.ref a_lexemes, .int (nI g28), .int v_a_t_2, .int g29, .int g30, .int g31])), (a_lexemes, .inr (5, [.ref a_lexemes_tokens, .ref a_lexemes_places, .ref a_lexemes_columns, .ref a_lexemes_lineFirsts])), (a_lexemes_tokens, .inr (11, [.ref a_lexemes_tokens_kinds, .ref a_lexemes_tokens_values, .int (nI g32)])), (a_lexemes_tokens_kinds, .inl (ka_lexemes_tokens_kinds, 90, .inl g33)), (a_lexemes_tokens_values, .inl (ka_lexemes_tokens_values, 90, .inr (.inl g34))), (a_lexemes_places, .inl (ka_lexemes_places, 90, .inl g35)), (a_lexemes_columns, .inl (ka_lexemes_columns, 90, .inl g36)), (a_lexemes_lineFirsts, .inl (ka_lexemes_lineFirsts, 90, .inl g37)), (a_y0, .inr (10, [.ref a_y0_characters, .int (nI n_y0_length)])), (a_y0_characters, .inl (ka_y0_characters, 240, .inl f_y0_characters))] H := hP
            have hD : va_D A [(a_t, .inr (3, [.ref a_lexemes, .int (nI g28), .int v_a_t_2, .int g29, .int g30, .int g31])), (a_lexemes, .inr (5, [.ref a_lexemes_tokens, .ref a_lexemes_places, .ref a_lexemes_columns, .ref a_lexemes_lineFirsts])), (a_lexemes_tokens, .inr (11, [.ref a_lexemes_tokens_kinds, .ref a_lexemes_tokens_values, .int (nI g32)])), (a_lexemes_tokens_kinds, .inl (ka_lexemes_tokens_kinds, 90, .inl g33)), (a_lexemes_tokens_values, .inl (ka_lexemes_tokens_values, 90, .inr (.inl g34))), (a_lexemes_places, .inl (ka_lexemes_places, 90, .inl g35)), (a_lexemes_columns, .inl (ka_lexemes_columns, 90, .inl g36)), (a_lexemes_lineFirsts, .inl (ka_lexemes_lineFirsts, 90, .inl g37)), (a_y0, .inr (10, [.ref a_y0_characters, .int (nI n_y0_length)])), (a_y0_characters, .inl (ka_y0_characters, 240, .inl f_y0_characters))] := hD
            refine lv_iinc (k := 0) (v := (nI (k2 + 1))) hx hb d_Cutter_cut_116 hl rfl (nI_1 k2) (by decide) rfl (fun ls hl => ?_)
            have hl : lv_has ls 3 [(2, .int (nI (k2 + 1))), (0, .ref a_t), (1, .ref a_y0)] := hl
            refine lv_goto (tgt := 34) hx hb d_Cutter_cut_119 (by decide) ?_
            have hP9 := hP.sub (ws' := [(a_t, .inr (3, [.ref a_lexemes, .int (nI g28), .int v_a_t_2, .int g29, .int g30, .int g31])), (a_lexemes_tokens_kinds, .inl (ka_lexemes_tokens_kinds, 90, .inl g33)), (a_lexemes_tokens_values, .inl (ka_lexemes_tokens_values, 90, .inr (.inl g34))), (a_lexemes_places, .inl (ka_lexemes_places, 90, .inl g35)), (a_lexemes_columns, .inl (ka_lexemes_columns, 90, .inl g36)), (a_lexemes_lineFirsts, .inl (ka_lexemes_lineFirsts, 90, .inl g37)), (a_y0, .inr (10, [.ref a_y0_characters, .int (nI n_y0_length)])), (a_y0_characters, .inl (ka_y0_characters, 240, .inl f_y0_characters)), (a_lexemes, .inr (5, [.ref a_lexemes_tokens, .ref a_lexemes_places, .ref a_lexemes_columns, .ref a_lexemes_lineFirsts])), (a_lexemes_tokens, .inr (11, [.ref a_lexemes_tokens_kinds, .ref a_lexemes_tokens_values, .int (nI g32)]))]) [0, 3, 4, 5, 6, 7, 8, 9, 1, 2] rfl
            have hD9 := hD.sub (ws' := [(a_t, .inr (3, [.ref a_lexemes, .int (nI g28), .int v_a_t_2, .int g29, .int g30, .int g31])), (a_lexemes_tokens_kinds, .inl (ka_lexemes_tokens_kinds, 90, .inl g33)), (a_lexemes_tokens_values, .inl (ka_lexemes_tokens_values, 90, .inr (.inl g34))), (a_lexemes_places, .inl (ka_lexemes_places, 90, .inl g35)), (a_lexemes_columns, .inl (ka_lexemes_columns, 90, .inl g36)), (a_lexemes_lineFirsts, .inl (ka_lexemes_lineFirsts, 90, .inl g37)), (a_y0, .inr (10, [.ref a_y0_characters, .int (nI n_y0_length)])), (a_y0_characters, .inl (ka_y0_characters, 240, .inl f_y0_characters)), (a_lexemes, .inr (5, [.ref a_lexemes_tokens, .ref a_lexemes_places, .ref a_lexemes_columns, .ref a_lexemes_lineFirsts])), (a_lexemes_tokens, .inr (11, [.ref a_lexemes_tokens_kinds, .ref a_lexemes_tokens_values, .int (nI g32)]))]) [0, 3, 4, 5, 6, 7, 8, 9, 1, 2] (by decide) rfl
            exact ih34 ((k2 + 1), g36, g37, g35, g32, g33, g34, g28, v_a_t_2, g29, g30, g31, (nxS (stp (cN f_y0_characters n_y0_length) n_y0_length v_a_t_1 vL) vL)) (by show 240 - ((k2 + 1)) < 240 - k2; omega) _ _ _ ⟨by show ((k2 + 1)) ≤ 240; first | omega | assumption | exact Or.inl rfl | exact Or.inr rfl | decide, by show g32 ≤ 90; first | omega | assumption | exact Or.inl rfl | exact Or.inr rfl | decide, by show g28 ≤ 241; first | omega | assumption | exact Or.inl rfl | exact Or.inr rfl | decide, by show g31 = 0 ∨ g31 = 1; first | omega | assumption | exact Or.inl rfl | exact Or.inr rfl | decide, by show g28 ≤ n_y0_length; first | omega | assumption | exact Or.inl rfl | exact Or.inr rfl | decide, by show Rp g33 g34 g35 g36 g37 ((nxS (stp (cN f_y0_characters n_y0_length) n_y0_length v_a_t_1 vL) vL)); exact (cu_step pL (by omega) g1 e57 hq0_113 g5).1, by show g32 = ((nxS (stp (cN f_y0_characters n_y0_length) n_y0_length v_a_t_1 vL) vL)).length; exact (cu_step pL (by omega) g1 e57 hq0_113 g5).2.1, by show g30 = -1 → (cuE (cN f_y0_characters n_y0_length) n_y0_length 0 [] = cuE (cN f_y0_characters n_y0_length) n_y0_length g28 ((nxS (stp (cN f_y0_characters n_y0_length) n_y0_length v_a_t_1 vL) vL)) ∧ v_a_t_2 = nI (lnO (cN f_y0_characters n_y0_length) g28) ∧ g29 = b01 (ldO ((nxS (stp (cN f_y0_characters n_y0_length) n_y0_length v_a_t_1 vL) vL)) (lnO (cN f_y0_characters n_y0_length) g28)) ∧ hdW ((nxS (stp (cN f_y0_characters n_y0_length) n_y0_length v_a_t_1 vL) vL)) g28 ∧ ((k2 + 1)) ≤ g28); exact (cu_step pL (by omega) g1 e57 hq0_113 g5).2.2.1, by show ¬ g30 = -1 → ∃ p, p ≤ 240 ∧ cuE (cN f_y0_characters n_y0_length) n_y0_length 0 [] = (some p, ((nxS (stp (cN f_y0_characters n_y0_length) n_y0_length v_a_t_1 vL) vL))) ∧ g30 = nI p; exact (cu_step pL (by omega) g1 e57 hq0_113 g5).2.2.2, by show g31 = 0 ∨ ¬ g30 = -1; exact hq2_113.elim (fun z9 => Or.inl (z9.trans (cT.resolve_right (fun y9 => y9 e57)))) Or.inr, hl, hP9, hD9, hS⟩
          · have e100 := b01_yes h27
            refine lv_aload_n hx hb d_Cutter_cut_103 rfl (lv_at hl 1 rfl) ?_
            refine lv_aload_n hx hb d_Cutter_cut_104 rfl (lv_at hl 2 rfl) ?_
            have hPc := hP.sub (ws' := [(a_t, .inr (3, [.ref a_lexemes, .int (nI v_a_t_1), .int v_a_t_2, .int v_a_t_3, .int v_a_t_4, .int v_a_t_5])), (a_y0, .inr (10, [.ref a_y0_characters, .int (nI n_y0_length)])), (a_y0_characters, .inl (ka_y0_characters, 240, .inl f_y0_characters))]) [0, 8, 9] rfl
            have hDc := hD.sub (ws' := [(a_t, .inr (3, [.ref a_lexemes, .int (nI v_a_t_1), .int v_a_t_2, .int v_a_t_3, .int v_a_t_4, .int v_a_t_5])), (a_y0, .inr (10, [.ref a_y0_characters, .int (nI n_y0_length)])), (a_y0_characters, .inl (ka_y0_characters, 240, .inl f_y0_characters))]) [0, 8, 9] (by decide) rfl
            have hKc := hK.sub (tys' := [(ka_y0_characters, .char)]) [5] rfl
            have hFc := va_free (wc := [(a_t, .inr (3, [.ref a_lexemes, .int (nI v_a_t_1), .int v_a_t_2, .int v_a_t_3, .int v_a_t_4, .int v_a_t_5])), (a_y0, .inr (10, [.ref a_y0_characters, .int (nI n_y0_length)])), (a_y0_characters, .inl (ka_y0_characters, 240, .inl f_y0_characters))]) hD hS hA [0, 8, 9] rfl
            refine va_callv (va_runV (As := [.ref a_y0]) (rest := []) ⟨hx, hb, hml, hown, hz⟩ (s_Cutter_passComment6 l dC dI H.size a_t a_lexemes v_a_t_1 v_a_t_2 v_a_t_3 v_a_t_4 v_a_t_5 a_y0 a_y0_characters f_y0_characters n_y0_length vL ka_y0_characters (by first | omega | assumption | exact bk_n e74) (by first | omega | assumption | exact bk_n e74) (by first | omega | assumption | exact bk_n e74) (by first | omega | assumption | exact bk_n e74) (by first | omega | assumption | exact bk_n e74) (by first | omega | assumption | exact bk_n e74) (by first | omega | assumption | exact bk_n e74) (by first | omega | assumption | exact bk_n e74) (by first | omega | assumption | exact bk_n e74)) (cwV 1 hz (zV zm_101 zm_102 zm_103 zm_92 zm_104) rfl rfl rfl (by decide +kernel) ⟨Nat.le_of_ble_eq_true rfl, Nat.le_of_ble_eq_true rfl⟩) ⟨fun a U g mk q => by obtain ⟨q0, q1, qP, qK, qD⟩ := q; exact ⟨q0, q1, qP, va_K.moved (u := U) (U := U.calling g mk a) (Vm.Alike.refl U.vm) qK, qD⟩, va_recv (q := (R_Cutter, F_Cutter, 6)) (q0 := 0) (ci := 3) hK hP rfl rfl, fun U hU hW => ⟨rfl, by rw [hU], by rw [hU]; exact hPc, va_K.moved hW.alike hKc, hDc.weaken (fun _ _ _ _ => trivial)⟩⟩ rfl rfl hl.1 rfl (lv_room (Nat.le_of_ble_eq_true rfl)) d_Cutter_cut_105 ⟨Nat.zero_le _, Nat.zero_le _⟩) hS (fun q _ h => hFc q h) hFc (fun u t H1 locs ht hvm hw hB hz1 hk1 hS => ?_)
            obtain ⟨g38, g39, g40, g41, hb_g38, hq0_105, hq1_105, hq2_105, hq3_105, hq4_105, hq5_105, hq6_105, hP1, hK1, hD1⟩ := hB
            rw [ht] at hP1
            obtain ⟨hP, hD⟩ := va_join (wr := [(a_lexemes_tokens_kinds, .inl (ka_lexemes_tokens_kinds, 90, .inl v_a_lexemes_tokens_kinds)), (a_lexemes_tokens_values, .inl (ka_lexemes_tokens_values, 90, .inr (.inl v_a_lexemes_tokens_values))), (a_lexemes_places, .inl (ka_lexemes_places, 90, .inl v_a_lexemes_places)), (a_lexemes_columns, .inl (ka_lexemes_columns, 90, .inl v_a_lexemes_columns)), (a_lexemes_lineFirsts, .inl (ka_lexemes_lineFirsts, 90, .inl v_a_lexemes_lineFirsts)), (a_lexemes, .inr (5, [.ref a_lexemes_tokens, .ref a_lexemes_places, .ref a_lexemes_columns, .ref a_lexemes_lineFirsts])), (a_lexemes_tokens, .inr (11, [.ref a_lexemes_tokens_kinds, .ref a_lexemes_tokens_values, .int (nI v_a_lexemes_tokens_2)]))]) (w1 := [(a_t, .inr (3, [.ref a_lexemes, .int (nI g38), .int g39, .int g40, .int g41, .int v_a_t_5])), (a_y0, .inr (10, [.ref a_y0_characters, .int (nI n_y0_length)])), (a_y0_characters, .inl (ka_y0_characters, 240, .inl f_y0_characters))]) hP hD [0, 8, 9] [1, 2, 3, 4, 5, 6, 7] rfl rfl (by decide) (by decide) hk1 hFc hP1 hD1
            generalize H1 = H at hP hS ⊢
            have hP : va_P (dC, dI) vcl [(a_lexemes_tokens_kinds, .inl (ka_lexemes_tokens_kinds, 90, .inl v_a_lexemes_tokens_kinds)), (a_lexemes_tokens_values, .inl (ka_lexemes_tokens_values, 90, .inr (.inl v_a_lexemes_tokens_values))), (a_lexemes_places, .inl (ka_lexemes_places, 90, .inl v_a_lexemes_places)), (a_lexemes_columns, .inl (ka_lexemes_columns, 90, .inl v_a_lexemes_columns)), (a_lexemes_lineFirsts, .inl (ka_lexemes_lineFirsts, 90, .inl v_a_lexemes_lineFirsts)), (a_lexemes, .inr (5, [.ref a_lexemes_tokens, .ref a_lexemes_places, .ref a_lexemes_columns, .ref a_lexemes_lineFirsts])), (a_lexemes_tokens, .inr (11, [.ref a_lexemes_tokens_kinds, .ref a_lexemes_tokens_values, .int (nI v_a_lexemes_tokens_2)])), (a_t, .inr (3, [.ref a_lexemes, .int (nI g38), .int g39, .int g40, .int g41, .int v_a_t_5])), (a_y0, .inr (10, [.ref a_y0_characters, .int (nI n_y0_length)])), (a_y0_characters, .inl (ka_y0_characters, 240, .inl f_y0_characters))] H := hP
            have hD : va_D A [(a_lexemes_tokens_kinds, .inl (ka_lexemes_tokens_kinds, 90, .inl v_a_lexemes_tokens_kinds)), (a_lexemes_tokens_values, .inl (ka_lexemes_tokens_values, 90, .inr (.inl v_a_lexemes_tokens_values))), (a_lexemes_places, .inl (ka_lexemes_places, 90, .inl v_a_lexemes_places)), (a_lexemes_columns, .inl (ka_lexemes_columns, 90, .inl v_a_lexemes_columns)), (a_lexemes_lineFirsts, .inl (ka_lexemes_lineFirsts, 90, .inl v_a_lexemes_lineFirsts)), (a_lexemes, .inr (5, [.ref a_lexemes_tokens, .ref a_lexemes_places, .ref a_lexemes_columns, .ref a_lexemes_lineFirsts])), (a_lexemes_tokens, .inr (11, [.ref a_lexemes_tokens_kinds, .ref a_lexemes_tokens_values, .int (nI v_a_lexemes_tokens_2)])), (a_t, .inr (3, [.ref a_lexemes, .int (nI g38), .int g39, .int g40, .int g41, .int v_a_t_5])), (a_y0, .inr (10, [.ref a_y0_characters, .int (nI n_y0_length)])), (a_y0_characters, .inl (ka_y0_characters, 240, .inl f_y0_characters))] := hD
            refine lv_goto (tgt := 116) hx hb d_Cutter_cut_108 (by decide) ?_
            refine lv_iinc (k := 0) (v := (nI (k2 + 1))) hx hb d_Cutter_cut_116 hl rfl (nI_1 k2) (by decide) rfl (fun ls hl => ?_)
            have hl : lv_has ls 3 [(2, .int (nI (k2 + 1))), (0, .ref a_t), (1, .ref a_y0)] := hl
            refine lv_goto (tgt := 34) hx hb d_Cutter_cut_119 (by decide) ?_
            have hP9 := hP.sub (ws' := [(a_t, .inr (3, [.ref a_lexemes, .int (nI g38), .int g39, .int g40, .int g41, .int v_a_t_5])), (a_lexemes_tokens_kinds, .inl (ka_lexemes_tokens_kinds, 90, .inl v_a_lexemes_tokens_kinds)), (a_lexemes_tokens_values, .inl (ka_lexemes_tokens_values, 90, .inr (.inl v_a_lexemes_tokens_values))), (a_lexemes_places, .inl (ka_lexemes_places, 90, .inl v_a_lexemes_places)), (a_lexemes_columns, .inl (ka_lexemes_columns, 90, .inl v_a_lexemes_columns)), (a_lexemes_lineFirsts, .inl (ka_lexemes_lineFirsts, 90, .inl v_a_lexemes_lineFirsts)), (a_y0, .inr (10, [.ref a_y0_characters, .int (nI n_y0_length)])), (a_y0_characters, .inl (ka_y0_characters, 240, .inl f_y0_characters)), (a_lexemes, .inr (5, [.ref a_lexemes_tokens, .ref a_lexemes_places, .ref a_lexemes_columns, .ref a_lexemes_lineFirsts])), (a_lexemes_tokens, .inr (11, [.ref a_lexemes_tokens_kinds, .ref a_lexemes_tokens_values, .int (nI v_a_lexemes_tokens_2)]))]) [7, 0, 1, 2, 3, 4, 8, 9, 5, 6] rfl
            have hD9 := hD.sub (ws' := [(a_t, .inr (3, [.ref a_lexemes, .int (nI g38), .int g39, .int g40, .int g41, .int v_a_t_5])), (a_lexemes_tokens_kinds, .inl (ka_lexemes_tokens_kinds, 90, .inl v_a_lexemes_tokens_kinds)), (a_lexemes_tokens_values, .inl (ka_lexemes_tokens_values, 90, .inr (.inl v_a_lexemes_tokens_values))), (a_lexemes_places, .inl (ka_lexemes_places, 90, .inl v_a_lexemes_places)), (a_lexemes_columns, .inl (ka_lexemes_columns, 90, .inl v_a_lexemes_columns)), (a_lexemes_lineFirsts, .inl (ka_lexemes_lineFirsts, 90, .inl v_a_lexemes_lineFirsts)), (a_y0, .inr (10, [.ref a_y0_characters, .int (nI n_y0_length)])), (a_y0_characters, .inl (ka_y0_characters, 240, .inl f_y0_characters)), (a_lexemes, .inr (5, [.ref a_lexemes_tokens, .ref a_lexemes_places, .ref a_lexemes_columns, .ref a_lexemes_lineFirsts])), (a_lexemes_tokens, .inr (11, [.ref a_lexemes_tokens_kinds, .ref a_lexemes_tokens_values, .int (nI v_a_lexemes_tokens_2)]))]) [7, 0, 1, 2, 3, 4, 8, 9, 5, 6] (by decide) rfl
            exact ih34 ((k2 + 1), v_a_lexemes_columns, v_a_lexemes_lineFirsts, v_a_lexemes_places, v_a_lexemes_tokens_2, v_a_lexemes_tokens_kinds, v_a_lexemes_tokens_values, g38, g39, g40, g41, v_a_t_5, (nxS (stp (cN f_y0_characters n_y0_length) n_y0_length v_a_t_1 vL) vL)) (by show 240 - ((k2 + 1)) < 240 - k2; omega) _ _ _ ⟨by show ((k2 + 1)) ≤ 240; first | omega | assumption | exact Or.inl rfl | exact Or.inr rfl | decide, by show v_a_lexemes_tokens_2 ≤ 90; first | omega | assumption | exact Or.inl rfl | exact Or.inr rfl | decide, by show g38 ≤ 241; first | omega | assumption | exact Or.inl rfl | exact Or.inr rfl | decide, by show v_a_t_5 = 0 ∨ v_a_t_5 = 1; first | omega | assumption | exact Or.inl rfl | exact Or.inr rfl | decide, by show g38 ≤ n_y0_length; first | omega | assumption | exact Or.inl rfl | exact Or.inr rfl | decide, by show Rp v_a_lexemes_tokens_kinds v_a_lexemes_tokens_values v_a_lexemes_places v_a_lexemes_columns v_a_lexemes_lineFirsts ((nxS (stp (cN f_y0_characters n_y0_length) n_y0_length v_a_t_1 vL) vL)); exact (cu_step pL (by omega) g1 e57 (cm_q (bk_n e74) e100 cR cS hq0_105 (fun b9 h9 => hq1_105 b9 h9) hq2_105 hq3_105 hq4_105) g5).1, by show v_a_lexemes_tokens_2 = ((nxS (stp (cN f_y0_characters n_y0_length) n_y0_length v_a_t_1 vL) vL)).length; exact (cu_step pL (by omega) g1 e57 (cm_q (bk_n e74) e100 cR cS hq0_105 (fun b9 h9 => hq1_105 b9 h9) hq2_105 hq3_105 hq4_105) g5).2.1, by show g41 = -1 → (cuE (cN f_y0_characters n_y0_length) n_y0_length 0 [] = cuE (cN f_y0_characters n_y0_length) n_y0_length g38 ((nxS (stp (cN f_y0_characters n_y0_length) n_y0_length v_a_t_1 vL) vL)) ∧ g39 = nI (lnO (cN f_y0_characters n_y0_length) g38) ∧ g40 = b01 (ldO ((nxS (stp (cN f_y0_characters n_y0_length) n_y0_length v_a_t_1 vL) vL)) (lnO (cN f_y0_characters n_y0_length) g38)) ∧ hdW ((nxS (stp (cN f_y0_characters n_y0_length) n_y0_length v_a_t_1 vL) vL)) g38 ∧ ((k2 + 1)) ≤ g38); exact (cu_step pL (by omega) g1 e57 (cm_q (bk_n e74) e100 cR cS hq0_105 (fun b9 h9 => hq1_105 b9 h9) hq2_105 hq3_105 hq4_105) g5).2.2.1, by show ¬ g41 = -1 → ∃ p, p ≤ 240 ∧ cuE (cN f_y0_characters n_y0_length) n_y0_length 0 [] = (some p, ((nxS (stp (cN f_y0_characters n_y0_length) n_y0_length v_a_t_1 vL) vL))) ∧ g41 = nI p; exact (cu_step pL (by omega) g1 e57 (cm_q (bk_n e74) e100 cR cS hq0_105 (fun b9 h9 => hq1_105 b9 h9) hq2_105 hq3_105 hq4_105) g5).2.2.2, by show v_a_t_5 = 0 ∨ ¬ g41 = -1; exact Or.inl (cT.resolve_right (fun z9 => z9 e57)), hl, hP9, hD9, hS⟩
        · have e74 := b01_yes h26
          refine lv_aload_n hx hb d_Cutter_cut_77 rfl (lv_at hl 1 rfl) ?_
          refine lv_aload_n hx hb d_Cutter_cut_78 rfl (lv_at hl 2 rfl) ?_
          refine lv_aload_n hx hb d_Cutter_cut_79 rfl (lv_at hl 1 rfl) ?_
          refine va_get (D := (dC, dI)) (ci := 3) (v := .int (nI v_a_t_1)) (C := R_Cutter) (T := F_Cutter) (N := 6) hx hb hz zu_Cutter hown hK hP 0 rfl rfl 1 (by decide) (hz (.fieldLink R_Cutter 29 "LayoutFront$Cutter" "at" "I") zm_82) (fun _ h9 => h9) rfl d_Cutter_cut_80 ?_
          have hPc := hP.sub (ws' := [(a_y0, .inr (10, [.ref a_y0_characters, .int (nI n_y0_length)])), (a_y0_characters, .inl (ka_y0_characters, 240, .inl f_y0_characters))]) [8, 9] rfl
          have hDc := hD.sub (ws' := [(a_y0, .inr (10, [.ref a_y0_characters, .int (nI n_y0_length)])), (a_y0_characters, .inl (ka_y0_characters, 240, .inl f_y0_characters))]) [8, 9] (by decide) rfl
          have hKc := hK.sub (tys' := [(ka_y0_characters, .char)]) [5] rfl
          have hFc := va_free (wc := [(a_y0, .inr (10, [.ref a_y0_characters, .int (nI n_y0_length)])), (a_y0_characters, .inl (ka_y0_characters, 240, .inl f_y0_characters))]) hD hS hA [8, 9] rfl
          refine va_calli (va_runV (As := [.int (nI v_a_t_1)]) (rest := [.ref a_t]) ⟨hx, hb, hml, hown, hz⟩ (s_Text_at6 l dC dI H.size a_y0 a_y0_characters f_y0_characters n_y0_length v_a_t_1 ka_y0_characters (by first | omega | assumption | exact bk_n e74) (by first | omega | assumption | exact bk_n e74) (by first | omega | assumption | exact bk_n e74)) (cwV 1 hz (zV zm_89 zm_11 zm_12 zm_7 zm_13) rfl rfl rfl (by decide +kernel) ⟨Nat.le_of_ble_eq_true rfl, Nat.le_of_ble_eq_true rfl⟩) ⟨fun a U g mk q => by obtain ⟨q0, q1, qP, qK, qD⟩ := q; exact ⟨q0, q1, qP, va_K.moved (u := U) (U := U.calling g mk a) (Vm.Alike.refl U.vm) qK, qD⟩, va_recv (q := (R_Text, F_Text, 2)) (q0 := 8) (ci := 10) hK hP rfl rfl, fun U hU hW => ⟨rfl, by rw [hU], by rw [hU]; exact hPc, va_K.moved hW.alike hKc, hDc.weaken (fun _ _ _ _ => trivial)⟩⟩ rfl rfl hl.1 rfl (lv_room (Nat.le_of_ble_eq_true rfl)) d_Cutter_cut_83 ⟨Nat.zero_le _, Nat.zero_le _⟩) hS (fun q _ h => hFc q h) hFc (fun r u t H1 locs ht hvm hw hB hz1 hk1 hS => ?_)
          obtain ⟨hP1, hK1, hD1⟩ := hB
          subst r
          rw [ht] at hP1
          obtain ⟨hP, hD⟩ := va_join (wr := [(a_t, .inr (3, [.ref a_lexemes, .int (nI v_a_t_1), .int v_a_t_2, .int v_a_t_3, .int v_a_t_4, .int v_a_t_5])), (a_lexemes_tokens_kinds, .inl (ka_lexemes_tokens_kinds, 90, .inl v_a_lexemes_tokens_kinds)), (a_lexemes_tokens_values, .inl (ka_lexemes_tokens_values, 90, .inr (.inl v_a_lexemes_tokens_values))), (a_lexemes_places, .inl (ka_lexemes_places, 90, .inl v_a_lexemes_places)), (a_lexemes_columns, .inl (ka_lexemes_columns, 90, .inl v_a_lexemes_columns)), (a_lexemes_lineFirsts, .inl (ka_lexemes_lineFirsts, 90, .inl v_a_lexemes_lineFirsts)), (a_lexemes, .inr (5, [.ref a_lexemes_tokens, .ref a_lexemes_places, .ref a_lexemes_columns, .ref a_lexemes_lineFirsts])), (a_lexemes_tokens, .inr (11, [.ref a_lexemes_tokens_kinds, .ref a_lexemes_tokens_values, .int (nI v_a_lexemes_tokens_2)]))]) (w1 := [(a_y0, .inr (10, [.ref a_y0_characters, .int (nI n_y0_length)])), (a_y0_characters, .inl (ka_y0_characters, 240, .inl f_y0_characters))]) hP hD [8, 9] [0, 1, 2, 3, 4, 5, 6, 7] rfl rfl (by decide) (by decide) hk1 hFc hP1 hD1
          generalize H1 = H at hP hS ⊢
          have hP : va_P (dC, dI) vcl [(a_t, .inr (3, [.ref a_lexemes, .int (nI v_a_t_1), .int v_a_t_2, .int v_a_t_3, .int v_a_t_4, .int v_a_t_5])), (a_lexemes_tokens_kinds, .inl (ka_lexemes_tokens_kinds, 90, .inl v_a_lexemes_tokens_kinds)), (a_lexemes_tokens_values, .inl (ka_lexemes_tokens_values, 90, .inr (.inl v_a_lexemes_tokens_values))), (a_lexemes_places, .inl (ka_lexemes_places, 90, .inl v_a_lexemes_places)), (a_lexemes_columns, .inl (ka_lexemes_columns, 90, .inl v_a_lexemes_columns)), (a_lexemes_lineFirsts, .inl (ka_lexemes_lineFirsts, 90, .inl v_a_lexemes_lineFirsts)), (a_lexemes, .inr (5, [.ref a_lexemes_tokens, .ref a_lexemes_places, .ref a_lexemes_columns, .ref a_lexemes_lineFirsts])), (a_lexemes_tokens, .inr (11, [.ref a_lexemes_tokens_kinds, .ref a_lexemes_tokens_values, .int (nI v_a_lexemes_tokens_2)])), (a_y0, .inr (10, [.ref a_y0_characters, .int (nI n_y0_length)])), (a_y0_characters, .inl (ka_y0_characters, 240, .inl f_y0_characters))] H := hP
          have hD : va_D A [(a_t, .inr (3, [.ref a_lexemes, .int (nI v_a_t_1), .int v_a_t_2, .int v_a_t_3, .int v_a_t_4, .int v_a_t_5])), (a_lexemes_tokens_kinds, .inl (ka_lexemes_tokens_kinds, 90, .inl v_a_lexemes_tokens_kinds)), (a_lexemes_tokens_values, .inl (ka_lexemes_tokens_values, 90, .inr (.inl v_a_lexemes_tokens_values))), (a_lexemes_places, .inl (ka_lexemes_places, 90, .inl v_a_lexemes_places)), (a_lexemes_columns, .inl (ka_lexemes_columns, 90, .inl v_a_lexemes_columns)), (a_lexemes_lineFirsts, .inl (ka_lexemes_lineFirsts, 90, .inl v_a_lexemes_lineFirsts)), (a_lexemes, .inr (5, [.ref a_lexemes_tokens, .ref a_lexemes_places, .ref a_lexemes_columns, .ref a_lexemes_lineFirsts])), (a_lexemes_tokens, .inr (11, [.ref a_lexemes_tokens_kinds, .ref a_lexemes_tokens_values, .int (nI v_a_lexemes_tokens_2)])), (a_y0, .inr (10, [.ref a_y0_characters, .int (nI n_y0_length)])), (a_y0_characters, .inl (ka_y0_characters, 240, .inl f_y0_characters))] := hD
          have hPc := hP.sub (ws' := [(a_t, .inr (3, [.ref a_lexemes, .int (nI v_a_t_1), .int v_a_t_2, .int v_a_t_3, .int v_a_t_4, .int v_a_t_5]))]) [0] rfl
          have hDc := hD.sub (ws' := [(a_t, .inr (3, [.ref a_lexemes, .int (nI v_a_t_1), .int v_a_t_2, .int v_a_t_3, .int v_a_t_4, .int v_a_t_5]))]) [0] (by decide) rfl
          have hKc := hK.sub (tys' := []) [] rfl
          have hFc := va_free (wc := [(a_t, .inr (3, [.ref a_lexemes, .int (nI v_a_t_1), .int v_a_t_2, .int v_a_t_3, .int v_a_t_4, .int v_a_t_5]))]) hD hS hA [0] rfl
          refine va_callv (va_runV (As := [.int (cN f_y0_characters n_y0_length v_a_t_1)]) (rest := []) ⟨hx, hb, hml, hown, hz⟩ (s_Cutter_passCharacter6 l dC dI H.size a_t a_lexemes v_a_t_1 v_a_t_2 v_a_t_3 v_a_t_4 v_a_t_5 ((cN f_y0_characters n_y0_length v_a_t_1)) (by first | omega | assumption | exact bk_n e74) (by first | omega | assumption | exact bk_n e74)) (cwV 1 hz (zV zm_94 zm_95 zm_96 zm_92 zm_97) rfl rfl rfl (by decide +kernel) ⟨Nat.le_of_ble_eq_true rfl, Nat.le_of_ble_eq_true rfl⟩) ⟨fun a U g mk q => by obtain ⟨q0, q1, qP, qK, qD⟩ := q; exact ⟨q0, q1, qP, va_K.moved (u := U) (U := U.calling g mk a) (Vm.Alike.refl U.vm) qK, qD⟩, va_recv (q := (R_Cutter, F_Cutter, 6)) (q0 := 0) (ci := 3) hK hP rfl rfl, fun U hU hW => ⟨rfl, by rw [hU], by rw [hU]; exact hPc, va_K.moved hW.alike hKc, hDc.weaken (fun _ _ _ _ => trivial)⟩⟩ rfl rfl hl.1 rfl (lv_room (Nat.le_of_ble_eq_true rfl)) d_Cutter_cut_86 ⟨Nat.zero_le _, Nat.zero_le _⟩) hS (fun q _ h => hFc q h) hFc (fun u t H1 locs ht hvm hw hB hz1 hk1 hS => ?_)
          obtain ⟨g42, g43, g44, hb_g42, hq0_86, hq1_86, hq2_86, hP1, hK1, hD1⟩ := hB
          subst g42
          subst g43
          subst g44
          rw [ht] at hP1
          obtain ⟨hP, hD⟩ := va_join (wr := [(a_lexemes_tokens_kinds, .inl (ka_lexemes_tokens_kinds, 90, .inl v_a_lexemes_tokens_kinds)), (a_lexemes_tokens_values, .inl (ka_lexemes_tokens_values, 90, .inr (.inl v_a_lexemes_tokens_values))), (a_lexemes_places, .inl (ka_lexemes_places, 90, .inl v_a_lexemes_places)), (a_lexemes_columns, .inl (ka_lexemes_columns, 90, .inl v_a_lexemes_columns)), (a_lexemes_lineFirsts, .inl (ka_lexemes_lineFirsts, 90, .inl v_a_lexemes_lineFirsts)), (a_lexemes, .inr (5, [.ref a_lexemes_tokens, .ref a_lexemes_places, .ref a_lexemes_columns, .ref a_lexemes_lineFirsts])), (a_lexemes_tokens, .inr (11, [.ref a_lexemes_tokens_kinds, .ref a_lexemes_tokens_values, .int (nI v_a_lexemes_tokens_2)])), (a_y0, .inr (10, [.ref a_y0_characters, .int (nI n_y0_length)])), (a_y0_characters, .inl (ka_y0_characters, 240, .inl f_y0_characters))]) (w1 := [(a_t, .inr (3, [.ref a_lexemes, .int (nI (v_a_t_1 + 1)), .int (if ((cN f_y0_characters n_y0_length v_a_t_1)) = 10 then nI (v_a_t_1 + 1) else v_a_t_2), .int (if ((cN f_y0_characters n_y0_length v_a_t_1)) = 10 then 1 else v_a_t_3), .int v_a_t_4, .int v_a_t_5]))]) hP hD [0] [1, 2, 3, 4, 5, 6, 7, 8, 9] rfl rfl (by decide) (by decide) hk1 hFc hP1 hD1
          generalize H1 = H at hP hS ⊢
          have hP : va_P (dC, dI) vcl [(a_lexemes_tokens_kinds, .inl (ka_lexemes_tokens_kinds, 90, .inl v_a_lexemes_tokens_kinds)), (a_lexemes_tokens_values, .inl (ka_lexemes_tokens_values, 90, .inr (.inl v_a_lexemes_tokens_values))), (a_lexemes_places, .inl (ka_lexemes_places, 90, .inl v_a_lexemes_places)), (a_lexemes_columns, .inl (ka_lexemes_columns, 90, .inl v_a_lexemes_columns)), (a_lexemes_lineFirsts, .inl (ka_lexemes_lineFirsts, 90, .inl v_a_lexemes_lineFirsts)), (a_lexemes, .inr (5, [.ref a_lexemes_tokens, .ref a_lexemes_places, .ref a_lexemes_columns, .ref a_lexemes_lineFirsts])), (a_lexemes_tokens, .inr (11, [.ref a_lexemes_tokens_kinds, .ref a_lexemes_tokens_values, .int (nI v_a_lexemes_tokens_2)])), (a_y0, .inr (10, [.ref a_y0_characters, .int (nI n_y0_length)])), (a_y0_characters, .inl (ka_y0_characters, 240, .inl f_y0_characters)), (a_t, .inr (3, [.ref a_lexemes, .int (nI (v_a_t_1 + 1)), .int (if ((cN f_y0_characters n_y0_length v_a_t_1)) = 10 then nI (v_a_t_1 + 1) else v_a_t_2), .int (if ((cN f_y0_characters n_y0_length v_a_t_1)) = 10 then 1 else v_a_t_3), .int v_a_t_4, .int v_a_t_5]))] H := hP
          have hD : va_D A [(a_lexemes_tokens_kinds, .inl (ka_lexemes_tokens_kinds, 90, .inl v_a_lexemes_tokens_kinds)), (a_lexemes_tokens_values, .inl (ka_lexemes_tokens_values, 90, .inr (.inl v_a_lexemes_tokens_values))), (a_lexemes_places, .inl (ka_lexemes_places, 90, .inl v_a_lexemes_places)), (a_lexemes_columns, .inl (ka_lexemes_columns, 90, .inl v_a_lexemes_columns)), (a_lexemes_lineFirsts, .inl (ka_lexemes_lineFirsts, 90, .inl v_a_lexemes_lineFirsts)), (a_lexemes, .inr (5, [.ref a_lexemes_tokens, .ref a_lexemes_places, .ref a_lexemes_columns, .ref a_lexemes_lineFirsts])), (a_lexemes_tokens, .inr (11, [.ref a_lexemes_tokens_kinds, .ref a_lexemes_tokens_values, .int (nI v_a_lexemes_tokens_2)])), (a_y0, .inr (10, [.ref a_y0_characters, .int (nI n_y0_length)])), (a_y0_characters, .inl (ka_y0_characters, 240, .inl f_y0_characters)), (a_t, .inr (3, [.ref a_lexemes, .int (nI (v_a_t_1 + 1)), .int (if ((cN f_y0_characters n_y0_length v_a_t_1)) = 10 then nI (v_a_t_1 + 1) else v_a_t_2), .int (if ((cN f_y0_characters n_y0_length v_a_t_1)) = 10 then 1 else v_a_t_3), .int v_a_t_4, .int v_a_t_5]))] := hD
          refine lv_goto (tgt := 116) hx hb d_Cutter_cut_89 (by decide) ?_
          refine lv_iinc (k := 0) (v := (nI (k2 + 1))) hx hb d_Cutter_cut_116 hl rfl (nI_1 k2) (by decide) rfl (fun ls hl => ?_)
          have hl : lv_has ls 3 [(2, .int (nI (k2 + 1))), (0, .ref a_t), (1, .ref a_y0)] := hl
          refine lv_goto (tgt := 34) hx hb d_Cutter_cut_119 (by decide) ?_
          have hP9 := hP.sub (ws' := [(a_t, .inr (3, [.ref a_lexemes, .int (nI (v_a_t_1 + 1)), .int (if ((cN f_y0_characters n_y0_length v_a_t_1)) = 10 then nI (v_a_t_1 + 1) else v_a_t_2), .int (if ((cN f_y0_characters n_y0_length v_a_t_1)) = 10 then 1 else v_a_t_3), .int v_a_t_4, .int v_a_t_5])), (a_lexemes_tokens_kinds, .inl (ka_lexemes_tokens_kinds, 90, .inl v_a_lexemes_tokens_kinds)), (a_lexemes_tokens_values, .inl (ka_lexemes_tokens_values, 90, .inr (.inl v_a_lexemes_tokens_values))), (a_lexemes_places, .inl (ka_lexemes_places, 90, .inl v_a_lexemes_places)), (a_lexemes_columns, .inl (ka_lexemes_columns, 90, .inl v_a_lexemes_columns)), (a_lexemes_lineFirsts, .inl (ka_lexemes_lineFirsts, 90, .inl v_a_lexemes_lineFirsts)), (a_y0, .inr (10, [.ref a_y0_characters, .int (nI n_y0_length)])), (a_y0_characters, .inl (ka_y0_characters, 240, .inl f_y0_characters)), (a_lexemes, .inr (5, [.ref a_lexemes_tokens, .ref a_lexemes_places, .ref a_lexemes_columns, .ref a_lexemes_lineFirsts])), (a_lexemes_tokens, .inr (11, [.ref a_lexemes_tokens_kinds, .ref a_lexemes_tokens_values, .int (nI v_a_lexemes_tokens_2)]))]) [9, 0, 1, 2, 3, 4, 7, 8, 5, 6] rfl
          have hD9 := hD.sub (ws' := [(a_t, .inr (3, [.ref a_lexemes, .int (nI (v_a_t_1 + 1)), .int (if ((cN f_y0_characters n_y0_length v_a_t_1)) = 10 then nI (v_a_t_1 + 1) else v_a_t_2), .int (if ((cN f_y0_characters n_y0_length v_a_t_1)) = 10 then 1 else v_a_t_3), .int v_a_t_4, .int v_a_t_5])), (a_lexemes_tokens_kinds, .inl (ka_lexemes_tokens_kinds, 90, .inl v_a_lexemes_tokens_kinds)), (a_lexemes_tokens_values, .inl (ka_lexemes_tokens_values, 90, .inr (.inl v_a_lexemes_tokens_values))), (a_lexemes_places, .inl (ka_lexemes_places, 90, .inl v_a_lexemes_places)), (a_lexemes_columns, .inl (ka_lexemes_columns, 90, .inl v_a_lexemes_columns)), (a_lexemes_lineFirsts, .inl (ka_lexemes_lineFirsts, 90, .inl v_a_lexemes_lineFirsts)), (a_y0, .inr (10, [.ref a_y0_characters, .int (nI n_y0_length)])), (a_y0_characters, .inl (ka_y0_characters, 240, .inl f_y0_characters)), (a_lexemes, .inr (5, [.ref a_lexemes_tokens, .ref a_lexemes_places, .ref a_lexemes_columns, .ref a_lexemes_lineFirsts])), (a_lexemes_tokens, .inr (11, [.ref a_lexemes_tokens_kinds, .ref a_lexemes_tokens_values, .int (nI v_a_lexemes_tokens_2)]))]) [9, 0, 1, 2, 3, 4, 7, 8, 5, 6] (by decide) rfl
          exact ih34 ((k2 + 1), v_a_lexemes_columns, v_a_lexemes_lineFirsts, v_a_lexemes_places, v_a_lexemes_tokens_2, v_a_lexemes_tokens_kinds, v_a_lexemes_tokens_values, (v_a_t_1 + 1), (if ((cN f_y0_characters n_y0_length v_a_t_1)) = 10 then nI (v_a_t_1 + 1) else v_a_t_2), (if ((cN f_y0_characters n_y0_length v_a_t_1)) = 10 then 1 else v_a_t_3), v_a_t_4, v_a_t_5, (nxS (stp (cN f_y0_characters n_y0_length) n_y0_length v_a_t_1 vL) vL)) (by show 240 - ((k2 + 1)) < 240 - k2; omega) _ _ _ ⟨by show ((k2 + 1)) ≤ 240; first | omega | assumption | exact Or.inl rfl | exact Or.inr rfl | decide, by show v_a_lexemes_tokens_2 ≤ 90; first | omega | assumption | exact Or.inl rfl | exact Or.inr rfl | decide, by show ((v_a_t_1 + 1)) ≤ 241; first | omega | assumption | exact Or.inl rfl | exact Or.inr rfl | decide, by show v_a_t_5 = 0 ∨ v_a_t_5 = 1; first | omega | assumption | exact Or.inl rfl | exact Or.inr rfl | decide, by show ((v_a_t_1 + 1)) ≤ n_y0_length; first | omega | assumption | exact Or.inl rfl | exact Or.inr rfl | decide, by show Rp v_a_lexemes_tokens_kinds v_a_lexemes_tokens_values v_a_lexemes_places v_a_lexemes_columns v_a_lexemes_lineFirsts ((nxS (stp (cN f_y0_characters n_y0_length) n_y0_length v_a_t_1 vL) vL)); exact (cu_step pL (by omega) g1 e57 (bl_q (bk_y e74) cR cS g2 g3 g4) g5).1, by show v_a_lexemes_tokens_2 = ((nxS (stp (cN f_y0_characters n_y0_length) n_y0_length v_a_t_1 vL) vL)).length; exact (cu_step pL (by omega) g1 e57 (bl_q (bk_y e74) cR cS g2 g3 g4) g5).2.1, by show v_a_t_4 = -1 → (cuE (cN f_y0_characters n_y0_length) n_y0_length 0 [] = cuE (cN f_y0_characters n_y0_length) n_y0_length ((v_a_t_1 + 1)) ((nxS (stp (cN f_y0_characters n_y0_length) n_y0_length v_a_t_1 vL) vL)) ∧ ((if ((cN f_y0_characters n_y0_length v_a_t_1)) = 10 then nI (v_a_t_1 + 1) else v_a_t_2)) = nI (lnO (cN f_y0_characters n_y0_length) ((v_a_t_1 + 1))) ∧ ((if ((cN f_y0_characters n_y0_length v_a_t_1)) = 10 then 1 else v_a_t_3)) = b01 (ldO ((nxS (stp (cN f_y0_characters n_y0_length) n_y0_length v_a_t_1 vL) vL)) (lnO (cN f_y0_characters n_y0_length) ((v_a_t_1 + 1)))) ∧ hdW ((nxS (stp (cN f_y0_characters n_y0_length) n_y0_length v_a_t_1 vL) vL)) ((v_a_t_1 + 1)) ∧ ((k2 + 1)) ≤ ((v_a_t_1 + 1))); exact (cu_step pL (by omega) g1 e57 (bl_q (bk_y e74) cR cS g2 g3 g4) g5).2.2.1, by show ¬ v_a_t_4 = -1 → ∃ p, p ≤ 240 ∧ cuE (cN f_y0_characters n_y0_length) n_y0_length 0 [] = (some p, ((nxS (stp (cN f_y0_characters n_y0_length) n_y0_length v_a_t_1 vL) vL))) ∧ v_a_t_4 = nI p; exact (cu_step pL (by omega) g1 e57 (bl_q (bk_y e74) cR cS g2 g3 g4) g5).2.2.2, by show v_a_t_5 = 0 ∨ ¬ v_a_t_4 = -1; exact Or.inl (cT.resolve_right (fun z9 => z9 e57)), hl, hP9, hD9, hS⟩
      · have e57 := h25
        refine lv_goto (tgt := 122) hx hb d_Cutter_cut_60 (by decide) ?_
        refine lv_aload_n hx hb d_Cutter_cut_122 rfl (lv_at hl 1 rfl) ?_
        refine va_get (D := (dC, dI)) (ci := 3) (v := .int v_a_t_4) (C := R_Cutter) (T := F_Cutter) (N := 6) hx hb hz zu_Cutter hown hK hP 0 rfl rfl 4 (by decide) (hz (.fieldLink R_Cutter 18 "LayoutFront$Cutter" "wrongPlace" "I") zm_75) (fun _ h9 => h9) rfl d_Cutter_cut_123 ?_
        have hP9 := hP.sub (ws' := [(a_t, .inr (3, [.ref a_lexemes, .int (nI v_a_t_1), .int v_a_t_2, .int v_a_t_3, .int v_a_t_4, .int v_a_t_5])), (a_lexemes, .inr (5, [.ref a_lexemes_tokens, .ref a_lexemes_places, .ref a_lexemes_columns, .ref a_lexemes_lineFirsts])), (a_lexemes_tokens, .inr (11, [.ref a_lexemes_tokens_kinds, .ref a_lexemes_tokens_values, .int (nI v_a_lexemes_tokens_2)])), (a_lexemes_tokens_kinds, .inl (ka_lexemes_tokens_kinds, 90, .inl v_a_lexemes_tokens_kinds)), (a_lexemes_tokens_values, .inl (ka_lexemes_tokens_values, 90, .inr (.inl v_a_lexemes_tokens_values))), (a_lexemes_places, .inl (ka_lexemes_places, 90, .inl v_a_lexemes_places)), (a_lexemes_columns, .inl (ka_lexemes_columns, 90, .inl v_a_lexemes_columns)), (a_lexemes_lineFirsts, .inl (ka_lexemes_lineFirsts, 90, .inl v_a_lexemes_lineFirsts)), (a_y0, .inr (10, [.ref a_y0_characters, .int (nI n_y0_length)])), (a_y0_characters, .inl (ka_y0_characters, 240, .inl f_y0_characters))]) [0, 7, 8, 1, 2, 3, 4, 5, 9, 6] rfl
        have hD9 := hD.sub (ws' := [(a_t, .inr (3, [.ref a_lexemes, .int (nI v_a_t_1), .int v_a_t_2, .int v_a_t_3, .int v_a_t_4, .int v_a_t_5])), (a_lexemes, .inr (5, [.ref a_lexemes_tokens, .ref a_lexemes_places, .ref a_lexemes_columns, .ref a_lexemes_lineFirsts])), (a_lexemes_tokens, .inr (11, [.ref a_lexemes_tokens_kinds, .ref a_lexemes_tokens_values, .int (nI v_a_lexemes_tokens_2)])), (a_lexemes_tokens_kinds, .inl (ka_lexemes_tokens_kinds, 90, .inl v_a_lexemes_tokens_kinds)), (a_lexemes_tokens_values, .inl (ka_lexemes_tokens_values, 90, .inr (.inl v_a_lexemes_tokens_values))), (a_lexemes_places, .inl (ka_lexemes_places, 90, .inl v_a_lexemes_places)), (a_lexemes_columns, .inl (ka_lexemes_columns, 90, .inl v_a_lexemes_columns)), (a_lexemes_lineFirsts, .inl (ka_lexemes_lineFirsts, 90, .inl v_a_lexemes_lineFirsts)), (a_y0, .inr (10, [.ref a_y0_characters, .int (nI n_y0_length)])), (a_y0_characters, .inl (ka_y0_characters, 240, .inl f_y0_characters))]) [0, 7, 8, 1, 2, 3, 4, 5, 9, 6] (by decide) rfl
        exact W.iret (v := v_a_t_4) hx hb hr (fun t ht hW => ⟨⟨v_a_t_4, (), rfl, (by exact (cu_fin cG cW (fun z9 => absurd z9 e57)).1), v_a_t_1, v_a_t_2, v_a_t_3, v_a_t_4, v_a_t_5, v_a_lexemes_tokens_2, v_a_lexemes_tokens_kinds, v_a_lexemes_tokens_values, v_a_lexemes_places, v_a_lexemes_columns, v_a_lexemes_lineFirsts, by first | omega | assumption | exact Or.inl rfl | exact Or.inr rfl | decide, by first | omega | assumption | exact Or.inl rfl | exact Or.inr rfl | decide, by first | omega | assumption | exact Or.inl rfl | exact Or.inr rfl | decide, by exact Eq.subst (motive := fun z => Rp _ _ _ _ _ z) (cu_fin cG cW (fun z9 => absurd z9 e57)).2 cR, by exact cS.trans (congrArg List.length (cu_fin cG cW (fun z9 => absurd z9 e57)).2), by exact (cu_fin cG cW (fun z9 => absurd z9 e57)).1, by exact cT.elim Or.inl (fun z9 => Or.inr (fun y9 => z9 ((cu_fin cG cW (fun z9 => absurd z9 e57)).1.trans y9))), by rw [ht]; exact hP9, va_K.moved hW.alike hK, hD9⟩, hS.F ht⟩) hS.2.2 d_Cutter_cut_126
/-! the reference's rows: how many brackets are open, how deep the tokens are, how many are lexemes -/
def isBr (x : Int32) : Bool := x == -5 || x == -6
def nbr (f : Nat → Int32) : Nat → Nat
  | 0 => 0
  | n + 1 => nbr f n + (if isBr (f n) then 1 else 0)
def opn (s : Int32) (v : Int64) : Bool := s == 3 && (v == 40 || v == 91)
def clo (s : Int32) (v : Int64) : Bool := s == 3 && (v == 41 || v == 93)
def dlt (s : Int32) (v : Int64) : Int := if opn s v then 1 else if clo s v then -1 else 0
def dep (s : Nat → Int32) (v : Nat → Int64) : Nat → Int
  | 0 => 0
  | n + 1 => dep s v n + dlt (s n) (v n)
def cn (s : Nat → Int32) : Nat → Nat
  | 0 => 0
  | n + 1 => cn s n + (if s n = 4 then 0 else 1)
theorem nbr_upd {f : Nat → Int32} {t : Nat} {x : Int32} : ∀ n, n ≤ t → nbr (upd f t x) n = nbr f n
  | 0, _ => rfl
  | n + 1, h => by
    have e : upd f t x n = f n := if_neg (by omega)
    rw [nbr, nbr, nbr_upd n (by omega), e]
theorem dep_upd {s : Nat → Int32} {v : Nat → Int64} {t : Nat} {x : Int32} {y : Int64} : ∀ n, n ≤ t → dep (upd s t x) (vp_updL v t y) n = dep s v n
  | 0, _ => rfl
  | n + 1, h => by
    have e : upd s t x n = s n := if_neg (by omega)
    have e2 : vp_updL v t y n = v n := if_neg (by omega)
    rw [dep, dep, dep_upd n (by omega), e, e2]
theorem cn_upd {s : Nat → Int32} {t : Nat} {x : Int32} : ∀ n, n ≤ t → cn (upd s t x) n = cn s n
  | 0, _ => rfl
  | n + 1, h => by
    have e : upd s t x n = s n := if_neg (by omega)
    rw [cn, cn, cn_upd n (by omega), e]
theorem upd_self {f : Nat → Int32} {t : Nat} {x : Int32} : upd f t x t = x := if_pos rfl
theorem updL_self {f : Nat → Int64} {t : Nat} {x : Int64} : vp_updL f t x t = x := if_pos rfl
theorem nbr_drop {f : Nat → Int32} {a : Nat} : ∀ b, a ≤ b → (∀ j, a ≤ j → j < b → f j = -1) → nbr f b = nbr f a
  | 0, h, _ => by rw [Nat.le_zero.mp h]
  | b + 1, h, q => by
    rcases Nat.lt_or_ge a (b + 1) with h1 | h1
    · rw [nbr, nbr_drop b (by omega) (fun j h2 h3 => q j h2 (by omega)), q b (by omega) (by omega)]
      rfl
    · rw [Nat.le_antisymm h h1]
theorem nbr_pop {f : Nat → Int32} {n : Nat} (h : 1 ≤ n) (hb : isBr (f (n - 1)) = false) : nbr f (n - 1) = nbr f n := by
  obtain ⟨k, rfl⟩ : ∃ k, n = k + 1 := ⟨n - 1, by omega⟩
  have e : k + 1 - 1 = k := by omega
  rw [e] at hb ⊢
  rw [nbr, hb]
  rfl
theorem nbr_popB {f : Nat → Int32} {n : Nat} (h : 1 ≤ n) (hb : isBr (f (n - 1)) = true) : nbr f (n - 1) + 1 = nbr f n := by
  obtain ⟨k, rfl⟩ : ∃ k, n = k + 1 := ⟨n - 1, by omega⟩
  have e : k + 1 - 1 = k := by omega
  rw [e] at hb ⊢
  rw [nbr, hb]
  rfl
/-- the reference's state while it lays: d is what the lexeme in hand will add to the depth -/
def Lv (row : Nat → Int32) (opened : Nat) (s : Nat → Int32) (v : Nat → Int64) (t : Nat) (d : Int) (c b w : Nat) : Prop :=
  (∀ p, p ≤ t → 0 ≤ dep s v p) ∧ dep s v t + d = (nbr row opened : Int) ∧ cn s t = c ∧ t + opened ≤ b ∧ opened ≤ w
theorem Lv.put {row : Nat → Int32} {o : Nat} {s : Nat → Int32} {v : Nat → Int64} {t : Nat} {d : Int} {c b w : Nat} {y : Int64} (h : Lv row o s v t d c b w) : Lv row o (upd s t 4) (vp_updL v t y) (t + 1) d c (b + 1) w := by
  obtain ⟨h1, h2, h3, h4, h5⟩ := h
  have e1 : dep (upd s t 4) (vp_updL v t y) (t + 1) = dep s v t := by
    rw [dep, dep_upd t (Nat.le_refl _), upd_self, updL_self]
    simp [dlt, opn, clo]
  refine ⟨fun p hp => ?_, by rw [e1]; exact h2, ?_, by omega, h5⟩
  · rcases Nat.lt_or_ge p (t + 1) with q | q
    · rw [dep_upd p (by omega)]; exact h1 p (by omega)
    · have : p = t + 1 := by omega
      rw [this, e1]; exact h1 t (Nat.le_refl _)
  · rw [cn, cn_upd t (Nat.le_refl _), upd_self, if_pos rfl]; exact h3
theorem Lv.lex {row : Nat → Int32} {o : Nat} {s : Nat → Int32} {v : Nat → Int64} {t : Nat} {c b w : Nat} {k : Int32} {y : Int64} (hk : ¬ k = 4) (h : Lv row o s v t (dlt k y) c b w) : Lv row o (upd s t k) (vp_updL v t y) (t + 1) 0 (c + 1) (b + 1) w := by
  obtain ⟨h1, h2, h3, h4, h5⟩ := h
  have e1 : dep (upd s t k) (vp_updL v t y) (t + 1) = dep s v t + dlt k y := by
    rw [dep, dep_upd t (Nat.le_refl _), upd_self, updL_self]
  refine ⟨fun p hp => ?_, by rw [e1, h2]; omega, ?_, by omega, h5⟩
  · rcases Nat.lt_or_ge p (t + 1) with q | q
    · rw [dep_upd p (by omega)]; exact h1 p (by omega)
    · have : p = t + 1 := by omega
      rw [this, e1, h2]; omega
  · rw [cn, cn_upd t (Nat.le_refl _), upd_self, if_neg hk, h3]
theorem Lv.pop {row : Nat → Int32} {o : Nat} {s : Nat → Int32} {v : Nat → Int64} {t : Nat} {d : Int} {c b w : Nat} (ho : 1 ≤ o) (hb : isBr (row (o - 1)) = false) (h : Lv row o s v t d c (b + 1) w) : Lv row (o - 1) s v t d c b w := by
  obtain ⟨h1, h2, h3, h4, h5⟩ := h
  exact ⟨h1, by rw [nbr_pop ho hb]; exact h2, h3, by omega, by omega⟩
theorem Lv.popB {row : Nat → Int32} {o : Nat} {s : Nat → Int32} {v : Nat → Int64} {t : Nat} {c b w : Nat} (ho : 1 ≤ o) (hb : isBr (row (o - 1)) = true) (h : Lv row o s v t 0 c (b + 1) w) : Lv row (o - 1) s v t (-1) c b w := by
  obtain ⟨h1, h2, h3, h4, h5⟩ := h
  have := nbr_popB ho hb
  exact ⟨h1, by omega, h3, by omega, by omega⟩
theorem Lv.push {row : Nat → Int32} {o : Nat} {s : Nat → Int32} {v : Nat → Int64} {t : Nat} {d : Int} {c b w : Nat} {x : Int32} (hx : isBr x = false) (h : Lv row o s v t d c b w) : Lv (upd row o x) (o + 1) s v t d c (b + 1) (w + 1) := by
  obtain ⟨h1, h2, h3, h4, h5⟩ := h
  refine ⟨h1, ?_, h3, by omega, by omega⟩
  rw [nbr, nbr_upd o (Nat.le_refl _), upd_self, hx]
  exact h2
theorem Lv.pushB {row : Nat → Int32} {o : Nat} {s : Nat → Int32} {v : Nat → Int64} {t : Nat} {c b w : Nat} {x : Int32} (hx : isBr x = true) (h : Lv row o s v t 0 c b w) : Lv (upd row o x) (o + 1) s v t 1 c (b + 1) (w + 1) := by
  obtain ⟨h1, h2, h3, h4, h5⟩ := h
  refine ⟨h1, ?_, h3, by omega, by omega⟩
  rw [nbr, nbr_upd o (Nat.le_refl _), upd_self, hx]
  simp
  omega
theorem Lv.drop {row : Nat → Int32} {o o' : Nat} {s : Nat → Int32} {v : Nat → Int64} {t : Nat} {d : Int} {c b w : Nat} (ho : o' ≤ o) (hd : ∀ j, o' ≤ j → j < o → row j = -1) (h : Lv row o s v t d c b w) : Lv row o' s v t d c b w := by
  obtain ⟨h1, h2, h3, h4, h5⟩ := h
  exact ⟨h1, by rw [← nbr_drop o ho hd]; exact h2, h3, by omega, by omega⟩
theorem Lv.le {row : Nat → Int32} {o : Nat} {s : Nat → Int32} {v : Nat → Int64} {t : Nat} {d : Int} {c b w b' w' : Nat} (hb : b ≤ b') (hw : w ≤ w') (h : Lv row o s v t d c b w) : Lv row o s v t d c b' w' := by
  obtain ⟨h1, h2, h3, h4, h5⟩ := h
  exact ⟨h1, h2, h3, by omega, by omega⟩
theorem opn_clo {s : Int32} {v : Int64} (h : opn s v = true) : clo s v = false := by
  simp only [opn, clo, Bool.and_eq_true, Bool.or_eq_true, beq_iff_eq, Bool.and_eq_false_iff, Bool.or_eq_false_iff] at *
  rcases h.2 with e | e <;> rw [e] <;> exact Or.inr (by decide)
theorem dep_le_cn {s : Nat → Int32} {v : Nat → Int64} : ∀ n, dep s v n ≤ (cn s n : Int)
  | 0 => Int.le_refl _
  | n + 1 => by
    have ih := dep_le_cn (s := s) (v := v) n
    rw [dep, cn]
    by_cases h : s n = 4
    · have e : dlt (s n) (v n) = 0 := by rw [h]; simp [dlt, opn, clo]
      rw [e, if_pos h]; omega
    · have e : dlt (s n) (v n) ≤ 1 := by unfold dlt; split; omega; split <;> omega
      rw [if_neg h]; omega
theorem cn_mono {s : Nat → Int32} : ∀ a b, a ≤ b → cn s a ≤ cn s b
  | a, 0, h => by rw [Nat.le_zero.mp h]; exact Nat.le_refl _
  | a, b + 1, h => by
    rcases Nat.lt_or_ge a (b + 1) with q | q
    · have := cn_mono (s := s) a b (by omega)
      rw [cn]; omega
    · rw [Nat.le_antisymm h q]; exact Nat.le_refl _
/-- a bracket at q whose partner has been found: it waits no more -/
def Mt (s : Nat → Int32) (v : Nat → Int64) (w : Nat → Int32) (n k q : Nat) : Prop := q < k ∧ opn (s q) (v q) = true ∧ ∀ j, j < n → w j ≠ nI q
def PTi (s : Nat → Int32) (v : Nat → Int64) (w P : Nat → Int32) (n k : Nat) : Prop :=
  (n : Int) = dep s v k ∧ (∀ j, j < n → ∃ q, q < k ∧ w j = nI q) ∧ (∀ q, Mt s v w n k q → ∃ p, q < p ∧ p < k ∧ clo (s p) (v p) = true ∧ P q = nI p) ∧ ∀ q q', Mt s v w n k q → Mt s v w n k q' → P q = P q' → q = q'
theorem PTi.start {s : Nat → Int32} {v : Nat → Int64} {w P : Nat → Int32} : PTi s v w P 0 0 := ⟨rfl, fun _ h => absurd h (by omega), fun q h => absurd h.1 (by omega), fun q _ h => absurd h.1 (by omega)⟩
theorem PTi.opening {s : Nat → Int32} {v : Nat → Int64} {w P : Nat → Int32} {n k : Nat} (hk : k ≤ 600) (ho : opn (s k) (v k) = true) (h : PTi s v w P n k) : PTi s v (upd w n (nI k)) P (n + 1) (k + 1) := by
  obtain ⟨h1, h2, h3, h4⟩ := h
  have key : ∀ q, Mt s v (upd w n (nI k)) (n + 1) (k + 1) q → Mt s v w n k q := by
    intro q hq
    have hne : q ≠ k := fun e => hq.2.2 n (by omega) (by rw [upd_self, e])
    refine ⟨by have := hq.1; omega, hq.2.1, fun j hj => ?_⟩
    have := hq.2.2 j (by omega)
    rwa [show upd w n (nI k) j = w j from if_neg (by omega)] at this
  refine ⟨?_, fun j hj => ?_, fun q hq => ?_, fun q q' hq hq' => h4 q q' (key q hq) (key q' hq')⟩
  · rw [dep, ← h1]; simp [dlt, ho]
  · rcases Nat.lt_or_ge j n with e | e
    · obtain ⟨q, g1, g2⟩ := h2 j e
      exact ⟨q, by omega, by rw [show upd w n (nI k) j = w j from if_neg (by omega)]; exact g2⟩
    · exact ⟨k, by omega, by rw [show j = n by omega, upd_self]⟩
  · obtain ⟨p, g1, g2, g3, g4⟩ := h3 q (key q hq)
    exact ⟨p, g1, by omega, g3, g4⟩
theorem PTi.closing {s : Nat → Int32} {v : Nat → Int64} {w P : Nat → Int32} {n k q0 : Nat} (hk : k ≤ 600) (hc : clo (s k) (v k) = true) (hn : 1 ≤ n) (hq0 : q0 ≤ 600) (hw : w (n - 1) = nI q0) (h : PTi s v w P n k) : PTi s v w (upd P q0 (nI k)) (n - 1) (k + 1) := by
  obtain ⟨h1, h2, h3, h4⟩ := h
  have hno : opn (s k) (v k) = false := by
    cases ho : opn (s k) (v k)
    · rfl
    · have := opn_clo ho; rw [hc] at this; cases this
  have hlt : q0 < k := by
    obtain ⟨q, g1, g2⟩ := h2 (n - 1) (by omega)
    have := (nI_eq (a := q0) (b := q) (by omega) (by omega)).mp (hw.symm.trans g2)
    omega
  have key : ∀ q, Mt s v w (n - 1) (k + 1) q → q ≠ q0 → Mt s v w n k q := by
    intro q hq hne
    have h5 : q ≠ k := fun e => by have := hq.2.1; rw [e, hno] at this; cases this
    have h6 := hq.1
    refine ⟨by omega, hq.2.1, fun j hj => ?_⟩
    rcases Nat.lt_or_ge j (n - 1) with e | e
    · exact hq.2.2 j e
    · rw [show j = n - 1 by omega, hw]
      exact fun e2 => hne ((nI_eq (a := q0) (b := q) (by omega) (by omega)).mp e2).symm
  have val : ∀ q, q ≠ q0 → upd P q0 (nI k) q = P q := fun q hq => if_neg hq
  refine ⟨?_, fun j hj => ?_, fun q hq => ?_, fun q q' hq hq' e => ?_⟩
  · rw [dep, ← h1]; simp [dlt, hno, hc]; omega
  · obtain ⟨q, g1, g2⟩ := h2 j (by omega)
    exact ⟨q, by omega, g2⟩
  · by_cases e : q = q0
    · exact ⟨k, by omega, by omega, hc, by rw [e, upd_self]⟩
    · obtain ⟨p, g1, g2, g3, g4⟩ := h3 q (key q hq e)
      exact ⟨p, g1, by omega, g3, by rw [val q e]; exact g4⟩
  · have small : ∀ z, Mt s v w (n - 1) (k + 1) z → z ≠ q0 → P z ≠ nI k := by
      intro z hz hne e9
      obtain ⟨p, g1, g2, g3, g4⟩ := h3 z (key z hz hne)
      have := (nI_eq (a := p) (b := k) (by omega) (by omega)).mp (g4.symm.trans e9)
      omega
    by_cases e1 : q = q0
    · by_cases e2 : q' = q0
      · rw [e1, e2]
      · rw [e1, upd_self, val q' e2] at e
        exact absurd e.symm (small q' hq' e2)
    · by_cases e2 : q' = q0
      · rw [e2, upd_self, val q e1] at e
        exact absurd e (small q hq e1)
      · rw [val q e1, val q' e2] at e
        exact h4 q q' (key q hq e1) (key q' hq' e2) e
theorem PTi.other {s : Nat → Int32} {v : Nat → Int64} {w P : Nat → Int32} {n k : Nat} (ho : opn (s k) (v k) = false) (hc : clo (s k) (v k) = false) (h : PTi s v w P n k) : PTi s v w P n (k + 1) := by
  obtain ⟨h1, h2, h3, h4⟩ := h
  have key : ∀ q, Mt s v w n (k + 1) q → Mt s v w n k q := by
    intro q hq
    have h5 : q ≠ k := fun e => by have := hq.2.1; rw [e, ho] at this; cases this
    have h6 := hq.1
    exact ⟨by omega, hq.2⟩
  refine ⟨?_, fun j hj => ?_, fun q hq => ?_, fun q q' hq hq' => h4 q q' (key q hq) (key q' hq')⟩
  · rw [dep, ← h1]; simp [dlt, ho, hc]
  · obtain ⟨q, g1, g2⟩ := h2 j hj
    exact ⟨q, by omega, g2⟩
  · obtain ⟨p, g1, g2, g3, g4⟩ := h3 q (key q hq)
    exact ⟨p, g1, by omega, g3, g4⟩
/-- every bracket has its partner, and no two have the same -/
def PT (s : Nat → Int32) (v : Nat → Int64) (P : Nat → Int32) (t : Nat) : Prop :=
  (∀ q, q < t → opn (s q) (v q) = true → ∃ p, q < p ∧ p < t ∧ clo (s p) (v p) = true ∧ P q = nI p) ∧ ∀ q q', q < t → q' < t → opn (s q) (v q) = true → opn (s q') (v q') = true → P q = P q' → q = q'
theorem PTi.done {s : Nat → Int32} {v : Nat → Int64} {w P : Nat → Int32} {n t : Nat} (h0 : dep s v t = 0) (h : PTi s v w P n t) : PT s v P t := by
  obtain ⟨h1, h2, h3, h4⟩ := h
  have hn : n = 0 := by omega
  subst hn
  have m : ∀ q, q < t → opn (s q) (v q) = true → Mt s v w 0 t q := fun q a b => ⟨a, b, fun j hj => absurd hj (by omega)⟩
  exact ⟨fun q a b => h3 q (m q a b), fun q q' a a' b b' => h4 q q' (m q a b) (m q' a' b')⟩
/-! items of a row: their extents, and which tokens have been passed -/
section EXT
variable {wd rs : Int64 → Bool} {s : Nat → Int32} {v : Nat → Int64} {P : Nat → Int32} {t : Nat}
def nmB (wd : Int64 → Bool) (s : Nat → Int32) (v : Nat → Int64) (t k : Nat) : Bool := decide (k < t) && (s k == 0 && !wd (v k))
def tkB (s : Nat → Int32) (v : Nat → Int64) (t k : Nat) : Bool := decide (k < t) && (s k == 3 && v k == 96)
def exN (wd rs : Int64 → Bool) (s : Nat → Int32) (v : Nat → Int64) (P : Nat → Int32) (t k : Nat) : Nat :=
  if t ≤ k then 0 else if nmB wd s v t k || s k == 1 then 1 else if opn (s k) (v k) then (P k).toNatClampNeg - k + 1 else if s k == 2 then (if rs (v k) then 0 else 1) else if tkB s v t k && (nmB wd s v t (k + 1) && tkB s v t (k + 2)) then 3 else 0
/-- a single token -/
def exA (s : Nat → Int32) (k n : Nat) : Prop := n = 1 ∧ (s k = 0 ∨ s k = 1 ∨ s k = 2)
def exB (s : Nat → Int32) (v : Nat → Int64) (P : Nat → Int32) (t k n : Nat) : Prop := opn (s k) (v k) = true ∧ ∃ p, k < p ∧ p < t ∧ clo (s p) (v p) = true ∧ P k = nI p ∧ n = p - k + 1
def exC (s : Nat → Int32) (v : Nat → Int64) (t k n : Nat) : Prop := n = 3 ∧ k + 2 < t ∧ s k = 3 ∧ v k = 96 ∧ s (k + 1) = 0 ∧ s (k + 2) = 3 ∧ v (k + 2) = 96
theorem exN_cases (ht : t ≤ 600) (hP : PT s v P t) {k : Nat} (h : 0 < exN wd rs s v P t k) : k < t ∧ (exA s k (exN wd rs s v P t k) ∨ exB s v P t k (exN wd rs s v P t k) ∨ exC s v t k (exN wd rs s v P t k)) := by
  unfold exN at h ⊢
  by_cases h1 : t ≤ k
  · rw [if_pos h1] at h; omega
  rw [if_neg h1] at h ⊢
  refine ⟨by omega, ?_⟩
  by_cases h2 : (nmB wd s v t k || s k == 1) = true
  · rw [if_pos h2]
    refine Or.inl ⟨rfl, ?_⟩
    simp only [nmB, Bool.or_eq_true, Bool.and_eq_true, beq_iff_eq] at h2
    rcases h2 with h2 | h2
    · exact Or.inl h2.2.1
    · exact Or.inr (Or.inl h2)
  rw [if_neg h2] at h ⊢
  by_cases h3 : opn (s k) (v k) = true
  · rw [if_pos h3] at h ⊢
    obtain ⟨p, p1, p2, p3, p4⟩ := hP.1 k (by omega) h3
    refine Or.inr (Or.inl ⟨h3, p, p1, p2, p3, p4, ?_⟩)
    rw [p4, nI_clamp (by omega)]
  rw [if_neg h3] at h ⊢
  by_cases h4 : (s k == 2) = true
  · rw [if_pos h4] at h ⊢
    by_cases h5 : rs (v k) = true
    · rw [if_pos h5] at h; omega
    · rw [if_neg h5]
      exact Or.inl ⟨rfl, Or.inr (Or.inr (by simpa using h4))⟩
  rw [if_neg h4] at h ⊢
  by_cases h6 : (tkB s v t k && (nmB wd s v t (k + 1) && tkB s v t (k + 2))) = true
  · rw [if_pos h6]
    simp only [tkB, nmB, Bool.and_eq_true, decide_eq_true_eq, beq_iff_eq] at h6
    exact Or.inr (Or.inr ⟨rfl, h6.2.2.1, h6.1.2.1, h6.1.2.2, h6.2.1.2.1, h6.2.2.2.1, h6.2.2.2.2⟩)
  · rw [if_neg h6] at h; omega
theorem clo_s {x : Int32} {y : Int64} (h : clo x y = true) : x = 3 ∧ y ≠ 96 := by
  simp only [clo, Bool.and_eq_true, Bool.or_eq_true, beq_iff_eq] at h
  refine ⟨h.1, ?_⟩
  rcases h.2 with e | e <;> rw [e] <;> decide
theorem opn_s {x : Int32} {y : Int64} (h : opn x y = true) : x = 3 ∧ y ≠ 96 := by
  simp only [opn, Bool.and_eq_true, Bool.or_eq_true, beq_iff_eq] at h
  refine ⟨h.1, ?_⟩
  rcases h.2 with e | e <;> rw [e] <;> decide
theorem exN_clo (ht : t ≤ 600) (hP : PT s v P t) {k : Nat} (h : clo (s k) (v k) = true) : exN wd rs s v P t k = 0 := by
  rcases Nat.eq_zero_or_pos (exN wd rs s v P t k) with e | e
  · exact e
  · exfalso
    obtain ⟨c1, c2⟩ := clo_s h
    obtain ⟨-, a | b | c⟩ := exN_cases ht hP e
    · rcases a.2 with q | q | q <;> rw [c1] at q <;> exact absurd q (by decide)
    · have := opn_clo b.1; rw [h] at this; cases this
    · exact c2 c.2.2.2.1
/-- the item before one is unique -/
theorem exN_one (ht : t ≤ 600) (hP : PT s v P t) {k k' : Nat} (h : 0 < exN wd rs s v P t k) (h' : 0 < exN wd rs s v P t k') (e : k' + exN wd rs s v P t k' = k + exN wd rs s v P t k) : k' = k := by
  obtain ⟨hk, c⟩ := exN_cases ht hP h
  obtain ⟨hk', c'⟩ := exN_cases ht hP h'
  have d30 : ¬ (3 : Int32) = 0 := by decide
  have d31 : ¬ (3 : Int32) = 1 := by decide
  have d32 : ¬ (3 : Int32) = 2 := by decide
  have sgl : ∀ x, s x = 3 → ¬ (s x = 0 ∨ s x = 1 ∨ s x = 2) := by
    intro x hx q; rw [hx] at q
    rcases q with q | q | q
    · exact d30 q
    · exact d31 q
    · exact d32 q
  rcases c with ⟨n1, a⟩ | ⟨o, p, p1, p2, p3, p4, p5⟩ | ⟨n3, c1, c2, c3, c4, c5, c6⟩ <;> rcases c' with ⟨n1', a'⟩ | ⟨o', p', p1', p2', p3', p4', p5'⟩ | ⟨n3', c1', c2', c3', c4', c5', c6'⟩
  · omega
  · have : p' = k := by omega
    rw [this] at p3'; exact absurd a (sgl k (clo_s p3').1)
  · have : k' + 2 = k := by omega
    rw [this] at c5'; exact absurd a (sgl k c5')
  · have : p = k' := by omega
    rw [this] at p3; exact absurd a' (sgl k' (clo_s p3).1)
  · have : p' = p := by omega
    exact hP.2 k' k hk' hk o' o (by rw [p4', p4, this])
  · have : k' + 2 = p := by omega
    rw [this] at c6'; exact absurd c6' (clo_s p3).2
  · have : k + 2 = k' := by omega
    rw [this] at c5; exact absurd a' (sgl k' c5)
  · have : k + 2 = p' := by omega
    rw [this] at c6; exact absurd c6 (clo_s p3').2
  · omega
/-- what holds while a row that begins at a is collected, before the item at k -/
def CI (wd rs : Int64 → Bool) (s : Nat → Int32) (v : Nat → Int64) (P : Nat → Int32) (t a k : Nat) (D : Nat → Prop) : Prop :=
  a ≤ k ∧ (∀ q, a ≤ q → 0 < exN wd rs s v P t q → D (q + exN wd rs s v P t q) → 0 < exN wd rs s v P t (q + exN wd rs s v P t q) → D q) ∧ (0 < exN wd rs s v P t k → ¬ D k) ∧
    (∀ q, a ≤ q → 0 < exN wd rs s v P t q → q + exN wd rs s v P t q = k → 0 < exN wd rs s v P t k → D q) ∧ (k = a ∨ D (k - 1)) ∧ (k = a ∨ k - 1 = a ∨ D (k - 2) ∨ ¬ s (k - 1) = 0)
theorem CI.step (ht : t ≤ 600) (hP : PT s v P t) {a k n : Nat} {D D' : Nat → Prop} (hn : exN wd rs s v P t k = n) (h0 : 0 < n) (hD : ∀ x, D' x ↔ D x ∨ x = k ∨ x = k + n - 1 ∨ (n = 3 ∧ tkB s v t k = true ∧ x = k + 1)) (h : CI wd rs s v P t a k D) : CI wd rs s v P t a (k + n) D' := by
  obtain ⟨g1, g2, g3, g4, g5, g6⟩ := h
  subst hn
  obtain ⟨hk, cs⟩ := exN_cases ht hP h0
  have mono : ∀ x, D x → D' x := fun x hx => (hD x).mpr (Or.inl hx)
  have tkk : exC s v t k (exN wd rs s v P t k) → tkB s v t k = true := by
    rintro ⟨-, -, c2, c3, -⟩
    simp [tkB, hk, c2, c3]
  refine ⟨by omega, fun q hq e1 e2 e3 => ?_, fun e1 e2 => ?_, fun q hq e1 e2 e3 => ?_, Or.inr ((hD _).mpr (Or.inr (Or.inr (Or.inl rfl)))), ?_⟩
  · rcases (hD _).mp e2 with e | e | e | ⟨n3, tk, e⟩
    · exact mono _ (g2 q hq e1 e e3)
    · exact mono _ (g4 q hq e1 e h0)
    · rcases cs with ⟨n1, a1⟩ | ⟨o, p, p1, p2, p3, p4, p5⟩ | ⟨n3, c1, c2, c3, c4, c5, c6⟩
      · exact mono _ (g4 q hq e1 (by omega) h0)
      · have : q + exN wd rs s v P t q = p := by omega
        rw [this, exN_clo ht hP p3] at e3; omega
      · obtain ⟨hk', c'⟩ := exN_cases ht hP e1
        rcases c' with ⟨n1', a'⟩ | ⟨o', p', p1', p2', p3', p4', p5'⟩ | ⟨n3', c1', c2', c3', c4', c5', c6'⟩
        · have : q = k + 1 := by omega
          exact (hD q).mpr (Or.inr (Or.inr (Or.inr ⟨n3, tkk ⟨n3, c1, c2, c3, c4, c5, c6⟩, this⟩)))
        · have : p' = k + 1 := by omega
          rw [this] at p3'
          have := (clo_s p3').1; rw [c4] at this; exact absurd this (by decide)
        · have : q + 2 = k + 1 := by omega
          rw [this, c4] at c5'; exact absurd c5' (by decide)
    · obtain ⟨hk', c'⟩ := exN_cases ht hP e1
      have tk9 : s k = 3 ∧ v k = 96 := by
        simp only [tkB, Bool.and_eq_true, decide_eq_true_eq, beq_iff_eq] at tk
        exact tk.2
      rcases c' with ⟨n1', a'⟩ | ⟨o', p', p1', p2', p3', p4', p5'⟩ | ⟨n3', c1', c2', c3', c4', c5', c6'⟩
      · have : q = k := by omega
        rw [this] at n1'; omega
      · have : p' = k := by omega
        rw [this] at p3'; exact absurd tk9.2 (clo_s p3').2
      · have hq2 : q = k - 2 := by omega
        have hk2 : k = q + 2 := by omega
        rcases g6 with z | z | z | z
        · omega
        · omega
        · rw [hq2]; exact mono _ z
        · rw [show k - 1 = q + 1 by omega] at z; exact absurd c4' z
  · rcases (hD _).mp e2 with e | e | e | ⟨n3, -, e⟩
    · exact g3 h0 (g2 k g1 h0 e e1)
    · omega
    · omega
    · omega
  · have := exN_one ht hP h0 e1 e2
    rw [this]; exact (hD k).mpr (Or.inr (Or.inl rfl))
  · rcases cs with ⟨n1, a1⟩ | ⟨o, p, p1, p2, p3, p4, p5⟩ | ⟨n3, c1, c2, c3, c4, c5, c6⟩
    · rcases g5 with z | z
      · exact Or.inr (Or.inl (by omega))
      · exact Or.inr (Or.inr (Or.inl (by rw [show k + exN wd rs s v P t k - 2 = k - 1 by omega]; exact mono _ z)))
    · refine Or.inr (Or.inr (Or.inr ?_))
      rw [show k + exN wd rs s v P t k - 1 = p by omega, (clo_s p3).1]; decide
    · refine Or.inr (Or.inr (Or.inr ?_))
      rw [show k + exN wd rs s v P t k - 1 = k + 2 by omega, c5]; decide
theorem exN_lex (ht : t ≤ 600) (hP : PT s v P t) {k : Nat} (h : 0 < exN wd rs s v P t k) : ¬ s k = 4 := by
  intro e
  obtain ⟨-, a | b | c⟩ := exN_cases ht hP h
  · rcases a.2 with q | q | q <;> rw [e] at q <;> exact absurd q (by decide)
  · have := (opn_s b.1).1; rw [e] at this; exact absurd this (by decide)
  · have := c.2.2.1; rw [e] at this; exact absurd this (by decide)
theorem exN_in (ht : t ≤ 600) (hP : PT s v P t) {k : Nat} (h : 0 < exN wd rs s v P t k) : k + exN wd rs s v P t k ≤ t := by
  obtain ⟨hk, a | b | c⟩ := exN_cases ht hP h
  · have := a.1; omega
  · obtain ⟨-, p, p1, p2, -, -, p5⟩ := b; omega
  · have := c.1; have := c.2.1; omega
end EXT
/-- lexemes that have not been passed -/
def und (s d : Nat → Int32) : Nat → Nat
  | 0 => 0
  | n + 1 => und s d n + (if s n = 4 then 0 else if d n = 0 then 1 else 0)
theorem und_le {s d d' : Nat → Int32} (h : ∀ x, ¬ d x = 0 → ¬ d' x = 0) : ∀ n, und s d' n ≤ und s d n
  | 0 => Nat.le_refl _
  | n + 1 => by
    have ih := und_le h (s := s) n
    rw [und, und]
    by_cases h4 : s n = 4
    · rw [if_pos h4, if_pos h4]; omega
    · rw [if_neg h4, if_neg h4]
      by_cases h5 : d n = 0
      · rw [if_pos h5]; split <;> omega
      · rw [if_neg h5, if_neg (h n h5)]; omega
theorem und_lt {s d d' : Nat → Int32} (h : ∀ x, ¬ d x = 0 → ¬ d' x = 0) {k : Nat} (h1 : ¬ s k = 4) (h2 : d k = 0) (h3 : ¬ d' k = 0) : ∀ n, k < n → und s d' n + 1 ≤ und s d n
  | 0, q => absurd q (by omega)
  | n + 1, q => by
    rw [und, und]
    rcases Nat.lt_or_ge k n with e | e
    · have ih := und_lt h h1 h2 h3 n e
      by_cases h4 : s n = 4
      · rw [if_pos h4, if_pos h4]; omega
      · rw [if_neg h4, if_neg h4]
        by_cases h5 : d n = 0
        · rw [if_pos h5]; split <;> omega
        · rw [if_neg h5, if_neg (h n h5)]; omega
    · have : n = k := by omega
      subst this
      have := und_le h (s := s) n
      rw [if_neg h1, if_neg h1, if_pos h2, if_neg h3]; omega
theorem und_cn {s d : Nat → Int32} : ∀ n, und s d n ≤ cn s n
  | 0 => Nat.le_refl _
  | n + 1 => by
    have ih := und_cn (s := s) (d := d) n
    rw [und, cn]
    split
    · omega
    · split <;> omega
/-- how many brackets the counts ask for -/
def tB (f : Nat → Int32) : Nat → Nat
  | 0 => 0
  | n + 1 => tB f n + (f n).toNatClampNeg
theorem inc_le (a : Int32) : (a + 1).toNatClampNeg ≤ a.toNatClampNeg + 1 := by
  have h1 := Int32.toInt_lt a
  have h2 := Int32.le_toInt a
  have e : ∀ z : Int32, z.toNatClampNeg = z.toInt.toNat := fun z => rfl
  rw [e, e, Int32.toInt_add, show (1 : Int32).toInt = 1 by decide]
  by_cases q : a.toInt + 1 < 2147483648
  · rw [Int.bmod_eq_of_le (by omega) (by omega)]; omega
  · have : a.toInt + 1 = 2147483648 := by omega
    rw [this]
    have e9 : (Int.bmod 2147483648 (2 ^ 32)).toNat = 0 := by decide
    omega
theorem tB_upd {f : Nat → Int32} {x : Nat} : ∀ n, tB (upd f x (f x + 1)) n ≤ tB f n + 1 ∧ (n ≤ x → tB (upd f x (f x + 1)) n = tB f n)
  | 0 => ⟨by simp [tB], fun _ => rfl⟩
  | n + 1 => by
    obtain ⟨i1, i2⟩ := tB_upd (f := f) (x := x) n
    rw [tB, tB]
    by_cases h : n = x
    · have e : upd f x (f x + 1) n = f x + 1 := if_pos h
      rw [e, i2 (by omega), h]
      have := inc_le (f x)
      exact ⟨by omega, fun q => by omega⟩
    · have e : upd f x (f x + 1) n = f n := if_neg h
      rw [e]
      exact ⟨by omega, fun q => by rw [i2 (by omega)]⟩
theorem tB_upd0 {f : Nat → Int32} {x : Nat} : ∀ n, n ≤ x → ∀ y, tB (upd f x y) n = tB f n
  | 0, _, _ => rfl
  | n + 1, h, y => by
    have e : upd f x y n = f n := if_neg (by omega)
    rw [tB, tB, tB_upd0 n (by omega) y, e]
/-! a row that is put together: enough operands wait -/
def bw (what waits : Nat → Int32) : Nat → Nat
  | 0 => 0
  | n + 1 => bw what waits n + (if what (waits n).toNatClampNeg = 1 then 1 else 0)
theorem bw_upd {what waits : Nat → Int32} {t : Nat} {x : Int32} : ∀ n, n ≤ t → bw what (upd waits t x) n = bw what waits n
  | 0, _ => rfl
  | n + 1, h => by
    have e : upd waits t x n = waits n := if_neg (by omega)
    rw [bw, bw, bw_upd n (by omega), e]
/-- i items have been taken, o operands and w operations wait, p pairs have been made; e: the last item is an operand -/
def PV (what waits : Nat → Int32) (o w p i e : Nat) : Prop := bw what waits w + e ≤ o ∧ o ≤ i ∧ p + w ≤ i
theorem PV.start {what waits : Nat → Int32} : PV what waits 0 0 0 0 0 := ⟨Nat.le_refl _, Nat.le_refl _, Nat.le_refl _⟩
theorem PV.operand {what waits : Nat → Int32} {o w p i e : Nat} (h : PV what waits o w p i e) : PV what waits (o + 1) w p (i + 1) 1 := by
  obtain ⟨h1, h2, h3⟩ := h
  exact ⟨by omega, by omega, by omega⟩
theorem PV.wait1 {what waits : Nat → Int32} {o w p i q : Nat} (hq : q ≤ 600) (h : PV what waits o w p i 1) : PV what (upd waits w (nI q)) o (w + 1) p (i + 1) 0 := by
  obtain ⟨h1, h2, h3⟩ := h
  refine ⟨?_, by omega, by omega⟩
  rw [bw, bw_upd w (Nat.le_refl _)]
  split <;> omega
theorem PV.wait2 {what waits : Nat → Int32} {o w p i e q : Nat} (hq : q ≤ 600) (h2' : what q = 2) (h : PV what waits o w p i e) : PV what (upd waits w (nI q)) o (w + 1) p (i + 1) 0 := by
  obtain ⟨h1, h2, h3⟩ := h
  refine ⟨?_, by omega, by omega⟩
  rw [bw, bw_upd w (Nat.le_refl _), show upd waits w (nI q) w = nI q from if_pos rfl, nI_clamp (by omega), h2', if_neg (by decide)]
  omega
theorem PV.minus {what waits : Nat → Int32} {o w p i q : Nat} (hq : q ≤ 600) (hw : 1 ≤ w) (hwq : waits (w - 1) = nI q) (h2' : what q = 2) (h : PV what waits o w p i 1) : 1 ≤ o ∧ PV what waits o (w - 1) (p + 1) i 1 := by
  obtain ⟨h1, h2, h3⟩ := h
  refine ⟨by omega, ?_, by omega, by omega⟩
  obtain ⟨k, rfl⟩ : ∃ k, w = k + 1 := ⟨w - 1, by omega⟩
  rw [bw] at h1
  show bw what waits k + 1 ≤ o
  omega
theorem PV.binary {what waits : Nat → Int32} {o w p i q : Nat} (hq : q ≤ 600) (hw : 1 ≤ w) (hwq : waits (w - 1) = nI q) (h2' : what q = 1) (h : PV what waits o w p i 1) : 2 ≤ o ∧ PV what waits (o - 1) (w - 1) (p + 1) i 1 := by
  obtain ⟨h1, h2, h3⟩ := h
  obtain ⟨k, rfl⟩ : ∃ k, w = k + 1 := ⟨w - 1, by omega⟩
  rw [show k + 1 - 1 = k by omega] at hwq
  rw [bw, hwq, nI_clamp (by omega), h2', if_pos rfl] at h1
  refine ⟨by omega, ?_, by omega, by omega⟩
  show bw what waits k + 1 ≤ o - 1
  omega
/-- the marks of a row after it has been found regular: an operation of two sides stands behind an operand, the last item is one -/
def RG (what : Nat → Int32) (n : Nat) : Prop := (∀ i, i < n → what i = 0 ∨ what i = 1 ∨ what i = 2) ∧ (∀ i, i < n → what i = 1 → 1 ≤ i ∧ what (i - 1) = 0) ∧ 1 ≤ n ∧ what (n - 1) = 0
/-! how the reference's state moves while it lays -/
abbrev lst : Type := (Nat → Int32) × Nat × (Nat → Int32) × (Nat → Int64) × (Nat → Int32) × (Nat → Int32) × (Nat → Int32) × Nat
def Zr (b h d : Nat → Int32) (t : Nat) : Prop := ∀ x, x < t → b x = 0 ∧ h x = 0 ∧ d x = 0
/-- bounds alone -/
def LB (x y : lst) (k j : Int) : Prop := cn y.2.2.1 y.2.2.2.2.2.2.2 = cn x.2.2.1 x.2.2.2.2.2.2.2 ∧ ((y.2.2.2.2.2.2.2 : Int) + y.2.1 ≤ x.2.2.2.2.2.2.2 + x.2.1 + k) ∧ ((y.2.1 : Int) ≤ x.2.1 + j)
def LD (x y : lst) (e : Int) : Prop := ((∀ p, p ≤ x.2.2.2.2.2.2.2 → 0 ≤ dep x.2.2.1 x.2.2.2.1 p) → ∀ p, p ≤ y.2.2.2.2.2.2.2 → 0 ≤ dep y.2.2.1 y.2.2.2.1 p) ∧
  dep y.2.2.1 y.2.2.2.1 y.2.2.2.2.2.2.2 + e - nbr y.1 y.2.1 = dep x.2.2.1 x.2.2.2.1 x.2.2.2.2.2.2.2 - nbr x.1 x.2.1 ∧ (Zr x.2.2.2.2.1 x.2.2.2.2.2.1 x.2.2.2.2.2.2.1 x.2.2.2.2.2.2.2 → Zr y.2.2.2.2.1 y.2.2.2.2.2.1 y.2.2.2.2.2.2.1 y.2.2.2.2.2.2.2)
theorem LB.refl (x : lst) : LB x x 0 0 := ⟨rfl, by omega, by omega⟩
theorem LD.refl (x : lst) : LD x x 0 := ⟨fun h => h, by omega, fun h => h⟩
theorem LB.trans {x y z : lst} {k j k' j' : Int} (h : LB x y k j) (h' : LB y z k' j') : LB x z (k + k') (j + j') := ⟨h'.1.trans h.1, by have := h.2.1; have := h'.2.1; omega, by have := h.2.2; have := h'.2.2; omega⟩
theorem LB.le {x y : lst} {k j k' j' : Int} (h : LB x y k j) (hk : k ≤ k') (hj : j ≤ j') : LB x y k' j' := ⟨h.1, by have := h.2.1; omega, by have := h.2.2; omega⟩
theorem LD.trans {x y z : lst} {e e' : Int} (h : LD x y e) (h' : LD y z e') : LD x z (e + e') := ⟨fun q => h'.1 (h.1 q), by have := h.2.1; have := h'.2.1; omega, fun q => h'.2.2 (h.2.2 q)⟩
section LAY
variable {row s b h d : Nat → Int32} {v : Nat → Int64} {o t : Nat}
theorem LB.put {y : Int64} : LB (row, o, s, v, b, h, d, t) (row, o, upd s t 4, vp_updL v t y, upd b t 0, upd h t 0, upd d t 0, t + 1) 1 0 := by
  refine ⟨?_, by show ((t + 1 : Nat) : Int) + o ≤ t + o + 1; omega, by show (o : Int) ≤ o + 0; omega⟩
  show cn (upd s t 4) (t + 1) = cn s t
  rw [cn, cn_upd t (Nat.le_refl _), upd_self, if_pos rfl]; rfl
theorem LD.put {y : Int64} : LD (row, o, s, v, b, h, d, t) (row, o, upd s t 4, vp_updL v t y, upd b t 0, upd h t 0, upd d t 0, t + 1) 0 := by
  have e1 : dep (upd s t 4) (vp_updL v t y) (t + 1) = dep s v t := by
    rw [dep, dep_upd t (Nat.le_refl _), upd_self, updL_self]
    simp [dlt, opn, clo]
  refine ⟨fun h1 p hp => ?_, ?_, fun z x hx => ?_⟩
  · have hp : p ≤ t + 1 := hp
    show 0 ≤ dep (upd s t 4) (vp_updL v t y) p
    rcases Nat.lt_or_ge p (t + 1) with q | q
    · rw [dep_upd p (by omega)]; exact h1 p (by show p ≤ t; omega)
    · rw [show p = t + 1 by omega, e1]; exact h1 t (Nat.le_refl _)
  · show dep (upd s t 4) (vp_updL v t y) (t + 1) + 0 - nbr row o = dep s v t - nbr row o
    rw [e1]; omega
  · have hx : x < t + 1 := hx
    show upd b t 0 x = 0 ∧ upd h t 0 x = 0 ∧ upd d t 0 x = 0
    unfold upd
    by_cases q : x = t
    · simp [q]
    · simp only [q, if_false]; exact z x (by show x < t; omega)
theorem LB.pop (ho : 1 ≤ o) : LB (row, o, s, v, b, h, d, t) (row, o - 1, s, v, b, h, d, t) (-1) (-1) := ⟨rfl, by show (t : Int) + (o - 1 : Nat) ≤ t + o + -1; omega, by show ((o - 1 : Nat) : Int) ≤ o + -1; omega⟩
theorem LD.pop (ho : 1 ≤ o) (hb : isBr (row (o - 1)) = false) : LD (row, o, s, v, b, h, d, t) (row, o - 1, s, v, b, h, d, t) 0 := by
  refine ⟨fun h => h, ?_, fun h => h⟩
  show dep s v t + 0 - nbr row (o - 1) = dep s v t - nbr row o
  rw [nbr_pop ho hb]; omega
theorem LD.popB (ho : 1 ≤ o) (hb : isBr (row (o - 1)) = true) : LD (row, o, s, v, b, h, d, t) (row, o - 1, s, v, b, h, d, t) (-1) := by
  refine ⟨fun h => h, ?_, fun h => h⟩
  have := nbr_popB ho hb
  show dep s v t + -1 - nbr row (o - 1) = dep s v t - nbr row o
  omega
theorem LB.push {x : Int32} : LB (row, o, s, v, b, h, d, t) (upd row o x, o + 1, s, v, b, h, d, t) 1 1 := ⟨rfl, by show (t : Int) + (o + 1 : Nat) ≤ t + o + 1; omega, by show ((o + 1 : Nat) : Int) ≤ o + 1; omega⟩
theorem LD.push {x : Int32} (hx : isBr x = false) : LD (row, o, s, v, b, h, d, t) (upd row o x, o + 1, s, v, b, h, d, t) 0 := by
  refine ⟨fun h => h, ?_, fun h => h⟩
  show dep s v t + 0 - nbr (upd row o x) (o + 1) = dep s v t - nbr row o
  rw [nbr, nbr_upd o (Nat.le_refl _), upd_self, hx]
  simp
theorem LD.pushB {x : Int32} (hx : isBr x = true) : LD (row, o, s, v, b, h, d, t) (upd row o x, o + 1, s, v, b, h, d, t) 1 := by
  refine ⟨fun h => h, ?_, fun h => h⟩
  show dep s v t + 1 - nbr (upd row o x) (o + 1) = dep s v t - nbr row o
  rw [nbr, nbr_upd o (Nat.le_refl _), upd_self, hx]
  simp
  omega
/-- the top of what is open -/
def tp (row : Nat → Int32) (o : Nat) : Int32 := if 0 < o then row (o - 1) else -11
def blw (row : Nat → Int32) : Nat → Int32
  | 0 => -11
  | n + 1 => if row n = -1 then blw row n else row n
def drp (row : Nat → Int32) : Nat → Nat
  | 0 => 0
  | n + 1 => if row n = -1 then drp row n else n + 1
theorem tp_pos (hn : ¬ tp row o = -11) : 1 ≤ o ∧ tp row o = row (o - 1) := by
  unfold tp at hn ⊢
  by_cases q : 0 < o
  · rw [if_pos q]; exact ⟨q, rfl⟩
  · rw [if_neg q] at hn; exact absurd rfl hn
theorem blw_step (ho : 1 ≤ o) (hr : row (o - 1) = -1) : blw row (o - 1) = blw row o := by
  obtain ⟨k, rfl⟩ : ∃ k, o = k + 1 := ⟨o - 1, by omega⟩
  rw [show k + 1 - 1 = k by omega] at hr ⊢
  rw [blw, if_pos hr]
theorem blw_at (ho : 1 ≤ o) (hr : ¬ row (o - 1) = -1) : blw row o = row (o - 1) := by
  obtain ⟨k, rfl⟩ : ∃ k, o = k + 1 := ⟨o - 1, by omega⟩
  rw [show k + 1 - 1 = k by omega] at hr ⊢
  rw [blw, if_neg hr]
theorem drp_step (ho : 1 ≤ o) (hr : row (o - 1) = -1) : drp row (o - 1) = drp row o := by
  obtain ⟨k, rfl⟩ : ∃ k, o = k + 1 := ⟨o - 1, by omega⟩
  rw [show k + 1 - 1 = k by omega] at hr ⊢
  rw [drp, if_pos hr]
theorem drp_at (hr : ¬ tp row o = -1) : drp row o = o := by
  cases o with
  | zero => rfl
  | succ k =>
    unfold tp at hr
    rw [if_pos (by omega), show k + 1 - 1 = k by omega] at hr
    rw [drp, if_neg hr]
theorem drp_le : ∀ o, drp row o ≤ o
  | 0 => Nat.le_refl _
  | n + 1 => by
    rw [drp]; split
    · have := drp_le n; omega
    · omega
theorem drp_lets : ∀ o j, drp row o ≤ j → j < o → row j = -1
  | 0, j, _, h => absurd h (by omega)
  | n + 1, j, h1, h2 => by
    rw [drp] at h1
    by_cases q : row n = -1
    · rw [if_pos q] at h1
      rcases Nat.lt_or_ge j n with e | e
      · exact drp_lets n j h1 e
      · rw [show j = n by omega]; exact q
    · rw [if_neg q] at h1; omega
theorem blw_drp : ∀ o, blw row o = tp row (drp row o)
  | 0 => rfl
  | n + 1 => by
    rw [blw, drp]
    by_cases q : row n = -1
    · rw [if_pos q, if_pos q]; exact blw_drp n
    · rw [if_neg q, if_neg q, tp, if_pos (by omega), show n + 1 - 1 = n by omega]
theorem LB.drop : LB (row, o, s, v, b, h, d, t) (row, drp row o, s, v, b, h, d, t) 0 0 := by
  have := drp_le (row := row) o
  exact ⟨rfl, by show (t : Int) + (drp row o : Nat) ≤ t + o + 0; omega, by show ((drp row o : Nat) : Int) ≤ o + 0; omega⟩
theorem LD.drop : LD (row, o, s, v, b, h, d, t) (row, drp row o, s, v, b, h, d, t) 0 := by
  refine ⟨fun h => h, ?_, fun h => h⟩
  show dep s v t + 0 - nbr row (drp row o) = dep s v t - nbr row o
  rw [nbr_drop o (drp_le o) (drp_lets o)]; omega
end LAY
theorem LD.trans0 {x y z : lst} {e : Int} (h : LD x y 0) (h' : LD y z e) : LD x z e := by
  have := h.trans h'
  rwa [Int.zero_add] at this
theorem cn_put {s : Nat → Int32} {t : Nat} : cn (upd s t 4) (t + 1) = cn s t := by
  rw [cn, cn_upd t (Nat.le_refl _), upd_self, if_pos rfl]; rfl
theorem cn_lex {s : Nat → Int32} {t : Nat} {k : Int32} (hk : ¬ k = 4) : cn (upd s t k) (t + 1) = cn s t + 1 := by
  rw [cn, cn_upd t (Nat.le_refl _), upd_self, if_neg hk]
theorem br_pos {x : Int32} (h : 0 < x) : isBr x = false := by
  have h1 : ¬ x = -5 := fun e => by rw [e] at h; exact absurd h (by decide)
  have h2 : ¬ x = -6 := fun e => by rw [e] at h; exact absurd h (by decide)
  simp [isBr, h1, h2]
theorem tp_gt {row : Nat → Int32} {o : Nat} (h : 0 < tp row o) : 1 ≤ o ∧ isBr (row (o - 1)) = false := by
  have h1 : ¬ tp row o = -11 := fun e => by rw [e] at h; exact absurd h (by decide)
  obtain ⟨p1, p2⟩ := tp_pos h1
  rw [p2] at h
  exact ⟨p1, br_pos h⟩
theorem tp_is {row : Nat → Int32} {o : Nat} {x : Int32} (hx : ¬ x = -11) (h : tp row o = x) : 1 ≤ o ∧ row (o - 1) = x := by
  obtain ⟨p1, p2⟩ := tp_pos (row := row) (o := o) (by rw [h]; exact hx)
  exact ⟨p1, p2.symm.trans h⟩
theorem tp_let {row : Nat → Int32} {o : Nat} (h : tp row o = -1) : 1 ≤ o ∧ isBr (row (o - 1)) = false := by
  obtain ⟨p1, p2⟩ := tp_is (by decide) h
  exact ⟨p1, by rw [p2]; rfl⟩
theorem mk_gt {row : Nat → Int32} {o n : Nat} (hn : n ≤ 600) (h : ¬ blw row o ≤ nI n) : 1 ≤ drp row o ∧ isBr (row (drp row o - 1)) = false := by
  rw [blw_drp] at h
  refine tp_gt ?_
  have h1 := Int32.not_le.mp h
  rw [Int32.lt_iff_toInt_lt, nI_toInt (by omega)] at h1
  rw [Int32.lt_iff_toInt_lt]
  have h2 : (0 : Int32).toInt = 0 := by decide
  omega
theorem wr_no {z g : Int32} {P : Prop} (h1 : z = 0 → g = 1) (h2 : ¬ z = 0 → g = z) (h : g = 0) : P := by
  by_cases q : z = 0
  · rw [h1 q] at h; exact absurd h (by decide)
  · exact absurd ((h2 q).symm.trans h) q
theorem LD.cast {x y : lst} {e e' : Int} (he : e = e') (h : LD x y e) : LD x y e' := he ▸ h
section LAZ
variable {row s b h d : Nat → Int32} {v : Nat → Int64} {o t : Nat} {x : lst}
theorem LD.clos {y0 : Int32} (hL : LD x (row, o, s, v, b, h, d, t) 0) (ho : 1 ≤ o) (hr : row (o - 1) = y0) : LD x (row, o - 1, s, v, b, h, d, t) (if isBr y0 = true then -1 else 0) := by
  cases hb : isBr y0
  · exact LD.trans0 hL (LD.pop ho (by rw [hr]; exact hb))
  · exact LD.trans0 hL (LD.popB ho (by rw [hr]; exact hb))
theorem LD.clos2 {y0 y1 : Int32} (hL : LD x (row, o, s, v, b, h, d, t) 0) (ho : 1 ≤ o) (hr : row (o - 1) = y0) (h1 : isBr y1 = false) : LD x (upd row (o - 1) y1, o - 1 + 1, s, v, b, h, d, t) (if isBr y0 = true then -1 else 0) := by
  have := (LD.clos hL ho hr).trans (LD.push h1)
  rwa [Int.add_zero] at this
theorem dlt_no {y : Int64} (h1 : ¬ y = 40) (h2 : ¬ y = 91) (h3 : ¬ y = 41) (h4 : ¬ y = 93) : dlt 3 y = 0 := by
  simp [dlt, opn, clo, h1, h2, h3, h4]
theorem dlt_ns {k : Int32} {y : Int64} (hk : ¬ k = 3) : dlt k y = 0 := by
  simp [dlt, opn, clo, hk]
theorem br_nat {n : Nat} (hn : n ≤ 600) : isBr (nI n) = false := by
  have h1 : ¬ nI n = -5 := fun e => by
    have := congrArg Int32.toInt e
    rw [nI_toInt (by omega), show (-5 : Int32).toInt = -5 by decide] at this
    omega
  have h2 : ¬ nI n = -6 := fun e => by
    have := congrArg Int32.toInt e
    rw [nI_toInt (by omega), show (-6 : Int32).toInt = -6 by decide] at this
    omega
  simp [isBr, h1, h2]
end LAZ
/-- what is true of the laid tokens while nothing is wrong -/
def LI (x : lst) : Prop := (∀ p, p ≤ x.2.2.2.2.2.2.2 → 0 ≤ dep x.2.2.1 x.2.2.2.1 p) ∧ dep x.2.2.1 x.2.2.2.1 x.2.2.2.2.2.2.2 = nbr x.1 x.2.1 ∧ Zr x.2.2.2.2.1 x.2.2.2.2.2.1 x.2.2.2.2.2.2.1 x.2.2.2.2.2.2.2
theorem LI.zero {row s b h d : Nat → Int32} {v : Nat → Int64} : LI (row, 0, s, v, b, h, d, 0) := ⟨fun p hp => by
  have hp : p ≤ 0 := hp
  rw [Nat.le_zero.mp hp]; exact Int.le_refl _, rfl, fun x hx => absurd hx (Nat.not_lt_zero x)⟩
theorem LI.move {x y : lst} (h : LI x) (hL : LD x y 0) : LI y := ⟨hL.1 h.1, by have := hL.2.1; have := h.2.1; omega, hL.2.2 h.2.2⟩
theorem LI.lex {x : lst} {row s b h d : Nat → Int32} {v : Nat → Int64} {o t : Nat} {k : Int32} {y : Int64} (h0 : LI x) (hL : LD x (row, o, s, v, b, h, d, t) (dlt k y)) : LI (row, o, upd s t k, vp_updL v t y, upd b t 0, upd h t 0, upd d t 0, t + 1) := by
  have e1 : dep (upd s t k) (vp_updL v t y) (t + 1) = dep s v t + dlt k y := by
    rw [dep, dep_upd t (Nat.le_refl _), upd_self, updL_self]
  have g1 : ∀ p, p ≤ t → 0 ≤ dep s v p := hL.1 h0.1
  have g2 : dep s v t + dlt k y - nbr row o = dep x.2.2.1 x.2.2.2.1 x.2.2.2.2.2.2.2 - nbr x.1 x.2.1 := hL.2.1
  have g3 := h0.2.1
  have g4 : Zr b h d t := hL.2.2 h0.2.2
  refine ⟨fun p hp => ?_, ?_, fun z hz => ?_⟩
  · have hp : p ≤ t + 1 := hp
    show 0 ≤ dep (upd s t k) (vp_updL v t y) p
    rcases Nat.lt_or_ge p (t + 1) with q | q
    · rw [dep_upd p (by omega)]; exact g1 p (by omega)
    · rw [show p = t + 1 by omega, e1]; omega
  · show dep (upd s t k) (vp_updL v t y) (t + 1) = nbr row o
    rw [e1]; omega
  · have hz : z < t + 1 := hz
    show upd b t 0 z = 0 ∧ upd h t 0 z = 0 ∧ upd d t 0 z = 0
    unfold upd
    by_cases q : z = t
    · simp [q]
    · simp only [q, if_false]; exact g4 z (by omega)
/-- the laid tokens of a text that is right -/
def LZ (s : Nat → Int32) (v : Nat → Int64) (b h d : Nat → Int32) (t : Nat) : Prop := (∀ p, p ≤ t → 0 ≤ dep s v p) ∧ dep s v t = 0 ∧ Zr b h d t ∧ cn s t ≤ 90
theorem LZ.of {row s b h d : Nat → Int32} {v : Nat → Int64} {o t : Nat} (hL : LI (row, o, s, v, b, h, d, t)) (ho : o = 0) (hc : cn s t ≤ 90) : LZ s v b h d t := by
  obtain ⟨h1, h2, h3⟩ := hL
  subst ho
  exact ⟨h1, h2, h3, hc⟩
/-! p6: what is open and what is laid, as lists (the latest first) -/
abbrev Tk := Int32 × Int64
abbrev Lp := List Int32 × List Tk
abbrev Ly := List Int32 × List Tk × Int32
def i6 (x : Int32) : Int64 := x.toInt64
def stk (row : Nat → Int32) : Nat → List Int32
  | 0 => []
  | n + 1 => row n :: stk row n
def tks (s : Nat → Int32) (v : Nat → Int64) : Nat → List Tk
  | 0 => []
  | n + 1 => (s n, v n) :: tks s v n
theorem stk_upd {row : Nat → Int32} {t : Nat} {x : Int32} : ∀ n, n ≤ t → stk (upd row t x) n = stk row n
  | 0, _ => rfl
  | n + 1, h => by
    have e : upd row t x n = row n := if_neg (by omega)
    rw [stk, stk, stk_upd n (by omega), e]
theorem stk_push {row : Nat → Int32} {n : Nat} {x : Int32} : stk (upd row n x) (n + 1) = x :: stk row n := by
  rw [stk, stk_upd n (Nat.le_refl _), show upd row n x n = x from if_pos rfl]
theorem stk_pop {row : Nat → Int32} {n : Nat} (h : 1 ≤ n) : stk row n = row (n - 1) :: stk row (n - 1) := by
  obtain ⟨k, rfl⟩ : ∃ k, n = k + 1 := ⟨n - 1, by omega⟩
  rw [show k + 1 - 1 = k by omega, stk]
theorem stk_len {row : Nat → Int32} : ∀ n, (stk row n).length = n
  | 0 => rfl
  | n + 1 => by rw [stk, List.length_cons, stk_len n]
theorem tks_upd {s : Nat → Int32} {v : Nat → Int64} {t : Nat} {x : Int32} {y : Int64} : ∀ n, n ≤ t → tks (upd s t x) (vp_updL v t y) n = tks s v n
  | 0, _ => rfl
  | n + 1, h => by
    have e : upd s t x n = s n := if_neg (by omega)
    have e2 : vp_updL v t y n = v n := if_neg (by omega)
    rw [tks, tks, tks_upd n (by omega), e, e2]
theorem tks_put {s : Nat → Int32} {v : Nat → Int64} {n : Nat} {x : Int32} {y : Int64} : tks (upd s n x) (vp_updL v n y) (n + 1) = (x, y) :: tks s v n := by
  rw [tks, tks_upd n (Nat.le_refl _), show upd s n x n = x from if_pos rfl, show vp_updL v n y n = y from if_pos rfl]
theorem tks_len {s : Nat → Int32} {v : Nat → Int64} : ∀ n, (tks s v n).length = n
  | 0 => rfl
  | n + 1 => by rw [tks, List.length_cons, tks_len n]
def hiO (h : Int32) (n : Nat) : Int32 := if h < nI (n + 1) then nI (n + 1) else h
def psL (x : Int32) (s : Ly) : Ly := (x :: s.1, s.2.1, hiO s.2.2 s.1.length)
def onP (p : Lp) (h : Int32) : Ly := (p.1, p.2, h)
def dpL : List Int32 → List Int32
  | [] => []
  | x :: L => if x = -1 then dpL L else x :: L
def lvL (B : Bool) : List Int32 → List Tk → Lp
  | [], o => ([], o)
  | x :: L, o => if 0 < x then lvL B L ((4, 125) :: o) else if x = -1 ∧ B = true then lvL B L o else (x :: L, o)
def mkF (n : Int32) : Nat → List Int32 → List Tk → Lp
  | 0, st, o => (st, o)
  | f + 1, st, o => match dpL st with
    | [] => (st, o)
    | x :: L => if n < x then mkF n f L ((4, 125) :: o) else if x = n then (x :: L, (4, 59) :: o) else (st, o)
def mkL (n : Int32) (st : List Int32) (o : List Tk) : Lp := mkF n st.length st o
def ltC : List Int32 → Int32
  | [] => 0
  | x :: L => if 0 ≤ x then x else ltC L
def bgL (n : Int32) (last : Bool) (s : Ly) : Ly := if ltC s.1 < n then psL n (s.1, (4, 123) :: s.2.1, s.2.2) else if last then (s.1, (4, 125) :: (4, 123) :: s.2.1, s.2.2) else onP (mkL n s.1 ((4, 125) :: (4, 123) :: s.2.1)) s.2.2
def clM (due : Int32) (h : Int32) : Lp → Option Ly
  | ([], _) => none
  | (x :: L, o) => if x = due then some (L, o, h) else none
def clL (due : Int32) (s : Ly) : Option Ly := clM due s.2.2 (lvL (!(due == -1)) s.1 s.2.1)
def blC : List Int32 → Int32
  | [] => -7
  | x :: L => if x = -1 ∨ 0 < x then blC L else x
def cmL (s : Ly) : Ly := if blC s.1 = -5 ∨ blC s.1 = -6 then onP (lvL true s.1 s.2.1) s.2.2 else s
def brL (s : Ly) : Option Ly := clM 0 s.2.2 (dpL s.1, s.2.1)
def sgL (v : Int64) (s : Ly) : Option Ly :=
  if v = 40 then some (psL (-5) s) else if v = 91 then some (psL (-6) s) else if v = 41 then clL (-5) s else if v = 93 then clL (-6) s else if v = 44 then some (cmL s) else if v = 123 then some (psL 0 s)
  else if v = 125 then brL s else if v = 59 then some (dpL s.1, s.2) else some s
def wdL (v : Int64) (s : Ly) : Option Ly :=
  if v = 26217 then some (psL (-2) s) else if v = 1702060387 then some (psL (-4) s) else if v = 7628140 then some (psL (-1) s) else if v = 1852139636 then (clL (-2) s).map (psL (-3)) else if v = 1702063205 then clL (-3) s else if v = 26223 then clL (-4) s else if v = 28265 then clL (-1) s else some s
section STK
variable {row : Nat → Int32} {x n : Int32} {st L : List Int32} {o : Nat} {B : Bool} {ts : List Tk}
theorem tp0 : tp row 0 = -11 := rfl
theorem lv_pos (h : 0 < x) : lvL B (x :: L) ts = lvL B L ((4, 125) :: ts) := by rw [lvL, if_pos h]
theorem lv_let (h : x = -1) : lvL true (x :: L) ts = lvL true L ts := by
  rw [lvL, if_neg (by rw [h]; decide), if_pos ⟨h, rfl⟩]
theorem lv_end (h : ¬ 0 < x) (h2 : ¬ (x = -1 ∧ B = true)) : lvL B (x :: L) ts = (x :: L, ts) := by rw [lvL, if_neg h, if_neg h2]
theorem tp_stk (h : 1 ≤ o) : stk row o = tp row o :: stk row (o - 1) := by
  rw [stk_pop h]; unfold tp; rw [if_pos (by omega)]
theorem tp_1 {x : Int32} (h : tp row o = x) (hx : ¬ x = -11) : 1 ≤ o := by
  rcases Nat.eq_zero_or_pos o with e | e
  · rw [e, tp0] at h; exact absurd h.symm hx
  · exact e
theorem tp_2 (h : 0 < tp row o) : 1 ≤ o := by
  rcases Nat.eq_zero_or_pos o with e | e
  · rw [e, tp0] at h; exact absurd h (by decide)
  · exact e
/-- leave, a turn -/
theorem lv_a (h : 0 < tp row o) : lvL B (stk row (o - 1)) ((4, 125) :: ts) = lvL B (stk row o) ts := by
  rw [tp_stk (tp_2 h), lv_pos h]
theorem lv_b (h : tp row o = -1) (hB : B = true) : lvL B (stk row (o - 1)) ts = lvL B (stk row o) ts := by
  subst hB
  rw [tp_stk (tp_1 h (by decide)), lv_let h]
theorem lv_z (h : ¬ 0 < tp row o) (h2 : ¬ (tp row o = -1 ∧ B = true)) : lvL B (stk row o) ts = (stk row o, ts) := by
  rcases Nat.eq_zero_or_pos o with e | e
  · subst e; rfl
  · rw [tp_stk e, lv_end h h2]
theorem dp_stk : ∀ o, dpL (stk row o) = stk row (drp row o)
  | 0 => rfl
  | o + 1 => by
    rw [stk, dpL, drp]
    by_cases q : row o = -1
    · rw [if_pos q, if_pos q, dp_stk o]
    · rw [if_neg q, if_neg q, stk]
theorem dp_len : ∀ st : List Int32, (dpL st).length ≤ st.length
  | [] => Nat.le_refl _
  | x :: L => by
    rw [dpL]
    split
    · have := dp_len L; rw [List.length_cons]; omega
    · exact Nat.le_refl _
theorem mkF_more : ∀ (f g : Nat) (st : List Int32) (ts : List Tk), st.length ≤ f → st.length ≤ g → mkF n f st ts = mkF n g st ts
  | 0, 0, _, _, _, _ => rfl
  | 0, g + 1, st, ts, h, _ => by
    have e : st = [] := List.length_eq_zero_iff.mp (by omega)
    subst e; rfl
  | f + 1, 0, st, ts, _, h => by
    have e : st = [] := List.length_eq_zero_iff.mp (by omega)
    subst e; rfl
  | f + 1, g + 1, st, ts, h1, h2 => by
    rw [mkF, mkF]
    cases hd : dpL st with
    | nil => rfl
    | cons x L =>
      have hl := dp_len st
      rw [hd, List.length_cons] at hl
      show (if n < x then mkF n f L ((4, 125) :: ts) else if x = n then (x :: L, (4, 59) :: ts) else (st, ts)) = (if n < x then mkF n g L ((4, 125) :: ts) else if x = n then (x :: L, (4, 59) :: ts) else (st, ts))
      rw [mkF_more f g L ((4, 125) :: ts) (by omega) (by omega)]
theorem mkL_un (hd : dpL st = x :: L) : mkL n st ts = if n < x then mkL n L ((4, 125) :: ts) else if x = n then (x :: L, (4, 59) :: ts) else (st, ts) := by
  have hl := dp_len st
  rw [hd, List.length_cons] at hl
  unfold mkL
  obtain ⟨f, hf⟩ : ∃ f, st.length = f + 1 := ⟨st.length - 1, by omega⟩
  rw [hf, mkF, hd]
  show (if n < x then mkF n f L ((4, 125) :: ts) else if x = n then (x :: L, (4, 59) :: ts) else (st, ts)) = _
  rw [mkF_more f L.length L ((4, 125) :: ts) (by omega) (Nat.le_refl _)]
theorem mkL_go (hd : dpL st = x :: L) (h : n < x) : mkL n st ts = mkL n L ((4, 125) :: ts) := by rw [mkL_un hd, if_pos h]
theorem mkL_eq (hd : dpL st = x :: L) (h : ¬ n < x) (h2 : x = n) : mkL n st ts = (x :: L, (4, 59) :: ts) := by rw [mkL_un hd, if_neg h, if_pos h2]
theorem mkL_no (hd : dpL st = x :: L) (h : ¬ n < x) (h2 : ¬ x = n) : mkL n st ts = (st, ts) := by rw [mkL_un hd, if_neg h, if_neg h2]
theorem mkL_nil (hd : dpL st = []) : mkL n st ts = (st, ts) := by
  unfold mkL
  cases hf : st.length with
  | zero => rfl
  | succ f => rw [mkF, hd]
/-- mark, a turn, and its end -/
theorem blw_pos {y : Nat} (hy : y ≤ 600) (h : ¬ blw row o ≤ nI y) : 1 ≤ drp row o := by
  rcases Nat.eq_zero_or_pos (drp row o) with e | e
  · rw [blw_drp, e] at h
    exact absurd (Int32.le_trans (show tp row 0 ≤ 0 by rw [tp0]; decide) ((nI_leI (a := 0) (b := y) (by omega) (by omega)).mpr (Nat.zero_le _))) h
  · exact e
theorem mk_dp (h : 1 ≤ drp row o) : dpL (stk row o) = blw row o :: stk row (drp row o - 1) := by
  rw [dp_stk, tp_stk h, blw_drp]
theorem mk_a {y : Nat} (hy : y ≤ 600) (h : ¬ blw row o ≤ nI y) : mkL (nI y) (stk row (drp row o - 1)) ((4, 125) :: ts) = mkL (nI y) (stk row o) ts :=
  (mkL_go (mk_dp (blw_pos hy h)) (Int32.not_le.mp h)).symm
theorem blw_eq {y : Nat} (hy : y ≤ 600) (h : blw row o = nI y) : 1 ≤ drp row o := by
  rcases Nat.eq_zero_or_pos (drp row o) with e | e
  · rw [blw_drp, e] at h
    have h1 := congrArg Int32.toInt h
    rw [nI_toInt (by omega), tp0, show (-11 : Int32).toInt = -11 by decide] at h1
    omega
  · exact e
theorem mk_b {y : Nat} (hy : y ≤ 600) (h : blw row o = nI y) : (stk row (drp row o), (4, 59) :: ts) = mkL (nI y) (stk row o) ts := by
  have hp := blw_eq hy h
  rw [mkL_eq (mk_dp hp) (by rw [h]; exact Int32.not_lt.mpr (Int32.le_refl _)) h, tp_stk hp, blw_drp]
theorem mk_c {n : Int32} (h : blw row o ≤ n) (h2 : ¬ blw row o = n) : (stk row o, ts) = mkL n (stk row o) ts := by
  rcases Nat.eq_zero_or_pos (drp row o) with e | e
  · rw [mkL_nil (by rw [dp_stk, e]; rfl)]
  · rw [mkL_no (mk_dp e) (Int32.not_lt.mpr h) h2]
theorem bl_s (h : 1 ≤ o) (q : row (o - 1) = -1 ∨ 0 < row (o - 1)) : blC (stk row (o - 1)) = blC (stk row o) := by
  rw [stk_pop h, blC, if_pos q]
theorem bl_e (h : 1 ≤ o) (q : ¬ (row (o - 1) = -1 ∨ 0 < row (o - 1))) : blC (stk row o) = row (o - 1) := by
  rw [stk_pop h, blC, if_neg q]
theorem cm_y {hi : Int32} (h : blC st = -5 ∨ blC st = -6) : cmL (st, ts, hi) = onP (lvL true st ts) hi := if_pos h
theorem cm_n {hi : Int32} (h : ¬ (blC st = -5 ∨ blC st = -6)) : cmL (st, ts, hi) = (st, ts, hi) := if_neg h
theorem cl_y {due b hi : Int32} {r : Nat → Int32} {us : List Tk} (hl : (stk r o, us) = lvL (decide (¬ b = 0)) st ts) (hb : decide (¬ b = 0) = !(due == -1)) (ht : tp r o = due) (ho : 1 ≤ o) : clL due (st, ts, hi) = some (stk r (o - 1), us, hi) := by
  unfold clL
  show clM due hi (lvL (!(due == -1)) st ts) = _
  rw [← hb, ← hl, tp_stk ho]
  show (if tp r o = due then some (stk r (o - 1), us, hi) else none) = _
  rw [if_pos ht]
theorem cl_no {due b hi : Int32} {r : Nat → Int32} {us : List Tk} (hl : (stk r o, us) = lvL (decide (¬ b = 0)) st ts) (hb : decide (¬ b = 0) = !(due == -1)) (ht : ¬ tp r o = due) : clL due (st, ts, hi) = none := by
  unfold clL
  show clM due hi (lvL (!(due == -1)) st ts) = _
  rw [← hb, ← hl]
  rcases Nat.eq_zero_or_pos o with e | e
  · subst e; rfl
  · rw [tp_stk e]
    show (if tp r o = due then some (stk r (o - 1), us, hi) else none) = _
    rw [if_neg ht]
theorem ltc_s {row : Nat → Int32} {o : Nat} (h : 1 ≤ o) (q : ¬ 0 ≤ row (o - 1)) : ltC (stk row (o - 1)) = ltC (stk row o) := by
  rw [stk_pop h, ltC, if_neg q]
theorem ltc_e {row : Nat → Int32} {o : Nat} (h : 1 ≤ o) (q : 0 ≤ row (o - 1)) : ltC (stk row o) = row (o - 1) := by
  rw [stk_pop h, ltC, if_pos q]
end STK
theorem ps_stk {row : Nat → Int32} {o : Nat} {x hi : Int32} {ts : List Tk} : (stk (upd row o x) (o + 1), ts, hiO hi o) = psL x (stk row o, ts, hi) := by
  unfold psL
  show _ = (x :: stk row o, ts, hiO hi (stk row o).length)
  rw [stk_push, stk_len]
section SGW
variable {s : Ly} {v : Int64} {row : Nat → Int32} {o : Nat} {ts : List Tk} {hi : Int32}
theorem sg40 : sgL 40 s = some (psL (-5) s) := by
  unfold sgL; rw [if_pos rfl]
theorem sg91 : sgL 91 s = some (psL (-6) s) := by
  unfold sgL; rw [if_neg (by decide), if_pos rfl]
theorem sg41 : sgL 41 s = clL (-5) s := by
  unfold sgL; rw [if_neg (by decide), if_neg (by decide), if_pos rfl]
theorem sg93 : sgL 93 s = clL (-6) s := by
  unfold sgL; rw [if_neg (by decide), if_neg (by decide), if_neg (by decide), if_pos rfl]
theorem sg44 : sgL 44 s = some (cmL s) := by
  unfold sgL; rw [if_neg (by decide), if_neg (by decide), if_neg (by decide), if_neg (by decide), if_pos rfl]
theorem sg123 : sgL 123 s = some (psL 0 s) := by
  unfold sgL; rw [if_neg (by decide), if_neg (by decide), if_neg (by decide), if_neg (by decide), if_neg (by decide), if_pos rfl]
theorem sg125 : sgL 125 s = brL s := by
  unfold sgL; rw [if_neg (by decide), if_neg (by decide), if_neg (by decide), if_neg (by decide), if_neg (by decide), if_neg (by decide), if_pos rfl]
theorem sg59 : sgL 59 s = some (dpL s.1, s.2) := by
  unfold sgL; rw [if_neg (by decide), if_neg (by decide), if_neg (by decide), if_neg (by decide), if_neg (by decide), if_neg (by decide), if_neg (by decide), if_pos rfl]
theorem sg_no (h40 : ¬ v = 40) (h91 : ¬ v = 91) (h41 : ¬ v = 41) (h93 : ¬ v = 93) (h44 : ¬ v = 44) (h123 : ¬ v = 123) (h125 : ¬ v = 125) (h59 : ¬ v = 59) : sgL v s = some s := by
  unfold sgL; rw [if_neg h40, if_neg h91, if_neg h41, if_neg h93, if_neg h44, if_neg h123, if_neg h125, if_neg h59]
theorem wd26217 : wdL 26217 s = some (psL (-2) s) := by
  unfold wdL; rw [if_pos rfl]
theorem wd1702060387 : wdL 1702060387 s = some (psL (-4) s) := by
  unfold wdL; rw [if_neg (by decide), if_pos rfl]
theorem wd7628140 : wdL 7628140 s = some (psL (-1) s) := by
  unfold wdL; rw [if_neg (by decide), if_neg (by decide), if_pos rfl]
theorem wd1852139636 : wdL 1852139636 s = (clL (-2) s).map (psL (-3)) := by
  unfold wdL; rw [if_neg (by decide), if_neg (by decide), if_neg (by decide), if_pos rfl]
theorem wd1702063205 : wdL 1702063205 s = clL (-3) s := by
  unfold wdL; rw [if_neg (by decide), if_neg (by decide), if_neg (by decide), if_neg (by decide), if_pos rfl]
theorem wd26223 : wdL 26223 s = clL (-4) s := by
  unfold wdL; rw [if_neg (by decide), if_neg (by decide), if_neg (by decide), if_neg (by decide), if_neg (by decide), if_pos rfl]
theorem wd28265 : wdL 28265 s = clL (-1) s := by
  unfold wdL; rw [if_neg (by decide), if_neg (by decide), if_neg (by decide), if_neg (by decide), if_neg (by decide), if_neg (by decide), if_pos rfl]
theorem wd_no (h26217 : ¬ v = 26217) (h1702060387 : ¬ v = 1702060387) (h7628140 : ¬ v = 7628140) (h1852139636 : ¬ v = 1852139636) (h1702063205 : ¬ v = 1702063205) (h26223 : ¬ v = 26223) (h28265 : ¬ v = 28265) : wdL v s = some s := by
  unfold wdL; rw [if_neg h26217, if_neg h1702060387, if_neg h7628140, if_neg h1852139636, if_neg h1702063205, if_neg h26223, if_neg h28265]
theorem sb_y (ht : tp row (drp row o) = 0) : sgL 125 (stk row o, ts, hi) = some (stk row (drp row o - 1), ts, hi) := by
  rw [sg125]
  unfold brL
  show clM 0 hi (dpL (stk row o), ts) = _
  rw [dp_stk, tp_stk (tp_1 ht (by decide))]
  show (if tp row (drp row o) = 0 then some (stk row (drp row o - 1), ts, hi) else none) = _
  rw [if_pos ht]
theorem sb_n (ht : ¬ tp row (drp row o) = 0) : sgL 125 (stk row o, ts, hi) = none := by
  rw [sg125]
  unfold brL
  show clM 0 hi (dpL (stk row o), ts) = _
  rw [dp_stk]
  rcases Nat.eq_zero_or_pos (drp row o) with e | e
  · rw [e]; rfl
  · rw [tp_stk e]
    show (if tp row (drp row o) = 0 then some (stk row (drp row o - 1), ts, hi) else none) = _
    rw [if_neg ht]
end SGW
/-! which lexeme begins a block, and the whole layout over rows of lexemes -/
def bgA (kd : Nat → Int32) (vl : Nat → Int64) (i : Nat) : Bool := i == 0 || (kd (i - 1) == 0 && (vl (i - 1) == 7628140 || (vl (i - 1) == 435710945399 || (vl (i - 1) == 28516 || vl (i - 1) == 26223))))
def bgB (kd : Nat → Int32) (vl : Nat → Int64) (n i : Nat) : Bool := bgA kd vl i && (i == n || !(kd i == 3 && vl i == 123))
def lyB (kd : Nat → Int32) (vl : Nat → Int64) (col ld : Nat → Int32) (n i : Nat) (s : Ly) : Ly :=
  if bgB kd vl n i = true then bgL (if i < n then col i else 0) (decide (¬ i < n)) s else if i < n ∧ ¬ ld i = 0 ∧ 0 < i then onP (mkL (col i) s.1 s.2.1) s.2.2 else s
def lyG (kd : Nat → Int32) (vl : Nat → Int64) (n i : Nat) (b : Int32) : Int32 := if bgB kd vl n i = true then b + 1 else b
def lyT (kd : Nat → Int32) (vl : Nat → Int64) (i : Nat) (s : Ly) : Option Ly := if kd i = 3 then sgL (vl i) s else if kd i = 0 then wdL (vl i) s else some s
def lyP (kd : Nat → Int32) (vl : Nat → Int64) (i : Nat) (s : Ly) : Ly := (s.1, (kd i, vl i) :: s.2.1, s.2.2)
abbrev Lz := Int32 ⊕ (Ly × Int32)
def lyF (kd : Nat → Int32) (vl : Nat → Int64) (wh col ld : Nat → Int32) (n : Nat) : Nat → Nat → Ly → Int32 → Lz
  | 0, _, s, b => .inr (s, b)
  | f + 1, i, s, b => if i < n then (match lyT kd vl i (lyB kd vl col ld n i s) with | none => .inl (wh i) | some s' => lyF kd vl wh col ld n f (i + 1) (lyP kd vl i s') (lyG kd vl n i b)) else .inr (s, b)
def lyE (kd : Nat → Int32) (vl : Nat → Int64) (wh col ld : Nat → Int32) (n i : Nat) (s : Ly) (b : Int32) : Lz := lyF kd vl wh col ld n (n - i) i s b
/-- the end: the place that is wrong, or what is laid, the greatest number open, the blocks begun -/
abbrev Lr := Int32 ⊕ (List Tk × Int32 × Int32)
def lyW (len : Nat) (s : Ly) (b : Int32) : Lr := match lvL true s.1 s.2.1 with
  | ([], o) => .inr (o, s.2.2, b)
  | (_ :: _, _) => .inl (nI len)
def lyZ (kd : Nat → Int32) (vl : Nat → Int64) (col ld : Nat → Int32) (n len : Nat) : Lz → Lr
  | .inl p => .inl p
  | .inr (s, b) => lyW len (lyB kd vl col ld n n s) (lyG kd vl n n b)
def lyR (kd : Nat → Int32) (vl : Nat → Int64) (wh col ld : Nat → Int32) (n len : Nat) : Lr := lyZ kd vl col ld n len (lyE kd vl wh col ld n 0 ([], [], 0) 0)
section LYE
variable {kd : Nat → Int32} {vl : Nat → Int64} {wh col ld : Nat → Int32} {n i : Nat} {s s' : Ly} {b : Int32}
theorem lyE_go (h : i < n) (e : lyT kd vl i (lyB kd vl col ld n i s) = some s') : lyE kd vl wh col ld n i s b = lyE kd vl wh col ld n (i + 1) (lyP kd vl i s') (lyG kd vl n i b) := by
  unfold lyE
  obtain ⟨f, hf⟩ : ∃ f, n - i = f + 1 := ⟨n - i - 1, by omega⟩
  rw [hf, lyF, if_pos h, e, show n - (i + 1) = f by omega]
theorem lyE_no (h : i < n) (e : lyT kd vl i (lyB kd vl col ld n i s) = none) : lyE kd vl wh col ld n i s b = .inl (wh i) := by
  unfold lyE
  obtain ⟨f, hf⟩ : ∃ f, n - i = f + 1 := ⟨n - i - 1, by omega⟩
  rw [hf, lyF, if_pos h, e]
theorem lyE_end (h : ¬ i < n) : lyE kd vl wh col ld n i s b = .inr (s, b) := by
  unfold lyE
  rw [show n - i = 0 by omega, lyF]
end LYE
section LYQ
variable {kd : Nat → Int32} {vl : Nat → Int64} {wh col ld : Nat → Int32} {n i o j len : Nat} {s s' S1 S2 S3 V : Ly} {b b' hi x : Int32} {row : Nat → Int32} {st a : List Int32} {ts us ts' : List Tk} {X : Lz}
theorem lp_on (e : (a, us) = lvL (decide (¬ (1 : Int32) = 0)) st ts) : (a, us, hi) = onP (lvL true st ts) hi := by
  have e2 : (a, us) = lvL true st ts := e
  unfold onP; rw [← e2]
theorem cm_0 {k : Nat} (h : blC (stk row k) = blC st) (hk : k = 0) : cmL (st, ts, hi) = (st, ts, hi) := by
  refine cm_n ?_
  rw [← h, hk]
  show ¬ ((-7 : Int32) = -5 ∨ (-7 : Int32) = -6)
  decide
theorem dp_on : (stk row (drp row o), ts, hi) = (dpL (stk row o), ts, hi) := by rw [dp_stk]
theorem ga_0 (h : i = 0) : bgA kd vl i = true := by simp [bgA, h]
theorem ga_1 (h1 : kd (i - 1) = 0) (h : lg_cmp (vl (i - 1)) 7628140 = 0) : bgA kd vl i = true := by
  have e := (lg_cmp_eq _ _).mp h
  simp [bgA, h1, e]
theorem ga_2 (h1 : kd (i - 1) = 0) (h : lg_cmp (vl (i - 1)) 435710945399 = 0) : bgA kd vl i = true := by
  have e := (lg_cmp_eq _ _).mp h
  simp [bgA, h1, e]
theorem ga_3 (h1 : kd (i - 1) = 0) (h : lg_cmp (vl (i - 1)) 28516 = 0) : bgA kd vl i = true := by
  have e := (lg_cmp_eq _ _).mp h
  simp [bgA, h1, e]
theorem ga_4 (h1 : kd (i - 1) = 0) (h : lg_cmp (vl (i - 1)) 26223 = 0) : bgA kd vl i = true := by
  have e := (lg_cmp_eq _ _).mp h
  simp [bgA, h1, e]
theorem ga_n1 (h0 : ¬ i = 0) (h1 : ¬ kd (i - 1) = 0) : bgA kd vl i = false := by simp [bgA, h0, h1]
theorem ga_n2 (h0 : ¬ i = 0) (q1 : ¬ lg_cmp (vl (i - 1)) 7628140 = 0) (q2 : ¬ lg_cmp (vl (i - 1)) 435710945399 = 0) (q3 : ¬ lg_cmp (vl (i - 1)) 28516 = 0) (q4 : ¬ lg_cmp (vl (i - 1)) 26223 = 0) : bgA kd vl i = false := by
  have e1 : ¬ vl (i - 1) = 7628140 := fun q => q1 ((lg_cmp_eq _ _).mpr q)
  have e2 : ¬ vl (i - 1) = 435710945399 := fun q => q2 ((lg_cmp_eq _ _).mpr q)
  have e3 : ¬ vl (i - 1) = 28516 := fun q => q3 ((lg_cmp_eq _ _).mpr q)
  have e4 : ¬ vl (i - 1) = 26223 := fun q => q4 ((lg_cmp_eq _ _).mpr q)
  simp [bgA, h0, e1, e2, e3, e4]
theorem gb_n (h : bgA kd vl i = false) : (0 : Int32) = b01 (bgB kd vl n i) := by rw [bgB, h]; rfl
theorem gb_1 (h : bgA kd vl i = true) (q : i = n) : (1 : Int32) = b01 (bgB kd vl n i) := by rw [bgB, h, q]; simp [b01]
theorem gb_2 (h : bgA kd vl i = true) (q : ¬ kd i = 3) : (1 : Int32) = b01 (bgB kd vl n i) := by rw [bgB, h]; simp [b01, q]
theorem gb_3 (h : bgA kd vl i = true) (q : ¬ lg_cmp (vl i) 123 = 0) : (1 : Int32) = b01 (bgB kd vl n i) := by
  have e : ¬ vl i = 123 := fun z => q ((lg_cmp_eq _ _).mpr z)
  rw [bgB, h]; simp [b01, e]
theorem gb_0 (h : ¬ i = n) (q : kd i = 3) (q2 : lg_cmp (vl i) 123 = 0) : (0 : Int32) = b01 (bgB kd vl n i) := by
  have e := (lg_cmp_eq _ _).mp q2
  unfold bgB
  simp [b01, h, q, e]
theorem nl0 (h : j ≤ 0) : ¬ (0 : Int32) < nI j := by
  rw [Nat.le_zero.mp h]; decide
theorem pl0 (h : ¬ j ≤ 0) (hj : j ≤ 600) : (0 : Int32) < nI j := (nI_ltI (a := 0) (b := j) (by omega) (by omega)).mpr (by omega)
theorem bg_a (hn : (if i < n then col i else 0) = x) (hl : ltC (stk row o) < x) (ht : ts' = (4, 123) :: ts) : (stk (upd row o x) (o + 1), ts', hiO hi o) = bgL (if i < n then col i else 0) (decide (¬ i < n)) (stk row o, ts, hi) := by
  rw [hn, ht]; unfold bgL; rw [if_pos hl]; exact ps_stk
theorem bg_b (hn : (if i < n then col i else 0) = x) (hl : ¬ ltC (stk row o) < x) (hi' : ¬ i < n) (ht : ts' = (4, 125) :: (4, 123) :: ts) : (stk row o, ts', hi) = bgL (if i < n then col i else 0) (decide (¬ i < n)) (stk row o, ts, hi) := by
  rw [hn, ht]; unfold bgL; rw [if_neg hl, decide_eq_true hi', if_pos rfl]
theorem bg_c (hn : (if i < n then col i else 0) = x) (hl : ¬ ltC (stk row o) < x) (hi' : i < n) (ht : ts' = (4, 125) :: (4, 123) :: ts) (e : (a, us) = mkL x (stk row o) ts') : (a, us, hi) = bgL (if i < n then col i else 0) (decide (¬ i < n)) (stk row o, ts, hi) := by
  rw [ht] at e
  rw [hn]; unfold bgL; rw [if_neg hl, decide_eq_false (fun z => z hi'), if_neg (by decide), ← e]; rfl
theorem tk_2 {f : Nat → Int32} {v : Nat → Int64} {m : Nat} {k1 k2 : Int32} {y1 y2 : Int64} : tks (upd (upd f m k1) (m + 1) k2) (vp_updL (vp_updL v m y1) (m + 1) y2) (m + 1 + 1) = (k2, y2) :: (k1, y1) :: tks f v m := by
  rw [tks_put, tks_put]
theorem ly_b1 (hb : bgB kd vl n i = true) (e : S1 = bgL (if i < n then col i else 0) (decide (¬ i < n)) s) : S1 = lyB kd vl col ld n i s := e.trans (if_pos hb).symm
theorem ly_b2 (hb : bgB kd vl n i = false) (h1 : i < n) (h2 : ¬ ld i = 0) (h3 : 0 < i) (e : (a, us) = mkL (nI j) st ts) (ec : col i = nI j) : (a, us, hi) = lyB kd vl col ld n i (st, ts, hi) := by
  unfold lyB
  rw [if_neg (by rw [hb]; decide), if_pos ⟨h1, h2, h3⟩, ec]
  show _ = onP (mkL (nI j) st ts) hi
  rw [← e]; rfl
theorem ly_b3 (hb : bgB kd vl n i = false) (h : ld i = 0 ∨ i ≤ 0 ∨ n ≤ i) : s = lyB kd vl col ld n i s := by
  unfold lyB
  rw [if_neg (by rw [hb]; decide), if_neg]
  intro z
  rcases h with e | e | e
  · exact z.2.1 e
  · omega
  · omega
theorem ly_g1 (hb : bgB kd vl n i = true) : b + 1 = lyG kd vl n i b := (if_pos hb).symm
theorem ly_g0 (hb : bgB kd vl n i = false) : b = lyG kd vl n i b := (if_neg (by rw [hb]; decide)).symm
theorem lyT_3 (h : kd i = 3) : lyT kd vl i s = sgL (vl i) s := if_pos h
theorem lyT_0 (h : kd i = 0) : lyT kd vl i s = wdL (vl i) s := by unfold lyT; rw [if_neg (by rw [h]; decide), if_pos h]
theorem lyT_n (h : ¬ kd i = 3) (h2 : ¬ kd i = 0) : lyT kd vl i s = some s := by unfold lyT; rw [if_neg h, if_neg h2]
theorem ly_pe {f : Nat → Int32} {v : Nat → Int64} {m : Nat} : (st, tks (upd f m (kd i)) (vp_updL v m (vl i)) (m + 1), hi) = lyP kd vl i (st, tks f v m, hi) := by unfold lyP; rw [tks_put]
theorem ly_step {bd pl z0 zp : Int32} (h : i < n) (hX : X = lyE kd vl wh col ld n i V b) (hz : z0 = zp) (hB : S1 = lyB kd vl col ld n i V) (hG : b' = lyG kd vl n i b) (q0 : lyT kd vl i S1 = none → (bd = 1 ∧ pl = wh i)) (q1 : ∀ s9, lyT kd vl i S1 = some s9 → (bd = 0 ∧ pl = z0 ∧ S2 = s9)) (hP : S3 = lyP kd vl i S2) :
    (bd = 0 → (X = lyE kd vl wh col ld n (i + 1) S3 b' ∧ pl = zp)) ∧ (¬ bd = 0 → (bd = 1 ∧ X = .inl pl)) := by
  rw [hB] at q0 q1
  cases hT : lyT kd vl i (lyB kd vl col ld n i V) with
  | none =>
    obtain ⟨g1, g2⟩ := q0 hT
    exact ⟨fun z => by rw [g1] at z; exact absurd z (by decide), fun _ => ⟨g1, by rw [hX, lyE_no h hT, g2]⟩⟩
  | some s9 =>
    obtain ⟨g1, g2, g3⟩ := q1 s9 hT
    exact ⟨fun _ => ⟨by rw [hX, lyE_go h hT, hP, g3, hG], g2.trans hz⟩, fun z => absurd g1 z⟩
theorem ly_wr {q : Int32} (h : lyE kd vl wh col ld n 0 ([], [], 0) 0 = .inl q) : lyR kd vl wh col ld n len = .inl q := by
  unfold lyR; rw [h]; rfl
theorem ly_ok (hX : lyE kd vl wh col ld n 0 ([], [], 0) 0 = lyE kd vl wh col ld n i V b) (h : ¬ i < n) (hB : (st, ts, hi) = lyB kd vl col ld n n V) (hG : b' = lyG kd vl n n b) (e : (stk row o, us) = lvL true st ts) (ho : o = 0) : lyR kd vl wh col ld n len = .inr (us, hi, b') := by
  unfold lyR
  rw [hX, lyE_end h]
  show lyW len (lyB kd vl col ld n n V) (lyG kd vl n n b) = _
  rw [← hB, ← hG]
  unfold lyW
  show (match lvL true st ts with | ([], o) => Sum.inr (o, hi, b') | (_ :: _, _) => Sum.inl (nI len)) = _
  rw [← e, ho]; rfl
theorem ly_bad (hX : lyE kd vl wh col ld n 0 ([], [], 0) 0 = lyE kd vl wh col ld n i V b) (h : ¬ i < n) (hB : (st, ts, hi) = lyB kd vl col ld n n V) (hG : b' = lyG kd vl n n b) (e : (stk row o, us) = lvL true st ts) (ho : 1 ≤ o) : lyR kd vl wh col ld n len = .inl (nI len) := by
  unfold lyR
  rw [hX, lyE_end h]
  show lyW len (lyB kd vl col ld n n V) (lyG kd vl n n b) = _
  rw [← hB, ← hG]
  unfold lyW
  show (match lvL true st ts with | ([], o) => Sum.inr (o, hi, b') | (_ :: _, _) => Sum.inl (nI len)) = _
  rw [← e, stk_pop ho]
theorem tri_0 {x : Int32} (h : x = 0 ∨ x = 1 ∨ x = 2) (h0 : x ≤ 0) : x = 0 := by
  rcases h with e | e | e
  · exact e
  · rw [e] at h0; exact absurd h0 (by decide)
  · rw [e] at h0; exact absurd h0 (by decide)
end LYQ
