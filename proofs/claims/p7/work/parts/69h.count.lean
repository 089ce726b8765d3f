set_option maxHeartbeats 4000000 in
set_option maxRecDepth 100000 in
theorem h_count (l : Launch) (hnt : l.stackTraces = false) (dC : Nat → ClassId) (dI : Nat → Nat → Nat) (sz : Nat) (a_t : Nat) (a_text : Nat) (a_fixities : Nat) (a_cutter : Nat) (a_blocks : Nat) (a_rows : Nat) (a_tokens : Nat) (a_counts : Nat) (f_counts : Nat → Int32) (z_wrongPlace : Int32) (y0 : Int32) (a_o : Nat) (f_o : Nat → Int64) (ka_counts : ClassId) (ka_o : ClassId) : Met l y_Law_count w_Law_count ({ frames := 8, cells := 1, slots := 6, locals := 141 }) (va_Pc [.ref a_t, .int y0, .ref a_o] (fun U => U.heap.size = sz ∧ va_P (dC, dI) vcl [(a_t, .inr (0, [.ref a_text, .ref a_fixities, .ref a_cutter, .ref a_blocks, .ref a_rows, .ref a_tokens, .ref a_counts, .int z_wrongPlace])), (a_counts, .inl (ka_counts, 5, .inl f_counts)), (a_o, .inl (ka_o, 1, .inr (.inl f_o)))] U.heap ∧ va_K (dC, dI) vcl [(ka_counts, .int), (ka_o, .long)] U ∧ va_D (fun _ => True) [(a_t, .inr (0, [.ref a_text, .ref a_fixities, .ref a_cutter, .ref a_blocks, .ref a_rows, .ref a_tokens, .ref a_counts, .int z_wrongPlace])), (a_counts, .inl (ka_counts, 5, .inl f_counts)), (a_o, .inl (ka_o, 1, .inr (.inl f_o)))] ∧ cx_E (va_A [(a_t, .inr (0, [.ref a_text, .ref a_fixities, .ref a_cutter, .ref a_blocks, .ref a_rows, .ref a_tokens, .ref a_counts, .int z_wrongPlace])), (a_counts, .inl (ka_counts, 5, .inl f_counts)), (a_o, .inl (ka_o, 1, .inr (.inl f_o)))] sz) U U.heap)) (va_Qi (fun (r : Int32) (_ : Unit) => True) (fun _ t => ∃ (w_f_o : Nat → Int64), va_P (dC, dI) vcl [(a_t, .inr (0, [.ref a_text, .ref a_fixities, .ref a_cutter, .ref a_blocks, .ref a_rows, .ref a_tokens, .ref a_counts, .int z_wrongPlace])), (a_counts, .inl (ka_counts, 5, .inl f_counts)), (a_o, .inl (ka_o, 1, .inr (.inl w_f_o)))] t.heap ∧ va_K (dC, dI) vcl [(ka_counts, .int), (ka_o, .long)] t ∧ va_D (va_A [(a_t, .inr (0, [.ref a_text, .ref a_fixities, .ref a_cutter, .ref a_blocks, .ref a_rows, .ref a_tokens, .ref a_counts, .int z_wrongPlace])), (a_counts, .inl (ka_counts, 5, .inl f_counts)), (a_o, .inl (ka_o, 1, .inr (.inl f_o)))] sz) [(a_t, .inr (0, [.ref a_text, .ref a_fixities, .ref a_cutter, .ref a_blocks, .ref a_rows, .ref a_tokens, .ref a_counts, .int z_wrongPlace])), (a_counts, .inl (ka_counts, 5, .inl f_counts)), (a_o, .inl (ka_o, 1, .inr (.inl w_f_o)))]) (va_A [(a_t, .inr (0, [.ref a_text, .ref a_fixities, .ref a_cutter, .ref a_blocks, .ref a_rows, .ref a_tokens, .ref a_counts, .int z_wrongPlace])), (a_counts, .inl (ka_counts, 5, .inl f_counts)), (a_o, .inl (ka_o, 1, .inr (.inl f_o)))] sz)) 1 6 (va_A [(a_t, .inr (0, [.ref a_text, .ref a_fixities, .ref a_cutter, .ref a_blocks, .ref a_rows, .ref a_tokens, .ref a_counts, .int z_wrongPlace])), (a_counts, .inl (ka_counts, 5, .inl f_counts)), (a_o, .inl (ka_o, 1, .inr (.inl f_o)))] sz) := by
  refine va_MetW (hh := [(0, 9, 12, 29)]) (cc := b_Law_count) (maxL := 4) (ret := (some .int)) (by decide) rfl ?_
  intro p e s m args below meth c s₁ B hml hv
  obtain ⟨rfl, hsz, hP, hK, hD0, hE⟩ := hv
  have hx := B.exec
  have hb := B.bytes
  have hr := B.returns
  have hts := atoms_spec (ws := w_Law_count) B.pre
  have hz : ∀ w ∈ wz, w.before _ s = true := fun w h => hts w (List.mem_cons_of_mem _ h)
  have hown : s.vm.findClass R_Law = some m.cls := findClass_of_methodNamed B.named
  have hlocks := B.notSynchronized
  subst hsz
  have hD := hD0.self (sz := s.heap.size)
  generalize hAe : va_A [(a_t, .inr (0, [.ref a_text, .ref a_fixities, .ref a_cutter, .ref a_blocks, .ref a_rows, .ref a_tokens, .ref a_counts, .int z_wrongPlace])), (a_counts, .inl (ka_counts, 5, .inl f_counts)), (a_o, .inl (ka_o, 1, .inr (.inl f_o)))] s.heap.size = A at hD hE ⊢
  have hA : ∀ q : Nat, s.heap.size ≤ q → A q := fun q h => by rw [← hAe]; exact Or.inr h
  have hS : va_S A s.heap s.heap [] := va_S.rf
  have hP : va_P (dC, dI) vcl [(a_t, .inr (0, [.ref a_text, .ref a_fixities, .ref a_cutter, .ref a_blocks, .ref a_rows, .ref a_tokens, .ref a_counts, .int z_wrongPlace])), (a_counts, .inl (ka_counts, 5, .inl f_counts)), (a_o, .inl (ka_o, 1, .inr (.inl f_o)))] s.heap := hP
  have hl := lv_entry ([.ref a_t, .int y0, .ref a_o]) (n := 4) (Nat.le_of_ble_eq_true rfl)
  rw [lg_entry_eq]
  generalize (lg_sl ([.ref a_t, .int y0, .ref a_o]) ++ List.replicate (4 - (lg_sl ([.ref a_t, .int y0, .ref a_o])).length) Slot.unset).toArray = ls at hl ⊢
  have hl : lv_has ls 4 [(0, .ref a_t), (1, .int y0), (2, .ref a_o)] := hl
  have hhand := tx_hand B (hts _ List.mem_cons_self)
  obtain ⟨x1, suf1, hsp1, hx1, hrest⟩ := List.map_eq_cons_iff.mp hhand
  simp only [Prod.mk.injEq] at hx1
  obtain ⟨e1, e2, e3, e4⟩ := hx1
  refine lv_aload_n hx hb d_Law_count_0 rfl (lv_at hl 2 rfl) ?_
  refine lv_iconst (v := 0) hx hb d_Law_count_1 (by decide) ?_
  refine lv_aload_n hx hb d_Law_count_2 rfl (lv_at hl 0 rfl) ?_
  refine lv_iload_n hx hb d_Law_count_3 rfl (lv_at hl 1 rfl) ?_
  have hPc := hP.sub (ws' := [(a_t, .inr (0, [.ref a_text, .ref a_fixities, .ref a_cutter, .ref a_blocks, .ref a_rows, .ref a_tokens, .ref a_counts, .int z_wrongPlace])), (a_counts, .inl (ka_counts, 5, .inl f_counts))]) [0, 1] rfl
  have hDc := hD.sub (ws' := [(a_t, .inr (0, [.ref a_text, .ref a_fixities, .ref a_cutter, .ref a_blocks, .ref a_rows, .ref a_tokens, .ref a_counts, .int z_wrongPlace])), (a_counts, .inl (ka_counts, 5, .inl f_counts))]) [0, 1] (by decide) rfl
  have hKc := hK.sub (tys' := [(ka_counts, .int)]) [0] rfl
  have hFc := va_free (wc := [(a_t, .inr (0, [.ref a_text, .ref a_fixities, .ref a_cutter, .ref a_blocks, .ref a_rows, .ref a_tokens, .ref a_counts, .int z_wrongPlace])), (a_counts, .inl (ka_counts, 5, .inl f_counts))]) hD hS hA [0, 1] rfl
  refine ty_run (As := [.int y0]) (rest := [.int 0, .ref a_o]) ⟨hx, hb, hml, hown, hz⟩ (s_LF_count l hnt dC dI s.heap.size a_t a_text a_fixities a_cutter a_blocks a_rows a_tokens a_counts f_counts z_wrongPlace y0 ka_counts) (cwV 1 hz (zV zm_912 zm_913 zm_914 zm_597 zm_915) rfl rfl rfl (by decide +kernel) ⟨Nat.le_of_ble_eq_true rfl, Nat.le_of_ble_eq_true rfl⟩) ⟨fun a U g mk q => by obtain ⟨q0, q1, qP, qK, qD, qx0⟩ := q; exact ⟨q0, q1, qP, va_K.moved (u := U) (U := U.calling g mk a) (Vm.Alike.refl U.vm) qK, qD, cx_E.same (u := U) (U := U.calling g mk a) rfl qx0⟩, va_recv (q := (R_LF, F_LF, 8)) (q0 := 0) (ci := 0) hK hP rfl rfl, fun U hU hW => ⟨rfl, by rw [hU], by rw [hU]; exact hPc, va_K.moved hW.alike hKc, hDc.weaken (fun _ _ _ _ => trivial), by rw [hU]; exact cx_E.to hW hS hFc hE⟩⟩ rfl hl.1 (lv_room (Nat.le_of_ble_eq_true rfl)) d_Law_count_4 ⟨by decide, by decide⟩ hS hFc (fun _ _ _ _ h => h.2) (fun v st₀ t locs hst hvm hq hz1 hk1 hS => ?_) (fun E9 q ce t locs hE9 hvm hce hcv hcls hQt hz1 hk1 hS U hU XU => ?_)
  · obtain ⟨⟨r, u, hv, hw, hP1, hK1, hD1⟩, -⟩ := hq
    cases hv
    have hP1 : va_P (dC, dI) vcl [(a_t, .inr (0, [.ref a_text, .ref a_fixities, .ref a_cutter, .ref a_blocks, .ref a_rows, .ref a_tokens, .ref a_counts, .int z_wrongPlace])), (a_counts, .inl (ka_counts, 5, .inl f_counts))] t.heap := hP1
    obtain ⟨hP, hD⟩ := va_join (wr := [(a_o, .inl (ka_o, 1, .inr (.inl f_o)))]) (w1 := [(a_t, .inr (0, [.ref a_text, .ref a_fixities, .ref a_cutter, .ref a_blocks, .ref a_rows, .ref a_tokens, .ref a_counts, .int z_wrongPlace])), (a_counts, .inl (ka_counts, 5, .inl f_counts))]) hP hD [0, 1] [2] rfl rfl (by decide) (by decide) hk1 hFc hP1 hD1
    generalize t.heap = H at hP hS ⊢
    have hP : va_P (dC, dI) vcl [(a_o, .inl (ka_o, 1, .inr (.inl f_o))), (a_t, .inr (0, [.ref a_text, .ref a_fixities, .ref a_cutter, .ref a_blocks, .ref a_rows, .ref a_tokens, .ref a_counts, .int z_wrongPlace])), (a_counts, .inl (ka_counts, 5, .inl f_counts))] H := hP
    have hD : va_D A [(a_o, .inl (ka_o, 1, .inr (.inl f_o))), (a_t, .inr (0, [.ref a_text, .ref a_fixities, .ref a_cutter, .ref a_blocks, .ref a_rows, .ref a_tokens, .ref a_counts, .int z_wrongPlace])), (a_counts, .inl (ka_counts, 5, .inl f_counts))] := hD
    show W _ _ _ _ _ _ _ _ _ _ H _ _ _ _ (F0 _ 7 ls (.int r :: [.int 0, .ref a_o]))
    refine lv_i2l (v := r.toInt64) hx hb d_Law_count_7 rfl ?_
    refine va_last hx hb hK hP hD hS 0 1 rfl rfl (xr_in (by decide +kernel)) d_Law_count_8 (fun H locs hP hD hS => ?_)
    generalize vp_updL f_o (0 : Int32).toNatClampNeg r.toInt64 = f9 at hP hD
    refine lv_goto (tgt := 15) hx hb d_Law_count_9 (by decide) ?_
    refine lv_iconst (v := 0) hx hb d_Law_count_15 (by decide) ?_
    have hP9 := hP.sub (ws' := [(a_t, .inr (0, [.ref a_text, .ref a_fixities, .ref a_cutter, .ref a_blocks, .ref a_rows, .ref a_tokens, .ref a_counts, .int z_wrongPlace])), (a_counts, .inl (ka_counts, 5, .inl f_counts)), (a_o, .inl (ka_o, 1, .inr (.inl f9)))]) [1, 2, 0] rfl
    have hD9 := hD.sub (ws' := [(a_t, .inr (0, [.ref a_text, .ref a_fixities, .ref a_cutter, .ref a_blocks, .ref a_rows, .ref a_tokens, .ref a_counts, .int z_wrongPlace])), (a_counts, .inl (ka_counts, 5, .inl f_counts)), (a_o, .inl (ka_o, 1, .inr (.inl f9)))]) [1, 2, 0] (by decide) rfl
    exact W.iret (v := 0) hx hb hr (fun t9 ht hW => ⟨⟨0, (), rfl, trivial, f9, by rw [ht]; exact hP9, va_K.moved hW.alike hK, hD9⟩, hS.F ht⟩) hS.2.2 d_Law_count_16
  · obtain ⟨hP1, hK1, hD1⟩ := hQt
    have hP1 : va_P (dC, dI) vcl [(a_t, .inr (0, [.ref a_text, .ref a_fixities, .ref a_cutter, .ref a_blocks, .ref a_rows, .ref a_tokens, .ref a_counts, .int z_wrongPlace])), (a_counts, .inl (ka_counts, 5, .inl f_counts))] t.heap := hP1
    obtain ⟨hP, hD⟩ := va_join (wr := [(a_o, .inl (ka_o, 1, .inr (.inl f_o)))]) (w1 := [(a_t, .inr (0, [.ref a_text, .ref a_fixities, .ref a_cutter, .ref a_blocks, .ref a_rows, .ref a_tokens, .ref a_counts, .int z_wrongPlace])), (a_counts, .inl (ka_counts, 5, .inl f_counts))]) hP hD [0, 1] [2] rfl rfl (by decide) (by decide) hk1 hFc hP1 hD1
    have hP : va_P (dC, dI) vcl [(a_o, .inl (ka_o, 1, .inr (.inl f_o))), (a_t, .inr (0, [.ref a_text, .ref a_fixities, .ref a_cutter, .ref a_blocks, .ref a_rows, .ref a_tokens, .ref a_counts, .int z_wrongPlace])), (a_counts, .inl (ka_counts, 5, .inl f_counts))] t.heap := hP
    have hD : va_D A [(a_o, .inl (ka_o, 1, .inr (.inl f_o))), (a_t, .inr (0, [.ref a_text, .ref a_fixities, .ref a_cutter, .ref a_blocks, .ref a_rows, .ref a_tokens, .ref a_counts, .int z_wrongPlace])), (a_counts, .inl (ka_counts, 5, .inl f_counts))] := hD
    simp only [List.mem_cons, List.not_mem_nil, or_false] at hE9
    subst hE9
    refine ty_catch1 (x := x1) (nm := xIOB) hown hU XU hce hcv hcls hsp1 (by simp [covers, e1, e2]) (by rw [e4]; decide) (by rw [e4]; exact (hz (.classLink R_Law 29 xIOB) zm_1028)) (va_Nw.use rfl (hE.2.1 (.castable xIOB xIOB) (by decide +kernel))) ?_
    rw [e3]
    refine lv_astore_n hx hb d_Law_count_12 rfl hl (by decide) rfl (fun ls hl => ?_)
    refine lv_iconst (v := 1) hx hb d_Law_count_13 (by decide) ?_
    have hP9 := hP.sub (ws' := [(a_t, .inr (0, [.ref a_text, .ref a_fixities, .ref a_cutter, .ref a_blocks, .ref a_rows, .ref a_tokens, .ref a_counts, .int z_wrongPlace])), (a_counts, .inl (ka_counts, 5, .inl f_counts)), (a_o, .inl (ka_o, 1, .inr (.inl f_o)))]) [1, 2, 0] rfl
    have hD9 := hD.sub (ws' := [(a_t, .inr (0, [.ref a_text, .ref a_fixities, .ref a_cutter, .ref a_blocks, .ref a_rows, .ref a_tokens, .ref a_counts, .int z_wrongPlace])), (a_counts, .inl (ka_counts, 5, .inl f_counts)), (a_o, .inl (ka_o, 1, .inr (.inl f_o)))]) [1, 2, 0] (by decide) rfl
    exact W.iret (v := 1) hx hb hr (fun t9 ht hW => ⟨⟨1, (), rfl, trivial, f_o, by rw [ht]; exact hP9, va_K.moved hW.alike hK, hD9⟩, hS.F ht⟩) hS.2.2 d_Law_count_14
