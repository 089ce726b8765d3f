set_option maxHeartbeats 4000000 in
set_option maxRecDepth 100000 in
theorem c_has0 (l : Launch) (dC : Nat → ClassId) (dI : Nat → Nat → Nat) (a0 a1 a2 : Nat) (ix : Int32) : Met l y_Tokens_has w_Tokens_has ({ frames := 0, cells := 0, slots := 0, locals := 0 }) (va_Pc [.ref a0, .int ix] (fun U => va_P (dC, dI) vcl [(a0, .inr (11, [.ref a1, .ref a2, .int 0]))] U.heap ∧ va_K (dC, dI) vcl [] U)) (va_Qi (fun (r : Int32) (_ : Unit) => r = 0) (fun _ _ => True) (fun _ => False)) 0 0 (fun _ => False) := by
  refine Met.ofW (cc := b_Tokens_has) (maxL := 2) (ret := (some .boolean)) (by decide) rfl ?_
  intro p e s m args below meth c s₁ B hml hv
  obtain ⟨rfl, hP, hK⟩ := hv
  have hx := B.exec
  have hb := B.bytes
  have hr := B.returns
  have hts := atoms_spec (ws := w_Tokens_has) B.pre
  have hz : ∀ w ∈ wz, w.before _ s = true := fun w h => hts w (List.mem_cons_of_mem _ h)
  have hown : s.vm.findClass R_Tokens = some m.cls := findClass_of_methodNamed B.named
  have hlocks := B.notSynchronized
  have hl := lv_entry ([.ref a0, .int ix]) (n := 2) (Nat.le_of_ble_eq_true rfl)
  rw [lg_entry_eq]
  generalize (lg_sl ([.ref a0, .int ix]) ++ List.replicate (2 - (lg_sl ([.ref a0, .int ix])).length) Slot.unset).toArray = ls at hl ⊢
  have hl : lv_has ls 2 [(0, .ref a0), (1, .int ix)] := hl
  refine lv_iload_n hx hb d_Tokens_has_0 rfl (lv_at hl 1 rfl) ?_
  refine lv_if_lt (tgt := 16) hx hb d_Tokens_has_1 (by decide) (fun gi => ?_) (fun gi => ?_)
  · refine lv_iconst (v := 0) hx hb d_Tokens_has_16 (by decide) ?_
    exact W.zret (v := 0) hx hb hr (by decide +kernel) (fun t ht hW => ⟨⟨0, (), rfl, rfl, trivial⟩, ⟨by rw [ht]; exact Nat.le_refl _, fun q _ _ => by rw [ht]⟩⟩) (fun _ h => nomatch h) d_Tokens_has_17
  · refine lv_iload_n hx hb d_Tokens_has_4 rfl (lv_at hl 1 rfl) ?_
    refine lv_aload_n hx hb d_Tokens_has_5 rfl (lv_at hl 0 rfl) ?_
    refine va_get (D := (dC, dI)) (ci := 11) (v := .int 0) (C := R_Tokens) (T := F_Tokens) (N := 3) hx hb hz zu_Tokens hown hK hP 0 rfl rfl 2 (by decide) (hz (.fieldLink R_Tokens 19 "LayoutFront$Tokens" "size" "I") zm_111) (fun _ h9 => h9) rfl d_Tokens_has_6 ?_
    refine lv_icmp_ge (tgt := 16) hx hb d_Tokens_has_9 (by decide) (fun _ => ?_) (fun h => (h (xr_ge0 gi)).elim)
    refine lv_iconst (v := 0) hx hb d_Tokens_has_16 (by decide) ?_
    exact W.zret (v := 0) hx hb hr (by decide +kernel) (fun t ht hW => ⟨⟨0, (), rfl, rfl, trivial⟩, ⟨by rw [ht]; exact Nat.le_refl _, fun q _ _ => by rw [ht]⟩⟩) (fun _ h => nomatch h) d_Tokens_has_17
set_option maxHeartbeats 4000000 in
set_option maxRecDepth 100000 in
theorem ct_kind (l : Launch) (hnt : l.stackTraces = false) (dC : Nat → ClassId) (dI : Nat → Nat → Nat) (a0 : Nat) (a1 : Nat) (a2 : Nat) (a3 : Nat) (a4 : Nat) (a5 : Nat) (a6 : Nat) (a7 : Nat) (a8 : Nat) (a9 : Nat) (ix : Int32) : tx_Met l y_LF_kind w_LF_kind ({ frames := 7, cells := 1, slots := 6, locals := 120 }) (va_Pc [.ref a0, .int ix] (fun U => va_P (dC, dI) vcl [(a0, .inr (0, [.ref a2, .ref a3, .ref a4, .ref a5, .ref a6, .ref a1, .ref a7, .int (-1)])), (a1, .inr (11, [.ref a8, .ref a9, .int 0]))] U.heap ∧ va_K (dC, dI) vcl [] U ∧ tx_C U)) xIOB 1 6 := by
  refine tx_ofW (cc := b_LF_kind) (maxL := 2) (ret := (some .int)) (by decide) rfl ?_
  intro p e s m args below meth c s₁ B hml hv
  obtain ⟨rfl, hP, hK, hC⟩ := hv
  have hx := B.exec
  have hb := B.bytes
  have hr := B.returns
  have hts := atoms_spec (ws := w_LF_kind) B.pre
  have hz : ∀ w ∈ wz, w.before _ s = true := fun w h => hts w (List.mem_cons_of_mem _ h)
  have hown : s.vm.findClass R_LF = some m.cls := findClass_of_methodNamed B.named
  have hlocks := B.notSynchronized
  have hS : va_S (fun q => s.heap.size ≤ q) s.heap s.heap [] := va_S.rf
  have hl := lv_entry ([.ref a0, .int ix]) (n := 2) (Nat.le_of_ble_eq_true rfl)
  rw [lg_entry_eq]
  generalize (lg_sl ([.ref a0, .int ix]) ++ List.replicate (2 - (lg_sl ([.ref a0, .int ix])).length) Slot.unset).toArray = ls at hl ⊢
  have hl : lv_has ls 2 [(0, .ref a0), (1, .int ix)] := hl
  refine lv_aload_n hx hb d_LF_kind_0 rfl (lv_at hl 0 rfl) ?_
  refine va_get (D := (dC, dI)) (ci := 0) (v := .ref a1) (C := R_LF) (T := F_LF) (N := 8) hx hb hz zu_LF hown hK hP 0 rfl rfl 5 (by decide) (hz (.fieldLink R_LF 49 "LayoutFront" "tokens" "LLayoutFront$Tokens;") zm_108) (fun _ h9 => h9) rfl d_LF_kind_1 ?_
  refine lv_iload_n hx hb d_LF_kind_4 rfl (lv_at hl 1 rfl) ?_
  have hPc := hP.sub (ws' := [(a1, .inr (11, [.ref a8, .ref a9, .int 0]))]) [1] rfl
  refine va_calli (va_runV (As := [.int ix]) (rest := []) ⟨hx, hb, hml, hown, hz⟩ (c_has0 l dC dI a1 a8 a9 ix) (cwV 1 hz (zV zm_486 zm_136 zm_137 zm_17 zm_138) rfl rfl rfl (by decide +kernel) ⟨Nat.le_of_ble_eq_true rfl, Nat.le_of_ble_eq_true rfl⟩) ⟨fun a U g mk q => by obtain ⟨q0, qP, qK⟩ := q; exact ⟨q0, qP, va_K.moved (u := U) (U := U.calling g mk a) (Vm.Alike.refl U.vm) qK⟩, va_recv (q := (R_Tokens, F_Tokens, 3)) (q0 := 1) (ci := 11) hK hP rfl rfl, fun U hU hW => ⟨rfl, by rw [hU]; exact hPc, va_K.moved hW.alike hK⟩⟩ rfl rfl hl.1 rfl (lv_room (Nat.le_of_ble_eq_true rfl)) d_LF_kind_5 ⟨by decide, by decide⟩) hS (fun _ _ h => h.elim) (fun _ h => h.elim) (fun r u t H1 locs ht hvm hw hB hz1 hk1 hS => ?_)
  subst r
  have hP : va_P (dC, dI) vcl [(a0, .inr (0, [.ref a2, .ref a3, .ref a4, .ref a5, .ref a6, .ref a1, .ref a7, .int (-1)])), (a1, .inr (11, [.ref a8, .ref a9, .int 0]))] H1 := hP.kept (fun k q hk => hk1 q.1 ((hP k q hk).lt) (fun h => h))
  refine va_forget (fun q hq => hS.2.2 q hq) ?_
  have hS : va_S (fun q => s.heap.size ≤ q) s.heap H1 [] := ⟨hS.1, hS.2.1, fun _ h => nomatch h⟩
  refine lv_if_ne (tgt := 21) hx hb d_LF_kind_8 (by decide) (fun h => (h (by decide +kernel)).elim) (fun _ => ?_)
  obtain ⟨sa, hsa⟩ := hC.2.2.2.2.1
  exact tx_throw hx hb hnt hlocks (hl.1.trans hml.symm) hS.1 hown (by decide +kernel) (by decide +kernel) (tx_hIOB hz hC) (hz (.classLink R_LF 161 xIOB) zm_487) (hz (.instantiable xIOB 6) zm_488) (hz (.initialized xIOB) zm_489) hsa d_LF_kind_11 d_LF_kind_14 d_LF_kind_15 d_LF_kind_17 d_LF_kind_20 (covers_of_empty (B.noHandlers (hts _ List.mem_cons_self)) _) (by decide) (by decide) (by decide) (by decide)
set_option maxHeartbeats 4000000 in
set_option maxRecDepth 100000 in
theorem ct_token (l : Launch) (hnt : l.stackTraces = false) (dC : Nat → ClassId) (dI : Nat → Nat → Nat) (a0 : Nat) (a1 : Nat) (a2 : Nat) (a3 : Nat) (a4 : Nat) (a5 : Nat) (a6 : Nat) (a7 : Nat) (a8 : Nat) (a9 : Nat) (ix : Int32) : tx_Met l y_LF_token w_LF_token ({ frames := 7, cells := 1, slots := 6, locals := 120 }) (va_Pc [.ref a0, .int ix] (fun U => va_P (dC, dI) vcl [(a0, .inr (0, [.ref a2, .ref a3, .ref a4, .ref a5, .ref a6, .ref a1, .ref a7, .int (-1)])), (a1, .inr (11, [.ref a8, .ref a9, .int 0]))] U.heap ∧ va_K (dC, dI) vcl [] U ∧ tx_C U)) xIOB 1 6 := by
  refine tx_ofW (cc := b_LF_token) (maxL := 2) (ret := (some .long)) (by decide) rfl ?_
  intro p e s m args below meth c s₁ B hml hv
  obtain ⟨rfl, hP, hK, hC⟩ := hv
  have hx := B.exec
  have hb := B.bytes
  have hr := B.returns
  have hts := atoms_spec (ws := w_LF_token) B.pre
  have hz : ∀ w ∈ wz, w.before _ s = true := fun w h => hts w (List.mem_cons_of_mem _ h)
  have hown : s.vm.findClass R_LF = some m.cls := findClass_of_methodNamed B.named
  have hlocks := B.notSynchronized
  have hS : va_S (fun q => s.heap.size ≤ q) s.heap s.heap [] := va_S.rf
  have hl := lv_entry ([.ref a0, .int ix]) (n := 2) (Nat.le_of_ble_eq_true rfl)
  rw [lg_entry_eq]
  generalize (lg_sl ([.ref a0, .int ix]) ++ List.replicate (2 - (lg_sl ([.ref a0, .int ix])).length) Slot.unset).toArray = ls at hl ⊢
  have hl : lv_has ls 2 [(0, .ref a0), (1, .int ix)] := hl
  refine lv_aload_n hx hb d_LF_token_0 rfl (lv_at hl 0 rfl) ?_
  refine va_get (D := (dC, dI)) (ci := 0) (v := .ref a1) (C := R_LF) (T := F_LF) (N := 8) hx hb hz zu_LF hown hK hP 0 rfl rfl 5 (by decide) (hz (.fieldLink R_LF 49 "LayoutFront" "tokens" "LLayoutFront$Tokens;") zm_108) (fun _ h9 => h9) rfl d_LF_token_1 ?_
  refine lv_iload_n hx hb d_LF_token_4 rfl (lv_at hl 1 rfl) ?_
  have hPc := hP.sub (ws' := [(a1, .inr (11, [.ref a8, .ref a9, .int 0]))]) [1] rfl
  refine va_calli (va_runV (As := [.int ix]) (rest := []) ⟨hx, hb, hml, hown, hz⟩ (c_has0 l dC dI a1 a8 a9 ix) (cwV 1 hz (zV zm_486 zm_136 zm_137 zm_17 zm_138) rfl rfl rfl (by decide +kernel) ⟨Nat.le_of_ble_eq_true rfl, Nat.le_of_ble_eq_true rfl⟩) ⟨fun a U g mk q => by obtain ⟨q0, qP, qK⟩ := q; exact ⟨q0, qP, va_K.moved (u := U) (U := U.calling g mk a) (Vm.Alike.refl U.vm) qK⟩, va_recv (q := (R_Tokens, F_Tokens, 3)) (q0 := 1) (ci := 11) hK hP rfl rfl, fun U hU hW => ⟨rfl, by rw [hU]; exact hPc, va_K.moved hW.alike hK⟩⟩ rfl rfl hl.1 rfl (lv_room (Nat.le_of_ble_eq_true rfl)) d_LF_token_5 ⟨by decide, by decide⟩) hS (fun _ _ h => h.elim) (fun _ h => h.elim) (fun r u t H1 locs ht hvm hw hB hz1 hk1 hS => ?_)
  subst r
  have hP : va_P (dC, dI) vcl [(a0, .inr (0, [.ref a2, .ref a3, .ref a4, .ref a5, .ref a6, .ref a1, .ref a7, .int (-1)])), (a1, .inr (11, [.ref a8, .ref a9, .int 0]))] H1 := hP.kept (fun k q hk => hk1 q.1 ((hP k q hk).lt) (fun h => h))
  refine va_forget (fun q hq => hS.2.2 q hq) ?_
  have hS : va_S (fun q => s.heap.size ≤ q) s.heap H1 [] := ⟨hS.1, hS.2.1, fun _ h => nomatch h⟩
  refine lv_if_ne (tgt := 21) hx hb d_LF_token_8 (by decide) (fun h => (h (by decide +kernel)).elim) (fun _ => ?_)
  obtain ⟨sa, hsa⟩ := hC.2.2.2.2.1
  exact tx_throw hx hb hnt hlocks (hl.1.trans hml.symm) hS.1 hown (by decide +kernel) (by decide +kernel) (tx_hIOB hz hC) (hz (.classLink R_LF 161 xIOB) zm_487) (hz (.instantiable xIOB 6) zm_488) (hz (.initialized xIOB) zm_489) hsa d_LF_token_11 d_LF_token_14 d_LF_token_15 d_LF_token_17 d_LF_token_20 (covers_of_empty (B.noHandlers (hts _ List.mem_cons_self)) _) (by decide) (by decide) (by decide) (by decide)
set_option maxHeartbeats 4000000 in
set_option maxRecDepth 100000 in
theorem ct_count_neg (l : Launch) (hnt : l.stackTraces = false) (dC : Nat → ClassId) (dI : Nat → Nat → Nat) (a0 : Nat) (ix : Int32) (gi : ix < 0) : tx_Met l y_LF_count w_LF_count ({ frames := 7, cells := 1, slots := 6, locals := 120 }) (va_Pc [.ref a0, .int ix] (fun U => va_P (dC, dI) vcl [] U.heap ∧ va_K (dC, dI) vcl [] U ∧ tx_C U)) xIOB 1 6 := by
  refine tx_ofW (cc := b_LF_count) (maxL := 2) (ret := (some .int)) (by decide) rfl ?_
  intro p e s m args below meth c s₁ B hml hv
  obtain ⟨rfl, hP, hK, hC⟩ := hv
  have hx := B.exec
  have hb := B.bytes
  have hr := B.returns
  have hts := atoms_spec (ws := w_LF_count) B.pre
  have hz : ∀ w ∈ wz, w.before _ s = true := fun w h => hts w (List.mem_cons_of_mem _ h)
  have hown : s.vm.findClass R_LF = some m.cls := findClass_of_methodNamed B.named
  have hlocks := B.notSynchronized
  have hS : va_S (fun q => s.heap.size ≤ q) s.heap s.heap [] := va_S.rf
  have hl := lv_entry ([.ref a0, .int ix]) (n := 2) (Nat.le_of_ble_eq_true rfl)
  rw [lg_entry_eq]
  generalize (lg_sl ([.ref a0, .int ix]) ++ List.replicate (2 - (lg_sl ([.ref a0, .int ix])).length) Slot.unset).toArray = ls at hl ⊢
  have hl : lv_has ls 2 [(0, .ref a0), (1, .int ix)] := hl
  refine lv_iload_n hx hb d_LF_count_0 rfl (lv_at hl 1 rfl) ?_
  refine lv_if_lt (tgt := 9) hx hb d_LF_count_1 (by decide) (fun _ => ?_) (fun h => (h gi).elim)
  obtain ⟨sa, hsa⟩ := hC.2.2.2.2.2
  exact tx_throw hx hb hnt hlocks (hl.1.trans hml.symm) hS.1 hown (by decide +kernel) (by decide +kernel) (tx_hIOB hz hC) (hz (.classLink R_LF 161 xIOB) zm_487) (hz (.instantiable xIOB 6) zm_488) (hz (.initialized xIOB) zm_489) hsa d_LF_count_9 d_LF_count_12 d_LF_count_13 d_LF_count_15 d_LF_count_18 (covers_of_empty (B.noHandlers (hts _ List.mem_cons_self)) _) (by decide) (by decide) (by decide) (by decide)
set_option maxHeartbeats 4000000 in
set_option maxRecDepth 100000 in
theorem ct_count_big (l : Launch) (hnt : l.stackTraces = false) (dC : Nat → ClassId) (dI : Nat → Nat → Nat) (a0 : Nat) (ix : Int32) (gi : ¬ ix < 0) (g5 : 5 ≤ ix) : tx_Met l y_LF_count w_LF_count ({ frames := 7, cells := 1, slots := 6, locals := 120 }) (va_Pc [.ref a0, .int ix] (fun U => va_P (dC, dI) vcl [] U.heap ∧ va_K (dC, dI) vcl [] U ∧ tx_C U)) xIOB 1 6 := by
  refine tx_ofW (cc := b_LF_count) (maxL := 2) (ret := (some .int)) (by decide) rfl ?_
  intro p e s m args below meth c s₁ B hml hv
  obtain ⟨rfl, hP, hK, hC⟩ := hv
  have hx := B.exec
  have hb := B.bytes
  have hr := B.returns
  have hts := atoms_spec (ws := w_LF_count) B.pre
  have hz : ∀ w ∈ wz, w.before _ s = true := fun w h => hts w (List.mem_cons_of_mem _ h)
  have hown : s.vm.findClass R_LF = some m.cls := findClass_of_methodNamed B.named
  have hlocks := B.notSynchronized
  have hS : va_S (fun q => s.heap.size ≤ q) s.heap s.heap [] := va_S.rf
  have hl := lv_entry ([.ref a0, .int ix]) (n := 2) (Nat.le_of_ble_eq_true rfl)
  rw [lg_entry_eq]
  generalize (lg_sl ([.ref a0, .int ix]) ++ List.replicate (2 - (lg_sl ([.ref a0, .int ix])).length) Slot.unset).toArray = ls at hl ⊢
  have hl : lv_has ls 2 [(0, .ref a0), (1, .int ix)] := hl
  refine lv_iload_n hx hb d_LF_count_0 rfl (lv_at hl 1 rfl) ?_
  refine lv_if_lt (tgt := 9) hx hb d_LF_count_1 (by decide) (fun h => absurd h gi) (fun _ => ?_)
  refine lv_iload_n hx hb d_LF_count_4 rfl (lv_at hl 1 rfl) ?_
  refine lv_iconst (v := 5) hx hb d_LF_count_5 (by decide) ?_
  refine lv_icmp_lt (tgt := 19) hx hb d_LF_count_6 (by decide) (fun h => absurd h (xr_n5 g5)) (fun _ => ?_)
  obtain ⟨sa, hsa⟩ := hC.2.2.2.2.2
  exact tx_throw hx hb hnt hlocks (hl.1.trans hml.symm) hS.1 hown (by decide +kernel) (by decide +kernel) (tx_hIOB hz hC) (hz (.classLink R_LF 161 xIOB) zm_487) (hz (.instantiable xIOB 6) zm_488) (hz (.initialized xIOB) zm_489) hsa d_LF_count_9 d_LF_count_12 d_LF_count_13 d_LF_count_15 d_LF_count_18 (covers_of_empty (B.noHandlers (hts _ List.mem_cons_self)) _) (by decide) (by decide) (by decide) (by decide)
set_option maxHeartbeats 4000000 in
set_option maxRecDepth 100000 in
theorem ct_fixity_fx1 (l : Launch) (hnt : l.stackTraces = false) (dC : Nat → ClassId) (dI : Nat → Nat → Nat) (a0 : Nat) (ev : Int64) (sdx : Int32) (lvx : Int32) (g1 : sdx < 0) : tx_Met l y_LF_fixity w_LF_fixity ({ frames := 7, cells := 1, slots := 6, locals := 120 }) (va_Pc [.ref a0, .long ev, .int sdx, .int lvx] (fun U => va_P (dC, dI) vcl [] U.heap ∧ va_K (dC, dI) vcl [] U ∧ tx_C U)) xIAE 1 6 := by
  refine tx_ofW (cc := b_LF_fixity) (maxL := 5) (ret := (some .int)) (by decide) rfl ?_
  intro p e s m args below meth c s₁ B hml hv
  obtain ⟨rfl, hP, hK, hC⟩ := hv
  have hx := B.exec
  have hb := B.bytes
  have hr := B.returns
  have hts := atoms_spec (ws := w_LF_fixity) B.pre
  have hz : ∀ w ∈ wz, w.before _ s = true := fun w h => hts w (List.mem_cons_of_mem _ h)
  have hown : s.vm.findClass R_LF = some m.cls := findClass_of_methodNamed B.named
  have hlocks := B.notSynchronized
  have hS : va_S (fun q => s.heap.size ≤ q) s.heap s.heap [] := va_S.rf
  have hl := lv_entry ([.ref a0, .long ev, .int sdx, .int lvx]) (n := 5) (Nat.le_of_ble_eq_true rfl)
  rw [lg_entry_eq]
  generalize (lg_sl ([.ref a0, .long ev, .int sdx, .int lvx]) ++ List.replicate (5 - (lg_sl ([.ref a0, .long ev, .int sdx, .int lvx])).length) Slot.unset).toArray = ls at hl ⊢
  have hl : lv_has ls 5 [(0, .ref a0), (1, .long ev), (3, .int sdx), (4, .int lvx)] := hl
  refine lv_iload_n hx hb d_LF_fixity_0 rfl (lv_at hl 2 rfl) ?_
  refine lv_if_lt (tgt := 21) hx hb d_LF_fixity_1 (by decide) (fun _ => ?_) (fun h => (h g1).elim)
  obtain ⟨sa, hsa⟩ := hC.2.2.2.1
  exact tx_throw hx hb hnt hlocks (hl.1.trans hml.symm) hS.1 hown (by decide +kernel) (by decide +kernel) (tx_hIAE hz hC) (hz (.classLink R_LF 65 xIAE) zm_490) (hz (.instantiable xIAE 6) zm_491) (hz (.initialized xIAE) zm_492) hsa d_LF_fixity_21 d_LF_fixity_24 d_LF_fixity_25 d_LF_fixity_27 d_LF_fixity_30 (covers_of_empty (B.noHandlers (hts _ List.mem_cons_self)) _) (by decide) (by decide) (by decide) (by decide)
set_option maxHeartbeats 4000000 in
set_option maxRecDepth 100000 in
theorem ct_fixity_fx2 (l : Launch) (hnt : l.stackTraces = false) (dC : Nat → ClassId) (dI : Nat → Nat → Nat) (a0 : Nat) (ev : Int64) (sdx : Int32) (lvx : Int32) (g1 : ¬ sdx < 0) (g2 : 2 < sdx) : tx_Met l y_LF_fixity w_LF_fixity ({ frames := 7, cells := 1, slots := 6, locals := 120 }) (va_Pc [.ref a0, .long ev, .int sdx, .int lvx] (fun U => va_P (dC, dI) vcl [] U.heap ∧ va_K (dC, dI) vcl [] U ∧ tx_C U)) xIAE 1 6 := by
  refine tx_ofW (cc := b_LF_fixity) (maxL := 5) (ret := (some .int)) (by decide) rfl ?_
  intro p e s m args below meth c s₁ B hml hv
  obtain ⟨rfl, hP, hK, hC⟩ := hv
  have hx := B.exec
  have hb := B.bytes
  have hr := B.returns
  have hts := atoms_spec (ws := w_LF_fixity) B.pre
  have hz : ∀ w ∈ wz, w.before _ s = true := fun w h => hts w (List.mem_cons_of_mem _ h)
  have hown : s.vm.findClass R_LF = some m.cls := findClass_of_methodNamed B.named
  have hlocks := B.notSynchronized
  have hS : va_S (fun q => s.heap.size ≤ q) s.heap s.heap [] := va_S.rf
  have hl := lv_entry ([.ref a0, .long ev, .int sdx, .int lvx]) (n := 5) (Nat.le_of_ble_eq_true rfl)
  rw [lg_entry_eq]
  generalize (lg_sl ([.ref a0, .long ev, .int sdx, .int lvx]) ++ List.replicate (5 - (lg_sl ([.ref a0, .long ev, .int sdx, .int lvx])).length) Slot.unset).toArray = ls at hl ⊢
  have hl : lv_has ls 5 [(0, .ref a0), (1, .long ev), (3, .int sdx), (4, .int lvx)] := hl
  refine lv_iload_n hx hb d_LF_fixity_0 rfl (lv_at hl 2 rfl) ?_
  refine lv_if_lt (tgt := 21) hx hb d_LF_fixity_1 (by decide) (fun h => absurd h g1) (fun _ => ?_)
  refine lv_iload_n hx hb d_LF_fixity_4 rfl (lv_at hl 2 rfl) ?_
  refine lv_iconst (v := 2) hx hb d_LF_fixity_5 (by decide) ?_
  refine lv_icmp_gt (tgt := 21) hx hb d_LF_fixity_6 (by decide) (fun _ => ?_) (fun h => (h g2).elim)
  obtain ⟨sa, hsa⟩ := hC.2.2.2.1
  exact tx_throw hx hb hnt hlocks (hl.1.trans hml.symm) hS.1 hown (by decide +kernel) (by decide +kernel) (tx_hIAE hz hC) (hz (.classLink R_LF 65 xIAE) zm_490) (hz (.instantiable xIAE 6) zm_491) (hz (.initialized xIAE) zm_492) hsa d_LF_fixity_21 d_LF_fixity_24 d_LF_fixity_25 d_LF_fixity_27 d_LF_fixity_30 (covers_of_empty (B.noHandlers (hts _ List.mem_cons_self)) _) (by decide) (by decide) (by decide) (by decide)
set_option maxHeartbeats 4000000 in
set_option maxRecDepth 100000 in
theorem ct_fixity_fx3 (l : Launch) (hnt : l.stackTraces = false) (dC : Nat → ClassId) (dI : Nat → Nat → Nat) (a0 : Nat) (ev : Int64) (sdx : Int32) (lvx : Int32) (g1 : ¬ sdx < 0) (g2 : ¬ 2 < sdx) (g3 : lvx < 0) : tx_Met l y_LF_fixity w_LF_fixity ({ frames := 7, cells := 1, slots := 6, locals := 120 }) (va_Pc [.ref a0, .long ev, .int sdx, .int lvx] (fun U => va_P (dC, dI) vcl [] U.heap ∧ va_K (dC, dI) vcl [] U ∧ tx_C U)) xIAE 1 6 := by
  refine tx_ofW (cc := b_LF_fixity) (maxL := 5) (ret := (some .int)) (by decide) rfl ?_
  intro p e s m args below meth c s₁ B hml hv
  obtain ⟨rfl, hP, hK, hC⟩ := hv
  have hx := B.exec
  have hb := B.bytes
  have hr := B.returns
  have hts := atoms_spec (ws := w_LF_fixity) B.pre
  have hz : ∀ w ∈ wz, w.before _ s = true := fun w h => hts w (List.mem_cons_of_mem _ h)
  have hown : s.vm.findClass R_LF = some m.cls := findClass_of_methodNamed B.named
  have hlocks := B.notSynchronized
  have hS : va_S (fun q => s.heap.size ≤ q) s.heap s.heap [] := va_S.rf
  have hl := lv_entry ([.ref a0, .long ev, .int sdx, .int lvx]) (n := 5) (Nat.le_of_ble_eq_true rfl)
  rw [lg_entry_eq]
  generalize (lg_sl ([.ref a0, .long ev, .int sdx, .int lvx]) ++ List.replicate (5 - (lg_sl ([.ref a0, .long ev, .int sdx, .int lvx])).length) Slot.unset).toArray = ls at hl ⊢
  have hl : lv_has ls 5 [(0, .ref a0), (1, .long ev), (3, .int sdx), (4, .int lvx)] := hl
  refine lv_iload_n hx hb d_LF_fixity_0 rfl (lv_at hl 2 rfl) ?_
  refine lv_if_lt (tgt := 21) hx hb d_LF_fixity_1 (by decide) (fun h => absurd h g1) (fun _ => ?_)
  refine lv_iload_n hx hb d_LF_fixity_4 rfl (lv_at hl 2 rfl) ?_
  refine lv_iconst (v := 2) hx hb d_LF_fixity_5 (by decide) ?_
  refine lv_icmp_gt (tgt := 21) hx hb d_LF_fixity_6 (by decide) (fun h => absurd h g2) (fun _ => ?_)
  refine lv_iload hx hb d_LF_fixity_9 (lv_at hl 3 rfl) ?_
  refine lv_if_lt (tgt := 21) hx hb d_LF_fixity_11 (by decide) (fun _ => ?_) (fun h => (h g3).elim)
  obtain ⟨sa, hsa⟩ := hC.2.2.2.1
  exact tx_throw hx hb hnt hlocks (hl.1.trans hml.symm) hS.1 hown (by decide +kernel) (by decide +kernel) (tx_hIAE hz hC) (hz (.classLink R_LF 65 xIAE) zm_490) (hz (.instantiable xIAE 6) zm_491) (hz (.initialized xIAE) zm_492) hsa d_LF_fixity_21 d_LF_fixity_24 d_LF_fixity_25 d_LF_fixity_27 d_LF_fixity_30 (covers_of_empty (B.noHandlers (hts _ List.mem_cons_self)) _) (by decide) (by decide) (by decide) (by decide)
set_option maxHeartbeats 4000000 in
set_option maxRecDepth 100000 in
theorem ct_fixity_fx4 (l : Launch) (hnt : l.stackTraces = false) (dC : Nat → ClassId) (dI : Nat → Nat → Nat) (a0 : Nat) (ev : Int64) (sdx : Int32) (lvx : Int32) (g1 : ¬ sdx < 0) (g2 : ¬ 2 < sdx) (g3 : ¬ lvx < 0) (g4 : 9 < lvx) : tx_Met l y_LF_fixity w_LF_fixity ({ frames := 7, cells := 1, slots := 6, locals := 120 }) (va_Pc [.ref a0, .long ev, .int sdx, .int lvx] (fun U => va_P (dC, dI) vcl [] U.heap ∧ va_K (dC, dI) vcl [] U ∧ tx_C U)) xIAE 1 6 := by
  refine tx_ofW (cc := b_LF_fixity) (maxL := 5) (ret := (some .int)) (by decide) rfl ?_
  intro p e s m args below meth c s₁ B hml hv
  obtain ⟨rfl, hP, hK, hC⟩ := hv
  have hx := B.exec
  have hb := B.bytes
  have hr := B.returns
  have hts := atoms_spec (ws := w_LF_fixity) B.pre
  have hz : ∀ w ∈ wz, w.before _ s = true := fun w h => hts w (List.mem_cons_of_mem _ h)
  have hown : s.vm.findClass R_LF = some m.cls := findClass_of_methodNamed B.named
  have hlocks := B.notSynchronized
  have hS : va_S (fun q => s.heap.size ≤ q) s.heap s.heap [] := va_S.rf
  have hl := lv_entry ([.ref a0, .long ev, .int sdx, .int lvx]) (n := 5) (Nat.le_of_ble_eq_true rfl)
  rw [lg_entry_eq]
  generalize (lg_sl ([.ref a0, .long ev, .int sdx, .int lvx]) ++ List.replicate (5 - (lg_sl ([.ref a0, .long ev, .int sdx, .int lvx])).length) Slot.unset).toArray = ls at hl ⊢
  have hl : lv_has ls 5 [(0, .ref a0), (1, .long ev), (3, .int sdx), (4, .int lvx)] := hl
  refine lv_iload_n hx hb d_LF_fixity_0 rfl (lv_at hl 2 rfl) ?_
  refine lv_if_lt (tgt := 21) hx hb d_LF_fixity_1 (by decide) (fun h => absurd h g1) (fun _ => ?_)
  refine lv_iload_n hx hb d_LF_fixity_4 rfl (lv_at hl 2 rfl) ?_
  refine lv_iconst (v := 2) hx hb d_LF_fixity_5 (by decide) ?_
  refine lv_icmp_gt (tgt := 21) hx hb d_LF_fixity_6 (by decide) (fun h => absurd h g2) (fun _ => ?_)
  refine lv_iload hx hb d_LF_fixity_9 (lv_at hl 3 rfl) ?_
  refine lv_if_lt (tgt := 21) hx hb d_LF_fixity_11 (by decide) (fun h => absurd h g3) (fun _ => ?_)
  refine lv_iload hx hb d_LF_fixity_14 (lv_at hl 3 rfl) ?_
  refine lv_bipush (v := 9) hx hb d_LF_fixity_16 (by decide) ?_
  refine lv_icmp_le (tgt := 31) hx hb d_LF_fixity_18 (by decide) (fun h => absurd h (xr_nle9 g4)) (fun _ => ?_)
  obtain ⟨sa, hsa⟩ := hC.2.2.2.1
  exact tx_throw hx hb hnt hlocks (hl.1.trans hml.symm) hS.1 hown (by decide +kernel) (by decide +kernel) (tx_hIAE hz hC) (hz (.classLink R_LF 65 xIAE) zm_490) (hz (.instantiable xIAE 6) zm_491) (hz (.initialized xIAE) zm_492) hsa d_LF_fixity_21 d_LF_fixity_24 d_LF_fixity_25 d_LF_fixity_27 d_LF_fixity_30 (covers_of_empty (B.noHandlers (hts _ List.mem_cons_self)) _) (by decide) (by decide) (by decide) (by decide)
set_option maxHeartbeats 4000000 in
set_option maxRecDepth 100000 in
theorem cw_kind (l : Launch) (hnt : l.stackTraces = false) (dC : Nat → ClassId) (dI : Nat → Nat → Nat) (a0 : Nat) (a1 : Nat) (a2 : Nat) (a3 : Nat) (a4 : Nat) (a5 : Nat) (a6 : Nat) (a7 : Nat) (a8 : Nat) (a9 : Nat) (ao : Nat) (ix : Int32) : Met l y_Law_kind w_Law_kind ({ frames := 8, cells := 1, slots := 6, locals := 141 }) (va_Pc [.ref a0, .int ix, .ref ao] (fun U => va_P (dC, dI) vcl [(a0, .inr (0, [.ref a2, .ref a3, .ref a4, .ref a5, .ref a6, .ref a1, .ref a7, .int (-1)])), (a1, .inr (11, [.ref a8, .ref a9, .int 0]))] U.heap ∧ va_K (dC, dI) vcl [] U ∧ tx_C U)) (va_Qi (fun (r : Int32) (_ : Unit) => r = 1) (fun _ _ => True) (fun _ => False)) 1 6 (fun _ => False) := by
  refine va_MetW (hh := [(0, 9, 12, 29)]) (cc := b_Law_kind) (maxL := 4) (ret := (some .int)) (by decide) rfl ?_
  intro p e s m args below meth c s₁ B hml hv
  obtain ⟨rfl, hP, hK, hC⟩ := hv
  have hx := B.exec
  have hb := B.bytes
  have hr := B.returns
  have hts := atoms_spec (ws := w_Law_kind) B.pre
  have hz : ∀ w ∈ wz, w.before _ s = true := fun w h => hts w (List.mem_cons_of_mem _ h)
  have hown : s.vm.findClass R_Law = some m.cls := findClass_of_methodNamed B.named
  have hlocks := B.notSynchronized
  have hS : va_S (fun q => s.heap.size ≤ q) s.heap s.heap [] := va_S.rf
  have hl := lv_entry ([.ref a0, .int ix, .ref ao]) (n := 4) (Nat.le_of_ble_eq_true rfl)
  rw [lg_entry_eq]
  generalize (lg_sl ([.ref a0, .int ix, .ref ao]) ++ List.replicate (4 - (lg_sl ([.ref a0, .int ix, .ref ao])).length) Slot.unset).toArray = ls at hl ⊢
  have hl : lv_has ls 4 [(0, .ref a0), (1, .int ix), (2, .ref ao)] := hl
  have hhand := tx_hand B (hts _ List.mem_cons_self)
  obtain ⟨x, suf, hsplit, hxe, -⟩ := List.map_eq_cons_iff.mp hhand
  simp only [Prod.mk.injEq] at hxe
  obtain ⟨e1, e2, e3, e4⟩ := hxe
  refine lv_aload_n hx hb d_Law_kind_0 rfl (lv_at hl 2 rfl) ?_
  refine lv_iconst (v := 0) hx hb d_Law_kind_1 (by decide) ?_
  refine lv_aload_n hx hb d_Law_kind_2 rfl (lv_at hl 0 rfl) ?_
  refine lv_iload_n hx hb d_Law_kind_3 rfl (lv_at hl 1 rfl) ?_
  have hPc := hP.sub (ws' := [(a0, .inr (0, [.ref a2, .ref a3, .ref a4, .ref a5, .ref a6, .ref a1, .ref a7, .int (-1)])), (a1, .inr (11, [.ref a8, .ref a9, .int 0]))]) [0, 1] rfl
  refine tx_callV (x := x) (nm := xIOB) (As := [.int ix]) (rest := [.int 0, .ref ao]) ⟨hx, hb, hml, hown, hz⟩ (ct_kind l hnt dC dI a0 a1 a2 a3 a4 a5 a6 a7 a8 a9 ix) (cwV 1 hz (zV zm_493 zm_494 zm_495 zm_333 zm_496) rfl rfl rfl (by decide +kernel) ⟨Nat.le_of_ble_eq_true rfl, Nat.le_of_ble_eq_true rfl⟩) ⟨fun a U g mk q => by obtain ⟨q0, qP, qK, qC⟩ := q; exact ⟨q0, qP, va_K.moved (u := U) (U := U.calling g mk a) (Vm.Alike.refl U.vm) qK, tx_C.same (u := U) (U := U.calling g mk a) rfl rfl qC⟩, va_recv (q := (R_LF, F_LF, 8)) (q0 := 0) (ci := 0) hK hP rfl rfl, fun U hU hW => ⟨rfl, by rw [hU]; exact hPc, va_K.moved hW.alike hK, hC.warm hW (fun z _ => by rw [hU])⟩⟩ rfl hl.1 (lv_room (Nat.le_of_ble_eq_true rfl)) d_Law_kind_4 ⟨by decide, by decide⟩ hsplit (by simp [covers, e1, e2]) (by rw [e4]; decide) (by rw [e4]; exact (hz (.classLink R_Law 29 xIOB) zm_497)) (va_Nw.use rfl (hC.2.1 (.castable xIOB xIOB) (by decide +kernel))) (fun q H1 hz1 hk1 => ?_)
  rw [e3]
  refine lv_astore_n hx hb d_Law_kind_12 rfl hl (by decide) rfl (fun ls hl => ?_)
  refine lv_iconst (v := 1) hx hb d_Law_kind_13 (by decide) ?_
  exact W.iret (v := 1) hx hb hr (fun t ht hW => ⟨⟨1, (), rfl, rfl, trivial⟩, ⟨by rw [ht]; exact hz1, fun q h1 _ => by rw [ht]; exact hk1 q h1⟩⟩) (fun _ h => nomatch h) d_Law_kind_14
set_option maxHeartbeats 4000000 in
set_option maxRecDepth 100000 in
theorem cw_token (l : Launch) (hnt : l.stackTraces = false) (dC : Nat → ClassId) (dI : Nat → Nat → Nat) (a0 : Nat) (a1 : Nat) (a2 : Nat) (a3 : Nat) (a4 : Nat) (a5 : Nat) (a6 : Nat) (a7 : Nat) (a8 : Nat) (a9 : Nat) (ao : Nat) (ix : Int32) : Met l y_Law_token w_Law_token ({ frames := 8, cells := 1, slots := 6, locals := 141 }) (va_Pc [.ref a0, .int ix, .ref ao] (fun U => va_P (dC, dI) vcl [(a0, .inr (0, [.ref a2, .ref a3, .ref a4, .ref a5, .ref a6, .ref a1, .ref a7, .int (-1)])), (a1, .inr (11, [.ref a8, .ref a9, .int 0]))] U.heap ∧ va_K (dC, dI) vcl [] U ∧ tx_C U)) (va_Qi (fun (r : Int32) (_ : Unit) => r = 1) (fun _ _ => True) (fun _ => False)) 1 6 (fun _ => False) := by
  refine va_MetW (hh := [(0, 8, 11, 29)]) (cc := b_Law_token) (maxL := 4) (ret := (some .int)) (by decide) rfl ?_
  intro p e s m args below meth c s₁ B hml hv
  obtain ⟨rfl, hP, hK, hC⟩ := hv
  have hx := B.exec
  have hb := B.bytes
  have hr := B.returns
  have hts := atoms_spec (ws := w_Law_token) B.pre
  have hz : ∀ w ∈ wz, w.before _ s = true := fun w h => hts w (List.mem_cons_of_mem _ h)
  have hown : s.vm.findClass R_Law = some m.cls := findClass_of_methodNamed B.named
  have hlocks := B.notSynchronized
  have hS : va_S (fun q => s.heap.size ≤ q) s.heap s.heap [] := va_S.rf
  have hl := lv_entry ([.ref a0, .int ix, .ref ao]) (n := 4) (Nat.le_of_ble_eq_true rfl)
  rw [lg_entry_eq]
  generalize (lg_sl ([.ref a0, .int ix, .ref ao]) ++ List.replicate (4 - (lg_sl ([.ref a0, .int ix, .ref ao])).length) Slot.unset).toArray = ls at hl ⊢
  have hl : lv_has ls 4 [(0, .ref a0), (1, .int ix), (2, .ref ao)] := hl
  have hhand := tx_hand B (hts _ List.mem_cons_self)
  obtain ⟨x, suf, hsplit, hxe, -⟩ := List.map_eq_cons_iff.mp hhand
  simp only [Prod.mk.injEq] at hxe
  obtain ⟨e1, e2, e3, e4⟩ := hxe
  refine lv_aload_n hx hb d_Law_token_0 rfl (lv_at hl 2 rfl) ?_
  refine lv_iconst (v := 0) hx hb d_Law_token_1 (by decide) ?_
  refine lv_aload_n hx hb d_Law_token_2 rfl (lv_at hl 0 rfl) ?_
  refine lv_iload_n hx hb d_Law_token_3 rfl (lv_at hl 1 rfl) ?_
  have hPc := hP.sub (ws' := [(a0, .inr (0, [.ref a2, .ref a3, .ref a4, .ref a5, .ref a6, .ref a1, .ref a7, .int (-1)])), (a1, .inr (11, [.ref a8, .ref a9, .int 0]))]) [0, 1] rfl
  refine tx_callV (x := x) (nm := xIOB) (As := [.int ix]) (rest := [.int 0, .ref ao]) ⟨hx, hb, hml, hown, hz⟩ (ct_token l hnt dC dI a0 a1 a2 a3 a4 a5 a6 a7 a8 a9 ix) (cwV 1 hz (zV zm_498 zm_499 zm_500 zm_333 zm_501) rfl rfl rfl (by decide +kernel) ⟨Nat.le_of_ble_eq_true rfl, Nat.le_of_ble_eq_true rfl⟩) ⟨fun a U g mk q => by obtain ⟨q0, qP, qK, qC⟩ := q; exact ⟨q0, qP, va_K.moved (u := U) (U := U.calling g mk a) (Vm.Alike.refl U.vm) qK, tx_C.same (u := U) (U := U.calling g mk a) rfl rfl qC⟩, va_recv (q := (R_LF, F_LF, 8)) (q0 := 0) (ci := 0) hK hP rfl rfl, fun U hU hW => ⟨rfl, by rw [hU]; exact hPc, va_K.moved hW.alike hK, hC.warm hW (fun z _ => by rw [hU])⟩⟩ rfl hl.1 (lv_room (Nat.le_of_ble_eq_true rfl)) d_Law_token_4 ⟨by decide, by decide⟩ hsplit (by simp [covers, e1, e2]) (by rw [e4]; decide) (by rw [e4]; exact (hz (.classLink R_Law 29 xIOB) zm_497)) (va_Nw.use rfl (hC.2.1 (.castable xIOB xIOB) (by decide +kernel))) (fun q H1 hz1 hk1 => ?_)
  rw [e3]
  refine lv_astore_n hx hb d_Law_token_11 rfl hl (by decide) rfl (fun ls hl => ?_)
  refine lv_iconst (v := 1) hx hb d_Law_token_12 (by decide) ?_
  exact W.iret (v := 1) hx hb hr (fun t ht hW => ⟨⟨1, (), rfl, rfl, trivial⟩, ⟨by rw [ht]; exact hz1, fun q h1 _ => by rw [ht]; exact hk1 q h1⟩⟩) (fun _ h => nomatch h) d_Law_token_13
set_option maxHeartbeats 4000000 in
set_option maxRecDepth 100000 in
theorem cw_count_neg (l : Launch) (hnt : l.stackTraces = false) (dC : Nat → ClassId) (dI : Nat → Nat → Nat) (a0 : Nat) (a1 : Nat) (a3 : Nat) (a7 : Nat) (a15 : Nat) (a21 : Nat) (a38 : Nat) (a41 : Nat) (ao : Nat) (ix : Int32) (gi : ix < 0) : Met l y_Law_count w_Law_count ({ frames := 8, cells := 1, slots := 6, locals := 141 }) (va_Pc [.ref a0, .int ix, .ref ao] (fun U => va_P (dC, dI) vcl [(a0, .inr (0, [.ref a1, .ref a3, .ref a7, .ref a15, .ref a21, .ref a38, .ref a41, .int (-1)]))] U.heap ∧ va_K (dC, dI) vcl [] U ∧ tx_C U)) (va_Qi (fun (r : Int32) (_ : Unit) => r = 1) (fun _ _ => True) (fun _ => False)) 1 6 (fun _ => False) := by
  refine va_MetW (hh := [(0, 9, 12, 29)]) (cc := b_Law_count) (maxL := 4) (ret := (some .int)) (by decide) rfl ?_
  intro p e s m args below meth c s₁ B hml hv
  obtain ⟨rfl, hP, hK, hC⟩ := hv
  have hx := B.exec
  have hb := B.bytes
  have hr := B.returns
  have hts := atoms_spec (ws := w_Law_count) B.pre
  have hz : ∀ w ∈ wz, w.before _ s = true := fun w h => hts w (List.mem_cons_of_mem _ h)
  have hown : s.vm.findClass R_Law = some m.cls := findClass_of_methodNamed B.named
  have hlocks := B.notSynchronized
  have hS : va_S (fun q => s.heap.size ≤ q) s.heap s.heap [] := va_S.rf
  have hl := lv_entry ([.ref a0, .int ix, .ref ao]) (n := 4) (Nat.le_of_ble_eq_true rfl)
  rw [lg_entry_eq]
  generalize (lg_sl ([.ref a0, .int ix, .ref ao]) ++ List.replicate (4 - (lg_sl ([.ref a0, .int ix, .ref ao])).length) Slot.unset).toArray = ls at hl ⊢
  have hl : lv_has ls 4 [(0, .ref a0), (1, .int ix), (2, .ref ao)] := hl
  have hhand := tx_hand B (hts _ List.mem_cons_self)
  obtain ⟨x, suf, hsplit, hxe, -⟩ := List.map_eq_cons_iff.mp hhand
  simp only [Prod.mk.injEq] at hxe
  obtain ⟨e1, e2, e3, e4⟩ := hxe
  refine lv_aload_n hx hb d_Law_count_0 rfl (lv_at hl 2 rfl) ?_
  refine lv_iconst (v := 0) hx hb d_Law_count_1 (by decide) ?_
  refine lv_aload_n hx hb d_Law_count_2 rfl (lv_at hl 0 rfl) ?_
  refine lv_iload_n hx hb d_Law_count_3 rfl (lv_at hl 1 rfl) ?_
  have hPc := hP.sub (ws' := []) [] rfl
  refine tx_callV (x := x) (nm := xIOB) (As := [.int ix]) (rest := [.int 0, .ref ao]) ⟨hx, hb, hml, hown, hz⟩ (ct_count_neg l hnt dC dI a0 ix gi) (cwV 1 hz (zV zm_445 zm_446 zm_447 zm_333 zm_448) rfl rfl rfl (by decide +kernel) ⟨Nat.le_of_ble_eq_true rfl, Nat.le_of_ble_eq_true rfl⟩) ⟨fun a U g mk q => by obtain ⟨q0, qP, qK, qC⟩ := q; exact ⟨q0, qP, va_K.moved (u := U) (U := U.calling g mk a) (Vm.Alike.refl U.vm) qK, tx_C.same (u := U) (U := U.calling g mk a) rfl rfl qC⟩, va_recv (q := (R_LF, F_LF, 8)) (q0 := 0) (ci := 0) hK hP rfl rfl, fun U hU hW => ⟨rfl, by rw [hU]; exact hPc, va_K.moved hW.alike hK, hC.warm hW (fun z _ => by rw [hU])⟩⟩ rfl hl.1 (lv_room (Nat.le_of_ble_eq_true rfl)) d_Law_count_4 ⟨by decide, by decide⟩ hsplit (by simp [covers, e1, e2]) (by rw [e4]; decide) (by rw [e4]; exact (hz (.classLink R_Law 29 xIOB) zm_497)) (va_Nw.use rfl (hC.2.1 (.castable xIOB xIOB) (by decide +kernel))) (fun q H1 hz1 hk1 => ?_)
  rw [e3]
  refine lv_astore_n hx hb d_Law_count_12 rfl hl (by decide) rfl (fun ls hl => ?_)
  refine lv_iconst (v := 1) hx hb d_Law_count_13 (by decide) ?_
  exact W.iret (v := 1) hx hb hr (fun t ht hW => ⟨⟨1, (), rfl, rfl, trivial⟩, ⟨by rw [ht]; exact hz1, fun q h1 _ => by rw [ht]; exact hk1 q h1⟩⟩) (fun _ h => nomatch h) d_Law_count_14
set_option maxHeartbeats 4000000 in
set_option maxRecDepth 100000 in
theorem cw_count_big (l : Launch) (hnt : l.stackTraces = false) (dC : Nat → ClassId) (dI : Nat → Nat → Nat) (a0 : Nat) (a1 : Nat) (a3 : Nat) (a7 : Nat) (a15 : Nat) (a21 : Nat) (a38 : Nat) (a41 : Nat) (ao : Nat) (ix : Int32) (gi : ¬ ix < 0) (g5 : 5 ≤ ix) : Met l y_Law_count w_Law_count ({ frames := 8, cells := 1, slots := 6, locals := 141 }) (va_Pc [.ref a0, .int ix, .ref ao] (fun U => va_P (dC, dI) vcl [(a0, .inr (0, [.ref a1, .ref a3, .ref a7, .ref a15, .ref a21, .ref a38, .ref a41, .int (-1)]))] U.heap ∧ va_K (dC, dI) vcl [] U ∧ tx_C U)) (va_Qi (fun (r : Int32) (_ : Unit) => r = 1) (fun _ _ => True) (fun _ => False)) 1 6 (fun _ => False) := by
  refine va_MetW (hh := [(0, 9, 12, 29)]) (cc := b_Law_count) (maxL := 4) (ret := (some .int)) (by decide) rfl ?_
  intro p e s m args below meth c s₁ B hml hv
  obtain ⟨rfl, hP, hK, hC⟩ := hv
  have hx := B.exec
  have hb := B.bytes
  have hr := B.returns
  have hts := atoms_spec (ws := w_Law_count) B.pre
  have hz : ∀ w ∈ wz, w.before _ s = true := fun w h => hts w (List.mem_cons_of_mem _ h)
  have hown : s.vm.findClass R_Law = some m.cls := findClass_of_methodNamed B.named
  have hlocks := B.notSynchronized
  have hS : va_S (fun q => s.heap.size ≤ q) s.heap s.heap [] := va_S.rf
  have hl := lv_entry ([.ref a0, .int ix, .ref ao]) (n := 4) (Nat.le_of_ble_eq_true rfl)
  rw [lg_entry_eq]
  generalize (lg_sl ([.ref a0, .int ix, .ref ao]) ++ List.replicate (4 - (lg_sl ([.ref a0, .int ix, .ref ao])).length) Slot.unset).toArray = ls at hl ⊢
  have hl : lv_has ls 4 [(0, .ref a0), (1, .int ix), (2, .ref ao)] := hl
  have hhand := tx_hand B (hts _ List.mem_cons_self)
  obtain ⟨x, suf, hsplit, hxe, -⟩ := List.map_eq_cons_iff.mp hhand
  simp only [Prod.mk.injEq] at hxe
  obtain ⟨e1, e2, e3, e4⟩ := hxe
  refine lv_aload_n hx hb d_Law_count_0 rfl (lv_at hl 2 rfl) ?_
  refine lv_iconst (v := 0) hx hb d_Law_count_1 (by decide) ?_
  refine lv_aload_n hx hb d_Law_count_2 rfl (lv_at hl 0 rfl) ?_
  refine lv_iload_n hx hb d_Law_count_3 rfl (lv_at hl 1 rfl) ?_
  have hPc := hP.sub (ws' := []) [] rfl
  refine tx_callV (x := x) (nm := xIOB) (As := [.int ix]) (rest := [.int 0, .ref ao]) ⟨hx, hb, hml, hown, hz⟩ (ct_count_big l hnt dC dI a0 ix gi g5) (cwV 1 hz (zV zm_445 zm_446 zm_447 zm_333 zm_448) rfl rfl rfl (by decide +kernel) ⟨Nat.le_of_ble_eq_true rfl, Nat.le_of_ble_eq_true rfl⟩) ⟨fun a U g mk q => by obtain ⟨q0, qP, qK, qC⟩ := q; exact ⟨q0, qP, va_K.moved (u := U) (U := U.calling g mk a) (Vm.Alike.refl U.vm) qK, tx_C.same (u := U) (U := U.calling g mk a) rfl rfl qC⟩, va_recv (q := (R_LF, F_LF, 8)) (q0 := 0) (ci := 0) hK hP rfl rfl, fun U hU hW => ⟨rfl, by rw [hU]; exact hPc, va_K.moved hW.alike hK, hC.warm hW (fun z _ => by rw [hU])⟩⟩ rfl hl.1 (lv_room (Nat.le_of_ble_eq_true rfl)) d_Law_count_4 ⟨by decide, by decide⟩ hsplit (by simp [covers, e1, e2]) (by rw [e4]; decide) (by rw [e4]; exact (hz (.classLink R_Law 29 xIOB) zm_497)) (va_Nw.use rfl (hC.2.1 (.castable xIOB xIOB) (by decide +kernel))) (fun q H1 hz1 hk1 => ?_)
  rw [e3]
  refine lv_astore_n hx hb d_Law_count_12 rfl hl (by decide) rfl (fun ls hl => ?_)
  refine lv_iconst (v := 1) hx hb d_Law_count_13 (by decide) ?_
  exact W.iret (v := 1) hx hb hr (fun t ht hW => ⟨⟨1, (), rfl, rfl, trivial⟩, ⟨by rw [ht]; exact hz1, fun q h1 _ => by rw [ht]; exact hk1 q h1⟩⟩) (fun _ h => nomatch h) d_Law_count_14
set_option maxHeartbeats 4000000 in
set_option maxRecDepth 100000 in
theorem cw_fixity_fx1 (l : Launch) (hnt : l.stackTraces = false) (dC : Nat → ClassId) (dI : Nat → Nat → Nat) (a0 : Nat) (a1 : Nat) (a3 : Nat) (a7 : Nat) (a15 : Nat) (a21 : Nat) (a38 : Nat) (a41 : Nat) (ao : Nat) (ev : Int64) (sdx : Int32) (lvx : Int32) (g1 : sdx < 0) : Met l y_Law_fixity w_Law_fixity ({ frames := 8, cells := 1, slots := 6, locals := 144 }) (va_Pc [.ref a0, .long ev, .int sdx, .int lvx, .ref ao] (fun U => va_P (dC, dI) vcl [(a0, .inr (0, [.ref a1, .ref a3, .ref a7, .ref a15, .ref a21, .ref a38, .ref a41, .int (-1)]))] U.heap ∧ va_K (dC, dI) vcl [] U ∧ tx_C U)) (va_Qi (fun (r : Int32) (_ : Unit) => r = 1) (fun _ _ => True) (fun _ => False)) 1 6 (fun _ => False) := by
  refine va_MetW (hh := [(0, 13, 16, 13), (0, 13, 20, 15)]) (cc := b_Law_fixity) (maxL := 7) (ret := (some .int)) (by decide) rfl ?_
  intro p e s m args below meth c s₁ B hml hv
  obtain ⟨rfl, hP, hK, hC⟩ := hv
  have hx := B.exec
  have hb := B.bytes
  have hr := B.returns
  have hts := atoms_spec (ws := w_Law_fixity) B.pre
  have hz : ∀ w ∈ wz, w.before _ s = true := fun w h => hts w (List.mem_cons_of_mem _ h)
  have hown : s.vm.findClass R_Law = some m.cls := findClass_of_methodNamed B.named
  have hlocks := B.notSynchronized
  have hS : va_S (fun q => s.heap.size ≤ q) s.heap s.heap [] := va_S.rf
  have hl := lv_entry ([.ref a0, .long ev, .int sdx, .int lvx, .ref ao]) (n := 7) (Nat.le_of_ble_eq_true rfl)
  rw [lg_entry_eq]
  generalize (lg_sl ([.ref a0, .long ev, .int sdx, .int lvx, .ref ao]) ++ List.replicate (7 - (lg_sl ([.ref a0, .long ev, .int sdx, .int lvx, .ref ao])).length) Slot.unset).toArray = ls at hl ⊢
  have hl : lv_has ls 7 [(0, .ref a0), (1, .long ev), (3, .int sdx), (4, .int lvx), (5, .ref ao)] := hl
  have hhand := tx_hand B (hts _ List.mem_cons_self)
  obtain ⟨x, suf, hsplit, hxe, -⟩ := List.map_eq_cons_iff.mp hhand
  simp only [Prod.mk.injEq] at hxe
  obtain ⟨e1, e2, e3, e4⟩ := hxe
  refine lv_aload hx hb d_Law_fixity_0 (lv_at hl 4 rfl) ?_
  refine lv_iconst (v := 0) hx hb d_Law_fixity_2 (by decide) ?_
  refine lv_aload_n hx hb d_Law_fixity_3 rfl (lv_at hl 0 rfl) ?_
  refine lv_lload_n hx hb d_Law_fixity_4 rfl (lv_at hl 1 rfl) ?_
  refine lv_iload_n hx hb d_Law_fixity_5 rfl (lv_at hl 2 rfl) ?_
  refine lv_iload hx hb d_Law_fixity_6 (lv_at hl 3 rfl) ?_
  have hPc := hP.sub (ws' := []) [] rfl
  refine tx_callV (x := x) (nm := xIAE) (As := [.long ev, .int sdx, .int lvx]) (rest := [.int 0, .ref ao]) ⟨hx, hb, hml, hown, hz⟩ (ct_fixity_fx1 l hnt dC dI a0 ev sdx lvx g1) (cwV 3 hz (zV zm_477 zm_478 zm_479 zm_333 zm_480) rfl rfl rfl (by decide +kernel) ⟨Nat.le_of_ble_eq_true rfl, Nat.le_of_ble_eq_true rfl⟩) ⟨fun a U g mk q => by obtain ⟨q0, qP, qK, qC⟩ := q; exact ⟨q0, qP, va_K.moved (u := U) (U := U.calling g mk a) (Vm.Alike.refl U.vm) qK, tx_C.same (u := U) (U := U.calling g mk a) rfl rfl qC⟩, va_recv (q := (R_LF, F_LF, 8)) (q0 := 0) (ci := 0) hK hP rfl rfl, fun U hU hW => ⟨rfl, by rw [hU]; exact hPc, va_K.moved hW.alike hK, hC.warm hW (fun z _ => by rw [hU])⟩⟩ rfl hl.1 (lv_room (Nat.le_of_ble_eq_true rfl)) d_Law_fixity_8 ⟨by decide, by decide⟩ hsplit (by simp [covers, e1, e2]) (by rw [e4]; decide) (by rw [e4]; exact (hz (.classLink R_Law 13 xIAE) zm_502)) (va_Nw.use rfl (hC.2.1 (.castable xIAE xIAE) (by decide +kernel))) (fun q H1 hz1 hk1 => ?_)
  rw [e3]
  refine lv_astore hx hb d_Law_fixity_16 hl (by decide) rfl (fun ls hl => ?_)
  refine lv_iconst (v := 1) hx hb d_Law_fixity_18 (by decide) ?_
  exact W.iret (v := 1) hx hb hr (fun t ht hW => ⟨⟨1, (), rfl, rfl, trivial⟩, ⟨by rw [ht]; exact hz1, fun q h1 _ => by rw [ht]; exact hk1 q h1⟩⟩) (fun _ h => nomatch h) d_Law_fixity_19
set_option maxHeartbeats 4000000 in
set_option maxRecDepth 100000 in
theorem cw_fixity_fx2 (l : Launch) (hnt : l.stackTraces = false) (dC : Nat → ClassId) (dI : Nat → Nat → Nat) (a0 : Nat) (a1 : Nat) (a3 : Nat) (a7 : Nat) (a15 : Nat) (a21 : Nat) (a38 : Nat) (a41 : Nat) (ao : Nat) (ev : Int64) (sdx : Int32) (lvx : Int32) (g1 : ¬ sdx < 0) (g2 : 2 < sdx) : Met l y_Law_fixity w_Law_fixity ({ frames := 8, cells := 1, slots := 6, locals := 144 }) (va_Pc [.ref a0, .long ev, .int sdx, .int lvx, .ref ao] (fun U => va_P (dC, dI) vcl [(a0, .inr (0, [.ref a1, .ref a3, .ref a7, .ref a15, .ref a21, .ref a38, .ref a41, .int (-1)]))] U.heap ∧ va_K (dC, dI) vcl [] U ∧ tx_C U)) (va_Qi (fun (r : Int32) (_ : Unit) => r = 1) (fun _ _ => True) (fun _ => False)) 1 6 (fun _ => False) := by
  refine va_MetW (hh := [(0, 13, 16, 13), (0, 13, 20, 15)]) (cc := b_Law_fixity) (maxL := 7) (ret := (some .int)) (by decide) rfl ?_
  intro p e s m args below meth c s₁ B hml hv
  obtain ⟨rfl, hP, hK, hC⟩ := hv
  have hx := B.exec
  have hb := B.bytes
  have hr := B.returns
  have hts := atoms_spec (ws := w_Law_fixity) B.pre
  have hz : ∀ w ∈ wz, w.before _ s = true := fun w h => hts w (List.mem_cons_of_mem _ h)
  have hown : s.vm.findClass R_Law = some m.cls := findClass_of_methodNamed B.named
  have hlocks := B.notSynchronized
  have hS : va_S (fun q => s.heap.size ≤ q) s.heap s.heap [] := va_S.rf
  have hl := lv_entry ([.ref a0, .long ev, .int sdx, .int lvx, .ref ao]) (n := 7) (Nat.le_of_ble_eq_true rfl)
  rw [lg_entry_eq]
  generalize (lg_sl ([.ref a0, .long ev, .int sdx, .int lvx, .ref ao]) ++ List.replicate (7 - (lg_sl ([.ref a0, .long ev, .int sdx, .int lvx, .ref ao])).length) Slot.unset).toArray = ls at hl ⊢
  have hl : lv_has ls 7 [(0, .ref a0), (1, .long ev), (3, .int sdx), (4, .int lvx), (5, .ref ao)] := hl
  have hhand := tx_hand B (hts _ List.mem_cons_self)
  obtain ⟨x, suf, hsplit, hxe, -⟩ := List.map_eq_cons_iff.mp hhand
  simp only [Prod.mk.injEq] at hxe
  obtain ⟨e1, e2, e3, e4⟩ := hxe
  refine lv_aload hx hb d_Law_fixity_0 (lv_at hl 4 rfl) ?_
  refine lv_iconst (v := 0) hx hb d_Law_fixity_2 (by decide) ?_
  refine lv_aload_n hx hb d_Law_fixity_3 rfl (lv_at hl 0 rfl) ?_
  refine lv_lload_n hx hb d_Law_fixity_4 rfl (lv_at hl 1 rfl) ?_
  refine lv_iload_n hx hb d_Law_fixity_5 rfl (lv_at hl 2 rfl) ?_
  refine lv_iload hx hb d_Law_fixity_6 (lv_at hl 3 rfl) ?_
  have hPc := hP.sub (ws' := []) [] rfl
  refine tx_callV (x := x) (nm := xIAE) (As := [.long ev, .int sdx, .int lvx]) (rest := [.int 0, .ref ao]) ⟨hx, hb, hml, hown, hz⟩ (ct_fixity_fx2 l hnt dC dI a0 ev sdx lvx g1 g2) (cwV 3 hz (zV zm_477 zm_478 zm_479 zm_333 zm_480) rfl rfl rfl (by decide +kernel) ⟨Nat.le_of_ble_eq_true rfl, Nat.le_of_ble_eq_true rfl⟩) ⟨fun a U g mk q => by obtain ⟨q0, qP, qK, qC⟩ := q; exact ⟨q0, qP, va_K.moved (u := U) (U := U.calling g mk a) (Vm.Alike.refl U.vm) qK, tx_C.same (u := U) (U := U.calling g mk a) rfl rfl qC⟩, va_recv (q := (R_LF, F_LF, 8)) (q0 := 0) (ci := 0) hK hP rfl rfl, fun U hU hW => ⟨rfl, by rw [hU]; exact hPc, va_K.moved hW.alike hK, hC.warm hW (fun z _ => by rw [hU])⟩⟩ rfl hl.1 (lv_room (Nat.le_of_ble_eq_true rfl)) d_Law_fixity_8 ⟨by decide, by decide⟩ hsplit (by simp [covers, e1, e2]) (by rw [e4]; decide) (by rw [e4]; exact (hz (.classLink R_Law 13 xIAE) zm_502)) (va_Nw.use rfl (hC.2.1 (.castable xIAE xIAE) (by decide +kernel))) (fun q H1 hz1 hk1 => ?_)
  rw [e3]
  refine lv_astore hx hb d_Law_fixity_16 hl (by decide) rfl (fun ls hl => ?_)
  refine lv_iconst (v := 1) hx hb d_Law_fixity_18 (by decide) ?_
  exact W.iret (v := 1) hx hb hr (fun t ht hW => ⟨⟨1, (), rfl, rfl, trivial⟩, ⟨by rw [ht]; exact hz1, fun q h1 _ => by rw [ht]; exact hk1 q h1⟩⟩) (fun _ h => nomatch h) d_Law_fixity_19
set_option maxHeartbeats 4000000 in
set_option maxRecDepth 100000 in
theorem cw_fixity_fx3 (l : Launch) (hnt : l.stackTraces = false) (dC : Nat → ClassId) (dI : Nat → Nat → Nat) (a0 : Nat) (a1 : Nat) (a3 : Nat) (a7 : Nat) (a15 : Nat) (a21 : Nat) (a38 : Nat) (a41 : Nat) (ao : Nat) (ev : Int64) (sdx : Int32) (lvx : Int32) (g1 : ¬ sdx < 0) (g2 : ¬ 2 < sdx) (g3 : lvx < 0) : Met l y_Law_fixity w_Law_fixity ({ frames := 8, cells := 1, slots := 6, locals := 144 }) (va_Pc [.ref a0, .long ev, .int sdx, .int lvx, .ref ao] (fun U => va_P (dC, dI) vcl [(a0, .inr (0, [.ref a1, .ref a3, .ref a7, .ref a15, .ref a21, .ref a38, .ref a41, .int (-1)]))] U.heap ∧ va_K (dC, dI) vcl [] U ∧ tx_C U)) (va_Qi (fun (r : Int32) (_ : Unit) => r = 1) (fun _ _ => True) (fun _ => False)) 1 6 (fun _ => False) := by
  refine va_MetW (hh := [(0, 13, 16, 13), (0, 13, 20, 15)]) (cc := b_Law_fixity) (maxL := 7) (ret := (some .int)) (by decide) rfl ?_
  intro p e s m args below meth c s₁ B hml hv
  obtain ⟨rfl, hP, hK, hC⟩ := hv
  have hx := B.exec
  have hb := B.bytes
  have hr := B.returns
  have hts := atoms_spec (ws := w_Law_fixity) B.pre
  have hz : ∀ w ∈ wz, w.before _ s = true := fun w h => hts w (List.mem_cons_of_mem _ h)
  have hown : s.vm.findClass R_Law = some m.cls := findClass_of_methodNamed B.named
  have hlocks := B.notSynchronized
  have hS : va_S (fun q => s.heap.size ≤ q) s.heap s.heap [] := va_S.rf
  have hl := lv_entry ([.ref a0, .long ev, .int sdx, .int lvx, .ref ao]) (n := 7) (Nat.le_of_ble_eq_true rfl)
  rw [lg_entry_eq]
  generalize (lg_sl ([.ref a0, .long ev, .int sdx, .int lvx, .ref ao]) ++ List.replicate (7 - (lg_sl ([.ref a0, .long ev, .int sdx, .int lvx, .ref ao])).length) Slot.unset).toArray = ls at hl ⊢
  have hl : lv_has ls 7 [(0, .ref a0), (1, .long ev), (3, .int sdx), (4, .int lvx), (5, .ref ao)] := hl
  have hhand := tx_hand B (hts _ List.mem_cons_self)
  obtain ⟨x, suf, hsplit, hxe, -⟩ := List.map_eq_cons_iff.mp hhand
  simp only [Prod.mk.injEq] at hxe
  obtain ⟨e1, e2, e3, e4⟩ := hxe
  refine lv_aload hx hb d_Law_fixity_0 (lv_at hl 4 rfl) ?_
  refine lv_iconst (v := 0) hx hb d_Law_fixity_2 (by decide) ?_
  refine lv_aload_n hx hb d_Law_fixity_3 rfl (lv_at hl 0 rfl) ?_
  refine lv_lload_n hx hb d_Law_fixity_4 rfl (lv_at hl 1 rfl) ?_
  refine lv_iload_n hx hb d_Law_fixity_5 rfl (lv_at hl 2 rfl) ?_
  refine lv_iload hx hb d_Law_fixity_6 (lv_at hl 3 rfl) ?_
  have hPc := hP.sub (ws' := []) [] rfl
  refine tx_callV (x := x) (nm := xIAE) (As := [.long ev, .int sdx, .int lvx]) (rest := [.int 0, .ref ao]) ⟨hx, hb, hml, hown, hz⟩ (ct_fixity_fx3 l hnt dC dI a0 ev sdx lvx g1 g2 g3) (cwV 3 hz (zV zm_477 zm_478 zm_479 zm_333 zm_480) rfl rfl rfl (by decide +kernel) ⟨Nat.le_of_ble_eq_true rfl, Nat.le_of_ble_eq_true rfl⟩) ⟨fun a U g mk q => by obtain ⟨q0, qP, qK, qC⟩ := q; exact ⟨q0, qP, va_K.moved (u := U) (U := U.calling g mk a) (Vm.Alike.refl U.vm) qK, tx_C.same (u := U) (U := U.calling g mk a) rfl rfl qC⟩, va_recv (q := (R_LF, F_LF, 8)) (q0 := 0) (ci := 0) hK hP rfl rfl, fun U hU hW => ⟨rfl, by rw [hU]; exact hPc, va_K.moved hW.alike hK, hC.warm hW (fun z _ => by rw [hU])⟩⟩ rfl hl.1 (lv_room (Nat.le_of_ble_eq_true rfl)) d_Law_fixity_8 ⟨by decide, by decide⟩ hsplit (by simp [covers, e1, e2]) (by rw [e4]; decide) (by rw [e4]; exact (hz (.classLink R_Law 13 xIAE) zm_502)) (va_Nw.use rfl (hC.2.1 (.castable xIAE xIAE) (by decide +kernel))) (fun q H1 hz1 hk1 => ?_)
  rw [e3]
  refine lv_astore hx hb d_Law_fixity_16 hl (by decide) rfl (fun ls hl => ?_)
  refine lv_iconst (v := 1) hx hb d_Law_fixity_18 (by decide) ?_
  exact W.iret (v := 1) hx hb hr (fun t ht hW => ⟨⟨1, (), rfl, rfl, trivial⟩, ⟨by rw [ht]; exact hz1, fun q h1 _ => by rw [ht]; exact hk1 q h1⟩⟩) (fun _ h => nomatch h) d_Law_fixity_19
set_option maxHeartbeats 4000000 in
set_option maxRecDepth 100000 in
theorem cw_fixity_fx4 (l : Launch) (hnt : l.stackTraces = false) (dC : Nat → ClassId) (dI : Nat → Nat → Nat) (a0 : Nat) (a1 : Nat) (a3 : Nat) (a7 : Nat) (a15 : Nat) (a21 : Nat) (a38 : Nat) (a41 : Nat) (ao : Nat) (ev : Int64) (sdx : Int32) (lvx : Int32) (g1 : ¬ sdx < 0) (g2 : ¬ 2 < sdx) (g3 : ¬ lvx < 0) (g4 : 9 < lvx) : Met l y_Law_fixity w_Law_fixity ({ frames := 8, cells := 1, slots := 6, locals := 144 }) (va_Pc [.ref a0, .long ev, .int sdx, .int lvx, .ref ao] (fun U => va_P (dC, dI) vcl [(a0, .inr (0, [.ref a1, .ref a3, .ref a7, .ref a15, .ref a21, .ref a38, .ref a41, .int (-1)]))] U.heap ∧ va_K (dC, dI) vcl [] U ∧ tx_C U)) (va_Qi (fun (r : Int32) (_ : Unit) => r = 1) (fun _ _ => True) (fun _ => False)) 1 6 (fun _ => False) := by
  refine va_MetW (hh := [(0, 13, 16, 13), (0, 13, 20, 15)]) (cc := b_Law_fixity) (maxL := 7) (ret := (some .int)) (by decide) rfl ?_
  intro p e s m args below meth c s₁ B hml hv
  obtain ⟨rfl, hP, hK, hC⟩ := hv
  have hx := B.exec
  have hb := B.bytes
  have hr := B.returns
  have hts := atoms_spec (ws := w_Law_fixity) B.pre
  have hz : ∀ w ∈ wz, w.before _ s = true := fun w h => hts w (List.mem_cons_of_mem _ h)
  have hown : s.vm.findClass R_Law = some m.cls := findClass_of_methodNamed B.named
  have hlocks := B.notSynchronized
  have hS : va_S (fun q => s.heap.size ≤ q) s.heap s.heap [] := va_S.rf
  have hl := lv_entry ([.ref a0, .long ev, .int sdx, .int lvx, .ref ao]) (n := 7) (Nat.le_of_ble_eq_true rfl)
  rw [lg_entry_eq]
  generalize (lg_sl ([.ref a0, .long ev, .int sdx, .int lvx, .ref ao]) ++ List.replicate (7 - (lg_sl ([.ref a0, .long ev, .int sdx, .int lvx, .ref ao])).length) Slot.unset).toArray = ls at hl ⊢
  have hl : lv_has ls 7 [(0, .ref a0), (1, .long ev), (3, .int sdx), (4, .int lvx), (5, .ref ao)] := hl
  have hhand := tx_hand B (hts _ List.mem_cons_self)
  obtain ⟨x, suf, hsplit, hxe, -⟩ := List.map_eq_cons_iff.mp hhand
  simp only [Prod.mk.injEq] at hxe
  obtain ⟨e1, e2, e3, e4⟩ := hxe
  refine lv_aload hx hb d_Law_fixity_0 (lv_at hl 4 rfl) ?_
  refine lv_iconst (v := 0) hx hb d_Law_fixity_2 (by decide) ?_
  refine lv_aload_n hx hb d_Law_fixity_3 rfl (lv_at hl 0 rfl) ?_
  refine lv_lload_n hx hb d_Law_fixity_4 rfl (lv_at hl 1 rfl) ?_
  refine lv_iload_n hx hb d_Law_fixity_5 rfl (lv_at hl 2 rfl) ?_
  refine lv_iload hx hb d_Law_fixity_6 (lv_at hl 3 rfl) ?_
  have hPc := hP.sub (ws' := []) [] rfl
  refine tx_callV (x := x) (nm := xIAE) (As := [.long ev, .int sdx, .int lvx]) (rest := [.int 0, .ref ao]) ⟨hx, hb, hml, hown, hz⟩ (ct_fixity_fx4 l hnt dC dI a0 ev sdx lvx g1 g2 g3 g4) (cwV 3 hz (zV zm_477 zm_478 zm_479 zm_333 zm_480) rfl rfl rfl (by decide +kernel) ⟨Nat.le_of_ble_eq_true rfl, Nat.le_of_ble_eq_true rfl⟩) ⟨fun a U g mk q => by obtain ⟨q0, qP, qK, qC⟩ := q; exact ⟨q0, qP, va_K.moved (u := U) (U := U.calling g mk a) (Vm.Alike.refl U.vm) qK, tx_C.same (u := U) (U := U.calling g mk a) rfl rfl qC⟩, va_recv (q := (R_LF, F_LF, 8)) (q0 := 0) (ci := 0) hK hP rfl rfl, fun U hU hW => ⟨rfl, by rw [hU]; exact hPc, va_K.moved hW.alike hK, hC.warm hW (fun z _ => by rw [hU])⟩⟩ rfl hl.1 (lv_room (Nat.le_of_ble_eq_true rfl)) d_Law_fixity_8 ⟨by decide, by decide⟩ hsplit (by simp [covers, e1, e2]) (by rw [e4]; decide) (by rw [e4]; exact (hz (.classLink R_Law 13 xIAE) zm_502)) (va_Nw.use rfl (hC.2.1 (.castable xIAE xIAE) (by decide +kernel))) (fun q H1 hz1 hk1 => ?_)
  rw [e3]
  refine lv_astore hx hb d_Law_fixity_16 hl (by decide) rfl (fun ls hl => ?_)
  refine lv_iconst (v := 1) hx hb d_Law_fixity_18 (by decide) ?_
  exact W.iret (v := 1) hx hb hr (fun t ht hW => ⟨⟨1, (), rfl, rfl, trivial⟩, ⟨by rw [ht]; exact hz1, fun q h1 _ => by rw [ht]; exact hk1 q h1⟩⟩) (fun _ h => nomatch h) d_Law_fixity_19
