theorem tx_no_at {a a' : Array Value} {s : State} (h : tx_no.before a s = true) : tx_no.before a' s = true := by
  have h1 := Cond.holds_not_iff.mp h
  exact Cond.holds_not_iff.mpr h1
section CWR
variable {v : Int64} {k j N : Nat} {y : Int32}
theorem gd_t (h : gd_ v k = true) (ho : ok_ (by_ v k) = true) : gd_ v (k + 1) = true := by rw [gd_s, h, ho]; rfl
theorem okt (e : j = by_ v k) (h : j = 10 ∨ (32 ≤ j ∧ j ≤ 126)) : ok_ (by_ v k) = true := by
  rw [← e]; simp [ok_]; omega
theorem okf (e : j = by_ v k) (h : ¬ j = 10) (h2 : j < 32 ∨ 126 < j) : ok_ (by_ v k) = false := by
  rw [← e]; simp [ok_]; omega
theorem gd_1 (h : gd_ v k = true) (e : k = N) : (1 : Int32) = b01 (gd_ v N) := by rw [← e, h]; rfl
theorem gd_0 (h : ok_ (by_ v k) = false) (hk : k < N) : (0 : Int32) = b01 (gd_ v N) := by rw [gd_not h N hk]; rfl
theorem wi_lo (h : y < 1) : wi y 1 8 = 0 := if_pos h
theorem wi_hi (h : 8 < y) : wi y 1 8 = 0 := by
  unfold wi
  by_cases q : y < 1
  · rw [if_pos q]
  · rw [if_neg q, if_pos h]
end CWR
set_option maxHeartbeats 4000000 in
set_option maxRecDepth 100000 in
theorem s_Text_byteOfX (l : Launch) (dC : Nat → ClassId) (dI : Nat → Nat → Nat) (sz : Nat) (y0 : Int64) (y1 : Nat) (by1 : y1 ≤ 7) : Met l y_Text_byteOf w_Text_byteOf ({ frames := 0, cells := 0, slots := 0, locals := 0 }) (va_Pc [.long y0, .int (nI y1)] (fun U => U.heap.size = sz ∧ va_P (dC, dI) vcl [] U.heap ∧ va_K (dC, dI) vcl [] U ∧ va_D (fun _ => True) [])) (va_Qi (fun (r : Int32) (_ : Unit) => ∃ j, (j = by_ y0 y1) ∧ r = nI j) (fun _ t => va_P (dC, dI) vcl [] t.heap ∧ va_K (dC, dI) vcl [] t ∧ va_D (va_A [] sz) []) (va_A [] sz)) 0 0 (va_A [] sz) := by
  refine Met.ofW (cc := b_Text_byteOf) (maxL := 3) (ret := (some .int)) (by decide) rfl ?_
  intro p e s m args below meth c s₁ B hml hv
  obtain ⟨rfl, hsz, hP, hK, hD0⟩ := hv
  have hx := B.exec
  have hb := B.bytes
  have hr := B.returns
  have hts := atoms_spec (ws := w_Text_byteOf) B.pre
  have hz : ∀ w ∈ wz, w.before _ s = true := fun w h => hts w (List.mem_cons_of_mem _ h)
  have hown : s.vm.findClass R_Text = some m.cls := findClass_of_methodNamed B.named
  have hlocks := B.notSynchronized
  subst hsz
  have hD := hD0.self (sz := s.heap.size)
  generalize hAe : va_A [] s.heap.size = A at hD ⊢
  have hA : ∀ q : Nat, s.heap.size ≤ q → A q := fun q h => by rw [← hAe]; exact Or.inr h
  have hS : va_S A s.heap s.heap [] := va_S.rf
  have hP : va_P (dC, dI) vcl [] s.heap := hP
  have hl := lv_entry ([.long y0, .int (nI y1)]) (n := 3) (Nat.le_of_ble_eq_true rfl)
  rw [lg_entry_eq]
  generalize (lg_sl ([.long y0, .int (nI y1)]) ++ List.replicate (3 - (lg_sl ([.long y0, .int (nI y1)])).length) Slot.unset).toArray = ls at hl ⊢
  have hl : lv_has ls 3 [(0, .long y0), (2, .int (nI y1))] := hl
  refine lv_lload_n hx hb d_Text_byteOf_0 rfl (lv_at hl 0 rfl) ?_
  refine lv_bipush (v := 8) hx hb d_Text_byteOf_1 (by decide) ?_
  refine lv_iload_n hx hb d_Text_byteOf_3 rfl (lv_at hl 1 rfl) ?_
  refine xr_imul (v := nI (8 * y1)) hx hb d_Text_byteOf_4 (pk_mul 8 y1) ?_
  refine lv_lushr (v := (y0.toUInt64 >>> ((nI (8 * y1)).toInt64.toUInt64 &&& Int64.toUInt64 63)).toInt64) hx hb d_Text_byteOf_5 rfl ?_
  refine lv_l2i (v := (y0.toUInt64 >>> ((nI (8 * y1)).toInt64.toUInt64 &&& Int64.toUInt64 63)).toInt64.toInt32) hx hb d_Text_byteOf_6 rfl ?_
  refine lv_sipush (v := 255) hx hb d_Text_byteOf_7 (by decide) ?_
  refine xr_iand (v := nI (by_ y0 y1)) hx hb d_Text_byteOf_10 (by_c y0 (by omega)) ?_
  have hP9 := hP.sub (ws' := []) [] rfl
  have hD9 := hD.sub (ws' := []) [] (by decide) rfl
  exact W.iret (v := (nI (by_ y0 y1))) hx hb hr (fun t ht hW => ⟨⟨(nI (by_ y0 y1)), (), rfl, ⟨(by_ y0 y1), by rfl, rfl⟩, by rw [ht]; exact hP9, va_K.moved hW.alike hK, hD9⟩, hS.F ht⟩) hS.2.2 d_Text_byteOf_11
set_option maxHeartbeats 4000000 in
set_option maxRecDepth 100000 in
theorem s_Text_areCharactersX (l : Launch) (dC : Nat → ClassId) (dI : Nat → Nat → Nat) (sz : Nat) (y0 : Int64) (y1 : Nat) (by1 : y1 ≤ 8) : Met l y_Text_areCharacters w_Text_areCharacters ({ frames := 1, cells := 0, slots := 0, locals := 22 }) (va_Pc [.long y0, .int (nI y1)] (fun U => U.heap.size = sz ∧ va_P (dC, dI) vcl [] U.heap ∧ va_K (dC, dI) vcl [] U ∧ va_D (fun _ => True) [])) (va_Qi (fun (r : Int32) (_ : Unit) => (r = 0 ∨ r = 1) ∧ (r = b01 (gd_ y0 y1))) (fun _ t => va_P (dC, dI) vcl [] t.heap ∧ va_K (dC, dI) vcl [] t ∧ va_D (va_A [] sz) []) (va_A [] sz)) 0 0 (va_A [] sz) := by
  refine Met.ofW (cc := b_Text_areCharacters) (maxL := 5) (ret := (some .boolean)) (by decide) rfl ?_
  intro p e s m args below meth c s₁ B hml hv
  obtain ⟨rfl, hsz, hP, hK, hD0⟩ := hv
  have hx := B.exec
  have hb := B.bytes
  have hr := B.returns
  have hts := atoms_spec (ws := w_Text_areCharacters) B.pre
  have hz : ∀ w ∈ wz, w.before _ s = true := fun w h => hts w (List.mem_cons_of_mem _ h)
  have hown : s.vm.findClass R_Text = some m.cls := findClass_of_methodNamed B.named
  have hlocks := B.notSynchronized
  subst hsz
  have hD := hD0.self (sz := s.heap.size)
  generalize hAe : va_A [] s.heap.size = A at hD ⊢
  have hA : ∀ q : Nat, s.heap.size ≤ q → A q := fun q h => by rw [← hAe]; exact Or.inr h
  have hS : va_S A s.heap s.heap [] := va_S.rf
  have hP : va_P (dC, dI) vcl [] s.heap := hP
  have hl := lv_entry ([.long y0, .int (nI y1)]) (n := 5) (Nat.le_of_ble_eq_true rfl)
  rw [lg_entry_eq]
  generalize (lg_sl ([.long y0, .int (nI y1)]) ++ List.replicate (5 - (lg_sl ([.long y0, .int (nI y1)])).length) Slot.unset).toArray = ls at hl ⊢
  have hl : lv_has ls 5 [(0, .long y0), (2, .int (nI y1))] := hl
  refine lv_iconst (v := 0) hx hb d_Text_areCharacters_0 (by decide) ?_
  refine lv_istore_n hx hb d_Text_areCharacters_1 rfl hl (by decide) rfl (fun ls hl => ?_)
  have hl : lv_has ls 5 [(3, .int 0), (0, .long y0), (2, .int (nI y1))] := hl
  refine xr_loop (α := (Nat)) (fun a => (fun (k3 : Nat) => 8 - k3) a) (fun a H locs ls => (fun (k3 : Nat) => (k3 ≤ 8) ∧ (k3 ≤ y1) ∧ (gd_ y0 k3 = true) ∧ lv_has ls 5 [(3, .int (nI k3)), (0, .long y0), (2, .int (nI y1))] ∧ va_P (dC, dI) vcl [] H ∧ va_D A [] ∧ va_S A s.heap H locs) a) (fun a ih2 H locs ls hI => ?_) (0) _ _ _ ⟨by show 0 ≤ 8; first | omega | assumption, by show 0 ≤ y1; first | omega | assumption, by show gd_ y0 0 = true; rfl, hl, hP, hD, hS⟩
  generalize a = k3 at ih2 hI
  obtain ⟨bl0, bl1, bl2, hl, hP, hD, hS⟩ := hI
  have bl0 : k3 ≤ 8 := bl0
  have bl1 : k3 ≤ y1 := bl1
  have bl2 : gd_ y0 k3 = true := bl2
  have hl : lv_has ls 5 [(3, .int (nI k3)), (0, .long y0), (2, .int (nI y1))] := hl
  have hP : va_P (dC, dI) vcl [] H := hP
  have hD : va_D A [] := hD
  refine lv_iload_n hx hb d_Text_areCharacters_2 rfl (lv_at hl 0 rfl) ?_
  refine lv_iload_n hx hb d_Text_areCharacters_3 rfl (lv_at hl 2 rfl) ?_
  refine lv_icmp_ge (tgt := 43) hx hb d_Text_areCharacters_4 (by decide) (fun h1 => ?_) (fun h1 => ?_)
  · have h1 : y1 ≤ k3 := (nI_leI (a := y1) (b := k3) (by omega) (by omega)).mp h1
    refine lv_iconst (v := 1) hx hb d_Text_areCharacters_43 (by decide) ?_
    have hP9 := hP.sub (ws' := []) [] rfl
    have hD9 := hD.sub (ws' := []) [] (by decide) rfl
    exact W.zret (v := 1) hx hb hr (by decide +kernel) (fun t ht hW => ⟨⟨1, (), rfl, ⟨(by first | assumption | exact Or.inl rfl | exact Or.inr rfl), (by exact gd_1 bl2 (by omega))⟩, by rw [ht]; exact hP9, va_K.moved hW.alike hK, hD9⟩, hS.F ht⟩) hS.2.2 d_Text_areCharacters_44
  · have h1 : ¬ y1 ≤ k3 := fun q => h1 ((nI_leI (a := y1) (b := k3) (by omega) (by omega)).mpr q)
    refine lv_lload_n hx hb d_Text_areCharacters_7 rfl (lv_at hl 1 rfl) ?_
    refine lv_iload_n hx hb d_Text_areCharacters_8 rfl (lv_at hl 0 rfl) ?_
    have hPc := hP.sub (ws' := []) [] rfl
    have hDc := hD.sub (ws' := []) [] (by decide) rfl
    have hKc := hK.sub (tys' := []) [] rfl
    have hFc := va_free (wc := []) hD hS hA [] rfl
    refine va_calli (va_runS (As := [.long y0, .int (nI k3)]) (rest := []) ⟨hx, hb, hml, hown, hz⟩ (s_Text_byteOfX l dC dI H.size y0 k3 (by first | omega | assumption)) (cwS 2 hz (zS zm_5 zm_6 zm_7 zm_8) rfl rfl rfl (by decide +kernel) ⟨Nat.le_of_ble_eq_true rfl, Nat.le_of_ble_eq_true rfl⟩) ⟨fun a U g mk q => by obtain ⟨q0, q1, qP, qK, qD⟩ := q; exact ⟨q0, q1, qP, va_K.moved (u := U) (U := U.calling g mk a) (Vm.Alike.refl U.vm) qK, qD⟩, fun U hU hW => ⟨rfl, by rw [hU], by rw [hU]; exact hPc, va_K.moved hW.alike hKc, hDc.weaken (fun _ _ _ _ => trivial)⟩⟩ rfl rfl hl.1 rfl (lv_room (Nat.le_of_ble_eq_true rfl)) d_Text_areCharacters_9 ⟨Nat.zero_le _, Nat.zero_le _⟩) hS (fun q _ h => hFc q h) hFc (fun r u t H1 locs ht hvm hw hB hz1 hk1 hS => ?_)
    obtain ⟨hP1, hK1, hD1⟩ := hB
    obtain ⟨j2, l_j2, e_j2⟩ := hw
    subst r
    rw [ht] at hP1
    obtain ⟨hP, hD⟩ := va_join (wr := []) (w1 := []) hP hD [] [] rfl rfl (by decide) (by decide) hk1 hFc hP1 hD1
    generalize H1 = H at hP hS ⊢
    have hP : va_P (dC, dI) vcl [] H := hP
    have hD : va_D A [] := hD
    have b8 := by_lt y0 k3
    refine lv_istore hx hb d_Text_areCharacters_12 hl (by decide) rfl (fun ls hl => ?_)
    have hl : lv_has ls 5 [(4, .int (nI j2)), (3, .int (nI k3)), (0, .long y0), (2, .int (nI y1))] := hl
    refine lv_iload hx hb d_Text_areCharacters_14 (lv_at hl 0 rfl) ?_
    refine lv_bipush (v := 10) hx hb d_Text_areCharacters_16 (by decide) ?_
    refine lv_icmp_eq (tgt := 37) hx hb d_Text_areCharacters_18 (by decide) (fun h3 => ?_) (fun h3 => ?_)
    · have h3 : j2 = 10 := (nI_eq (a := j2) (b := 10) (by omega) (by omega)).mp h3
      refine lv_iinc (k := 1) (v := (nI (k3 + 1))) hx hb d_Text_areCharacters_37 hl rfl (nI_1 k3) (by decide) rfl (fun ls hl => ?_)
      have hl : lv_has ls 5 [(3, .int (nI (k3 + 1))), (4, .int (nI j2)), (0, .long y0), (2, .int (nI y1))] := hl
      refine lv_goto (tgt := 2) hx hb d_Text_areCharacters_40 (by decide) ?_
      have hl : lv_has ls 5 [(3, .int (nI (k3 + 1))), (0, .long y0), (2, .int (nI y1))] := lv_sub hl [0, 2, 3] rfl
      have hP9 := hP.sub (ws' := []) [] rfl
      have hD9 := hD.sub (ws' := []) [] (by decide) rfl
      exact ih2 ((k3 + 1)) (by show 8 - ((k3 + 1)) < 8 - k3; omega) _ _ _ ⟨by show ((k3 + 1)) ≤ 8; first | omega | assumption, by show ((k3 + 1)) ≤ y1; first | omega | assumption, by show gd_ y0 ((k3 + 1)) = true; exact gd_t bl2 (okt l_j2 (Or.inl (by assumption))), hl, hP9, hD9, hS⟩
    · have h3 : ¬ j2 = 10 := fun q => h3 ((nI_eq (a := j2) (b := 10) (by omega) (by omega)).mpr q)
      refine lv_iload hx hb d_Text_areCharacters_21 (lv_at hl 0 rfl) ?_
      refine lv_bipush (v := 32) hx hb d_Text_areCharacters_23 (by decide) ?_
      refine lv_icmp_lt (tgt := 35) hx hb d_Text_areCharacters_25 (by decide) (fun h4 => ?_) (fun h4 => ?_)
      · have h4 : j2 < 32 := (nI_ltI (a := j2) (b := 32) (by omega) (by omega)).mp h4
        refine lv_iconst (v := 0) hx hb d_Text_areCharacters_35 (by decide) ?_
        have hP9 := hP.sub (ws' := []) [] rfl
        have hD9 := hD.sub (ws' := []) [] (by decide) rfl
        exact W.zret (v := 0) hx hb hr (by decide +kernel) (fun t ht hW => ⟨⟨0, (), rfl, ⟨(by first | assumption | exact Or.inl rfl | exact Or.inr rfl), (by exact gd_0 (okf l_j2 (by assumption) (by omega)) (by omega))⟩, by rw [ht]; exact hP9, va_K.moved hW.alike hK, hD9⟩, hS.F ht⟩) hS.2.2 d_Text_areCharacters_36
      · have h4 : ¬ j2 < 32 := fun q => h4 ((nI_ltI (a := j2) (b := 32) (by omega) (by omega)).mpr q)
        refine lv_iload hx hb d_Text_areCharacters_28 (lv_at hl 0 rfl) ?_
        refine lv_bipush (v := 126) hx hb d_Text_areCharacters_30 (by decide) ?_
        refine lv_icmp_le (tgt := 37) hx hb d_Text_areCharacters_32 (by decide) (fun h5 => ?_) (fun h5 => ?_)
        · have h5 : j2 ≤ 126 := (nI_leI (a := j2) (b := 126) (by omega) (by omega)).mp h5
          refine lv_iinc (k := 1) (v := (nI (k3 + 1))) hx hb d_Text_areCharacters_37 hl rfl (nI_1 k3) (by decide) rfl (fun ls hl => ?_)
          have hl : lv_has ls 5 [(3, .int (nI (k3 + 1))), (4, .int (nI j2)), (0, .long y0), (2, .int (nI y1))] := hl
          refine lv_goto (tgt := 2) hx hb d_Text_areCharacters_40 (by decide) ?_
          have hl : lv_has ls 5 [(3, .int (nI (k3 + 1))), (0, .long y0), (2, .int (nI y1))] := lv_sub hl [0, 2, 3] rfl
          have hP9 := hP.sub (ws' := []) [] rfl
          have hD9 := hD.sub (ws' := []) [] (by decide) rfl
          exact ih2 ((k3 + 1)) (by show 8 - ((k3 + 1)) < 8 - k3; omega) _ _ _ ⟨by show ((k3 + 1)) ≤ 8; first | omega | assumption, by show ((k3 + 1)) ≤ y1; first | omega | assumption, by show gd_ y0 ((k3 + 1)) = true; exact gd_t bl2 (okt l_j2 (Or.inr (by omega))), hl, hP9, hD9, hS⟩
        · have h5 : ¬ j2 ≤ 126 := fun q => h5 ((nI_leI (a := j2) (b := 126) (by omega) (by omega)).mpr q)
          refine lv_iconst (v := 0) hx hb d_Text_areCharacters_35 (by decide) ?_
          have hP9 := hP.sub (ws' := []) [] rfl
          have hD9 := hD.sub (ws' := []) [] (by decide) rfl
          exact W.zret (v := 0) hx hb hr (by decide +kernel) (fun t ht hW => ⟨⟨0, (), rfl, ⟨(by first | assumption | exact Or.inl rfl | exact Or.inr rfl), (by exact gd_0 (okf l_j2 (by assumption) (by omega)) (by omega))⟩, by rw [ht]; exact hP9, va_K.moved hW.alike hK, hD9⟩, hS.F ht⟩) hS.2.2 d_Text_areCharacters_36
set_option maxHeartbeats 4000000 in
set_option maxRecDepth 100000 in
theorem s_Text_hasRoomForX (l : Launch) (dC : Nat → ClassId) (dI : Nat → Nat → Nat) (sz : Nat) (a_t : Nat) (a_characters : Nat) (n_length : Nat) (y0 : Nat) (b_length : n_length ≤ 240) (by0 : y0 ≤ 8) : Met l y_Text_hasRoomFor w_Text_hasRoomFor ({ frames := 0, cells := 0, slots := 0, locals := 0 }) (va_Pc [.ref a_t, .int (nI y0)] (fun U => U.heap.size = sz ∧ va_P (dC, dI) vcl [(a_t, .inr (10, [.ref a_characters, .int (nI n_length)]))] U.heap ∧ va_K (dC, dI) vcl [] U ∧ va_D (fun _ => True) [(a_t, .inr (10, [.ref a_characters, .int (nI n_length)]))])) (va_Qi (fun (r : Int32) (_ : Unit) => (r = 0 ∨ r = 1) ∧ (r = b01 (decide (n_length + y0 ≤ 240)))) (fun _ t => va_P (dC, dI) vcl [(a_t, .inr (10, [.ref a_characters, .int (nI n_length)]))] t.heap ∧ va_K (dC, dI) vcl [] t ∧ va_D (va_A [(a_t, .inr (10, [.ref a_characters, .int (nI n_length)]))] sz) [(a_t, .inr (10, [.ref a_characters, .int (nI n_length)]))]) (va_A [(a_t, .inr (10, [.ref a_characters, .int (nI n_length)]))] sz)) 0 0 (va_A [(a_t, .inr (10, [.ref a_characters, .int (nI n_length)]))] sz) := by
  refine Met.ofW (cc := b_Text_hasRoomFor) (maxL := 2) (ret := (some .boolean)) (by decide) rfl ?_
  intro p e s m args below meth c s₁ B hml hv
  obtain ⟨rfl, hsz, hP, hK, hD0⟩ := hv
  have hx := B.exec
  have hb := B.bytes
  have hr := B.returns
  have hts := atoms_spec (ws := w_Text_hasRoomFor) B.pre
  have hz : ∀ w ∈ wz, w.before _ s = true := fun w h => hts w (List.mem_cons_of_mem _ h)
  have hown : s.vm.findClass R_Text = some m.cls := findClass_of_methodNamed B.named
  have hlocks := B.notSynchronized
  subst hsz
  have hD := hD0.self (sz := s.heap.size)
  generalize hAe : va_A [(a_t, .inr (10, [.ref a_characters, .int (nI n_length)]))] s.heap.size = A at hD ⊢
  have hA : ∀ q : Nat, s.heap.size ≤ q → A q := fun q h => by rw [← hAe]; exact Or.inr h
  have hS : va_S A s.heap s.heap [] := va_S.rf
  have hP : va_P (dC, dI) vcl [(a_t, .inr (10, [.ref a_characters, .int (nI n_length)]))] s.heap := hP
  have hl := lv_entry ([.ref a_t, .int (nI y0)]) (n := 2) (Nat.le_of_ble_eq_true rfl)
  rw [lg_entry_eq]
  generalize (lg_sl ([.ref a_t, .int (nI y0)]) ++ List.replicate (2 - (lg_sl ([.ref a_t, .int (nI y0)])).length) Slot.unset).toArray = ls at hl ⊢
  have hl : lv_has ls 2 [(0, .ref a_t), (1, .int (nI y0))] := hl
  refine lv_iload_n hx hb d_Text_hasRoomFor_0 rfl (lv_at hl 1 rfl) ?_
  refine lv_sipush (v := 240) hx hb d_Text_hasRoomFor_1 (by decide) ?_
  refine lv_aload_n hx hb d_Text_hasRoomFor_4 rfl (lv_at hl 0 rfl) ?_
  refine va_get (D := (dC, dI)) (ci := 10) (v := .int (nI n_length)) (C := R_Text) (T := F_Text) (N := 2) hx hb hz zu_Text hown hK hP 0 rfl rfl 1 (by decide) (hz (.fieldLink R_Text 19 "LayoutFront$Text" "length" "I") zm_9) (fun _ h9 => h9) rfl d_Text_hasRoomFor_5 ?_
  refine xr_isub (v := (nI (240 - n_length))) hx hb d_Text_hasRoomFor_8 (pk_sub (a := 240) (b := n_length) (by omega)) ?_
  refine lv_icmp_gt (tgt := 16) hx hb d_Text_hasRoomFor_9 (by decide) (fun h1 => ?_) (fun h1 => ?_)
  · have h1 : (240 - n_length) < y0 := (nI_ltI (a := (240 - n_length)) (b := y0) (by omega) (by omega)).mp h1
    refine lv_iconst (v := 0) hx hb d_Text_hasRoomFor_16 (by decide) ?_
    have hP9 := hP.sub (ws' := [(a_t, .inr (10, [.ref a_characters, .int (nI n_length)]))]) [0] rfl
    have hD9 := hD.sub (ws' := [(a_t, .inr (10, [.ref a_characters, .int (nI n_length)]))]) [0] (by decide) rfl
    exact W.zret (v := 0) hx hb hr (by decide +kernel) (fun t ht hW => ⟨⟨0, (), rfl, ⟨(by first | assumption | exact Or.inl rfl | exact Or.inr rfl), (by first | (rw [decide_eq_true (show n_length + y0 ≤ 240 by omega)]; rfl) | (rw [decide_eq_false (show ¬ n_length + y0 ≤ 240 by omega)]; rfl))⟩, by rw [ht]; exact hP9, va_K.moved hW.alike hK, hD9⟩, hS.F ht⟩) hS.2.2 d_Text_hasRoomFor_17
  · have h1 : ¬ (240 - n_length) < y0 := fun q => h1 ((nI_ltI (a := (240 - n_length)) (b := y0) (by omega) (by omega)).mpr q)
    refine lv_iconst (v := 1) hx hb d_Text_hasRoomFor_12 (by decide) ?_
    refine lv_goto (tgt := 17) hx hb d_Text_hasRoomFor_13 (by decide) ?_
    have hP9 := hP.sub (ws' := [(a_t, .inr (10, [.ref a_characters, .int (nI n_length)]))]) [0] rfl
    have hD9 := hD.sub (ws' := [(a_t, .inr (10, [.ref a_characters, .int (nI n_length)]))]) [0] (by decide) rfl
    exact W.zret (v := 1) hx hb hr (by decide +kernel) (fun t ht hW => ⟨⟨1, (), rfl, ⟨(by first | assumption | exact Or.inl rfl | exact Or.inr rfl), (by first | (rw [decide_eq_true (show n_length + y0 ≤ 240 by omega)]; rfl) | (rw [decide_eq_false (show ¬ n_length + y0 ≤ 240 by omega)]; rfl))⟩, by rw [ht]; exact hP9, va_K.moved hW.alike hK, hD9⟩, hS.F ht⟩) hS.2.2 d_Text_hasRoomFor_17
set_option maxHeartbeats 4000000 in
set_option maxRecDepth 100000 in
theorem s_Text_byteOfY (l : Launch) (dC : Nat → ClassId) (dI : Nat → Nat → Nat) (sz : Nat) (y0 : Int64) (y1 : Nat) (by1 : y1 ≤ 7) : Met l y_Text_byteOf w_Text_byteOf ({ frames := 0, cells := 0, slots := 0, locals := 0 }) (va_Pc [.long y0, .int (nI y1)] (fun U => U.heap.size = sz ∧ va_P (dC, dI) vcl [] U.heap ∧ va_K (dC, dI) vcl [] U ∧ va_D (fun _ => True) [])) (va_Qi (fun (r : Int32) (_ : Unit) => r = nI (by_ y0 y1)) (fun _ t => va_P (dC, dI) vcl [] t.heap ∧ va_K (dC, dI) vcl [] t ∧ va_D (va_A [] sz) []) (va_A [] sz)) 0 0 (va_A [] sz) := by
  refine Met.ofW (cc := b_Text_byteOf) (maxL := 3) (ret := (some .int)) (by decide) rfl ?_
  intro p e s m args below meth c s₁ B hml hv
  obtain ⟨rfl, hsz, hP, hK, hD0⟩ := hv
  have hx := B.exec
  have hb := B.bytes
  have hr := B.returns
  have hts := atoms_spec (ws := w_Text_byteOf) B.pre
  have hz : ∀ w ∈ wz, w.before _ s = true := fun w h => hts w (List.mem_cons_of_mem _ h)
  have hown : s.vm.findClass R_Text = some m.cls := findClass_of_methodNamed B.named
  have hlocks := B.notSynchronized
  subst hsz
  have hD := hD0.self (sz := s.heap.size)
  generalize hAe : va_A [] s.heap.size = A at hD ⊢
  have hA : ∀ q : Nat, s.heap.size ≤ q → A q := fun q h => by rw [← hAe]; exact Or.inr h
  have hS : va_S A s.heap s.heap [] := va_S.rf
  have hP : va_P (dC, dI) vcl [] s.heap := hP
  have hl := lv_entry ([.long y0, .int (nI y1)]) (n := 3) (Nat.le_of_ble_eq_true rfl)
  rw [lg_entry_eq]
  generalize (lg_sl ([.long y0, .int (nI y1)]) ++ List.replicate (3 - (lg_sl ([.long y0, .int (nI y1)])).length) Slot.unset).toArray = ls at hl ⊢
  have hl : lv_has ls 3 [(0, .long y0), (2, .int (nI y1))] := hl
  refine lv_lload_n hx hb d_Text_byteOf_0 rfl (lv_at hl 0 rfl) ?_
  refine lv_bipush (v := 8) hx hb d_Text_byteOf_1 (by decide) ?_
  refine lv_iload_n hx hb d_Text_byteOf_3 rfl (lv_at hl 1 rfl) ?_
  refine xr_imul (v := nI (8 * y1)) hx hb d_Text_byteOf_4 (pk_mul 8 y1) ?_
  refine lv_lushr (v := (y0.toUInt64 >>> ((nI (8 * y1)).toInt64.toUInt64 &&& Int64.toUInt64 63)).toInt64) hx hb d_Text_byteOf_5 rfl ?_
  refine lv_l2i (v := (y0.toUInt64 >>> ((nI (8 * y1)).toInt64.toUInt64 &&& Int64.toUInt64 63)).toInt64.toInt32) hx hb d_Text_byteOf_6 rfl ?_
  refine lv_sipush (v := 255) hx hb d_Text_byteOf_7 (by decide) ?_
  refine xr_iand (v := nI (by_ y0 y1)) hx hb d_Text_byteOf_10 (by_c y0 (by omega)) ?_
  have hP9 := hP.sub (ws' := []) [] rfl
  have hD9 := hD.sub (ws' := []) [] (by decide) rfl
  exact W.iret (v := (nI (by_ y0 y1))) hx hb hr (fun t ht hW => ⟨⟨(nI (by_ y0 y1)), (), rfl, (by rfl), by rw [ht]; exact hP9, va_K.moved hW.alike hK, hD9⟩, hS.F ht⟩) hS.2.2 d_Text_byteOf_11
set_option maxHeartbeats 4000000 in
set_option maxRecDepth 100000 in
theorem s_Text_appendX (l : Launch) (dC : Nat → ClassId) (dI : Nat → Nat → Nat) (sz : Nat) (a_t : Nat) (a_characters : Nat) (f_characters : Nat → Int32) (n_length : Nat) (y0 : Int64) (y1 : Nat) (ka_characters : ClassId) (c_characters : ∀ j, narrow .char (.int (f_characters j)) = .int (f_characters j)) (b_length : n_length ≤ 240) (by1 : y1 ≤ 8) (hp0 : n_length + y1 ≤ 240) : Met l y_Text_append w_Text_append ({ frames := 1, cells := 0, slots := 0, locals := 22 }) (va_Pc [.ref a_t, .long y0, .int (nI y1)] (fun U => U.heap.size = sz ∧ va_P (dC, dI) vcl [(a_t, .inr (10, [.ref a_characters, .int (nI n_length)])), (a_characters, .inl (ka_characters, 240, .inl f_characters))] U.heap ∧ va_K (dC, dI) vcl [(ka_characters, .char)] U ∧ va_D (fun _ => True) [(a_t, .inr (10, [.ref a_characters, .int (nI n_length)])), (a_characters, .inl (ka_characters, 240, .inl f_characters))])) (va_Qv (fun (_ : Unit) => True) (fun _ t => ∃ (w_n_length : Nat) (w_f_characters : Nat → Int32), (w_n_length ≤ 240) ∧ (∀ j, narrow .char (.int (w_f_characters j)) = .int (w_f_characters j)) ∧ (w_n_length = n_length + y1) ∧ (∀ j, j < n_length + y1 → w_f_characters j = if j < n_length then f_characters j else nI (by_ y0 (j - n_length))) ∧ va_P (dC, dI) vcl [(a_t, .inr (10, [.ref a_characters, .int (nI w_n_length)])), (a_characters, .inl (ka_characters, 240, .inl w_f_characters))] t.heap ∧ va_K (dC, dI) vcl [(ka_characters, .char)] t ∧ va_D (va_A [(a_t, .inr (10, [.ref a_characters, .int (nI n_length)])), (a_characters, .inl (ka_characters, 240, .inl f_characters))] sz) [(a_t, .inr (10, [.ref a_characters, .int (nI w_n_length)])), (a_characters, .inl (ka_characters, 240, .inl w_f_characters))]) (va_A [(a_t, .inr (10, [.ref a_characters, .int (nI n_length)])), (a_characters, .inl (ka_characters, 240, .inl f_characters))] sz)) 0 0 (va_A [(a_t, .inr (10, [.ref a_characters, .int (nI n_length)])), (a_characters, .inl (ka_characters, 240, .inl f_characters))] sz) := by
  refine Met.ofW (cc := b_Text_append) (maxL := 5) (ret := none) (by decide) rfl ?_
  intro p e s m args below meth c s₁ B hml hv
  obtain ⟨rfl, hsz, hP, hK, hD0⟩ := hv
  have hx := B.exec
  have hb := B.bytes
  have hr := B.returns
  have hts := atoms_spec (ws := w_Text_append) B.pre
  have hz : ∀ w ∈ wz, w.before _ s = true := fun w h => hts w (List.mem_cons_of_mem _ h)
  have hown : s.vm.findClass R_Text = some m.cls := findClass_of_methodNamed B.named
  have hlocks := B.notSynchronized
  subst hsz
  have hD := hD0.self (sz := s.heap.size)
  generalize hAe : va_A [(a_t, .inr (10, [.ref a_characters, .int (nI n_length)])), (a_characters, .inl (ka_characters, 240, .inl f_characters))] s.heap.size = A at hD ⊢
  have hA : ∀ q : Nat, s.heap.size ≤ q → A q := fun q h => by rw [← hAe]; exact Or.inr h
  have hS : va_S A s.heap s.heap [] := va_S.rf
  have hP : va_P (dC, dI) vcl [(a_t, .inr (10, [.ref a_characters, .int (nI n_length)])), (a_characters, .inl (ka_characters, 240, .inl f_characters))] s.heap := hP
  have hl := lv_entry ([.ref a_t, .long y0, .int (nI y1)]) (n := 5) (Nat.le_of_ble_eq_true rfl)
  rw [lg_entry_eq]
  generalize (lg_sl ([.ref a_t, .long y0, .int (nI y1)]) ++ List.replicate (5 - (lg_sl ([.ref a_t, .long y0, .int (nI y1)])).length) Slot.unset).toArray = ls at hl ⊢
  have hl : lv_has ls 5 [(0, .ref a_t), (1, .long y0), (3, .int (nI y1))] := hl
  refine lv_iconst (v := 0) hx hb d_Text_append_0 (by decide) ?_
  refine lv_istore hx hb d_Text_append_1 hl (by decide) rfl (fun ls hl => ?_)
  have hl : lv_has ls 5 [(4, .int 0), (0, .ref a_t), (1, .long y0), (3, .int (nI y1))] := hl
  refine xr_loop (α := (Nat) × (Nat → Int32) × (Nat)) (fun a => (fun (k4 : Nat) (v_a_characters : Nat → Int32) (v_a_t_1 : Nat) => 8 - k4) a.1 a.2.1 a.2.2) (fun a H locs ls => (fun (k4 : Nat) (v_a_characters : Nat → Int32) (v_a_t_1 : Nat) => (k4 ≤ 8) ∧ (∀ j, narrow .char (.int (v_a_characters j)) = .int (v_a_characters j)) ∧ (v_a_t_1 ≤ 240) ∧ (k4 ≤ y1) ∧ (v_a_t_1 = n_length + k4) ∧ (∀ j, j < n_length + k4 → v_a_characters j = if j < n_length then f_characters j else nI (by_ y0 (j - n_length))) ∧ lv_has ls 5 [(4, .int (nI k4)), (0, .ref a_t), (1, .long y0), (3, .int (nI y1))] ∧ va_P (dC, dI) vcl [(a_t, .inr (10, [.ref a_characters, .int (nI v_a_t_1)])), (a_characters, .inl (ka_characters, 240, .inl v_a_characters))] H ∧ va_D A [(a_t, .inr (10, [.ref a_characters, .int (nI v_a_t_1)])), (a_characters, .inl (ka_characters, 240, .inl v_a_characters))] ∧ va_S A s.heap H locs) a.1 a.2.1 a.2.2) (fun a ih3 H locs ls hI => ?_) (0, f_characters, n_length) _ _ _ ⟨by show 0 ≤ 8; first | omega | assumption | exact Or.inl rfl | exact Or.inr rfl | decide, by show ∀ j, narrow .char (.int (f_characters j)) = .int (f_characters j); first | omega | assumption | exact Or.inl rfl | exact Or.inr rfl | decide, by show n_length ≤ 240; first | omega | assumption | exact Or.inl rfl | exact Or.inr rfl | decide, by show 0 ≤ y1; first | omega | assumption | exact Or.inl rfl | exact Or.inr rfl | decide, by show n_length = n_length + 0; first | omega | assumption | exact Or.inl rfl | exact Or.inr rfl | decide, by show ∀ j, j < n_length + 0 → f_characters j = if j < n_length then f_characters j else nI (by_ y0 (j - n_length)); exact fun j hj => (if_pos hj).symm, hl, hP, hD, hS⟩
  obtain ⟨k4, v_a_characters, v_a_t_1⟩ := a
  obtain ⟨bl0, bl1, bl2, bl3, bl4, bl5, hl, hP, hD, hS⟩ := hI
  have bl0 : k4 ≤ 8 := bl0
  have bl1 : ∀ j, narrow .char (.int (v_a_characters j)) = .int (v_a_characters j) := bl1
  have bl2 : v_a_t_1 ≤ 240 := bl2
  have bl3 : k4 ≤ y1 := bl3
  have bl4 : v_a_t_1 = n_length + k4 := bl4
  have bl5 : ∀ j, j < n_length + k4 → v_a_characters j = if j < n_length then f_characters j else nI (by_ y0 (j - n_length)) := bl5
  have cI := bl5
  have hl : lv_has ls 5 [(4, .int (nI k4)), (0, .ref a_t), (1, .long y0), (3, .int (nI y1))] := hl
  have hP : va_P (dC, dI) vcl [(a_t, .inr (10, [.ref a_characters, .int (nI v_a_t_1)])), (a_characters, .inl (ka_characters, 240, .inl v_a_characters))] H := hP
  have hD : va_D A [(a_t, .inr (10, [.ref a_characters, .int (nI v_a_t_1)])), (a_characters, .inl (ka_characters, 240, .inl v_a_characters))] := hD
  refine lv_iload hx hb d_Text_append_3 (lv_at hl 0 rfl) ?_
  refine lv_iload_n hx hb d_Text_append_5 rfl (lv_at hl 3 rfl) ?_
  refine lv_icmp_ge (tgt := 51) hx hb d_Text_append_6 (by decide) (fun h1 => ?_) (fun h1 => ?_)
  · have h1 : y1 ≤ k4 := (nI_leI (a := y1) (b := k4) (by omega) (by omega)).mp h1
    have hP9 := hP.sub (ws' := [(a_t, .inr (10, [.ref a_characters, .int (nI v_a_t_1)])), (a_characters, .inl (ka_characters, 240, .inl v_a_characters))]) [0, 1] rfl
    have hD9 := hD.sub (ws' := [(a_t, .inr (10, [.ref a_characters, .int (nI v_a_t_1)])), (a_characters, .inl (ka_characters, 240, .inl v_a_characters))]) [0, 1] (by decide) rfl
    exact W.vret hx hb hr (fun t ht hW => ⟨⟨(), rfl, trivial, v_a_t_1, v_a_characters, by first | omega | assumption | exact Or.inl rfl | exact Or.inr rfl | decide, by first | omega | assumption | exact Or.inl rfl | exact Or.inr rfl | decide, by first | omega | assumption | exact Or.inl rfl | exact Or.inr rfl | decide, by exact fun j hj => cI j (by omega), by rw [ht]; exact hP9, va_K.moved hW.alike hK, hD9⟩, hS.F ht⟩) hS.2.2 d_Text_append_51
  · have h1 : ¬ y1 ≤ k4 := fun q => h1 ((nI_leI (a := y1) (b := k4) (by omega) (by omega)).mpr q)
    refine lv_aload_n hx hb d_Text_append_9 rfl (lv_at hl 1 rfl) ?_
    refine va_get (D := (dC, dI)) (ci := 10) (v := .int (nI v_a_t_1)) (C := R_Text) (T := F_Text) (N := 2) hx hb hz zu_Text hown hK hP 0 rfl rfl 1 (by decide) (hz (.fieldLink R_Text 19 "LayoutFront$Text" "length" "I") zm_9) (fun _ h9 => h9) rfl d_Text_append_10 ?_
    refine lv_sipush (v := 240) hx hb d_Text_append_13 (by decide) ?_
    refine lv_icmp_ge (tgt := 51) hx hb d_Text_append_16 (by decide) (fun h2 => ?_) (fun h2 => ?_)
    · have h2 : 240 ≤ v_a_t_1 := (nI_leI (a := 240) (b := v_a_t_1) (by omega) (by omega)).mp h2
      (exfalso; omega)
    · have h2 : ¬ 240 ≤ v_a_t_1 := fun q => h2 ((nI_leI (a := 240) (b := v_a_t_1) (by omega) (by omega)).mpr q)
      refine lv_aload_n hx hb d_Text_append_19 rfl (lv_at hl 1 rfl) ?_
      refine va_get (D := (dC, dI)) (ci := 10) (v := .ref a_characters) (C := R_Text) (T := F_Text) (N := 2) hx hb hz zu_Text hown hK hP 0 rfl rfl 0 (by decide) (hz (.fieldLink R_Text 9 "LayoutFront$Text" "characters" "[C") zm_3) (fun _ h9 => h9) rfl d_Text_append_20 ?_
      refine lv_aload_n hx hb d_Text_append_23 rfl (lv_at hl 1 rfl) ?_
      refine va_get (D := (dC, dI)) (ci := 10) (v := .int (nI v_a_t_1)) (C := R_Text) (T := F_Text) (N := 2) hx hb hz zu_Text hown hK hP 0 rfl rfl 1 (by decide) (hz (.fieldLink R_Text 19 "LayoutFront$Text" "length" "I") zm_9) (fun _ h9 => h9) rfl d_Text_append_24 ?_
      refine lv_lload_n hx hb d_Text_append_27 rfl (lv_at hl 2 rfl) ?_
      refine lv_iload hx hb d_Text_append_28 (lv_at hl 0 rfl) ?_
      have hPc := hP.sub (ws' := []) [] rfl
      have hDc := hD.sub (ws' := []) [] (by decide) rfl
      have hKc := hK.sub (tys' := []) [] rfl
      have hFc := va_free (wc := []) hD hS hA [] rfl
      refine va_calli (va_runS (As := [.long y0, .int (nI k4)]) (rest := [.int (nI v_a_t_1), .ref a_characters]) ⟨hx, hb, hml, hown, hz⟩ (s_Text_byteOfY l dC dI H.size y0 k4 (by first | omega | assumption | exact Or.inl rfl | exact Or.inr rfl | decide)) (cwS 2 hz (zS zm_5 zm_6 zm_7 zm_8) rfl rfl rfl (by decide +kernel) ⟨Nat.le_of_ble_eq_true rfl, Nat.le_of_ble_eq_true rfl⟩) ⟨fun a U g mk q => by obtain ⟨q0, q1, qP, qK, qD⟩ := q; exact ⟨q0, q1, qP, va_K.moved (u := U) (U := U.calling g mk a) (Vm.Alike.refl U.vm) qK, qD⟩, fun U hU hW => ⟨rfl, by rw [hU], by rw [hU]; exact hPc, va_K.moved hW.alike hKc, hDc.weaken (fun _ _ _ _ => trivial)⟩⟩ rfl rfl hl.1 rfl (lv_room (Nat.le_of_ble_eq_true rfl)) d_Text_append_30 ⟨Nat.zero_le _, Nat.zero_le _⟩) hS (fun q _ h => hFc q h) hFc (fun r u t H1 locs ht hvm hw hB hz1 hk1 hS => ?_)
      obtain ⟨hP1, hK1, hD1⟩ := hB
      subst r
      rw [ht] at hP1
      obtain ⟨hP, hD⟩ := va_join (wr := [(a_t, .inr (10, [.ref a_characters, .int (nI v_a_t_1)])), (a_characters, .inl (ka_characters, 240, .inl v_a_characters))]) (w1 := []) hP hD [] [0, 1] rfl rfl (by decide) (by decide) hk1 hFc hP1 hD1
      generalize H1 = H at hP hS ⊢
      have hP : va_P (dC, dI) vcl [(a_t, .inr (10, [.ref a_characters, .int (nI v_a_t_1)])), (a_characters, .inl (ka_characters, 240, .inl v_a_characters))] H := hP
      have hD : va_D A [(a_t, .inr (10, [.ref a_characters, .int (nI v_a_t_1)])), (a_characters, .inl (ka_characters, 240, .inl v_a_characters))] := hD
      refine lv_i2c (v := nI (by_ y0 k4)) hx hb d_Text_append_33 (i2c_q (by_lt y0 k4)) ?_
      refine va_cast hx hb hK hP hD hS 1 0 rfl rfl (vp_in_nI (by omega) (by omega)) d_Text_append_34 (fun H locs hP hD hS => ?_)
      rw [show ((nI v_a_t_1) : Int32).toNatClampNeg = v_a_t_1 from nI_clamp (by omega)] at hP hD
      have hc_f3 := xr_upc (i := v_a_t_1) (x := (nI (by_ y0 k4))) bl1
      generalize hf_f3 : upd v_a_characters v_a_t_1 (vp_nar .char (nI (by_ y0 k4))) = f3 at hP hD hc_f3
      have hP : va_P (dC, dI) vcl [(a_t, .inr (10, [.ref a_characters, .int (nI v_a_t_1)])), (a_characters, .inl (ka_characters, 240, .inl f3))] H := hP
      have hD : va_D A [(a_t, .inr (10, [.ref a_characters, .int (nI v_a_t_1)])), (a_characters, .inl (ka_characters, 240, .inl f3))] := hD
      refine lv_aload_n hx hb d_Text_append_35 rfl (lv_at hl 1 rfl) ?_
      refine lv_dup hx hb d_Text_append_36 rfl ?_
      refine va_get (D := (dC, dI)) (ci := 10) (v := .int (nI v_a_t_1)) (C := R_Text) (T := F_Text) (N := 2) hx hb hz zu_Text hown hK hP 0 rfl rfl 1 (by decide) (hz (.fieldLink R_Text 19 "LayoutFront$Text" "length" "I") zm_9) (fun _ h9 => h9) rfl d_Text_append_37 ?_
      refine lv_iconst (v := 1) hx hb d_Text_append_40 (by decide) ?_
      refine xr_iadd (v := (nI (v_a_t_1 + 1))) hx hb d_Text_append_41 (nI_add v_a_t_1 1) ?_
      refine va_put (D := (dC, dI)) (ci := 10) (v := .int (nI (v_a_t_1 + 1))) (ty := .int) (C := R_Text) (T := F_Text) (N := 2) hx hb hz zu_Text t_Text t_Text_ok n_Text hown hK hP hD hS 0 rfl rfl 1 (by decide) (hz (.fieldLink R_Text 19 "LayoutFront$Text" "length" "I") zm_9) (fun _ h9 => h9) rfl (by decide +kernel) rfl rfl (Nat.le_of_ble_eq_true rfl) d_Text_append_42 (fun H locs hP hD hS => ?_)
      have hP : va_P (dC, dI) vcl [(a_t, .inr (10, [.ref a_characters, .int (nI (v_a_t_1 + 1))])), (a_characters, .inl (ka_characters, 240, .inl f3))] H := hP
      have hD : va_D A [(a_t, .inr (10, [.ref a_characters, .int (nI (v_a_t_1 + 1))])), (a_characters, .inl (ka_characters, 240, .inl f3))] := hD
      refine lv_iinc (k := 0) (v := (nI (k4 + 1))) hx hb d_Text_append_45 hl rfl (nI_1 k4) (by decide) rfl (fun ls hl => ?_)
      have hl : lv_has ls 5 [(4, .int (nI (k4 + 1))), (0, .ref a_t), (1, .long y0), (3, .int (nI y1))] := hl
      refine lv_goto (tgt := 3) hx hb d_Text_append_48 (by decide) ?_
      have hP9 := hP.sub (ws' := [(a_t, .inr (10, [.ref a_characters, .int (nI (v_a_t_1 + 1))])), (a_characters, .inl (ka_characters, 240, .inl f3))]) [0, 1] rfl
      have hD9 := hD.sub (ws' := [(a_t, .inr (10, [.ref a_characters, .int (nI (v_a_t_1 + 1))])), (a_characters, .inl (ka_characters, 240, .inl f3))]) [0, 1] (by decide) rfl
      exact ih3 ((k4 + 1), f3, (v_a_t_1 + 1)) (by show 8 - ((k4 + 1)) < 8 - k4; omega) _ _ _ ⟨by show ((k4 + 1)) ≤ 8; first | omega | assumption | exact Or.inl rfl | exact Or.inr rfl | decide, by show ∀ j, narrow .char (.int (f3 j)) = .int (f3 j); first | omega | assumption | exact Or.inl rfl | exact Or.inr rfl | decide, by show ((v_a_t_1 + 1)) ≤ 240; first | omega | assumption | exact Or.inl rfl | exact Or.inr rfl | decide, by show ((k4 + 1)) ≤ y1; first | omega | assumption | exact Or.inl rfl | exact Or.inr rfl | decide, by show ((v_a_t_1 + 1)) = n_length + ((k4 + 1)); first | omega | assumption | exact Or.inl rfl | exact Or.inr rfl | decide, by show ∀ j, j < n_length + ((k4 + 1)) → f3 j = if j < n_length then f_characters j else nI (by_ y0 (j - n_length)); exact ap_s hf_f3 (by omega) cI, hl, hP9, hD9, hS⟩
set_option maxHeartbeats 4000000 in
set_option maxRecDepth 100000 in
theorem s_Text_clearX (l : Launch) (dC : Nat → ClassId) (dI : Nat → Nat → Nat) (sz : Nat) (a_t : Nat) (a_characters : Nat) (n_length : Nat) (b_length : n_length ≤ 240) : Met l y_Text_clear w_Text_clear ({ frames := 0, cells := 0, slots := 0, locals := 0 }) (va_Pc [.ref a_t] (fun U => U.heap.size = sz ∧ va_P (dC, dI) vcl [(a_t, .inr (10, [.ref a_characters, .int (nI n_length)]))] U.heap ∧ va_K (dC, dI) vcl [] U ∧ va_D (fun _ => True) [(a_t, .inr (10, [.ref a_characters, .int (nI n_length)]))])) (va_Qv (fun (_ : Unit) => True) (fun _ t => ∃ (w_n_length : Nat), (w_n_length ≤ 240) ∧ (w_n_length = 0) ∧ va_P (dC, dI) vcl [(a_t, .inr (10, [.ref a_characters, .int (nI w_n_length)]))] t.heap ∧ va_K (dC, dI) vcl [] t ∧ va_D (va_A [(a_t, .inr (10, [.ref a_characters, .int (nI n_length)]))] sz) [(a_t, .inr (10, [.ref a_characters, .int (nI w_n_length)]))]) (va_A [(a_t, .inr (10, [.ref a_characters, .int (nI n_length)]))] sz)) 0 0 (va_A [(a_t, .inr (10, [.ref a_characters, .int (nI n_length)]))] sz) := by
  refine Met.ofW (cc := b_Text_clear) (maxL := 1) (ret := none) (by decide) rfl ?_
  intro p e s m args below meth c s₁ B hml hv
  obtain ⟨rfl, hsz, hP, hK, hD0⟩ := hv
  have hx := B.exec
  have hb := B.bytes
  have hr := B.returns
  have hts := atoms_spec (ws := w_Text_clear) B.pre
  have hz : ∀ w ∈ wz, w.before _ s = true := fun w h => hts w (List.mem_cons_of_mem _ h)
  have hown : s.vm.findClass R_Text = some m.cls := findClass_of_methodNamed B.named
  have hlocks := B.notSynchronized
  subst hsz
  have hD := hD0.self (sz := s.heap.size)
  generalize hAe : va_A [(a_t, .inr (10, [.ref a_characters, .int (nI n_length)]))] s.heap.size = A at hD ⊢
  have hA : ∀ q : Nat, s.heap.size ≤ q → A q := fun q h => by rw [← hAe]; exact Or.inr h
  have hS : va_S A s.heap s.heap [] := va_S.rf
  have hP : va_P (dC, dI) vcl [(a_t, .inr (10, [.ref a_characters, .int (nI n_length)]))] s.heap := hP
  have hl := lv_entry ([.ref a_t]) (n := 1) (Nat.le_of_ble_eq_true rfl)
  rw [lg_entry_eq]
  generalize (lg_sl ([.ref a_t]) ++ List.replicate (1 - (lg_sl ([.ref a_t])).length) Slot.unset).toArray = ls at hl ⊢
  have hl : lv_has ls 1 [(0, .ref a_t)] := hl
  refine lv_aload_n hx hb d_Text_clear_0 rfl (lv_at hl 0 rfl) ?_
  refine lv_iconst (v := 0) hx hb d_Text_clear_1 (by decide) ?_
  refine va_put (D := (dC, dI)) (ci := 10) (v := .int 0) (ty := .int) (C := R_Text) (T := F_Text) (N := 2) hx hb hz zu_Text t_Text t_Text_ok n_Text hown hK hP hD hS 0 rfl rfl 1 (by decide) (hz (.fieldLink R_Text 19 "LayoutFront$Text" "length" "I") zm_9) (fun _ h9 => h9) rfl (by decide +kernel) (by decide +kernel) rfl (Nat.le_of_ble_eq_true rfl) d_Text_clear_2 (fun H locs hP hD hS => ?_)
  have hP : va_P (dC, dI) vcl [(a_t, .inr (10, [.ref a_characters, .int 0]))] H := hP
  have hD : va_D A [(a_t, .inr (10, [.ref a_characters, .int 0]))] := hD
  have hP9 := hP.sub (ws' := [(a_t, .inr (10, [.ref a_characters, .int 0]))]) [0] rfl
  have hD9 := hD.sub (ws' := [(a_t, .inr (10, [.ref a_characters, .int 0]))]) [0] (by decide) rfl
  exact W.vret hx hb hr (fun t ht hW => ⟨⟨(), rfl, trivial, 0, by first | rfl | omega, by first | rfl | omega, by rw [ht]; exact hP9, va_K.moved hW.alike hK, hD9⟩, hS.F ht⟩) hS.2.2 d_Text_clear_5
set_option maxHeartbeats 4000000 in
set_option maxRecDepth 100000 in
theorem s_LF_eraseX (l : Launch) (dC : Nat → ClassId) (dI : Nat → Nat → Nat) (sz : Nat) (a_t : Nat) (a_text : Nat) (a_text_characters : Nat) (n_text_length : Nat) (a_fixities : Nat) (a_cutter : Nat) (a_blocks : Nat) (a_rows : Nat) (a_tokens : Nat) (a_counts : Nat) (z_wrongPlace : Int32) (b_text_length : n_text_length ≤ 240) : Met l y_LF_erase w_LF_erase ({ frames := 1, cells := 0, slots := 0, locals := 20 }) (va_Pc [.ref a_t] (fun U => U.heap.size = sz ∧ va_P (dC, dI) vcl [(a_t, .inr (0, [.ref a_text, .ref a_fixities, .ref a_cutter, .ref a_blocks, .ref a_rows, .ref a_tokens, .ref a_counts, .int z_wrongPlace])), (a_text, .inr (10, [.ref a_text_characters, .int (nI n_text_length)]))] U.heap ∧ va_K (dC, dI) vcl [] U ∧ va_D (fun _ => True) [(a_t, .inr (0, [.ref a_text, .ref a_fixities, .ref a_cutter, .ref a_blocks, .ref a_rows, .ref a_tokens, .ref a_counts, .int z_wrongPlace])), (a_text, .inr (10, [.ref a_text_characters, .int (nI n_text_length)]))])) (va_Qi (fun (r : Int32) (_ : Unit) => r = (nI n_text_length)) (fun _ t => ∃ (w_n_text_length : Nat), (w_n_text_length ≤ 240) ∧ (w_n_text_length = 0) ∧ va_P (dC, dI) vcl [(a_t, .inr (0, [.ref a_text, .ref a_fixities, .ref a_cutter, .ref a_blocks, .ref a_rows, .ref a_tokens, .ref a_counts, .int z_wrongPlace])), (a_text, .inr (10, [.ref a_text_characters, .int (nI w_n_text_length)]))] t.heap ∧ va_K (dC, dI) vcl [] t ∧ va_D (va_A [(a_t, .inr (0, [.ref a_text, .ref a_fixities, .ref a_cutter, .ref a_blocks, .ref a_rows, .ref a_tokens, .ref a_counts, .int z_wrongPlace])), (a_text, .inr (10, [.ref a_text_characters, .int (nI n_text_length)]))] sz) [(a_t, .inr (0, [.ref a_text, .ref a_fixities, .ref a_cutter, .ref a_blocks, .ref a_rows, .ref a_tokens, .ref a_counts, .int z_wrongPlace])), (a_text, .inr (10, [.ref a_text_characters, .int (nI w_n_text_length)]))]) (va_A [(a_t, .inr (0, [.ref a_text, .ref a_fixities, .ref a_cutter, .ref a_blocks, .ref a_rows, .ref a_tokens, .ref a_counts, .int z_wrongPlace])), (a_text, .inr (10, [.ref a_text_characters, .int (nI n_text_length)]))] sz)) 0 0 (va_A [(a_t, .inr (0, [.ref a_text, .ref a_fixities, .ref a_cutter, .ref a_blocks, .ref a_rows, .ref a_tokens, .ref a_counts, .int z_wrongPlace])), (a_text, .inr (10, [.ref a_text_characters, .int (nI n_text_length)]))] sz) := by
  refine Met.ofW (cc := b_LF_erase) (maxL := 2) (ret := (some .int)) (by decide) rfl ?_
  intro p e s m args below meth c s₁ B hml hv
  obtain ⟨rfl, hsz, hP, hK, hD0⟩ := hv
  have hx := B.exec
  have hb := B.bytes
  have hr := B.returns
  have hts := atoms_spec (ws := w_LF_erase) B.pre
  have hz : ∀ w ∈ wz, w.before _ s = true := fun w h => hts w (List.mem_cons_of_mem _ h)
  have hown : s.vm.findClass R_LF = some m.cls := findClass_of_methodNamed B.named
  have hlocks := B.notSynchronized
  subst hsz
  have hD := hD0.self (sz := s.heap.size)
  generalize hAe : va_A [(a_t, .inr (0, [.ref a_text, .ref a_fixities, .ref a_cutter, .ref a_blocks, .ref a_rows, .ref a_tokens, .ref a_counts, .int z_wrongPlace])), (a_text, .inr (10, [.ref a_text_characters, .int (nI n_text_length)]))] s.heap.size = A at hD ⊢
  have hA : ∀ q : Nat, s.heap.size ≤ q → A q := fun q h => by rw [← hAe]; exact Or.inr h
  have hS : va_S A s.heap s.heap [] := va_S.rf
  have hP : va_P (dC, dI) vcl [(a_t, .inr (0, [.ref a_text, .ref a_fixities, .ref a_cutter, .ref a_blocks, .ref a_rows, .ref a_tokens, .ref a_counts, .int z_wrongPlace])), (a_text, .inr (10, [.ref a_text_characters, .int (nI n_text_length)]))] s.heap := hP
  have hl := lv_entry ([.ref a_t]) (n := 2) (Nat.le_of_ble_eq_true rfl)
  rw [lg_entry_eq]
  generalize (lg_sl ([.ref a_t]) ++ List.replicate (2 - (lg_sl ([.ref a_t])).length) Slot.unset).toArray = ls at hl ⊢
  have hl : lv_has ls 2 [(0, .ref a_t)] := hl
  refine lv_aload_n hx hb d_LF_erase_0 rfl (lv_at hl 0 rfl) ?_
  refine va_get (D := (dC, dI)) (ci := 0) (v := .ref a_text) (C := R_LF) (T := F_LF) (N := 8) hx hb hz zu_LF hown hK hP 0 rfl rfl 0 (by decide) (hz (.fieldLink R_LF 12 "LayoutFront" "text" "LLayoutFront$Text;") zm_504) (fun _ h9 => h9) rfl d_LF_erase_1 ?_
  have hPc := hP.sub (ws' := [(a_text, .inr (10, [.ref a_text_characters, .int (nI n_text_length)]))]) [1] rfl
  have hDc := hD.sub (ws' := [(a_text, .inr (10, [.ref a_text_characters, .int (nI n_text_length)]))]) [1] (by decide) rfl
  have hKc := hK.sub (tys' := []) [] rfl
  have hFc := va_free (wc := [(a_text, .inr (10, [.ref a_text_characters, .int (nI n_text_length)]))]) hD hS hA [1] rfl
  refine va_calli (va_runV (As := []) (rest := []) ⟨hx, hb, hml, hown, hz⟩ (s_Text_length l dC dI s.heap.size a_text a_text_characters n_text_length (by first | rfl | omega)) (cwV 0 hz (zV zm_542 zm_86 zm_87 zm_7 zm_88) rfl rfl rfl (by decide +kernel) ⟨Nat.le_of_ble_eq_true rfl, Nat.le_of_ble_eq_true rfl⟩) ⟨fun a U g mk q => by obtain ⟨q0, q1, qP, qK, qD⟩ := q; exact ⟨q0, q1, qP, va_K.moved (u := U) (U := U.calling g mk a) (Vm.Alike.refl U.vm) qK, qD⟩, va_recv (q := (R_Text, F_Text, 2)) (q0 := 1) (ci := 10) hK hP rfl rfl, fun U hU hW => ⟨rfl, by rw [hU], by rw [hU]; exact hPc, va_K.moved hW.alike hKc, hDc.weaken (fun _ _ _ _ => trivial)⟩⟩ rfl rfl hl.1 rfl (lv_room (Nat.le_of_ble_eq_true rfl)) d_LF_erase_4 ⟨Nat.zero_le _, Nat.zero_le _⟩) hS (fun q _ h => hFc q h) hFc (fun r u t H1 locs ht hvm hw hB hz1 hk1 hS => ?_)
  obtain ⟨hP1, hK1, hD1⟩ := hB
  subst r
  rw [ht] at hP1
  obtain ⟨hP, hD⟩ := va_join (wr := [(a_t, .inr (0, [.ref a_text, .ref a_fixities, .ref a_cutter, .ref a_blocks, .ref a_rows, .ref a_tokens, .ref a_counts, .int z_wrongPlace]))]) (w1 := [(a_text, .inr (10, [.ref a_text_characters, .int (nI n_text_length)]))]) hP hD [1] [0] rfl rfl (by decide) (by decide) hk1 hFc hP1 hD1
  generalize H1 = H at hP hS ⊢
  have hP : va_P (dC, dI) vcl [(a_t, .inr (0, [.ref a_text, .ref a_fixities, .ref a_cutter, .ref a_blocks, .ref a_rows, .ref a_tokens, .ref a_counts, .int z_wrongPlace])), (a_text, .inr (10, [.ref a_text_characters, .int (nI n_text_length)]))] H := hP
  have hD : va_D A [(a_t, .inr (0, [.ref a_text, .ref a_fixities, .ref a_cutter, .ref a_blocks, .ref a_rows, .ref a_tokens, .ref a_counts, .int z_wrongPlace])), (a_text, .inr (10, [.ref a_text_characters, .int (nI n_text_length)]))] := hD
  refine lv_istore_n hx hb d_LF_erase_7 rfl hl (by decide) rfl (fun ls hl => ?_)
  have hl : lv_has ls 2 [(1, .int (nI n_text_length)), (0, .ref a_t)] := hl
  refine lv_aload_n hx hb d_LF_erase_8 rfl (lv_at hl 1 rfl) ?_
  refine va_get (D := (dC, dI)) (ci := 0) (v := .ref a_text) (C := R_LF) (T := F_LF) (N := 8) hx hb hz zu_LF hown hK hP 0 rfl rfl 0 (by decide) (hz (.fieldLink R_LF 12 "LayoutFront" "text" "LLayoutFront$Text;") zm_504) (fun _ h9 => h9) rfl d_LF_erase_9 ?_
  have hPc := hP.sub (ws' := [(a_text, .inr (10, [.ref a_text_characters, .int (nI n_text_length)]))]) [1] rfl
  have hDc := hD.sub (ws' := [(a_text, .inr (10, [.ref a_text_characters, .int (nI n_text_length)]))]) [1] (by decide) rfl
  have hKc := hK.sub (tys' := []) [] rfl
  have hFc := va_free (wc := [(a_text, .inr (10, [.ref a_text_characters, .int (nI n_text_length)]))]) hD hS hA [1] rfl
  refine va_callv (va_runV (As := []) (rest := []) ⟨hx, hb, hml, hown, hz⟩ (s_Text_clearX l dC dI H.size a_text a_text_characters n_text_length (by first | rfl | omega)) (cwV 0 hz (zV zm_549 zm_550 zm_551 zm_7 zm_552) rfl rfl rfl (by decide +kernel) ⟨Nat.le_of_ble_eq_true rfl, Nat.le_of_ble_eq_true rfl⟩) ⟨fun a U g mk q => by obtain ⟨q0, q1, qP, qK, qD⟩ := q; exact ⟨q0, q1, qP, va_K.moved (u := U) (U := U.calling g mk a) (Vm.Alike.refl U.vm) qK, qD⟩, va_recv (q := (R_Text, F_Text, 2)) (q0 := 1) (ci := 10) hK hP rfl rfl, fun U hU hW => ⟨rfl, by rw [hU], by rw [hU]; exact hPc, va_K.moved hW.alike hKc, hDc.weaken (fun _ _ _ _ => trivial)⟩⟩ rfl rfl hl.1 rfl (lv_room (Nat.le_of_ble_eq_true rfl)) d_LF_erase_12 ⟨Nat.zero_le _, Nat.zero_le _⟩) hS (fun q _ h => hFc q h) hFc (fun u t H1 locs ht hvm hw hB hz1 hk1 hS => ?_)
  obtain ⟨g1, hb_g1, hq0_12, hP1, hK1, hD1⟩ := hB
  subst g1
  rw [ht] at hP1
  obtain ⟨hP, hD⟩ := va_join (wr := [(a_t, .inr (0, [.ref a_text, .ref a_fixities, .ref a_cutter, .ref a_blocks, .ref a_rows, .ref a_tokens, .ref a_counts, .int z_wrongPlace]))]) (w1 := [(a_text, .inr (10, [.ref a_text_characters, .int (nI (0))]))]) hP hD [1] [0] rfl rfl (by decide) (by decide) hk1 hFc hP1 hD1
  generalize H1 = H at hP hS ⊢
  have hP : va_P (dC, dI) vcl [(a_t, .inr (0, [.ref a_text, .ref a_fixities, .ref a_cutter, .ref a_blocks, .ref a_rows, .ref a_tokens, .ref a_counts, .int z_wrongPlace])), (a_text, .inr (10, [.ref a_text_characters, .int (nI (0))]))] H := hP
  have hD : va_D A [(a_t, .inr (0, [.ref a_text, .ref a_fixities, .ref a_cutter, .ref a_blocks, .ref a_rows, .ref a_tokens, .ref a_counts, .int z_wrongPlace])), (a_text, .inr (10, [.ref a_text_characters, .int (nI (0))]))] := hD
  refine lv_iload_n hx hb d_LF_erase_15 rfl (lv_at hl 0 rfl) ?_
  have hP9 := hP.sub (ws' := [(a_t, .inr (0, [.ref a_text, .ref a_fixities, .ref a_cutter, .ref a_blocks, .ref a_rows, .ref a_tokens, .ref a_counts, .int z_wrongPlace])), (a_text, .inr (10, [.ref a_text_characters, .int (nI (0))]))]) [0, 1] rfl
  have hD9 := hD.sub (ws' := [(a_t, .inr (0, [.ref a_text, .ref a_fixities, .ref a_cutter, .ref a_blocks, .ref a_rows, .ref a_tokens, .ref a_counts, .int z_wrongPlace])), (a_text, .inr (10, [.ref a_text_characters, .int (nI (0))]))]) [0, 1] (by decide) rfl
  exact W.iret (v := (nI n_text_length)) hx hb hr (fun t ht hW => ⟨⟨(nI n_text_length), (), rfl, rfl, ((0)), by first | rfl | omega, by first | rfl | omega, by rw [ht]; exact hP9, va_K.moved hW.alike hK, hD9⟩, hS.F ht⟩) hS.2.2 d_LF_erase_16
set_option maxHeartbeats 4000000 in
set_option maxRecDepth 100000 in
theorem s_LF_placeX (l : Launch) (dC : Nat → ClassId) (dI : Nat → Nat → Nat) (sz : Nat) (a_t : Nat) (a_text : Nat) (a_fixities : Nat) (a_cutter : Nat) (a_blocks : Nat) (a_rows : Nat) (a_tokens : Nat) (a_counts : Nat) (z_wrongPlace : Int32) : Met l y_LF_place w_LF_place ({ frames := 0, cells := 0, slots := 0, locals := 0 }) (va_Pc [.ref a_t] (fun U => U.heap.size = sz ∧ va_P (dC, dI) vcl [(a_t, .inr (0, [.ref a_text, .ref a_fixities, .ref a_cutter, .ref a_blocks, .ref a_rows, .ref a_tokens, .ref a_counts, .int z_wrongPlace]))] U.heap ∧ va_K (dC, dI) vcl [] U ∧ va_D (fun _ => True) [(a_t, .inr (0, [.ref a_text, .ref a_fixities, .ref a_cutter, .ref a_blocks, .ref a_rows, .ref a_tokens, .ref a_counts, .int z_wrongPlace]))])) (va_Qi (fun (r : Int32) (_ : Unit) => r = z_wrongPlace) (fun _ t => va_P (dC, dI) vcl [(a_t, .inr (0, [.ref a_text, .ref a_fixities, .ref a_cutter, .ref a_blocks, .ref a_rows, .ref a_tokens, .ref a_counts, .int z_wrongPlace]))] t.heap ∧ va_K (dC, dI) vcl [] t ∧ va_D (va_A [(a_t, .inr (0, [.ref a_text, .ref a_fixities, .ref a_cutter, .ref a_blocks, .ref a_rows, .ref a_tokens, .ref a_counts, .int z_wrongPlace]))] sz) [(a_t, .inr (0, [.ref a_text, .ref a_fixities, .ref a_cutter, .ref a_blocks, .ref a_rows, .ref a_tokens, .ref a_counts, .int z_wrongPlace]))]) (va_A [(a_t, .inr (0, [.ref a_text, .ref a_fixities, .ref a_cutter, .ref a_blocks, .ref a_rows, .ref a_tokens, .ref a_counts, .int z_wrongPlace]))] sz)) 0 0 (va_A [(a_t, .inr (0, [.ref a_text, .ref a_fixities, .ref a_cutter, .ref a_blocks, .ref a_rows, .ref a_tokens, .ref a_counts, .int z_wrongPlace]))] sz) := by
  refine Met.ofW (cc := b_LF_place) (maxL := 1) (ret := (some .int)) (by decide) rfl ?_
  intro p e s m args below meth c s₁ B hml hv
  obtain ⟨rfl, hsz, hP, hK, hD0⟩ := hv
  have hx := B.exec
  have hb := B.bytes
  have hr := B.returns
  have hts := atoms_spec (ws := w_LF_place) B.pre
  have hz : ∀ w ∈ wz, w.before _ s = true := fun w h => hts w (List.mem_cons_of_mem _ h)
  have hown : s.vm.findClass R_LF = some m.cls := findClass_of_methodNamed B.named
  have hlocks := B.notSynchronized
  subst hsz
  have hD := hD0.self (sz := s.heap.size)
  generalize hAe : va_A [(a_t, .inr (0, [.ref a_text, .ref a_fixities, .ref a_cutter, .ref a_blocks, .ref a_rows, .ref a_tokens, .ref a_counts, .int z_wrongPlace]))] s.heap.size = A at hD ⊢
  have hA : ∀ q : Nat, s.heap.size ≤ q → A q := fun q h => by rw [← hAe]; exact Or.inr h
  have hS : va_S A s.heap s.heap [] := va_S.rf
  have hP : va_P (dC, dI) vcl [(a_t, .inr (0, [.ref a_text, .ref a_fixities, .ref a_cutter, .ref a_blocks, .ref a_rows, .ref a_tokens, .ref a_counts, .int z_wrongPlace]))] s.heap := hP
  have hl := lv_entry ([.ref a_t]) (n := 1) (Nat.le_of_ble_eq_true rfl)
  rw [lg_entry_eq]
  generalize (lg_sl ([.ref a_t]) ++ List.replicate (1 - (lg_sl ([.ref a_t])).length) Slot.unset).toArray = ls at hl ⊢
  have hl : lv_has ls 1 [(0, .ref a_t)] := hl
  refine lv_aload_n hx hb d_LF_place_0 rfl (lv_at hl 0 rfl) ?_
  refine va_get (D := (dC, dI)) (ci := 0) (v := .int z_wrongPlace) (C := R_LF) (T := F_LF) (N := 8) hx hb hz zu_LF hown hK hP 0 rfl rfl 7 (by decide) (hz (.fieldLink R_LF 57 "LayoutFront" "wrongPlace" "I") zm_529) (fun _ h9 => h9) rfl d_LF_place_1 ?_
  have hP9 := hP.sub (ws' := [(a_t, .inr (0, [.ref a_text, .ref a_fixities, .ref a_cutter, .ref a_blocks, .ref a_rows, .ref a_tokens, .ref a_counts, .int z_wrongPlace]))]) [0] rfl
  have hD9 := hD.sub (ws' := [(a_t, .inr (0, [.ref a_text, .ref a_fixities, .ref a_cutter, .ref a_blocks, .ref a_rows, .ref a_tokens, .ref a_counts, .int z_wrongPlace]))]) [0] (by decide) rfl
  exact W.iret (v := z_wrongPlace) hx hb hr (fun t ht hW => ⟨⟨z_wrongPlace, (), rfl, rfl, by rw [ht]; exact hP9, va_K.moved hW.alike hK, hD9⟩, hS.F ht⟩) hS.2.2 d_LF_place_4
set_option maxHeartbeats 4000000 in
set_option maxRecDepth 100000 in
theorem s_LF_writeX (l : Launch) (hnt : l.stackTraces = false) (dC : Nat → ClassId) (dI : Nat → Nat → Nat) (sz : Nat) (a_t : Nat) (a_text : Nat) (a_text_characters : Nat) (f_text_characters : Nat → Int32) (n_text_length : Nat) (a_fixities : Nat) (a_cutter : Nat) (a_blocks : Nat) (a_rows : Nat) (a_tokens : Nat) (a_counts : Nat) (z_wrongPlace : Int32) (y0 : Int64) (y1 : Int32) (ka_text_characters : ClassId) (c_text_characters : ∀ j, narrow .char (.int (f_text_characters j)) = .int (f_text_characters j)) (b_text_length : n_text_length ≤ 240) : ty_Met l y_LF_write w_LF_write ({ frames := 7, cells := 1, slots := 6, locals := 120 }) (va_Pc [.ref a_t, .long y0, .int y1] (fun U => U.heap.size = sz ∧ va_P (dC, dI) vcl [(a_t, .inr (0, [.ref a_text, .ref a_fixities, .ref a_cutter, .ref a_blocks, .ref a_rows, .ref a_tokens, .ref a_counts, .int z_wrongPlace])), (a_text, .inr (10, [.ref a_text_characters, .int (nI n_text_length)])), (a_text_characters, .inl (ka_text_characters, 240, .inl f_text_characters))] U.heap ∧ va_K (dC, dI) vcl [(ka_text_characters, .char)] U ∧ va_D (fun _ => True) [(a_t, .inr (0, [.ref a_text, .ref a_fixities, .ref a_cutter, .ref a_blocks, .ref a_rows, .ref a_tokens, .ref a_counts, .int z_wrongPlace])), (a_text, .inr (10, [.ref a_text_characters, .int (nI n_text_length)])), (a_text_characters, .inl (ka_text_characters, 240, .inl f_text_characters))] ∧ cx_E (va_A [(a_t, .inr (0, [.ref a_text, .ref a_fixities, .ref a_cutter, .ref a_blocks, .ref a_rows, .ref a_tokens, .ref a_counts, .int z_wrongPlace])), (a_text, .inr (10, [.ref a_text_characters, .int (nI n_text_length)])), (a_text_characters, .inl (ka_text_characters, 240, .inl f_text_characters))] sz) U U.heap)) (va_Qi (fun (r : Int32) (_ : Unit) => r = wR y0 y1 n_text_length) (fun _ t => ∃ (w_n_text_length : Nat) (w_f_text_characters : Nat → Int32), (w_n_text_length ≤ 240) ∧ (∀ j, narrow .char (.int (w_f_text_characters j)) = .int (w_f_text_characters j)) ∧ (w_n_text_length = wL y0 y1 n_text_length) ∧ (∀ j, j < wL y0 y1 n_text_length → w_f_text_characters j = if j < n_text_length then f_text_characters j else nI (by_ y0 (j - n_text_length))) ∧ va_P (dC, dI) vcl [(a_t, .inr (0, [.ref a_text, .ref a_fixities, .ref a_cutter, .ref a_blocks, .ref a_rows, .ref a_tokens, .ref a_counts, .int z_wrongPlace])), (a_text, .inr (10, [.ref a_text_characters, .int (nI w_n_text_length)])), (a_text_characters, .inl (ka_text_characters, 240, .inl w_f_text_characters))] t.heap ∧ va_K (dC, dI) vcl [(ka_text_characters, .char)] t ∧ va_D (va_A [(a_t, .inr (0, [.ref a_text, .ref a_fixities, .ref a_cutter, .ref a_blocks, .ref a_rows, .ref a_tokens, .ref a_counts, .int z_wrongPlace])), (a_text, .inr (10, [.ref a_text_characters, .int (nI n_text_length)])), (a_text_characters, .inl (ka_text_characters, 240, .inl f_text_characters))] sz) [(a_t, .inr (0, [.ref a_text, .ref a_fixities, .ref a_cutter, .ref a_blocks, .ref a_rows, .ref a_tokens, .ref a_counts, .int z_wrongPlace])), (a_text, .inr (10, [.ref a_text_characters, .int (nI w_n_text_length)])), (a_text_characters, .inl (ka_text_characters, 240, .inl w_f_text_characters))]) (va_A [(a_t, .inr (0, [.ref a_text, .ref a_fixities, .ref a_cutter, .ref a_blocks, .ref a_rows, .ref a_tokens, .ref a_counts, .int z_wrongPlace])), (a_text, .inr (10, [.ref a_text_characters, .int (nI n_text_length)])), (a_text_characters, .inl (ka_text_characters, 240, .inl f_text_characters))] sz)) [xIAE, xISE] (fun t => ∃ (w_n_text_length : Nat) (w_f_text_characters : Nat → Int32), (w_n_text_length ≤ 240) ∧ (∀ j, narrow .char (.int (w_f_text_characters j)) = .int (w_f_text_characters j)) ∧ (w_n_text_length = wL y0 y1 n_text_length) ∧ (∀ j, j < wL y0 y1 n_text_length → w_f_text_characters j = if j < n_text_length then f_text_characters j else nI (by_ y0 (j - n_text_length))) ∧ va_P (dC, dI) vcl [(a_t, .inr (0, [.ref a_text, .ref a_fixities, .ref a_cutter, .ref a_blocks, .ref a_rows, .ref a_tokens, .ref a_counts, .int z_wrongPlace])), (a_text, .inr (10, [.ref a_text_characters, .int (nI w_n_text_length)])), (a_text_characters, .inl (ka_text_characters, 240, .inl w_f_text_characters))] t.heap ∧ va_K (dC, dI) vcl [(ka_text_characters, .char)] t ∧ va_D (va_A [(a_t, .inr (0, [.ref a_text, .ref a_fixities, .ref a_cutter, .ref a_blocks, .ref a_rows, .ref a_tokens, .ref a_counts, .int z_wrongPlace])), (a_text, .inr (10, [.ref a_text_characters, .int (nI n_text_length)])), (a_text_characters, .inl (ka_text_characters, 240, .inl f_text_characters))] sz) [(a_t, .inr (0, [.ref a_text, .ref a_fixities, .ref a_cutter, .ref a_blocks, .ref a_rows, .ref a_tokens, .ref a_counts, .int z_wrongPlace])), (a_text, .inr (10, [.ref a_text_characters, .int (nI w_n_text_length)])), (a_text_characters, .inl (ka_text_characters, 240, .inl w_f_text_characters))]) (va_A [(a_t, .inr (0, [.ref a_text, .ref a_fixities, .ref a_cutter, .ref a_blocks, .ref a_rows, .ref a_tokens, .ref a_counts, .int z_wrongPlace])), (a_text, .inr (10, [.ref a_text_characters, .int (nI n_text_length)])), (a_text_characters, .inl (ka_text_characters, 240, .inl f_text_characters))] sz) 1 6 := by
  refine ty_ofW (cc := b_LF_write) (maxL := 4) (ret := (some .int)) (by decide) rfl ?_
  intro p e s m args below meth c s₁ B hml hv
  obtain ⟨rfl, hsz, hP, hK, hD0, hE⟩ := hv
  have hx := B.exec
  have hb := B.bytes
  have hr := B.returns
  have hts := atoms_spec (ws := w_LF_write) B.pre
  have hz : ∀ w ∈ wz, w.before _ s = true := fun w h => hts w (List.mem_cons_of_mem _ h)
  have hown : s.vm.findClass R_LF = some m.cls := findClass_of_methodNamed B.named
  have hlocks := B.notSynchronized
  subst hsz
  have hD := hD0.self (sz := s.heap.size)
  generalize hAe : va_A [(a_t, .inr (0, [.ref a_text, .ref a_fixities, .ref a_cutter, .ref a_blocks, .ref a_rows, .ref a_tokens, .ref a_counts, .int z_wrongPlace])), (a_text, .inr (10, [.ref a_text_characters, .int (nI n_text_length)])), (a_text_characters, .inl (ka_text_characters, 240, .inl f_text_characters))] s.heap.size = A at hD hE ⊢
  have hA : ∀ q : Nat, s.heap.size ≤ q → A q := fun q h => by rw [← hAe]; exact Or.inr h
  have hS : va_S A s.heap s.heap [] := va_S.rf
  have hP : va_P (dC, dI) vcl [(a_t, .inr (0, [.ref a_text, .ref a_fixities, .ref a_cutter, .ref a_blocks, .ref a_rows, .ref a_tokens, .ref a_counts, .int z_wrongPlace])), (a_text, .inr (10, [.ref a_text_characters, .int (nI n_text_length)])), (a_text_characters, .inl (ka_text_characters, 240, .inl f_text_characters))] s.heap := hP
  have hl := lv_entry ([.ref a_t, .long y0, .int y1]) (n := 4) (Nat.le_of_ble_eq_true rfl)
  rw [lg_entry_eq]
  generalize (lg_sl ([.ref a_t, .long y0, .int y1]) ++ List.replicate (4 - (lg_sl ([.ref a_t, .long y0, .int y1])).length) Slot.unset).toArray = ls at hl ⊢
  have hl : lv_has ls 4 [(0, .ref a_t), (1, .long y0), (3, .int y1)] := hl
  refine lv_iload_n hx hb d_LF_write_0 rfl (lv_at hl 2 rfl) ?_
  refine lv_iconst (v := 1) hx hb d_LF_write_1 (by decide) ?_
  refine lv_icmp_lt (tgt := 19) hx hb d_LF_write_2 (by decide) (fun h1 => ?_) (fun h1 => ?_)
  · have pA := h1
    have hP9 := hP.sub (ws' := [(a_t, .inr (0, [.ref a_text, .ref a_fixities, .ref a_cutter, .ref a_blocks, .ref a_rows, .ref a_tokens, .ref a_counts, .int z_wrongPlace])), (a_text, .inr (10, [.ref a_text_characters, .int (nI n_text_length)])), (a_text_characters, .inl (ka_text_characters, 240, .inl f_text_characters))]) [0, 1, 2] rfl
    have hD9 := hD.sub (ws' := [(a_t, .inr (0, [.ref a_text, .ref a_fixities, .ref a_cutter, .ref a_blocks, .ref a_rows, .ref a_tokens, .ref a_counts, .int z_wrongPlace])), (a_text, .inr (10, [.ref a_text_characters, .int (nI n_text_length)])), (a_text_characters, .inl (ka_text_characters, 240, .inl f_text_characters))]) [0, 1, 2] (by decide) rfl
    obtain ⟨qs, hqs⟩ := hE.msg _ (List.mem_of_getElem? (l := tx_str) (i := 0) rfl)
    exact ty_throw hx hb hnt hlocks (hl.1.trans hml.symm) hown (by decide +kernel) (by decide +kernel) (fun U hv hh => cx_xIAE (cx_hz hz hv) (hE.at hS hv hh)) (fun U hv => word_at (cx_warm hv) (zgood _ zm_543).2 (hz _ zm_543)) (fun U hv => word_at (cx_warm hv) (zgood _ zm_544).2 (hz _ zm_544)) (fun U hv => word_at (cx_warm hv) (zgood _ zm_545).2 (hz _ zm_545)) hqs d_LF_write_19 d_LF_write_22 d_LF_write_23 d_LF_write_25 d_LF_write_28 (covers_of_empty (B.noHandlers (hts _ List.mem_cons_self)) _) (Nat.le_of_ble_eq_true rfl) (Nat.le_of_ble_eq_true rfl) (Nat.le_of_ble_eq_true rfl) (Nat.le_of_ble_eq_true rfl) hS (Nat.le_refl _) (Nat.le_refl _) (by simp) (fun t ha h8 h9 => ⟨n_text_length, f_text_characters, by first | omega | assumption, by first | omega | assumption, by exact wL_no (wC_1 (wi_lo pA)) (by decide), by exact wt_no (wL_no (wC_1 (wi_lo pA)) (by decide)), cx_grown hP9 h9, va_K.moved ha hK, hD9⟩)
  · have pA := h1
    refine lv_iload_n hx hb d_LF_write_5 rfl (lv_at hl 2 rfl) ?_
    refine lv_bipush (v := 8) hx hb d_LF_write_6 (by decide) ?_
    refine lv_icmp_gt (tgt := 19) hx hb d_LF_write_8 (by decide) (fun h2 => ?_) (fun h2 => ?_)
    · have pH := h2
      have hP9 := hP.sub (ws' := [(a_t, .inr (0, [.ref a_text, .ref a_fixities, .ref a_cutter, .ref a_blocks, .ref a_rows, .ref a_tokens, .ref a_counts, .int z_wrongPlace])), (a_text, .inr (10, [.ref a_text_characters, .int (nI n_text_length)])), (a_text_characters, .inl (ka_text_characters, 240, .inl f_text_characters))]) [0, 1, 2] rfl
      have hD9 := hD.sub (ws' := [(a_t, .inr (0, [.ref a_text, .ref a_fixities, .ref a_cutter, .ref a_blocks, .ref a_rows, .ref a_tokens, .ref a_counts, .int z_wrongPlace])), (a_text, .inr (10, [.ref a_text_characters, .int (nI n_text_length)])), (a_text_characters, .inl (ka_text_characters, 240, .inl f_text_characters))]) [0, 1, 2] (by decide) rfl
      obtain ⟨qs, hqs⟩ := hE.msg _ (List.mem_of_getElem? (l := tx_str) (i := 0) rfl)
      exact ty_throw hx hb hnt hlocks (hl.1.trans hml.symm) hown (by decide +kernel) (by decide +kernel) (fun U hv hh => cx_xIAE (cx_hz hz hv) (hE.at hS hv hh)) (fun U hv => word_at (cx_warm hv) (zgood _ zm_543).2 (hz _ zm_543)) (fun U hv => word_at (cx_warm hv) (zgood _ zm_544).2 (hz _ zm_544)) (fun U hv => word_at (cx_warm hv) (zgood _ zm_545).2 (hz _ zm_545)) hqs d_LF_write_19 d_LF_write_22 d_LF_write_23 d_LF_write_25 d_LF_write_28 (covers_of_empty (B.noHandlers (hts _ List.mem_cons_self)) _) (Nat.le_of_ble_eq_true rfl) (Nat.le_of_ble_eq_true rfl) (Nat.le_of_ble_eq_true rfl) (Nat.le_of_ble_eq_true rfl) hS (Nat.le_refl _) (Nat.le_refl _) (by simp) (fun t ha h8 h9 => ⟨n_text_length, f_text_characters, by first | omega | assumption, by first | omega | assumption, by exact wL_no (wC_1 (wi_hi pH)) (by decide), by exact wt_no (wL_no (wC_1 (wi_hi pH)) (by decide)), cx_grown hP9 h9, va_K.moved ha hK, hD9⟩)
    · obtain ⟨N, hN1, hN8, eN⟩ := ge_nat (Int32.not_lt.mp pA) (Int32.not_lt.mp h2)
      subst eN
      have hl : lv_has ls 4 [(0, .ref a_t), (1, .long y0), (3, .int (nI N))] := hl
      refine lv_lload_n hx hb d_LF_write_11 rfl (lv_at hl 1 rfl) ?_
      refine lv_iload_n hx hb d_LF_write_12 rfl (lv_at hl 2 rfl) ?_
      have hPc := hP.sub (ws' := []) [] rfl
      have hDc := hD.sub (ws' := []) [] (by decide) rfl
      have hKc := hK.sub (tys' := []) [] rfl
      have hFc := va_free (wc := []) hD hS hA [] rfl
      refine va_calli (va_runS (As := [.long y0, .int (nI N)]) (rest := []) ⟨hx, hb, hml, hown, hz⟩ (s_Text_areCharactersX l dC dI s.heap.size y0 N (by first | omega | assumption)) (va_cwS 2 hz (zT zm_531 zm_532 zm_7 zm_533) rfl rfl rfl (by decide +kernel) ⟨Nat.le_of_ble_eq_true rfl, Nat.le_of_ble_eq_true rfl⟩) ⟨fun a U g mk q => by obtain ⟨q0, q1, qP, qK, qD⟩ := q; exact ⟨q0, q1, qP, va_K.moved (u := U) (U := U.calling g mk a) (Vm.Alike.refl U.vm) qK, qD⟩, fun U hU hW => ⟨rfl, by rw [hU], by rw [hU]; exact hPc, va_K.moved hW.alike hKc, hDc.weaken (fun _ _ _ _ => trivial)⟩⟩ rfl rfl hl.1 rfl (lv_room (Nat.le_of_ble_eq_true rfl)) d_LF_write_13 ⟨Nat.zero_le _, Nat.zero_le _⟩) hS (fun q _ h => hFc q h) hFc (fun r u t H1 locs ht hvm hw_r hB hz1 hk1 hS => ?_)
      obtain ⟨hP1, hK1, hD1⟩ := hB
      obtain ⟨hb_r, he_r⟩ := hw_r
      subst r
      rw [ht] at hP1
      obtain ⟨hP, hD⟩ := va_join (wr := [(a_t, .inr (0, [.ref a_text, .ref a_fixities, .ref a_cutter, .ref a_blocks, .ref a_rows, .ref a_tokens, .ref a_counts, .int z_wrongPlace])), (a_text, .inr (10, [.ref a_text_characters, .int (nI n_text_length)])), (a_text_characters, .inl (ka_text_characters, 240, .inl f_text_characters))]) (w1 := []) hP hD [] [0, 1, 2] rfl rfl (by decide) (by decide) hk1 hFc hP1 hD1
      generalize H1 = H at hP hS ⊢
      have hP : va_P (dC, dI) vcl [(a_t, .inr (0, [.ref a_text, .ref a_fixities, .ref a_cutter, .ref a_blocks, .ref a_rows, .ref a_tokens, .ref a_counts, .int z_wrongPlace])), (a_text, .inr (10, [.ref a_text_characters, .int (nI n_text_length)])), (a_text_characters, .inl (ka_text_characters, 240, .inl f_text_characters))] H := hP
      have hD : va_D A [(a_t, .inr (0, [.ref a_text, .ref a_fixities, .ref a_cutter, .ref a_blocks, .ref a_rows, .ref a_tokens, .ref a_counts, .int z_wrongPlace])), (a_text, .inr (10, [.ref a_text_characters, .int (nI n_text_length)])), (a_text_characters, .inl (ka_text_characters, 240, .inl f_text_characters))] := hD
      refine lv_if_ne (tgt := 29) hx hb d_LF_write_16 (by decide) (fun h3 => ?_) (fun h3 => ?_)
      · have pg := b01_yes h3
        refine lv_aload_n hx hb d_LF_write_29 rfl (lv_at hl 0 rfl) ?_
        refine va_get (D := (dC, dI)) (ci := 0) (v := .ref a_text) (C := R_LF) (T := F_LF) (N := 8) hx hb hz zu_LF hown hK hP 0 rfl rfl 0 (by decide) (hz (.fieldLink R_LF 12 "LayoutFront" "text" "LLayoutFront$Text;") zm_504) (fun _ h9 => h9) rfl d_LF_write_30 ?_
        refine lv_iload_n hx hb d_LF_write_33 rfl (lv_at hl 2 rfl) ?_
        have hPc := hP.sub (ws' := [(a_text, .inr (10, [.ref a_text_characters, .int (nI n_text_length)]))]) [1] rfl
        have hDc := hD.sub (ws' := [(a_text, .inr (10, [.ref a_text_characters, .int (nI n_text_length)]))]) [1] (by decide) rfl
        have hKc := hK.sub (tys' := []) [] rfl
        have hFc := va_free (wc := [(a_text, .inr (10, [.ref a_text_characters, .int (nI n_text_length)]))]) hD hS hA [1] rfl
        refine va_calli (va_runV (As := [.int (nI N)]) (rest := []) ⟨hx, hb, hml, hown, hz⟩ (s_Text_hasRoomForX l dC dI H.size a_text a_text_characters n_text_length N (by first | omega | assumption) (by first | omega | assumption)) (cwV 1 hz (zV zm_534 zm_535 zm_536 zm_7 zm_537) rfl rfl rfl (by decide +kernel) ⟨Nat.le_of_ble_eq_true rfl, Nat.le_of_ble_eq_true rfl⟩) ⟨fun a U g mk q => by obtain ⟨q0, q1, qP, qK, qD⟩ := q; exact ⟨q0, q1, qP, va_K.moved (u := U) (U := U.calling g mk a) (Vm.Alike.refl U.vm) qK, qD⟩, va_recv (q := (R_Text, F_Text, 2)) (q0 := 1) (ci := 10) hK hP rfl rfl, fun U hU hW => ⟨rfl, by rw [hU], by rw [hU]; exact hPc, va_K.moved hW.alike hKc, hDc.weaken (fun _ _ _ _ => trivial)⟩⟩ rfl rfl hl.1 rfl (lv_room (Nat.le_of_ble_eq_true rfl)) d_LF_write_34 ⟨Nat.zero_le _, Nat.zero_le _⟩) hS (fun q _ h => hFc q h) hFc (fun r u t H1 locs ht hvm hw_r hB hz1 hk1 hS => ?_)
        obtain ⟨hP1, hK1, hD1⟩ := hB
        obtain ⟨hb_r, he_r⟩ := hw_r
        subst r
        rw [ht] at hP1
        obtain ⟨hP, hD⟩ := va_join (wr := [(a_t, .inr (0, [.ref a_text, .ref a_fixities, .ref a_cutter, .ref a_blocks, .ref a_rows, .ref a_tokens, .ref a_counts, .int z_wrongPlace])), (a_text_characters, .inl (ka_text_characters, 240, .inl f_text_characters))]) (w1 := [(a_text, .inr (10, [.ref a_text_characters, .int (nI n_text_length)]))]) hP hD [1] [0, 2] rfl rfl (by decide) (by decide) hk1 hFc hP1 hD1
        generalize H1 = H at hP hS ⊢
        have hP : va_P (dC, dI) vcl [(a_t, .inr (0, [.ref a_text, .ref a_fixities, .ref a_cutter, .ref a_blocks, .ref a_rows, .ref a_tokens, .ref a_counts, .int z_wrongPlace])), (a_text_characters, .inl (ka_text_characters, 240, .inl f_text_characters)), (a_text, .inr (10, [.ref a_text_characters, .int (nI n_text_length)]))] H := hP
        have hD : va_D A [(a_t, .inr (0, [.ref a_text, .ref a_fixities, .ref a_cutter, .ref a_blocks, .ref a_rows, .ref a_tokens, .ref a_counts, .int z_wrongPlace])), (a_text_characters, .inl (ka_text_characters, 240, .inl f_text_characters)), (a_text, .inr (10, [.ref a_text_characters, .int (nI n_text_length)]))] := hD
        refine lv_if_ne (tgt := 50) hx hb d_LF_write_37 (by decide) (fun h4 => ?_) (fun h4 => ?_)
        · have pl := of_decide_eq_true (b01_yes h4)
          refine lv_aload_n hx hb d_LF_write_50 rfl (lv_at hl 0 rfl) ?_
          refine va_get (D := (dC, dI)) (ci := 0) (v := .ref a_text) (C := R_LF) (T := F_LF) (N := 8) hx hb hz zu_LF hown hK hP 0 rfl rfl 0 (by decide) (hz (.fieldLink R_LF 12 "LayoutFront" "text" "LLayoutFront$Text;") zm_504) (fun _ h9 => h9) rfl d_LF_write_51 ?_
          refine lv_lload_n hx hb d_LF_write_54 rfl (lv_at hl 1 rfl) ?_
          refine lv_iload_n hx hb d_LF_write_55 rfl (lv_at hl 2 rfl) ?_
          have hPc := hP.sub (ws' := [(a_text, .inr (10, [.ref a_text_characters, .int (nI n_text_length)])), (a_text_characters, .inl (ka_text_characters, 240, .inl f_text_characters))]) [2, 1] rfl
          have hDc := hD.sub (ws' := [(a_text, .inr (10, [.ref a_text_characters, .int (nI n_text_length)])), (a_text_characters, .inl (ka_text_characters, 240, .inl f_text_characters))]) [2, 1] (by decide) rfl
          have hKc := hK.sub (tys' := [(ka_text_characters, .char)]) [0] rfl
          have hFc := va_free (wc := [(a_text, .inr (10, [.ref a_text_characters, .int (nI n_text_length)])), (a_text_characters, .inl (ka_text_characters, 240, .inl f_text_characters))]) hD hS hA [2, 1] rfl
          refine va_callv (va_runV (As := [.long y0, .int (nI N)]) (rest := []) ⟨hx, hb, hml, hown, hz⟩ (s_Text_appendX l dC dI H.size a_text a_text_characters f_text_characters n_text_length y0 N ka_text_characters (by first | omega | assumption) (by first | omega | assumption) (by first | omega | assumption) (by first | omega | assumption)) (cwV 2 hz (zV zm_538 zm_539 zm_540 zm_7 zm_541) rfl rfl rfl (by decide +kernel) ⟨Nat.le_of_ble_eq_true rfl, Nat.le_of_ble_eq_true rfl⟩) ⟨fun a U g mk q => by obtain ⟨q0, q1, qP, qK, qD⟩ := q; exact ⟨q0, q1, qP, va_K.moved (u := U) (U := U.calling g mk a) (Vm.Alike.refl U.vm) qK, qD⟩, va_recv (q := (R_Text, F_Text, 2)) (q0 := 2) (ci := 10) hK hP rfl rfl, fun U hU hW => ⟨rfl, by rw [hU], by rw [hU]; exact hPc, va_K.moved hW.alike hKc, hDc.weaken (fun _ _ _ _ => trivial)⟩⟩ rfl rfl hl.1 rfl (lv_room (Nat.le_of_ble_eq_true rfl)) d_LF_write_56 ⟨Nat.zero_le _, Nat.zero_le _⟩) hS (fun q _ h => hFc q h) hFc (fun u t H1 locs ht hvm hw hB hz1 hk1 hS => ?_)
          obtain ⟨g5, g6, hb_g5, hb_g6, hq0_56, hq1_56, hP1, hK1, hD1⟩ := hB
          subst g5
          rw [ht] at hP1
          obtain ⟨hP, hD⟩ := va_join (wr := [(a_t, .inr (0, [.ref a_text, .ref a_fixities, .ref a_cutter, .ref a_blocks, .ref a_rows, .ref a_tokens, .ref a_counts, .int z_wrongPlace]))]) (w1 := [(a_text, .inr (10, [.ref a_text_characters, .int (nI (n_text_length + N))])), (a_text_characters, .inl (ka_text_characters, 240, .inl g6))]) hP hD [2, 1] [0] rfl rfl (by decide) (by decide) hk1 hFc hP1 hD1
          generalize H1 = H at hP hS ⊢
          have hP : va_P (dC, dI) vcl [(a_t, .inr (0, [.ref a_text, .ref a_fixities, .ref a_cutter, .ref a_blocks, .ref a_rows, .ref a_tokens, .ref a_counts, .int z_wrongPlace])), (a_text, .inr (10, [.ref a_text_characters, .int (nI (n_text_length + N))])), (a_text_characters, .inl (ka_text_characters, 240, .inl g6))] H := hP
          have hD : va_D A [(a_t, .inr (0, [.ref a_text, .ref a_fixities, .ref a_cutter, .ref a_blocks, .ref a_rows, .ref a_tokens, .ref a_counts, .int z_wrongPlace])), (a_text, .inr (10, [.ref a_text_characters, .int (nI (n_text_length + N))])), (a_text_characters, .inl (ka_text_characters, 240, .inl g6))] := hD
          refine lv_aload_n hx hb d_LF_write_59 rfl (lv_at hl 0 rfl) ?_
          refine va_get (D := (dC, dI)) (ci := 0) (v := .ref a_text) (C := R_LF) (T := F_LF) (N := 8) hx hb hz zu_LF hown hK hP 0 rfl rfl 0 (by decide) (hz (.fieldLink R_LF 12 "LayoutFront" "text" "LLayoutFront$Text;") zm_504) (fun _ h9 => h9) rfl d_LF_write_60 ?_
          have hPc := hP.sub (ws' := [(a_text, .inr (10, [.ref a_text_characters, .int (nI (n_text_length + N))]))]) [1] rfl
          have hDc := hD.sub (ws' := [(a_text, .inr (10, [.ref a_text_characters, .int (nI (n_text_length + N))]))]) [1] (by decide) rfl
          have hKc := hK.sub (tys' := []) [] rfl
          have hFc := va_free (wc := [(a_text, .inr (10, [.ref a_text_characters, .int (nI (n_text_length + N))]))]) hD hS hA [1] rfl
          refine va_calli (va_runV (As := []) (rest := []) ⟨hx, hb, hml, hown, hz⟩ (s_Text_length l dC dI H.size a_text a_text_characters ((n_text_length + N)) (by first | omega | assumption)) (cwV 0 hz (zV zm_542 zm_86 zm_87 zm_7 zm_88) rfl rfl rfl (by decide +kernel) ⟨Nat.le_of_ble_eq_true rfl, Nat.le_of_ble_eq_true rfl⟩) ⟨fun a U g mk q => by obtain ⟨q0, q1, qP, qK, qD⟩ := q; exact ⟨q0, q1, qP, va_K.moved (u := U) (U := U.calling g mk a) (Vm.Alike.refl U.vm) qK, qD⟩, va_recv (q := (R_Text, F_Text, 2)) (q0 := 1) (ci := 10) hK hP rfl rfl, fun U hU hW => ⟨rfl, by rw [hU], by rw [hU]; exact hPc, va_K.moved hW.alike hKc, hDc.weaken (fun _ _ _ _ => trivial)⟩⟩ rfl rfl hl.1 rfl (lv_room (Nat.le_of_ble_eq_true rfl)) d_LF_write_63 ⟨Nat.zero_le _, Nat.zero_le _⟩) hS (fun q _ h => hFc q h) hFc (fun r u t H1 locs ht hvm hw hB hz1 hk1 hS => ?_)
          obtain ⟨hP1, hK1, hD1⟩ := hB
          subst r
          rw [ht] at hP1
          obtain ⟨hP, hD⟩ := va_join (wr := [(a_t, .inr (0, [.ref a_text, .ref a_fixities, .ref a_cutter, .ref a_blocks, .ref a_rows, .ref a_tokens, .ref a_counts, .int z_wrongPlace])), (a_text_characters, .inl (ka_text_characters, 240, .inl g6))]) (w1 := [(a_text, .inr (10, [.ref a_text_characters, .int (nI (n_text_length + N))]))]) hP hD [1] [0, 2] rfl rfl (by decide) (by decide) hk1 hFc hP1 hD1
          generalize H1 = H at hP hS ⊢
          have hP : va_P (dC, dI) vcl [(a_t, .inr (0, [.ref a_text, .ref a_fixities, .ref a_cutter, .ref a_blocks, .ref a_rows, .ref a_tokens, .ref a_counts, .int z_wrongPlace])), (a_text_characters, .inl (ka_text_characters, 240, .inl g6)), (a_text, .inr (10, [.ref a_text_characters, .int (nI (n_text_length + N))]))] H := hP
          have hD : va_D A [(a_t, .inr (0, [.ref a_text, .ref a_fixities, .ref a_cutter, .ref a_blocks, .ref a_rows, .ref a_tokens, .ref a_counts, .int z_wrongPlace])), (a_text_characters, .inl (ka_text_characters, 240, .inl g6)), (a_text, .inr (10, [.ref a_text_characters, .int (nI (n_text_length + N))]))] := hD
          have hP9 := hP.sub (ws' := [(a_t, .inr (0, [.ref a_text, .ref a_fixities, .ref a_cutter, .ref a_blocks, .ref a_rows, .ref a_tokens, .ref a_counts, .int z_wrongPlace])), (a_text, .inr (10, [.ref a_text_characters, .int (nI (n_text_length + N))])), (a_text_characters, .inl (ka_text_characters, 240, .inl g6))]) [0, 2, 1] rfl
          have hD9 := hD.sub (ws' := [(a_t, .inr (0, [.ref a_text, .ref a_fixities, .ref a_cutter, .ref a_blocks, .ref a_rows, .ref a_tokens, .ref a_counts, .int z_wrongPlace])), (a_text, .inr (10, [.ref a_text_characters, .int (nI (n_text_length + N))])), (a_text_characters, .inl (ka_text_characters, 240, .inl g6))]) [0, 2, 1] (by decide) rfl
          refine ty_ret (Nat.zero_le _) (Nat.zero_le _) ?_
          exact W.iret (v := (nI (n_text_length + N))) hx hb hr (fun t ht hW => ⟨⟨(nI (n_text_length + N)), (), rfl, (by exact wR_yes hN8 (wC_0 hN1 hN8 pg pl)), ((n_text_length + N)), g6, by first | omega | assumption, by first | omega | assumption, by exact wL_yes hN8 (wC_0 hN1 hN8 pg pl), by exact wt_yes (wL_yes hN8 (wC_0 hN1 hN8 pg pl)) hq1_56, by rw [ht]; exact hP9, va_K.moved hW.alike hK, hD9⟩, hS.F ht⟩) hS.2.2 d_LF_write_66
        · have pl := of_decide_eq_false (b01_no h4)
          have hP9 := hP.sub (ws' := [(a_t, .inr (0, [.ref a_text, .ref a_fixities, .ref a_cutter, .ref a_blocks, .ref a_rows, .ref a_tokens, .ref a_counts, .int z_wrongPlace])), (a_text, .inr (10, [.ref a_text_characters, .int (nI n_text_length)])), (a_text_characters, .inl (ka_text_characters, 240, .inl f_text_characters))]) [0, 2, 1] rfl
          have hD9 := hD.sub (ws' := [(a_t, .inr (0, [.ref a_text, .ref a_fixities, .ref a_cutter, .ref a_blocks, .ref a_rows, .ref a_tokens, .ref a_counts, .int z_wrongPlace])), (a_text, .inr (10, [.ref a_text_characters, .int (nI n_text_length)])), (a_text_characters, .inl (ka_text_characters, 240, .inl f_text_characters))]) [0, 2, 1] (by decide) rfl
          obtain ⟨qs, hqs⟩ := hE.msg _ (List.mem_of_getElem? (l := tx_str) (i := 1) rfl)
          exact ty_throw hx hb hnt hlocks (hl.1.trans hml.symm) hown (by decide +kernel) (by decide +kernel) (fun U hv hh => cx_xISE (cx_hz hz hv) (hE.at hS hv hh)) (fun U hv => word_at (cx_warm hv) (zgood _ zm_546).2 (hz _ zm_546)) (fun U hv => word_at (cx_warm hv) (zgood _ zm_547).2 (hz _ zm_547)) (fun U hv => word_at (cx_warm hv) (zgood _ zm_548).2 (hz _ zm_548)) hqs d_LF_write_40 d_LF_write_43 d_LF_write_44 d_LF_write_46 d_LF_write_49 (covers_of_empty (B.noHandlers (hts _ List.mem_cons_self)) _) (Nat.le_of_ble_eq_true rfl) (Nat.le_of_ble_eq_true rfl) (Nat.le_of_ble_eq_true rfl) (Nat.le_of_ble_eq_true rfl) hS (Nat.le_refl _) (Nat.le_refl _) (by simp) (fun t ha h8 h9 => ⟨n_text_length, f_text_characters, by first | omega | assumption, by first | omega | assumption, by exact wL_no (wC_3 hN1 hN8 pg pl) (by decide), by exact wt_no (wL_no (wC_3 hN1 hN8 pg pl) (by decide)), cx_grown hP9 h9, va_K.moved ha hK, hD9⟩)
      · have pg := b01_no h3
        have hP9 := hP.sub (ws' := [(a_t, .inr (0, [.ref a_text, .ref a_fixities, .ref a_cutter, .ref a_blocks, .ref a_rows, .ref a_tokens, .ref a_counts, .int z_wrongPlace])), (a_text, .inr (10, [.ref a_text_characters, .int (nI n_text_length)])), (a_text_characters, .inl (ka_text_characters, 240, .inl f_text_characters))]) [0, 1, 2] rfl
        have hD9 := hD.sub (ws' := [(a_t, .inr (0, [.ref a_text, .ref a_fixities, .ref a_cutter, .ref a_blocks, .ref a_rows, .ref a_tokens, .ref a_counts, .int z_wrongPlace])), (a_text, .inr (10, [.ref a_text_characters, .int (nI n_text_length)])), (a_text_characters, .inl (ka_text_characters, 240, .inl f_text_characters))]) [0, 1, 2] (by decide) rfl
        obtain ⟨qs, hqs⟩ := hE.msg _ (List.mem_of_getElem? (l := tx_str) (i := 0) rfl)
        exact ty_throw hx hb hnt hlocks (hl.1.trans hml.symm) hown (by decide +kernel) (by decide +kernel) (fun U hv hh => cx_xIAE (cx_hz hz hv) (hE.at hS hv hh)) (fun U hv => word_at (cx_warm hv) (zgood _ zm_543).2 (hz _ zm_543)) (fun U hv => word_at (cx_warm hv) (zgood _ zm_544).2 (hz _ zm_544)) (fun U hv => word_at (cx_warm hv) (zgood _ zm_545).2 (hz _ zm_545)) hqs d_LF_write_19 d_LF_write_22 d_LF_write_23 d_LF_write_25 d_LF_write_28 (covers_of_empty (B.noHandlers (hts _ List.mem_cons_self)) _) (Nat.le_of_ble_eq_true rfl) (Nat.le_of_ble_eq_true rfl) (Nat.le_of_ble_eq_true rfl) (Nat.le_of_ble_eq_true rfl) hS (Nat.le_refl _) (Nat.le_refl _) (by simp) (fun t ha h8 h9 => ⟨n_text_length, f_text_characters, by first | omega | assumption, by first | omega | assumption, by exact wL_no (wC_2 hN1 hN8 pg) (by decide), by exact wt_no (wL_no (wC_2 hN1 hN8 pg) (by decide)), cx_grown hP9 h9, va_K.moved ha hK, hD9⟩)
