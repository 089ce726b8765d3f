theorem tx_no_at {a a' : Array Value} {s : State} (h : tx_no.before a s = true) : tx_no.before a' s = true := by
  have h1 := Cond.holds_not_iff.mp h
  exact Cond.holds_not_iff.mpr h1
section CWR
variable {v : Int64} {k j N : Nat} {y : Int32}
theorem gd_t (h : gd_ v k = true) (ho : ok_ (by_ v k) = true) : gd_ v (k + 1) = true := by rw [gd_s, h, ho]; rfl
theorem okt (e : j = by_ v k) (h : j = 10 ∨ (32 ≤ j ∧ j ≤ 126)) : ok_ (by_ v k) = true := by
  rw [← e]; simp [ok_]; omega
theorem okf (e : j = by_ v k) (h : ¬ j = 10) (h2 : j < 32 ∨ 126 < j) : ok_ (by_ v k) = false := by
  rw [← e]; simp [ok_]; omega
theorem gd_1 (h : gd_ v k = true) (e : k = N) : (1 : Int32) = b01 (gd_ v N) := by rw [← e, h]; rfl
theorem gd_0 (h : ok_ (by_ v k) = false) (hk : k < N) : (0 : Int32) = b01 (gd_ v N) := by rw [gd_not h N hk]; rfl
theorem wi_lo (h : y < 1) : wi y 1 8 = 0 := if_pos h
theorem wi_hi (h : 8 < y) : wi y 1 8 = 0 := by
  unfold wi
  by_cases q : y < 1
  · rw [if_pos q]
  · rw [if_neg q, if_pos h]
end CWR
set_option maxHeartbeats 4000000 in
set_option maxRecDepth 100000 in
theorem s_Text_byteOfX (l : Launch) (dC : Nat → ClassId) (dI : Nat → Nat → Nat) (sz : Nat) (y0 : Int64) (y1 : Nat) (by1 : y1 ≤ 7) : Met l y_Text_byteOf w_Text_byteOf ({ frames := 0, cells := 0, slots := 0, locals := 0 }) (va_Pc [.long y0, .int (nI y1)] (fun U => U.heap.size = sz ∧ va_P (dC, dI) vcl [] U.heap ∧ va_K (dC, dI) vcl [] U ∧ va_D (fun _ => True) [])) (va_Qi (fun (r : Int32) (_ : Unit) => ∃ j, (j = by_ y0 y1) ∧ r = nI j) (fun _ t => va_P (dC, dI) vcl [] t.heap ∧ va_K (dC, dI) vcl [] t ∧ va_D (va_A [] sz) []) (va_A [] sz)) 0 0 (va_A [] sz) := by
  refine Met.ofW (cc := b_Text_byteOf) (maxL := 3) (ret := (some .int)) (by decide) rfl ?_
  intro p e s m args below meth c s₁ B hml hv
  obtain ⟨rfl, hsz, hP, hK, hD0⟩ := hv
  have hx := B.exec
  have hb := B.bytes
  have hr := B.returns
  have hts := atoms_spec (ws := w_Text_byteOf) B.pre
  have hz : ∀ w ∈ wz, w.before _ s = true := fun w h => hts w (List.mem_cons_of_mem _ h)
  have hown : s.vm.findClass R_Text = some m.cls := findClass_of_methodNamed B.named
  have hlocks := B.notSynchronized
  subst hsz
  have hD := hD0.self (sz := s.heap.size)
  generalize hAe : va_A [] s.heap.size = A at hD ⊢
  have hA : ∀ q : Nat, s.heap.size ≤ q → A q := fun q h => by rw [← hAe]; exact Or.inr h
  have hS : va_S A s.heap s.heap [] := va_S.rf
  have hP : va_P (dC, dI) vcl [] s.heap := hP
  have hl := lv_entry ([.long y0, .int (nI y1)]) (n := 3) (Nat.le_of_ble_eq_true rfl)
  rw [lg_entry_eq]
  generalize (lg_sl ([.long y0, .int (nI y1)]) ++ List.replicate (3 - (lg_sl ([.long y0, .int (nI y1)])).length) Slot.unset).toArray = ls at hl ⊢
  have hl : lv_has ls 3 [(0, .long y0), (2, .int (nI y1))] := hl
  refine lv_lload_n hx hb d_Text_byteOf_0 rfl (lv_at hl 0 rfl) ?_
  refine lv_bipush (v := 8) hx hb d_Text_byteOf_1 (by decide) ?_
  refine lv_iload_n hx hb d_Text_byteOf_3 rfl (lv_at hl 1 rfl) ?_
  refine xr_imul (v := nI (8 * y1)) hx hb d_Text_byteOf_4 (pk_mul 8 y1) ?_
  refine lv_lushr (v := (y0.toUInt64 >>> ((nI (8 * y1)).toInt64.toUInt64 &&& Int64.toUInt64 63)).toInt64) hx hb d_Text_byteOf_5 rfl ?_
  refine lv_l2i (v := (y0.toUInt64 >>> ((nI (8 * y1)).toInt64.toUInt64 &&& Int64.toUInt64 63)).toInt64.toInt32) hx hb d_Text_byteOf_6 rfl ?_
  refine lv_sipush (v := 255) hx hb d_Text_byteOf_7 (by decide) ?_
  refine xr_iand (v := nI (by_ y0 y1)) hx hb d_Text_byteOf_10 (by_c y0 (by omega)) ?_
  have hP9 := hP.sub (ws' := []) [] rfl
  have hD9 := hD.sub (ws' := []) [] (by decide) rfl
  exact W.iret (v := (nI (by_ y0 y1))) hx hb hr (fun t ht hW => ⟨⟨(nI (by_ y0 y1)), (), rfl, ⟨(by_ y0 y1), by rfl, rfl⟩, by rw [ht]; exact hP9, va_K.moved hW.alike hK, hD9⟩, hS.F ht⟩) hS.2.2 d_Text_byteOf_11
set_option maxHeartbeats 4000000 in
set_option maxRecDepth 100000 in
theorem s_Text_areCharactersX (l : Launch) (dC : Nat → ClassId) (dI : Nat → Nat → Nat) (sz : Nat) (y0 : Int64) (y1 : Nat) (by1 : y1 ≤ 8) : Met l y_Text_areCharacters w_Text_areCharacters ({ frames := 1, cells := 0, slots := 0, locals := 22 }) (va_Pc [.long y0, .int (nI y1)] (fun U => U.heap.size = sz ∧ va_P (dC, dI) vcl [] U.heap ∧ va_K (dC, dI) vcl [] U ∧ va_D (fun _ => True) [])) (va_Qi (fun (r : Int32) (_ : Unit) => (r = 0 ∨ r = 1) ∧ (r = b01 (gd_ y0 y1))) (fun _ t => va_P (dC, dI) vcl [] t.heap ∧ va_K (dC, dI) vcl [] t ∧ va_D (va_A [] sz) []) (va_A [] sz)) 0 0 (va_A [] sz) := by
  refine Met.ofW (cc := b_Text_areCharacters) (maxL := 5) (ret := (some .boolean)) (by decide) rfl ?_
  intro p e s m args below meth c s₁ B hml hv
  obtain ⟨rfl, hsz, hP, hK, hD0⟩ := hv
  have hx := B.exec
  have hb := B.bytes
  have hr := B.returns
  have hts := atoms_spec (ws := w_Text_areCharacters) B.pre
  have hz : ∀ w ∈ wz, w.before _ s = true := fun w h => hts w (List.mem_cons_of_mem _ h)
  have hown : s.vm.findClass R_Text = some m.cls := findClass_of_methodNamed B.named
  have hlocks := B.notSynchronized
  subst hsz
  have hD := hD0.self (sz := s.heap.size)
  generalize hAe : va_A [] s.heap.size = A at hD ⊢
  have hA : ∀ q : Nat, s.heap.size ≤ q → A q := fun q h => by rw [← hAe]; exact Or.inr h
  have hS : va_S A s.heap s.heap [] := va_S.rf
  have hP : va_P (dC, dI) vcl [] s.heap := hP
  have hl := lv_entry ([.long y0, .int (nI y1)]) (n := 5) (Nat.le_of_ble_eq_true rfl)
  rw [lg_entry_eq]
  generalize (lg_sl ([.long y0, .int (nI y1)]) ++ List.replicate (5 - (lg_sl ([.long y0, .int (nI y1)])).length) Slot.unset).toArray = ls at hl ⊢
  have hl : lv_has ls 5 [(0, .long y0), (2, .int (nI y1))] := hl
  refine lv_iconst (v := 0) hx hb d_Text_areCharacters_0 (by decide) ?_
  refine lv_istore_n hx hb d_Text_areCharacters_1 rfl hl (by decide) rfl (fun ls hl => ?_)
  have hl : lv_has ls 5 [(3, .int 0), (0, .long y0), (2, .int (nI y1))] := hl
  refine xr_loop (α := (Nat)) (fun a => (fun (k3 : Nat) => 8 - k3) a) (fun a H locs ls => (fun (k3 : Nat) => (k3 ≤ 8) ∧ (k3 ≤ y1) ∧ (gd_ y0 k3 = true) ∧ lv_has ls 5 [(3, .int (nI k3)), (0, .long y0), (2, .int (nI y1))] ∧ va_P (dC, dI) vcl [] H ∧ va_D A [] ∧ va_S A s.heap H locs) a) (fun a ih2 H locs ls hI => ?_) (0) _ _ _ ⟨by show 0 ≤ 8; first | omega | assumption, by show 0 ≤ y1; first | omega | assumption, by show gd_ y0 0 = true; rfl, hl, hP, hD, hS⟩
  generalize a = k3 at ih2 hI
  obtain ⟨bl0, bl1, bl2, hl, hP, hD, hS⟩ := hI
  have bl0 : k3 ≤ 8 := bl0
  have bl1 : k3 ≤ y1 := bl1
  have bl2 : gd_ y0 k3 = true := bl2
  have hl : lv_has ls 5 [(3, .int (nI k3)), (0, .long y0), (2, .int (nI y1))] := hl
  have hP : va_P (dC, dI) vcl [] H := hP
  have hD : va_D A [] := hD
  refine lv_iload_n hx hb d_Text_areCharacters_2 rfl (lv_at hl 0 rfl) ?_
  refine lv_iload_n hx hb d_Text_areCharacters_3 rfl (lv_at hl 2 rfl) ?_
  refine lv_icmp_ge (tgt := 43) hx hb d_Text_areCharacters_4 (by decide) (fun h1 => ?_) (fun h1 => ?_)
  · have h1 : y1 ≤ k3 := (nI_leI (a := y1) (b := k3) (by omega) (by omega)).mp h1
    refine lv_iconst (v := 1) hx hb d_Text_areCharacters_43 (by decide) ?_
    have hP9 := hP.sub (ws' := []) [] rfl
    have hD9 := hD.sub (ws' := []) [] (by decide) rfl
    exact W.zret (v := 1) hx hb hr (by decide +kernel) (fun t ht hW => ⟨⟨1, (), rfl, ⟨(by first | assumption | exact Or.inl rfl | exact Or.inr rfl), (by exact gd_1 bl2 (by omega))⟩, by rw [ht]; exact hP9, va_K.moved hW.alike hK, hD9⟩, hS.F ht⟩) hS.2.2 d_Text_areCharacters_44
  · have h1 : ¬ y1 ≤ k3 := fun q => h1 ((nI_leI (a := y1) (b := k3) (by omega) (by omega)).mpr q)
    refine lv_lload_n hx hb d_Text_areCharacters_7 rfl (lv_at hl 1 rfl) ?_
    refine lv_iload_n hx hb d_Text_areCharacters_8 rfl (lv_at hl 0 rfl) ?_
    have hPc := hP.sub (ws' := []) [] rfl
    have hDc := hD.sub (ws' := []) [] (by decide) rfl
    have hKc := hK.sub (tys' := []) [] rfl
    have hFc := va_free (wc := []) hD hS hA [] rfl
    refine va_calli (va_runS (As := [.long y0, .int (nI k3)]) (rest := []) ⟨hx, hb, hml, hown, hz⟩ (s_Text_byteOfX l dC dI H.size y0 k3 (by first | omega | assumption)) (cwS 2 hz (zS zm_5 zm_6 zm_7 zm_8) rfl rfl rfl (by decide +kernel) ⟨Nat.le_of_ble_eq_true rfl, Nat.le_of_ble_eq_true rfl⟩) ⟨fun a U g mk q => by obtain ⟨q0, q1, qP, qK, qD⟩ := q; exact ⟨q0, q1, qP, va_K.moved (u := U) (U := U.calling g mk a) (Vm.Alike.refl U.vm) qK, qD⟩, fun U hU hW => ⟨rfl, by rw [hU], by rw [hU]; exact hPc, va_K.moved hW.alike hKc, hDc.weaken (fun _ _ _ _ => trivial)⟩⟩ rfl rfl hl.1 rfl (lv_room (Nat.le_of_ble_eq_true rfl)) d_Text_areCharacters_9 ⟨Nat.zero_le _, Nat.zero_le _⟩) hS (fun q _ h => hFc q h) hFc (fun r u t H1 locs ht hvm hw hB hz1 hk1 hS => ?_)
    obtain ⟨hP1, hK1, hD1⟩ := hB
    obtain ⟨j2, l_j2, e_j2⟩ := hw
    subst r
    rw [ht] at hP1
    obtain ⟨hP, hD⟩ := va_join (wr := []) (w1 := []) hP hD [] [] rfl rfl (by decide) (by decide) hk1 hFc hP1 hD1
    generalize H1 = H at hP hS ⊢
    have hP : va_P (dC, dI) vcl [] H := hP
    have hD : va_D A [] := hD
    have b8 := by_lt y0 k3
    refine lv_istore hx hb d_Text_areCharacters_12 hl (by decide) rfl (fun ls hl => ?_)
    have hl : lv_has ls 5 [(4, .int (nI j2)), (3, .int (nI k3)), (0, .long y0), (2, .int (nI y1))] := hl
    refine lv_iload hx hb d_Text_areCharacters_14 (lv_at hl 0 rfl) ?_
    refine lv_bipush (v := 10) hx hb d_Text_areCharacters_16 (by decide) ?_
    refine lv_icmp_eq (tgt := 37) hx hb d_Text_areCharacters_18 (by decide) (fun h3 => ?_) (fun h3 => ?_)
    · have h3 : j2 = 10 := (nI_eq (a := j2) (b := 10) (by omega) (by omega)).mp h3
      refine lv_iinc (k := 1) (v := (nI (k3 + 1))) hx hb d_Text_areCharacters_37 hl rfl (nI_1 k3) (by decide) rfl (fun ls hl => ?_)
      have hl : lv_has ls 5 [(3, .int (nI (k3 + 1))), (4, .int (nI j2)), (0, .long y0), (2, .int (nI y1))] := hl
      refine lv_goto (tgt := 2) hx hb d_Text_areCharacters_40 (by decide) ?_
      have hl : lv_has ls 5 [(3, .int (nI (k3 + 1))), (0, .long y0), (2, .int (nI y1))] := lv_sub hl [0, 2, 3] rfl
      have hP9 := hP.sub (ws' := []) [] rfl
      have hD9 := hD.sub (ws' := []) [] (by decide) rfl
      exact ih2 ((k3 + 1)) (by show 8 - ((k3 + 1)) < 8 - k3; omega) _ _ _ ⟨by show ((k3 + 1)) ≤ 8; first | omega | assumption, by show ((k3 + 1)) ≤ y1; first | omega | assumption, by show gd_ y0 ((k3 + 1)) = true; exact gd_t bl2 (okt l_j2 (Or.inl (by assumption))), hl, hP9, hD9, hS⟩
    · have h3 : ¬ j2 = 10 := fun q => h3 ((nI_eq (a := j2) (b := 10) (by omega) (by omega)).mpr q)
      refine lv_iload hx hb d_Text_areCharacters_21 (lv_at hl 0 rfl) ?_
      refine lv_bipush (v := 32) hx hb d_Text_areCharacters_23 (by decide) ?_
      refine lv_icmp_lt (tgt := 35) hx hb d_Text_areCharacters_25 (by decide) (fun h4 => ?_) (fun h4 => ?_)
      · have h4 : j2 < 32 := (nI_ltI (a := j2) (b := 32) (by omega) (by omega)).mp h4
        refine lv_iconst (v := 0) hx hb d_Text_areCharacters_35 (by decide) ?_
        have hP9 := hP.sub (ws' := []) [] rfl
        have hD9 := hD.sub (ws' := []) [] (by decide) rfl
        exact W.zret (v := 0) hx hb hr (by decide +kernel) (fun t ht hW => ⟨⟨0, (), rfl, ⟨(by first | assumption | exact Or.inl rfl | exact Or.inr rfl), (by exact gd_0 (okf l_j2 (by assumption) (by omega)) (by omega))⟩, by rw [ht]; exact hP9, va_K.moved hW.alike hK, hD9⟩, hS.F ht⟩) hS.2.2 d_Text_areCharacters_36
      · have h4 : ¬ j2 < 32 := fun q => h4 ((nI_ltI (a := j2) (b := 32) (by omega) (by omega)).mpr q)
        refine lv_iload hx hb d_Text_areCharacters_28 (lv_at hl 0 rfl) ?_
        refine lv_bipush (v := 126) hx hb d_Text_areCharacters_30 (by decide) ?_
        refine lv_icmp_le (tgt := 37) hx hb d_Text_areCharacters_32 (by decide) (fun h5 => ?_) (fun h5 => ?_)
        · have h5 : j2 ≤ 126 := (nI_leI (a := j2) (b := 126) (by omega) (by omega)).mp h5
          refine lv_iinc (k := 1) (v := (nI (k3 + 1))) hx hb d_Text_areCharacters_37 hl rfl (nI_1 k3) (by decide) rfl (fun ls hl => ?_)
          have hl : lv_has ls 5 [(3, .int (nI (k3 + 1))), (4, .int (nI j2)), (0, .long y0), (2, .int (nI y1))] := hl
          refine lv_goto (tgt := 2) hx hb d_Text_areCharacters_40 (by decide) ?_
          have hl : lv_has ls 5 [(3, .int (nI (k3 + 1))), (0, .long y0), (2, .int (nI y1))] := lv_sub hl [0, 2, 3] rfl
          have hP9 := hP.sub (ws' := []) [] rfl
          have hD9 := hD.sub (ws' := []) [] (by decide) rfl
          exact ih2 ((k3 + 1)) (by show 8 - ((k3 + 1)) < 8 - k3; omega) _ _ _ ⟨by show ((k3 + 1)) ≤ 8; first | omega | assumption, by show ((k3 + 1)) ≤ y1; first | omega | assumption, by show gd_ y0 ((k3 + 1)) = true; exact gd_t bl2 (okt l_j2 (Or.inr (by omega))), hl, hP9, hD9, hS⟩
        · have h5 : ¬ j2 ≤ 126 := fun q => h5 ((nI_leI (a := j2) (b := 126) (by omega) (by omega)).mpr q)
          refine lv_iconst (v := 0) hx hb d_Text_areCharacters_35 (by decide) ?_
          have hP9 := hP.sub (ws' := []) [] rfl
          have hD9 := hD.sub (ws' := []) [] (by decide) rfl
          exact W.zret (v := 0) hx hb hr (by decide +kernel) (fun t ht hW => ⟨⟨0, (), rfl, ⟨(by first | assumption | exact Or.inl rfl | exact Or.inr rfl), (by exact gd_0 (okf l_j2 (by assumption) (by omega)) (by omega))⟩, by rw [ht]; exact hP9, va_K.moved hW.alike hK, hD9⟩, hS.F ht⟩) hS.2.2 d_Text_areCharacters_36
set_option maxHeartbeats 4000000 in
set_option maxRecDepth 100000 in
theorem s_Text_hasRoomForX (l : Launch) (dC : Nat → ClassId) (dI : Nat → Nat → Nat) (sz : Nat) (a_t : Nat) (a_characters : Nat) (n_length : Nat) (y0 : Nat) (b_length : n_length ≤ 240) (by0 : y0 ≤ 8) : Met l y_Text_hasRoomFor w_Text_hasRoomFor ({ frames := 0, cells := 0, slots := 0, locals := 0 }) (va_Pc [.ref a_t, .int (nI y0)] (fun U => U.heap.size = sz ∧ va_P (dC, dI) vcl [(a_t, .inr (10, [.ref a_characters, .int (nI n_length)]))] U.heap ∧ va_K (dC, dI) vcl [] U ∧ va_D (fun _ => True) [(a_t, .inr (10, [.ref a_characters, .int (nI n_length)]))])) (va_Qi (fun (r : Int32) (_ : Unit) => (r = 0 ∨ r = 1) ∧ (r = b01 (decide (n_length + y0 ≤ 240)))) (fun _ t => va_P (dC, dI) vcl [(a_t, .inr (10, [.ref a_characters, .int (nI n_length)]))] t.heap ∧ va_K (dC, dI) vcl [] t ∧ va_D (va_A [(a_t, .inr (10, [.ref a_characters, .int (nI n_length)]))] sz) [(a_t, .inr (10, [.ref a_characters, .int (nI n_length)]))]) (va_A [(a_t, .inr (10, [.ref a_characters, .int (nI n_length)]))] sz)) 0 0 (va_A [(a_t, .inr (10, [.ref a_characters, .int (nI n_length)]))] sz) := by
  refine Met.ofW (cc := b_Text_hasRoomFor) (maxL := 2) (ret := (some .boolean)) (by decide) rfl ?_
  intro p e s m args below meth c s₁ B hml hv
  obtain ⟨rfl, hsz, hP, hK, hD0⟩ := hv
  have hx := B.exec
  have hb := B.bytes
  have hr := B.returns
  have hts := atoms_spec (ws := w_Text_hasRoomFor) B.pre
  have hz : ∀ w ∈ wz, w.before _ s = true := fun w h => hts w (List.mem_cons_of_mem _ h)
  have hown : s.vm.findClass R_Text = some m.cls := findClass_of_methodNamed B.named
  have hlocks := B.notSynchronized
  subst hsz
  have hD := hD0.self (sz := s.heap.size)
  generalize hAe : va_A [(a_t, .inr (10, [.ref a_characters, .int (nI n_length)]))] s.heap.size = A at hD ⊢
  have hA : ∀ q : Nat, s.heap.size ≤ q → A q := fun q h => by rw [← hAe]; exact Or.inr h
  have hS : va_S A s.heap s.heap [] := va_S.rf
  have hP : va_P (dC, dI) vcl [(a_t, .inr (10, [.ref a_characters, .int (nI n_length)]))] s.heap := hP
  have hl := lv_entry ([.ref a_t, .int (nI y0)]) (n := 2) (Nat.le_of_ble_eq_true rfl)
  rw [lg_entry_eq]
  generalize (lg_sl ([.ref a_t, .int (nI y0)]) ++ List.replicate (2 - (lg_sl ([.ref a_t, .int (nI y0)])).length) Slot.unset).toArray = ls at hl ⊢
  have hl : lv_has ls 2 [(0, .ref a_t), (1, .int (nI y0))] := hl
  refine lv_iload_n hx hb d_Text_hasRoomFor_0 rfl (lv_at hl 1 rfl) ?_
  refine lv_sipush (v := 240) hx hb d_Text_hasRoomFor_1 (by decide) ?_
  refine lv_aload_n hx hb d_Text_hasRoomFor_4 rfl (lv_at hl 0 rfl) ?_
  refine va_get (D := (dC, dI)) (ci := 10) (v := .int (nI n_length)) (C := R_Text) (T := F_Text) (N := 2) hx hb hz zu_Text hown hK hP 0 rfl rfl 1 (by decide) (hz (.fieldLink R_Text 19 "LayoutFront$Text" "length" "I") zm_9) (fun _ h9 => h9) rfl d_Text_hasRoomFor_5 ?_
  refine xr_isub (v := (nI (240 - n_length))) hx hb d_Text_hasRoomFor_8 (pk_sub (a := 240) (b := n_length) (by omega)) ?_
  refine lv_icmp_gt (tgt := 16) hx hb d_Text_hasRoomFor_9 (by decide) (fun h1 => ?_) (fun h1 => ?_)
  · have h1 : (240 - n_length) < y0 := (nI_ltI (a := (240 - n_length)) (b := y0) (by omega) (by omega)).mp h1
    refine lv_iconst (v := 0) hx hb d_Text_hasRoomFor_16 (by decide) ?_
    have hP9 := hP.sub (ws' := [(a_t, .inr (10, [.ref a_characters, .int (nI n_length)]))]) [0] rfl
    have hD9 := hD.sub (ws' := [(a_t, .inr (10, [.ref a_characters, .int (nI n_length)]))]) [0] (by decide) rfl
    exact W.zret (v := 0) hx hb hr (by decide +kernel) (fun t ht hW => ⟨⟨0, (), rfl, ⟨(by first | assumption | exact Or.inl rfl | exact Or.inr rfl), (by first | (rw [decide_eq_true (show n_length + y0 ≤ 240 by omega)]; rfl) | (rw [decide_eq_false (show ¬ n_length + y0 ≤ 240 by omega)]; rfl))⟩, by rw [ht]; exact hP9, va_K.moved hW.alike hK, hD9⟩, hS.F ht⟩) hS.2.2 d_Text_hasRoomFor_17
  · have h1 : ¬ (240 - n_length) < y0 := fun q => h1 ((nI_ltI (a := (240 - n_length)) (b := y0) (by omega) (by omega)).mpr q)
    refine lv_iconst (v := 1) hx hb d_Text_hasRoomFor_12 (by decide) ?_
    refine lv_goto (tgt := 17) hx hb d_Text_hasRoomFor_13 (by decide) ?_
    have hP9 := hP.sub (ws' := [(a_t, .inr (10, [.ref a_characters, .int (nI n_length)]))]) [0] rfl
    have hD9 := hD.sub (ws' := [(a_t, .inr (10, [.ref a_characters, .int (nI n_length)]))]) [0] (by decide) rfl
    exact W.zret (v := 1) hx hb hr (by decide +kernel) (fun t ht hW => ⟨⟨1, (), rfl, ⟨(by first | assumption | exact Or.inl rfl | exact Or.inr rfl), (by first | (rw [decide_eq_true (show n_length + y0 ≤ 240 by omega)]; rfl) | (rw [decide_eq_false (show ¬ n_length + y0 ≤ 240 by omega)]; rfl))⟩, by rw [ht]; exact hP9, va_K.moved hW.alike hK, hD9⟩, hS.F ht⟩) hS.2.2 d_Text_hasRoomFor_17
set_option maxHeartbeats 4000000 in
set_option maxRecDepth 100000 in
theorem s_Text_byteOfY (l : Launch) (dC : Nat → ClassId) (dI : Nat → Nat → Nat) (sz : Nat) (y0 : Int64) (y1 : Nat) (by1 : y1 ≤ 7) : Met l y_Text_byteOf w_Text_byteOf ({ frames := 0, cells := 0, slots := 0, locals := 0 }) (va_Pc [.long y0, .int (nI y1)] (fun U => U.heap.size = sz ∧ va_P (dC, dI) vcl [] U.heap ∧ va_K (dC, dI) vcl [] U ∧ va_D (fun _ => True) [])) (va_Qi (fun (r : Int32) (_ : Unit) => r = nI (by_ y0 y1)) (fun _ t => va_P (dC, dI) vcl [] t.heap ∧ va_K (dC, dI) vcl [] t ∧ va_D (va_A [] sz) []) (va_A [] sz)) 0 0 (va_A [] sz) := by
  refine Met.ofW (cc := b_Text_byteOf) (maxL := 3) (ret := (some .int)) (by decide) rfl ?_
  intro p e s m args below meth c s₁ B hml hv
  obtain ⟨rfl, hsz, hP, hK, hD0⟩ := hv
  have hx := B.exec
  have hb := B.bytes
  have hr := B.returns
  have hts := atoms_spec (ws := w_Text_byteOf) B.pre
  have hz : ∀ w ∈ wz, w.before _ s = true := fun w h => hts w (List.mem_cons_of_mem _ h)
  have hown : s.vm.findClass R_Text = some m.cls := findClass_of_methodNamed B.named
  have hlocks := B.notSynchronized
  subst hsz
  have hD := hD0.self (sz := s.heap.size)
  generalize hAe : va_A [] s.heap.size = A at hD ⊢
  have hA : ∀ q : Nat, s.heap.size ≤ q → A q := fun q h => by rw [← hAe]; exact Or.inr h
  have hS : va_S A s.heap s.heap [] := va_S.rf
  have hP : va_P (dC, dI) vcl [] s.heap := hP
  have hl := lv_entry ([.long y0, .int (nI y1)]) (n := 3) (Nat.le_of_ble_eq_true rfl)
  rw [lg_entry_eq]
  generalize (lg_sl ([.long y0, .int (nI y1)]) ++ List.replicate (3 - (lg_sl ([.long y0, .int (nI y1)])).length) Slot.unset).toArray = ls at hl ⊢
  have hl : lv_has ls 3 [(0, .long y0), (2, .int (nI y1))] := hl
  refine lv_lload_n hx hb d_Text_byteOf_0 rfl (lv_at hl 0 rfl) ?_
  refine lv_bipush (v := 8) hx hb d_Text_byteOf_1 (by decide) ?_
  refine lv_iload_n hx hb d_Text_byteOf_3 rfl (lv_at hl 1 rfl) ?_
  refine xr_imul (v := nI (8 * y1)) hx hb d_Text_byteOf_4 (pk_mul 8 y1) ?_
  refine lv_lushr (v := (y0.toUInt64 >>> ((nI (8 * y1)).toInt64.toUInt64 &&& Int64.toUInt64 63)).toInt64) hx hb d_Text_byteOf_5 rfl ?_
  refine lv_l2i (v := (y0.toUInt64 >>> ((nI (8 * y1)).toInt64.toUInt64 &&& Int64.toUInt64 63)).toInt64.toInt32) hx hb d_Text_byteOf_6 rfl ?_
  refine lv_sipush (v := 255) hx hb d_Text_byteOf_7 (by decide) ?_
  refine xr_iand (v := nI (by_ y0 y1)) hx hb d_Text_byteOf_10 (by_c y0 (by omega)) ?_
  have hP9 := hP.sub (ws' := []) [] rfl
  have hD9 := hD.sub (ws' := []) [] (by decide) rfl
  exact W.iret (v := (nI (by_ y0 y1))) hx hb hr (fun t ht hW => ⟨⟨(nI (by_ y0 y1)), (), rfl, (by rfl), by rw [ht]; exact hP9, va_K.moved hW.alike hK, hD9⟩, hS.F ht⟩) hS.2.2 d_Text_byteOf_11
set_option maxHeartbeats 4000000 in
set_option maxRecDepth 100000 in
theorem s_Text_appendX (l : Launch) (dC : Nat → ClassId) (dI : Nat → Nat → Nat) (sz : Nat) (a_t : Nat) (a_characters : Nat) (f_characters : Nat → Int32) (n_length : Nat) (y0 : Int64) (y1 : Nat) (ka_characters : ClassId) (c_characters : ∀ j, narrow .char (.int (f_characters j)) = .int (f_characters j)) (b_length : n_length ≤ 240) (by1 : y1 ≤ 8) (hp0 : n_length + y1 ≤ 240) : Met l y_Text_append w_Text_append ({ frames := 1, cells := 0, slots := 0, locals := 22 }) (va_Pc [.ref a_t, .long y0, .int (nI y1)] (fun U => U.heap.size = sz ∧ va_P (dC, dI) vcl [(a_t, .inr (10, [.ref a_characters, .int (nI n_length)])), (a_characters, .inl (ka_characters, 240, .inl f_characters))] U.heap ∧ va_K (dC, dI) vcl [(ka_characters, .char)] U ∧ va_D (fun _ => True) [(a_t, .inr (10, [.ref a_characters, .int (nI n_length)])), (a_characters, .inl (ka_characters, 240, .inl f_characters))])) (va_Qv (fun (_ : Unit) => True) (fun _ t => ∃ (w_n_length : Nat) (w_f_characters : Nat → Int32), (w_n_length ≤ 240) ∧ (∀ j, narrow .char (.int (w_f_characters j)) = .int (w_f_characters j)) ∧ (w_n_length = n_length + y1) ∧ (∀ j, j < n_length + y1 → w_f_characters j = if j < n_length then f_characters j else nI (by_ y0 (j - n_length))) ∧ va_P (dC, dI) vcl [(a_t, .inr (10, [.ref a_characters, .int (nI w_n_length)])), (a_characters, .inl (ka_characters, 240, .inl w_f_characters))] t.heap ∧ va_K (dC, dI) vcl [(ka_characters, .char)] t ∧ va_D (va_A [(a_t, .inr (10, [.ref a_characters, .int (nI n_length)])), (a_characters, .inl (ka_characters, 240, .inl f_characters))] sz) [(a_t, .inr (10, [.ref a_characters, .int (nI w_n_length)])), (a_characters, .inl (ka_characters, 240, .inl w_f_characters))]) (va_A [(a_t, .inr (10, [.ref a_characters, .int (nI n_length)])), (a_characters, .inl (ka_characters, 240, .inl f_characters))] sz)) 0 0 (va_A [(a_t, .inr (10, [.ref a_characters, .int (nI n_length)])), (a_characters, .inl (ka_characters, 240, .inl f_characters))] sz) := by
  refine Met.ofW (cc := b_Text_append) (maxL := 5) (ret := none) (by decide) rfl ?_
  intro p e s m args below meth c s₁ B hml hv
  obtain ⟨rfl, hsz, hP, hK, hD0⟩ := hv
  have hx := B.exec
  have hb := B.bytes
  have hr := B.returns
  have hts := atoms_spec (ws := w_Text_append) B.pre
  have hz : ∀ w ∈ wz, w.before _ s = true := fun w h => hts w (List.mem_cons_of_mem _ h)
  have hown : s.vm.findClass R_Text = some m.cls := findClass_of_methodNamed B.named
  have hlocks := B.notSynchronized
  subst hsz
  have hD := hD0.self (sz := s.heap.size)
  generalize hAe : va_A [(a_t, .inr (10, [.ref a_characters, .int (nI n_length)])), (a_characters, .inl (ka_characters, 240, .inl f_characters))] s.heap.size = A at hD ⊢
  have hA : ∀ q : Nat, s.heap.size ≤ q → A q := fun q h => by rw [← hAe]; exact Or.inr h
  have hS : va_S A s.heap s.heap [] := va_S.rf
  have hP : va_P (dC, dI) vcl [(a_t, .inr (10, [.ref a_characters, .int (nI n_length)])), (a_characters, .inl (ka_characters, 240, .inl f_characters))] s.heap := hP
  have hl := lv_entry ([.ref a_t, .long y0, .int (nI y1)]) (n := 5) (Nat.le_of_ble_eq_true rfl)
  rw [lg_entry_eq]
  generalize (lg_sl ([.ref a_t, .long y0, .int (nI y1)]) ++ List.replicate (5 - (lg_sl ([.ref a_t, .long y0, .int (nI y1)])).length) Slot.unset).toArray = ls at hl ⊢
  have hl : lv_has ls 5 [(0, .ref a_t), (1, .long y0), (3, .int (nI y1))] := hl
  refine lv_iconst (v := 0) hx hb d_Text_append_0 (by decide) ?_
  refine lv_istore hx hb d_Text_append_1 hl (by decide) rfl (fun ls hl => ?_)
  have hl : lv_has ls 5 [(4, .int 0), (0, .ref a_t), (1, .long y0), (3, .int (nI y1))] := hl
  refine xr_loop (α := (Nat) × (Nat → Int32) × (Nat)) (fun a => (fun (k4 : Nat) (v_a_characters : Nat → Int32) (v_a_t_1 : Nat) => 8 - k4) a.1 a.2.1 a.2.2) (fun a H locs ls => (fun (k4 : Nat) (v_a_characters : Nat → Int32) (v_a_t_1 : Nat) => (k4 ≤ 8) ∧ (∀ j, narrow .char (.int (v_a_characters j)) = .int (v_a_characters j)) ∧ (v_a_t_1 ≤ 240) ∧ (k4 ≤ y1) ∧ (v_a_t_1 = n_length + k4) ∧ (∀ j, j < n_length + k4 → v_a_characters j = if j < n_length then f_characters j else nI (by_ y0 (j - n_length))) ∧ lv_has ls 5 [(4, .int (nI k4)), (0, .ref a_t), (1, .long y0), (3, .int (nI y1))] ∧ va_P (dC, dI) vcl [(a_t, .inr (10, [.ref a_characters, .int (nI v_a_t_1)])), (a_characters, .inl (ka_characters, 240, .inl v_a_characters))] H ∧ va_D A [(a_t, .inr (10, [.ref a_characters, .int (nI v_a_t_1)])), (a_characters, .inl (ka_characters, 240, .inl v_a_characters))] ∧ va_S A s.heap H locs) a.1 a.2.1 a.2.2) (fun a ih3 H locs ls hI => ?_) (0, f_characters, n_length) _ _ _ ⟨by show 0 ≤ 8; first | omega | assumption | exact Or.inl rfl | exact Or.inr rfl | decide, by show ∀ j, narrow .char (.int (f_characters j)) = .int (f_characters j); first | omega | assumption | exact Or.inl rfl | exact Or.inr rfl | decide, by show n_length ≤ 240; first | omega | assumption | exact Or.inl rfl | exact Or.inr rfl | decide, by show 0 ≤ y1; first | omega | assumption | exact Or.inl rfl | exact Or.inr rfl | decide, by show n_length = n_length + 0; first | omega | assumption | exact Or.inl rfl | exact Or.inr rfl | decide, by show ∀ j, j < n_length + 0 → f_characters j = if j < n_length then f_characters j else nI (by_ y0 (j - n_length)); exact fun j hj => (if_pos hj).symm, hl, hP, hD, hS⟩
  obtain ⟨k4, v_a_characters, v_a_t_1⟩ := a
  obtain ⟨bl0, bl1, bl2, bl3, bl4, bl5, hl, hP, hD, hS⟩ := hI
  have bl0 : k4 ≤ 8 := bl0
  have bl1 : ∀ j, narrow .char (.int (v_a_characters j)) = .int (v_a_characters j) := bl1
  have bl2 : v_a_t_1 ≤ 240 := bl2
  have bl3 : k4 ≤ y1 := bl3
  have bl4 : v_a_t_1 = n_length + k4 := bl4
  have bl5 : ∀ j, j < n_length + k4 → v_a_characters j = if j < n_length then f_characters j else nI (by_ y0 (j - n_length)) := bl5
  have cI := bl5
  have hl : lv_has ls 5 [(4, .int (nI k4)), (0, .ref a_t), (1, .long y0), (3, .int (nI y1))] := hl
  have hP : va_P (dC, dI) vcl [(a_t, .inr (10, [.ref a_characters, .int (nI v_a_t_1)])), (a_characters, .inl (ka_characters, 240, .inl v_a_characters))] H := hP
  have hD : va_D A [(a_t, .inr (10, [.ref a_characters, .int (nI v_a_t_1)])), (a_characters, .inl (ka_characters, 240, .inl v_a_characters))] := hD
  refine lv_iload hx hb d_Text_append_3 (lv_at hl 0 rfl) ?_
  refine lv_iload_n hx hb d_Text_append_5 rfl (lv_at hl 3 rfl) ?_
  refine lv_icmp_ge (tgt := 51) hx hb d_Text_append_6 (by decide) (fun h1 => ?_) (fun h1 => ?_)
  · have h1 : y1 ≤ k4 := (nI_leI (a := y1) (b := k4) (by omega) (by omega)).mp h1
    have hP9 := hP.sub (ws' := [(a_t, .inr (10, [.ref a_characters, .int (nI v_a_t_1)])), (a_characters, .inl (ka_characters, 240, .inl v_a_characters))]) [0, 1] rfl
    have hD9 := hD.sub (ws' := [(a_t, .inr (10, [.ref a_characters, .int (nI v_a_t_1)])), (a_characters, .inl (ka_characters, 240, .inl v_a_characters))]) [0, 1] (by decide) rfl
    exact W.vret hx hb hr (fun t ht hW => ⟨⟨(), rfl, trivial, v_a_t_1, v_a_characters, by first | omega | assumption | exact Or.inl rfl | exact Or.inr rfl | decide, by first | omega | assumption | exact Or.inl rfl | exact Or.inr rfl | decide, by first | omega | assumption | exact Or.inl rfl | exact Or.inr rfl | decide, by exact fun j hj => cI j (by omega), by rw [ht]; exact hP9, va_K.moved hW.alike hK, hD9⟩, hS.F ht⟩) hS.2.2 d_Text_append_51
  · have h1 : ¬ y1 ≤ k4 := fun q => h1 ((nI_leI (a := y1) (b := k4) (by omega) (by omega)).mpr q)
    refine lv_aload_n hx hb d_Text_append_9 rfl (lv_at hl 1 rfl) ?_
    refine va_get (D := (dC, dI)) (ci := 10) (v := .int (nI v_a_t_1)) (C := R_Text) (T := F_Text) (N := 2) hx hb hz zu_Text hown hK hP 0 rfl rfl 1 (by decide) (hz (.fieldLink R_Text 19 "LayoutFront$Text" "length" "I") zm_9) (fun _ h9 => h9) rfl d_Text_append_10 ?_
    refine lv_sipush (v := 240) hx hb d_Text_append_13 (by decide) ?_
    refine lv_icmp_ge (tgt := 51) hx hb d_Text_append_16 (by decide) (fun h2 => ?_) (fun h2 => ?_)
    · have h2 : 240 ≤ v_a_t_1 := (nI_leI (a := 240) (b := v_a_t_1) (by omega) (by omega)).mp h2
      (exfalso; omega)
    · have h2 : ¬ 240 ≤ v_a_t_1 := fun q => h2 ((nI_leI (a := 240) (b := v_a_t_1) (by omega) (by omega)).mpr q)
      refine lv_aload_n hx hb d_Text_append_19 rfl (lv_at hl 1 rfl) ?_
      refine va_get (D := (dC, dI)) (ci := 10) (v := .ref a_characters) (C := R_Text) (T := F_Text) (N := 2) hx hb hz zu_Text hown hK hP 0 rfl rfl 0 (by decide) (hz (.fieldLink R_Text 9 "LayoutFront$Text" "characters" "[C") zm_3) (fun _ h9 => h9) rfl d_Text_append_20 ?_
      refine lv_aload_n hx hb d_Text_append_23 rfl (lv_at hl 1 rfl) ?_
      refine va_get (D := (dC, dI)) (ci := 10) (v := .int (nI v_a_t_1)) (C := R_Text) (T := F_Text) (N := 2) hx hb hz zu_Text hown hK hP 0 rfl rfl 1 (by decide) (hz (.fieldLink R_Text 19 "LayoutFront$Text" "length" "I") zm_9) (fun _ h9 => h9) rfl d_Text_append_24 ?_
      refine lv_lload_n hx hb d_Text_append_27 rfl (lv_at hl 2 rfl) ?_
      refine lv_iload hx hb d_Text_append_28 (lv_at hl 0 rfl) ?_
      have hPc := hP.sub (ws' := []) [] rfl
      have hDc := hD.sub (ws' := []) [] (by decide) rfl
      have hKc := hK.sub (tys' := []) [] rfl
      have hFc := va_free (wc := []) hD hS hA [] rfl
      refine va_calli (va_runS (As := [.long y0, .int (nI k4)]) (rest := [.int (nI v_a_t_1), .ref a_characters]) ⟨hx, hb, hml, hown, hz⟩ (s_Text_byteOfY l dC dI H.size y0 k4 (by first | omega | assumption | exact Or.inl rfl | exact Or.inr rfl | decide)) (cwS 2 hz (zS zm_5 zm_6 zm_7 zm_8) rfl rfl rfl (by decide +kernel) ⟨Nat.le_of_ble_eq_true rfl, Nat.le_of_ble_eq_true rfl⟩) ⟨fun a U g mk q => by obtain ⟨q0, q1, qP, qK, qD⟩ := q; exact ⟨q0, q1, qP, va_K.moved (u := U) (U := U.calling g mk a) (Vm.Alike.refl U.vm) qK, qD⟩, fun U hU hW => ⟨rfl, by rw [hU], by rw [hU]; exact hPc, va_K.moved hW.alike hKc, hDc.weaken (fun _ _ _ _ => trivial)⟩⟩ rfl rfl hl.1 rfl (lv_room (Nat.le_of_ble_eq_true rfl)) d_Text_append_30 ⟨Nat.zero_le _, Nat.zero_le _⟩) hS (fun q _ h => hFc q h) hFc (fun r u t H1 locs ht hvm hw hB hz1 hk1 hS => ?_)
      obtain ⟨hP1, hK1, hD1⟩ := hB
      subst r
      rw [ht] at hP1
      obtain ⟨hP, hD⟩ := va_join (wr := [(a_t, .inr (10, [.ref a_characters, .int (nI v_a_t_1)])), (a_characters, .inl (ka_characters, 240, .inl v_a_characters))]) (w1 := []) hP hD [] [0, 1] rfl rfl (by decide) (by decide) hk1 hFc hP1 hD1
      generalize H1 = H at hP hS ⊢
      have hP : va_P (dC, dI) vcl [(a_t, .inr (10, [.ref a_characters, .int (nI v_a_t_1)])), (a_characters, .inl (ka_characters, 240, .inl v_a_characters))] H := hP
      have hD : va_D A [(a_t, .inr (10, [.ref a_characters, .int (nI v_a_t_1)])), (a_characters, .inl (ka_characters, 240, .inl v_a_characters))] := hD
      refine lv_i2c (v := nI (by_ y0 k4)) hx hb d_Text_append_33 (i2c_q (by_lt y0 k4)) ?_
      refine va_cast hx hb hK hP hD hS 1 0 rfl rfl (vp_in_nI (by omega) (by omega)) d_Text_append_34 (fun H locs hP hD hS => ?_)
      rw [show ((nI v_a_t_1) : Int32).toNatClampNeg = v_a_t_1 from nI_clamp (by omega)] at hP hD
      have hc_f3 := xr_upc (i := v_a_t_1) (x := (nI (by_ y0 k4))) bl1
      generalize hf_f3 : upd v_a_characters v_a_t_1 (vp_nar .char (nI (by_ y0 k4))) = f3 at hP hD hc_f3
      have hP : va_P (dC, dI) vcl [(a_t, .inr (10, [.ref a_characters, .int (nI v_a_t_1)])), (a_characters, .inl (ka_characters, 240, .inl f3))] H := hP
      have hD : va_D A [(a_t, .inr (10, [.ref a_characters, .int (nI v_a_t_1)])), (a_characters, .inl (ka_characters, 240, .inl f3))] := hD
      refine lv_aload_n hx hb d_Text_append_35 rfl (lv_at hl 1 rfl) ?_
      refine lv_dup hx hb d_Text_append_36 rfl ?_
      refine va_get (D := (dC, dI)) (ci := 10) (v := .int (nI v_a_t_1)) (C := R_Text) (T := F_Text) (N := 2) hx hb hz zu_Text hown hK hP 0 rfl rfl 1 (by decide) (hz (.fieldLink R_Text 19 "LayoutFront$Text" "length" "I") zm_9) (fun _ h9 => h9) rfl d_Text_append_37 ?_
      refine lv_iconst (v := 1) hx hb d_Text_append_40 (by decide) ?_
      refine xr_iadd (v := (nI (v_a_t_1 + 1))) hx hb d_Text_append_41 (nI_add v_a_t_1 1) ?_
      refine va_put (D := (dC, dI)) (ci := 10) (v := .int (nI (v_a_t_1 + 1))) (ty := .int) (C := R_Text) (T := F_Text) (N := 2) hx hb hz zu_Text t_Text t_Text_ok n_Text hown hK hP hD hS 0 rfl rfl 1 (by decide) (hz (.fieldLink R_Text 19 "LayoutFront$Text" "length" "I") zm_9) (fun _ h9 => h9) rfl (by decide +kernel) rfl rfl (Nat.le_of_ble_eq_true rfl) d_Text_append_42 (fun H locs hP hD hS => ?_)
      have hP : va_P (dC, dI) vcl [(a_t, .inr (10, [.ref a_characters, .int (nI (v_a_t_1 + 1))])), (a_characters, .inl (ka_characters, 240, .inl f3))] H := hP
      have hD : va_D A [(a_t, .inr (10, [.ref a_characters, .int (nI (v_a_t_1 + 1))])), (a_characters, .inl (ka_characters, 240, .inl f3))] := hD
      refine lv_iinc (k := 0) (v := (nI (k4 + 1))) hx hb d_Text_append_45 hl rfl (nI_1 k4) (by decide) rfl (fun ls hl => ?_)
      have hl : lv_has ls 5 [(4, .int (nI (k4 + 1))), (0, .ref a_t), (1, .long y0), (3, .int (nI y1))] := hl
      refine lv_goto (tgt := 3) hx hb d_Text_append_48 (by decide) ?_
      have hP9 := hP.sub (ws' := [(a_t, .inr (10, [.ref a_characters, .int (nI (v_a_t_1 + 1))])), (a_characters, .inl (ka_characters, 240, .inl f3))]) [0, 1] rfl
      have hD9 := hD.sub (ws' := [(a_t, .inr (10, [.ref a_characters, .int (nI (v_a_t_1 + 1))])), (a_characters, .inl (ka_characters, 240, .inl f3))]) [0, 1] (by decide) rfl
      exact ih3 ((k4 + 1), f3, (v_a_t_1 + 1)) (by show 8 - ((k4 + 1)) < 8 - k4; omega) _ _ _ ⟨by show ((k4 + 1)) ≤ 8; first | omega | assumption | exact Or.inl rfl | exact Or.inr rfl | decide, by show ∀ j, narrow .char (.int (f3 j)) = .int (f3 j); first | omega | assumption | exact Or.inl rfl | exact Or.inr rfl | decide, by show ((v_a_t_1 + 1)) ≤ 240; first | omega | assumption | exact Or.inl rfl | exact Or.inr rfl | decide, by show ((k4 + 1)) ≤ y1; first | omega | assumption | exact Or.inl rfl | exact Or.inr rfl | decide, by show ((v_a_t_1 + 1)) = n_length + ((k4 + 1)); first | omega | assumption | exact Or.inl rfl | exact Or.inr rfl | decide, by show ∀ j, j < n_length + ((k4 + 1)) → f3 j = if j < n_length then f_characters j else nI (by_ y0 (j - n_length)); exact ap_s hf_f3 (by omega) cI, hl, hP9, hD9, hS⟩
set_option maxHeartbeats 4000000 in
set_option maxRecDepth 100000 in
theorem s_Text_clearX (l : Launch) (dC : Nat → ClassId) (dI : Nat → Nat → Nat) (sz : Nat) (a_t : Nat) (a_characters : Nat) (n_length : Nat) (b_length : n_length ≤ 240) : Met l y_Text_clear w_Text_clear ({ frames := 0, cells := 0, slots := 0, locals := 0 }) (va_Pc [.ref a_t] (fun U => U.heap.size = sz ∧ va_P (dC, dI) vcl [(a_t, .inr (10, [.ref a_characters, .int (nI n_length)]))] U.heap ∧ va_K (dC, dI) vcl [] U ∧ va_D (fun _ => True) [(a_t, .inr (10, [.ref a_characters, .int (nI n_length)]))])) (va_Qv (fun (_ : Unit) => True) (fun _ t => ∃ (w_n_length : Nat), (w_n_length ≤ 240) ∧ (w_n_length = 0) ∧ va_P (dC, dI) vcl [(a_t, .inr (10, [.ref a_characters, .int (nI w_n_length)]))] t.heap ∧ va_K (dC, dI) vcl [] t ∧ va_D (va_A [(a_t, .inr (10, [.ref a_characters, .int (nI n_length)]))] sz) [(a_t, .inr (10, [.ref a_characters, .int (nI w_n_length)]))]) (va_A [(a_t, .inr (10, [.ref a_characters, .int (nI n_length)]))] sz)) 0 0 (va_A [(a_t, .inr (10, [.ref a_characters, .int (nI n_length)]))] sz) := by
  refine Met.ofW (cc := b_Text_clear) (maxL := 1) (ret := none) (by decide) rfl ?_
  intro p e s m args below meth c s₁ B hml hv
  obtain ⟨rfl, hsz, hP, hK, hD0⟩ := hv
  have hx := B.exec
  have hb := B.bytes
  have hr := B.returns
  have hts := atoms_spec (ws := w_Text_clear) B.pre
  have hz : ∀ w ∈ wz, w.before _ s = true := fun w h => hts w (List.mem_cons_of_mem _ h)
  have hown : s.vm.findClass R_Text = some m.cls := findClass_of_methodNamed B.named
  have hlocks := B.notSynchronized
  subst hsz
  have hD := hD0.self (sz := s.heap.size)
  generalize hAe : va_A [(a_t, .inr (10, [.ref a_characters, .int (nI n_length)]))] s.heap.size = A at hD ⊢
  have hA : ∀ q : Nat, s.heap.size ≤ q → A q := fun q h => by rw [← hAe]; exact Or.inr h
  have hS : va_S A s.heap s.heap [] := va_S.rf
  have hP : va_P (dC, dI) vcl [(a_t, .inr (10, [.ref a_characters, .int (nI n_length)]))] s.heap := hP
  have hl := lv_entry ([.ref a_t]) (n := 1) (Nat.le_of_ble_eq_true rfl)
  rw [lg_entry_eq]
  generalize (lg_sl ([.ref a_t]) ++ List.replicate (1 - (lg_sl ([.ref a_t])).length) Slot.unset).toArray = ls at hl ⊢
  have hl : lv_has ls 1 [(0, .ref a_t)] := hl
  refine lv_aload_n hx hb d_Text_clear_0 rfl (lv_at hl 0 rfl) ?_
  refine lv_iconst (v := 0) hx hb d_Text_clear_1 (by decide) ?_
  refine va_put (D := (dC, dI)) (ci := 10) (v := .int 0) (ty := .int) (C := R_Text) (T := F_Text) (N := 2) hx hb hz zu_Text t_Text t_Text_ok n_Text hown hK hP hD hS 0 rfl rfl 1 (by decide) (hz (.fieldLink R_Text 19 "LayoutFront$Text" "length" "I") zm_9) (fun _ h9 => h9) rfl (by decide +kernel) (by decide +kernel) rfl (Nat.le_of_ble_eq_true rfl) d_Text_clear_2 (fun H locs hP hD hS => ?_)
  have hP : va_P (dC, dI) vcl [(a_t, .inr (10, [.ref a_characters, .int 0]))] H := hP
  have hD : va_D A [(a_t, .inr (10, [.ref a_characters, .int 0]))] := hD
  have hP9 := hP.sub (ws' := [(a_t, .inr (10, [.ref a_characters, .int 0]))]) [0] rfl
  have hD9 := hD.sub (ws' := [(a_t, .inr (10, [.ref a_characters, .int 0]))]) [0] (by decide) rfl
  exact W.vret hx hb hr (fun t ht hW => ⟨⟨(), rfl, trivial, 0, by first | rfl | omega, by first | rfl | omega, by rw [ht]; exact hP9, va_K.moved hW.alike hK, hD9⟩, hS.F ht⟩) hS.2.2 d_Text_clear_5
set_option maxHeartbeats 4000000 in
set_option maxRecDepth 100000 in
theorem s_LF_eraseX (l : Launch) (dC : Nat → ClassId) (dI : Nat → Nat → Nat) (sz : Nat) (a_t : Nat) (a_text : Nat) (a_text_characters : Nat) (n_text_length : Nat) (a_fixities : Nat) (a_cutter : Nat) (a_blocks : Nat) (a_rows : Nat) (a_tokens : Nat) (a_counts : Nat) (z_wrongPlace : Int32) (b_text_length : n_text_length ≤ 240) : Met l y_LF_erase w_LF_erase ({ frames := 1, cells := 0, slots := 0, locals := 20 }) (va_Pc [.ref a_t] (fun U => U.heap.size = sz ∧ va_P (dC, dI) vcl [(a_t, .inr (0, [.ref a_text, .ref a_fixities, .ref a_cutter, .ref a_blocks, .ref a_rows, .ref a_tokens, .ref a_counts, .int z_wrongPlace])), (a_text, .inr (10, [.ref a_text_characters, .int (nI n_text_length)]))] U.heap ∧ va_K (dC, dI) vcl [] U ∧ va_D (fun _ => True) [(a_t, .inr (0, [.ref a_text, .ref a_fixities, .ref a_cutter, .ref a_blocks, .ref a_rows, .ref a_tokens, .ref a_counts, .int z_wrongPlace])), (a_text, .inr (10, [.ref a_text_characters, .int (nI n_text_length)]))])) (va_Qi (fun (r : Int32) (_ : Unit) => r = (nI n_text_length)) (fun _ t => ∃ (w_n_text_length : Nat), (w_n_text_length ≤ 240) ∧ (w_n_text_length = 0) ∧ va_P (dC, dI) vcl [(a_t, .inr (0, [.ref a_text, .ref a_fixities, .ref a_cutter, .ref a_blocks, .ref a_rows, .ref a_tokens, .ref a_counts, .int z_wrongPlace])), (a_text, .inr (10, [.ref a_text_characters, .int (nI w_n_text_length)]))] t.heap ∧ va_K (dC, dI) vcl [] t ∧ va_D (va_A [(a_t, .inr (0, [.ref a_text, .ref a_fixities, .ref a_cutter, .ref a_blocks, .ref a_rows, .ref a_tokens, .ref a_counts, .int z_wrongPlace])), (a_text, .inr (10, [.ref a_text_characters, .int (nI n_text_length)]))] sz) [(a_t, .inr (0, [.ref a_text, .ref a_fixities, .ref a_cutter, .ref a_blocks, .ref a_rows, .ref a_tokens, .ref a_counts, .int z_wrongPlace])), (a_text, .inr (10, [.ref a_text_characters, .int (nI w_n_text_length)]))]) (va_A [(a_t, .inr (0, [.ref a_text, .ref a_fixities, .ref a_cutter, .ref a_blocks, .ref a_rows, .ref a_tokens, .ref a_counts, .int z_wrongPlace])), (a_text, .inr (10, [.ref a_text_characters, .int (nI n_text_length)]))] sz)) 0 0 (va_A [(a_t, .inr (0, [.ref a_text, .ref a_fixities, .ref a_cutter, .ref a_blocks, .ref a_rows, .ref a_tokens, .ref a_counts, .int z_wrongPlace])), (a_text, .inr (10, [.ref a_text_characters, .int (nI n_text_length)]))] sz) := by
  refine Met.ofW (cc := b_LF_erase) (maxL := 2) (ret := (some .int)) (by decide) rfl ?_
  intro p e s m args below meth c s₁ B hml hv
  obtain ⟨rfl, hsz, hP, hK, hD0⟩ := hv
  have hx := B.exec
  have hb := B.bytes
  have hr := B.returns
  have hts := atoms_spec (ws := w_LF_erase) B.pre
  have hz : ∀ w ∈ wz, w.before _ s = true := fun w h => hts w (List.mem_cons_of_mem _ h)
  have hown : s.vm.findClass R_LF = some m.cls := findClass_of_methodNamed B.named
  have hlocks := B.notSynchronized
  subst hsz
  have hD := hD0.self (sz := s.heap.size)
  generalize hAe : va_A [(a_t, .inr (0, [.ref a_text, .ref a_fixities, .ref a_cutter, .ref a_blocks, .ref a_rows, .ref a_tokens, .ref a_counts, .int z_wrongPlace])), (a_text, .inr (10, [.ref a_text_characters, .int (nI n_text_length)]))] s.heap.size = A at hD ⊢
  have hA : ∀ q : Nat, s.heap.size ≤ q → A q := fun q h => by rw [← hAe]; exact Or.inr h
  have hS : va_S A s.heap s.heap [] := va_S.rf
  have hP : va_P (dC, dI) vcl [(a_t, .inr (0, [.ref a_text, .ref a_fixities, .ref a_cutter, .ref a_blocks, .ref a_rows, .ref a_tokens, .ref a_counts, .int z_wrongPlace])), (a_text, .inr (10, [.ref a_text_characters, .int (nI n_text_length)]))] s.heap := hP
  have hl := lv_entry ([.ref a_t]) (n := 2) (Nat.le_of_ble_eq_true rfl)
  rw [lg_entry_eq]
  generalize (lg_sl ([.ref a_t]) ++ List.replicate (2 - (lg_sl ([.ref a_t])).length) Slot.unset).toArray = ls at hl ⊢
  have hl : lv_has ls 2 [(0, .ref a_t)] := hl
  refine lv_aload_n hx hb d_LF_erase_0 rfl (lv_at hl 0 rfl) ?_
  refine va_get (D := (dC, dI)) (ci := 0) (v := .ref a_text) (C := R_LF) (T := F_LF) (N := 8) hx hb hz zu_LF hown hK hP 0 rfl rfl 0 (by decide) (hz (.fieldLink R_LF 12 "LayoutFront" "text" "LLayoutFront$Text;") zm_504) (fun _ h9 => h9) rfl d_LF_erase_1 ?_
  have hPc := hP.sub (ws' := [(a_text, .inr (10, [.ref a_text_characters, .int (nI n_text_length)]))]) [1] rfl
  have hDc := hD.sub (ws' := [(a_text, .inr (10, [.ref a_text_characters, .int (nI n_text_length)]))]) [1] (by decide) rfl
  have hKc := hK.sub (tys' := []) [] rfl
  have hFc := va_free (wc := [(a_text, .inr (10, [.ref a_text_characters, .int (nI n_text_length)]))]) hD hS hA [1] rfl
  refine va_calli (va_runV (As := []) (rest := []) ⟨hx, hb, hml, hown, hz⟩ (s_Text_length l dC dI s.heap.size a_text a_text_characters n_text_length (by first | rfl | omega)) (cwV 0 hz (zV zm_542 zm_86 zm_87 zm_7 zm_88) rfl rfl rfl (by decide +kernel) ⟨Nat.le_of_ble_eq_true rfl, Nat.le_of_ble_eq_true rfl⟩) ⟨fun a U g mk q => by obtain ⟨q0, q1, qP, qK, qD⟩ := q; exact ⟨q0, q1, qP, va_K.moved (u := U) (U := U.calling g mk a) (Vm.Alike.refl U.vm) qK, qD⟩, va_recv (q := (R_Text, F_Text, 2)) (q0 := 1) (ci := 10) hK hP rfl rfl, fun U hU hW => ⟨rfl, by rw [hU], by rw [hU]; exact hPc, va_K.moved hW.alike hKc, hDc.weaken (fun _ _ _ _ => trivial)⟩⟩ rfl rfl hl.1 rfl (lv_room (Nat.le_of_ble_eq_true rfl)) d_LF_erase_4 ⟨Nat.zero_le _, Nat.zero_le _⟩) hS (fun q _ h => hFc q h) hFc (fun r u t H1 locs ht hvm hw hB hz1 hk1 hS => ?_)
  obtain ⟨hP1, hK1, hD1⟩ := hB
  subst r
  rw [ht] at hP1
  obtain ⟨hP, hD⟩ := va_join (wr := [(a_t, .inr (0, [.ref a_text, .ref a_fixities, .ref a_cutter, .ref a_blocks, .ref a_rows, .ref a_tokens, .ref a_counts, .int z_wrongPlace]))]) (w1 := [(a_text, .inr (10, [.ref a_text_characters, .int (nI n_text_length)]))]) hP hD [1] [0] rfl rfl (by decide) (by decide) hk1 hFc hP1 hD1
  generalize H1 = H at hP hS ⊢
  have hP : va_P (dC, dI) vcl [(a_t, .inr (0, [.ref a_text, .ref a_fixities, .ref a_cutter, .ref a_blocks, .ref a_rows, .ref a_tokens, .ref a_counts, .int z_wrongPlace])), (a_text, .inr (10, [.ref a_text_characters, .int (nI n_text_length)]))] H := hP
  have hD : va_D A [(a_t, .inr (0, [.ref a_text, .ref a_fixities, .ref a_cutter, .ref a_blocks, .ref a_rows, .ref a_tokens, .ref a_counts, .int z_wrongPlace])), (a_text, .inr (10, [.ref a_text_characters, .int (nI n_text_length)]))] := hD
  refine lv_istore_n hx hb d_LF_erase_7 rfl hl (by decide) rfl (fun ls hl => ?_)
  have hl : lv_has ls 2 [(1, .int (nI n_text_length)), (0, .ref a_t)] := hl
  refine lv_aload_n hx hb d_LF_erase_8 rfl (lv_at hl 1 rfl) ?_
  refine va_get (D := (dC, dI)) (ci := 0) (v := .ref a_text) (C := R_LF) (T := F_LF) (N := 8) hx hb hz zu_LF hown hK hP 0 rfl rfl 0 (by decide) (hz (.fieldLink R_LF 12 "LayoutFront" "text" "LLayoutFront$Text;") zm_504) (fun _ h9 => h9) rfl d_LF_erase_9 ?_
  have hPc := hP.sub (ws' := [(a_text, .inr (10, [.ref a_text_characters, .int (nI n_text_length)]))]) [1] rfl
  have hDc := hD.sub (ws' := [(a_text, .inr (10, [.ref a_text_characters, .int (nI n_text_length)]))]) [1] (by decide) rfl
  have hKc := hK.sub (tys' := []) [] rfl
  have hFc := va_free (wc := [(a_text, .inr (10, [.ref a_text_characters, .int (nI n_text_length)]))]) hD hS hA [1] rfl
  refine va_callv (va_runV (As := []) (rest := []) ⟨hx, hb, hml, hown, hz⟩ (s_Text_clearX l dC dI H.size a_text a_text_characters n_text_length (by first | rfl | omega)) (cwV 0 hz (zV zm_549 zm_550 zm_551 zm_7 zm_552) rfl rfl rfl (by decide +kernel) ⟨Nat.le_of_ble_eq_true rfl, Nat.le_of_ble_eq_true rfl⟩) ⟨fun a U g mk q => by obtain ⟨q0, q1, qP, qK, qD⟩ := q; exact ⟨q0, q1, qP, va_K.moved (u := U) (U := U.calling g mk a) (Vm.Alike.refl U.vm) qK, qD⟩, va_recv (q := (R_Text, F_Text, 2)) (q0 := 1) (ci := 10) hK hP rfl rfl, fun U hU hW => ⟨rfl, by rw [hU], by rw [hU]; exact hPc, va_K.moved hW.alike hKc, hDc.weaken (fun _ _ _ _ => trivial)⟩⟩ rfl rfl hl.1 rfl (lv_room (Nat.le_of_ble_eq_true rfl)) d_LF_erase_12 ⟨Nat.zero_le _, Nat.zero_le _⟩) hS (fun q _ h => hFc q h) hFc (fun u t H1 locs ht hvm hw hB hz1 hk1 hS => ?_)
  obtain ⟨g1, hb_g1, hq0_12, hP1, hK1, hD1⟩ := hB
  subst g1
  rw [ht] at hP1
  obtain ⟨hP, hD⟩ := va_join (wr := [(a_t, .inr (0, [.ref a_text, .ref a_fixities, .ref a_cutter, .ref a_blocks, .ref a_rows, .ref a_tokens, .ref a_counts, .int z_wrongPlace]))]) (w1 := [(a_text, .inr (10, [.ref a_text_characters, .int (nI (0))]))]) hP hD [1] [0] rfl rfl (by decide) (by decide) hk1 hFc hP1 hD1
  generalize H1 = H at hP hS ⊢
  have hP : va_P (dC, dI) vcl [(a_t, .inr (0, [.ref a_text, .ref a_fixities, .ref a_cutter, .ref a_blocks, .ref a_rows, .ref a_tokens, .ref a_counts, .int z_wrongPlace])), (a_text, .inr (10, [.ref a_text_characters, .int (nI (0))]))] H := hP
  have hD : va_D A [(a_t, .inr (0, [.ref a_text, .ref a_fixities, .ref a_cutter, .ref a_blocks, .ref a_rows, .ref a_tokens, .ref a_counts, .int z_wrongPlace])), (a_text, .inr (10, [.ref a_text_characters, .int (nI (0))]))] := hD
  refine lv_iload_n hx hb d_LF_erase_15 rfl (lv_at hl 0 rfl) ?_
  have hP9 := hP.sub (ws' := [(a_t, .inr (0, [.ref a_text, .ref a_fixities, .ref a_cutter, .ref a_blocks, .ref a_rows, .ref a_tokens, .ref a_counts, .int z_wrongPlace])), (a_text, .inr (10, [.ref a_text_characters, .int (nI (0))]))]) [0, 1] rfl
  have hD9 := hD.sub (ws' := [(a_t, .inr (0, [.ref a_text, .ref a_fixities, .ref a_cutter, .ref a_blocks, .ref a_rows, .ref a_tokens, .ref a_counts, .int z_wrongPlace])), (a_text, .inr (10, [.ref a_text_characters, .int (nI (0))]))]) [0, 1] (by decide) rfl
  exact W.iret (v := (nI n_text_length)) hx hb hr (fun t ht hW => ⟨⟨(nI n_text_length), (), rfl, rfl, ((0)), by first | rfl | omega, by first | rfl | omega, by rw [ht]; exact hP9, va_K.moved hW.alike hK, hD9⟩, hS.F ht⟩) hS.2.2 d_LF_erase_16
set_option maxHeartbeats 4000000 in
set_option maxRecDepth 100000 in
theorem s_LF_placeX (l : Launch) (dC : Nat → ClassId) (dI : Nat → Nat → Nat) (sz : Nat) (a_t : Nat) (a_text : Nat) (a_fixities : Nat) (a_cutter : Nat) (a_blocks : Nat) (a_rows : Nat) (a_tokens : Nat) (a_counts : Nat) (z_wrongPlace : Int32) : Met l y_LF_place w_LF_place ({ frames := 0, cells := 0, slots := 0, locals := 0 }) (va_Pc [.ref a_t] (fun U => U.heap.size = sz ∧ va_P (dC, dI) vcl [(a_t, .inr (0, [.ref a_text, .ref a_fixities, .ref a_cutter, .ref a_blocks, .ref a_rows, .ref a_tokens, .ref a_counts, .int z_wrongPlace]))] U.heap ∧ va_K (dC, dI) vcl [] U ∧ va_D (fun _ => True) [(a_t, .inr (0, [.ref a_text, .ref a_fixities, .ref a_cutter, .ref a_blocks, .ref a_rows, .ref a_tokens, .ref a_counts, .int z_wrongPlace]))])) (va_Qi (fun (r : Int32) (_ : Unit) => r = z_wrongPlace) (fun _ t => va_P (dC, dI) vcl [(a_t, .inr (0, [.ref a_text, .ref a_fixities, .ref a_cutter, .ref a_blocks, .ref a_rows, .ref a_tokens, .ref a_counts, .int z_wrongPlace]))] t.heap ∧ va_K (dC, dI) vcl [] t ∧ va_D (va_A [(a_t, .inr (0, [.ref a_text, .ref a_fixities, .ref a_cutter, .ref a_blocks, .ref a_rows, .ref a_tokens, .ref a_counts, .int z_wrongPlace]))] sz) [(a_t, .inr (0, [.ref a_text, .ref a_fixities, .ref a_cutter, .ref a_blocks, .ref a_rows, .ref a_tokens, .ref a_counts, .int z_wrongPlace]))]) (va_A [(a_t, .inr (0, [.ref a_text, .ref a_fixities, .ref a_cutter, .ref a_blocks, .ref a_rows, .ref a_tokens, .ref a_counts, .int z_wrongPlace]))] sz)) 0 0 (va_A [(a_t, .inr (0, [.ref a_text, .ref a_fixities, .ref a_cutter, .ref a_blocks, .ref a_rows, .ref a_tokens, .ref a_counts, .int z_wrongPlace]))] sz) := by
  refine Met.ofW (cc := b_LF_place) (maxL := 1) (ret := (some .int)) (by decide) rfl ?_
  intro p e s m args below meth c s₁ B hml hv
  obtain ⟨rfl, hsz, hP, hK, hD0⟩ := hv
  have hx := B.exec
  have hb := B.bytes
  have hr := B.returns
  have hts := atoms_spec (ws := w_LF_place) B.pre
  have hz : ∀ w ∈ wz, w.before _ s = true := fun w h => hts w (List.mem_cons_of_mem _ h)
  have hown : s.vm.findClass R_LF = some m.cls := findClass_of_methodNamed B.named
  have hlocks := B.notSynchronized
  subst hsz
  have hD := hD0.self (sz := s.heap.size)
  generalize hAe : va_A [(a_t, .inr (0, [.ref a_text, .ref a_fixities, .ref a_cutter, .ref a_blocks, .ref a_rows, .ref a_tokens, .ref a_counts, .int z_wrongPlace]))] s.heap.size = A at hD ⊢
  have hA : ∀ q : Nat, s.heap.size ≤ q → A q := fun q h => by rw [← hAe]; exact Or.inr h
  have hS : va_S A s.heap s.heap [] := va_S.rf
  have hP : va_P (dC, dI) vcl [(a_t, .inr (0, [.ref a_text, .ref a_fixities, .ref a_cutter, .ref a_blocks, .ref a_rows, .ref a_tokens, .ref a_counts, .int z_wrongPlace]))] s.heap := hP
  have hl := lv_entry ([.ref a_t]) (n := 1) (Nat.le_of_ble_eq_true rfl)
  rw [lg_entry_eq]
  generalize (lg_sl ([.ref a_t]) ++ List.replicate (1 - (lg_sl ([.ref a_t])).length) Slot.unset).toArray = ls at hl ⊢
  have hl : lv_has ls 1 [(0, .ref a_t)] := hl
  refine lv_aload_n hx hb d_LF_place_0 rfl (lv_at hl 0 rfl) ?_
  refine va_get (D := (dC, dI)) (ci := 0) (v := .int z_wrongPlace) (C := R_LF) (T := F_LF) (N := 8) hx hb hz zu_LF hown hK hP 0 rfl rfl 7 (by decide) (hz (.fieldLink R_LF 57 "LayoutFront" "wrongPlace" "I") zm_529) (fun _ h9 => h9) rfl d_LF_place_1 ?_
  have hP9 := hP.sub (ws' := [(a_t, .inr (0, [.ref a_text, .ref a_fixities, .ref a_cutter, .ref a_blocks, .ref a_rows, .ref a_tokens, .ref a_counts, .int z_wrongPlace]))]) [0] rfl
  have hD9 := hD.sub (ws' := [(a_t, .inr (0, [.ref a_text, .ref a_fixities, .ref a_cutter, .ref a_blocks, .ref a_rows, .ref a_tokens, .ref a_counts, .int z_wrongPlace]))]) [0] (by decide) rfl
  exact W.iret (v := z_wrongPlace) hx hb hr (fun t ht hW => ⟨⟨z_wrongPlace, (), rfl, rfl, by rw [ht]; exact hP9, va_K.moved hW.alike hK, hD9⟩, hS.F ht⟩) hS.2.2 d_LF_place_4
set_option maxHeartbeats 4000000 in
set_option maxRecDepth 100000 in
theorem s_LF_writeX (l : Launch) (hnt : l.stackTraces = false) (dC : Nat → ClassId) (dI : Nat → Nat → Nat) (sz : Nat) (a_t : Nat) (a_text : Nat) (a_text_characters : Nat) (f_text_characters : Nat → Int32) (n_text_length : Nat) (a_fixities : Nat) (a_cutter : Nat) (a_blocks : Nat) (a_rows : Nat) (a_tokens : Nat) (a_counts : Nat) (z_wrongPlace : Int32) (y0 : Int64) (y1 : Int32) (ka_text_characters : ClassId) (c_text_characters : ∀ j, narrow .char (.int (f_text_characters j)) = .int (f_text_characters j)) (b_text_length : n_text_length ≤ 240) : ty_Met l y_LF_write w_LF_write ({ frames := 7, cells := 1, slots := 6, locals := 120 }) (va_Pc [.ref a_t, .long y0, .int y1] (fun U => U.heap.size = sz ∧ va_P (dC, dI) vcl [(a_t, .inr (0, [.ref a_text, .ref a_fixities, .ref a_cutter, .ref a_blocks, .ref a_rows, .ref a_tokens, .ref a_counts, .int z_wrongPlace])), (a_text, .inr (10, [.ref a_text_characters, .int (nI n_text_length)])), (a_text_characters, .inl (ka_text_characters, 240, .inl f_text_characters))] U.heap ∧ va_K (dC, dI) vcl [(ka_text_characters, .char)] U ∧ va_D (fun _ => True) [(a_t, .inr (0, [.ref a_text, .ref a_fixities, .ref a_cutter, .ref a_blocks, .ref a_rows, .ref a_tokens, .ref a_counts, .int z_wrongPlace])), (a_text, .inr (10, [.ref a_text_characters, .int (nI n_text_length)])), (a_text_characters, .inl (ka_text_characters, 240, .inl f_text_characters))] ∧ cx_E (va_A [(a_t, .inr (0, [.ref a_text, .ref a_fixities, .ref a_cutter, .ref a_blocks, .ref a_rows, .ref a_tokens, .ref a_counts, .int z_wrongPlace])), (a_text, .inr (10, [.ref a_text_characters, .int (nI n_text_length)])), (a_text_characters, .inl (ka_text_characters, 240, .inl f_text_characters))] sz) U U.heap)) (va_Qi (fun (r : Int32) (_ : Unit) => r = wR y0 y1 n_text_length) (fun _ t => ∃ (w_n_text_length : Nat) (w_f_text_characters : Nat → Int32), (w_n_text_length ≤ 240) ∧ (∀ j, narrow .char (.int (w_f_text_characters j)) = .int (w_f_text_characters j)) ∧ (w_n_text_length = wL y0 y1 n_text_length) ∧ (∀ j, j < wL y0 y1 n_text_length → w_f_text_characters j = if j < n_text_length then f_text_characters j else nI (by_ y0 (j - n_text_length))) ∧ va_P (dC, dI) vcl [(a_t, .inr (0, [.ref a_text, .ref a_fixities, .ref a_cutter, .ref a_blocks, .ref a_rows, .ref a_tokens, .ref a_counts, .int z_wrongPlace])), (a_text, .inr (10, [.ref a_text_characters, .int (nI w_n_text_length)])), (a_text_characters, .inl (ka_text_characters, 240, .inl w_f_text_characters))] t.heap ∧ va_K (dC, dI) vcl [(ka_text_characters, .char)] t ∧ va_D (va_A [(a_t, .inr (0, [.ref a_text, .ref a_fixities, .ref a_cutter, .ref a_blocks, .ref a_rows, .ref a_tokens, .ref a_counts, .int z_wrongPlace])), (a_text, .inr (10, [.ref a_text_characters, .int (nI n_text_length)])), (a_text_characters, .inl (ka_text_characters, 240, .inl f_text_characters))] sz) [(a_t, .inr (0, [.ref a_text, .ref a_fixities, .ref a_cutter, .ref a_blocks, .ref a_rows, .ref a_tokens, .ref a_counts, .int z_wrongPlace])), (a_text, .inr (10, [.ref a_text_characters, .int (nI w_n_text_length)])), (a_text_characters, .inl (ka_text_characters, 240, .inl w_f_text_characters))]) (va_A [(a_t, .inr (0, [.ref a_text, .ref a_fixities, .ref a_cutter, .ref a_blocks, .ref a_rows, .ref a_tokens, .ref a_counts, .int z_wrongPlace])), (a_text, .inr (10, [.ref a_text_characters, .int (nI n_text_length)])), (a_text_characters, .inl (ka_text_characters, 240, .inl f_text_characters))] sz)) [xIAE, xISE] (fun t => ∃ (w_n_text_length : Nat) (w_f_text_characters : Nat → Int32), (w_n_text_length ≤ 240) ∧ (∀ j, narrow .char (.int (w_f_text_characters j)) = .int (w_f_text_characters j)) ∧ (w_n_text_length = wL y0 y1 n_text_length) ∧ (∀ j, j < wL y0 y1 n_text_length → w_f_text_characters j = if j < n_text_length then f_text_characters j else nI (by_ y0 (j - n_text_length))) ∧ va_P (dC, dI) vcl [(a_t, .inr (0, [.ref a_text, .ref a_fixities, .ref a_cutter, .ref a_blocks, .ref a_rows, .ref a_tokens, .ref a_counts, .int z_wrongPlace])), (a_text, .inr (10, [.ref a_text_characters, .int (nI w_n_text_length)])), (a_text_characters, .inl (ka_text_characters, 240, .inl w_f_text_characters))] t.heap ∧ va_K (dC, dI) vcl [(ka_text_characters, .char)] t ∧ va_D (va_A [(a_t, .inr (0, [.ref a_text, .ref a_fixities, .ref a_cutter, .ref a_blocks, .ref a_rows, .ref a_tokens, .ref a_counts, .int z_wrongPlace])), (a_text, .inr (10, [.ref a_text_characters, .int (nI n_text_length)])), (a_text_characters, .inl (ka_text_characters, 240, .inl f_text_characters))] sz) [(a_t, .inr (0, [.ref a_text, .ref a_fixities, .ref a_cutter, .ref a_blocks, .ref a_rows, .ref a_tokens, .ref a_counts, .int z_wrongPlace])), (a_text, .inr (10, [.ref a_text_characters, .int (nI w_n_text_length)])), (a_text_characters, .inl (ka_text_characters, 240, .inl w_f_text_characters))]) (va_A [(a_t, .inr (0, [.ref a_text, .ref a_fixities, .ref a_cutter, .ref a_blocks, .ref a_rows, .ref a_tokens, .ref a_counts, .int z_wrongPlace])), (a_text, .inr (10, [.ref a_text_characters, .int (nI n_text_length)])), (a_text_characters, .inl (ka_text_characters, 240, .inl f_text_characters))] sz) 1 6 := by
  refine ty_ofW (cc := b_LF_write) (maxL := 4) (ret := (some .int)) (by decide) rfl ?_
  intro p e s m args below meth c s₁ B hml hv
  obtain ⟨rfl, hsz, hP, hK, hD0, hE⟩ := hv
  have hx := B.exec
  have hb := B.bytes
  have hr := B.returns
  have hts := atoms_spec (ws := w_LF_write) B.pre
  have hz : ∀ w ∈ wz, w.before _ s = true := fun w h => hts w (List.mem_cons_of_mem _ h)
  have hown : s.vm.findClass R_LF = some m.cls := findClass_of_methodNamed B.named
  have hlocks := B.notSynchronized
  subst hsz
  have hD := hD0.self (sz := s.heap.size)
  generalize hAe : va_A [(a_t, .inr (0, [.ref a_text, .ref a_fixities, .ref a_cutter, .ref a_blocks, .ref a_rows, .ref a_tokens, .ref a_counts, .int z_wrongPlace])), (a_text, .inr (10, [.ref a_text_characters, .int (nI n_text_length)])), (a_text_characters, .inl (ka_text_characters, 240, .inl f_text_characters))] s.heap.size = A at hD hE ⊢
  have hA : ∀ q : Nat, s.heap.size ≤ q → A q := fun q h => by rw [← hAe]; exact Or.inr h
  have hS : va_S A s.heap s.heap [] := va_S.rf
  have hP : va_P (dC, dI) vcl [(a_t, .inr (0, [.ref a_text, .ref a_fixities, .ref a_cutter, .ref a_blocks, .ref a_rows, .ref a_tokens, .ref a_counts, .int z_wrongPlace])), (a_text, .inr (10, [.ref a_text_characters, .int (nI n_text_length)])), (a_text_characters, .inl (ka_text_characters, 240, .inl f_text_characters))] s.heap := hP
  have hl := lv_entry ([.ref a_t, .long y0, .int y1]) (n := 4) (Nat.le_of_ble_eq_true rfl)
  rw [lg_entry_eq]
  generalize (lg_sl ([.ref a_t, .long y0, .int y1]) ++ List.replicate (4 - (lg_sl ([.ref a_t, .long y0, .int y1])).length) Slot.unset).toArray = ls at hl ⊢
  have hl : lv_has ls 4 [(0, .ref a_t), (1, .long y0), (3, .int y1)] := hl
  refine lv_iload_n hx hb d_LF_write_0 rfl (lv_at hl 2 rfl) ?_
  refine lv_iconst (v := 1) hx hb d_LF_write_1 (by decide) ?_
  refine lv_icmp_lt (tgt := 19) hx hb d_LF_write_2 (by decide) (fun h1 => ?_) (fun h1 => ?_)
  · have pA := h1
    have hP9 := hP.sub (ws' := [(a_t, .inr (0, [.ref a_text, .ref a_fixities, .ref a_cutter, .ref a_blocks, .ref a_rows, .ref a_tokens, .ref a_counts, .int z_wrongPlace])), (a_text, .inr (10, [.ref a_text_characters, .int (nI n_text_length)])), (a_text_characters, .inl (ka_text_characters, 240, .inl f_text_characters))]) [0, 1, 2] rfl
    have hD9 := hD.sub (ws' := [(a_t, .inr (0, [.ref a_text, .ref a_fixities, .ref a_cutter, .ref a_blocks, .ref a_rows, .ref a_tokens, .ref a_counts, .int z_wrongPlace])), (a_text, .inr (10, [.ref a_text_characters, .int (nI n_text_length)])), (a_text_characters, .inl (ka_text_characters, 240, .inl f_text_characters))]) [0, 1, 2] (by decide) rfl
    obtain ⟨qs, hqs⟩ := hE.msg _ (List.mem_of_getElem? (l := tx_str) (i := 0) rfl)
    exact ty_throw hx hb hnt hlocks (hl.1.trans hml.symm) hown (by decide +kernel) (by decide +kernel) (fun U hv hh => cx_xIAE (cx_hz hz hv) (hE.at hS hv hh)) (fun U hv => word_at (cx_warm hv) (zgood _ zm_543).2 (hz _ zm_543)) (fun U hv => word_at (cx_warm hv) (zgood _ zm_544).2 (hz _ zm_544)) (fun U hv => word_at (cx_warm hv) (zgood _ zm_545).2 (hz _ zm_545)) hqs d_LF_write_19 d_LF_write_22 d_LF_write_23 d_LF_write_25 d_LF_write_28 (covers_of_empty (B.noHandlers (hts _ List.mem_cons_self)) _) (Nat.le_of_ble_eq_true rfl) (Nat.le_of_ble_eq_true rfl) (Nat.le_of_ble_eq_true rfl) (Nat.le_of_ble_eq_true rfl) hS (Nat.le_refl _) (Nat.le_refl _) (by simp) (fun t ha h8 h9 => ⟨n_text_length, f_text_characters, by first | omega | assumption, by first | omega | assumption, by exact wL_no (wC_1 (wi_lo pA)) (by decide), by exact wt_no (wL_no (wC_1 (wi_lo pA)) (by decide)), cx_grown hP9 h9, va_K.moved ha hK, hD9⟩)
  · have pA := h1
    refine lv_iload_n hx hb d_LF_write_5 rfl (lv_at hl 2 rfl) ?_
    refine lv_bipush (v := 8) hx hb d_LF_write_6 (by decide) ?_
    refine lv_icmp_gt (tgt := 19) hx hb d_LF_write_8 (by decide) (fun h2 => ?_) (fun h2 => ?_)
    · have pH := h2
      have hP9 := hP.sub (ws' := [(a_t, .inr (0, [.ref a_text, .ref a_fixities, .ref a_cutter, .ref a_blocks, .ref a_rows, .ref a_tokens, .ref a_counts, .int z_wrongPlace])), (a_text, .inr (10, [.ref a_text_characters, .int (nI n_text_length)])), (a_text_characters, .inl (ka_text_characters, 240, .inl f_text_characters))]) [0, 1, 2] rfl
      have hD9 := hD.sub (ws' := [(a_t, .inr (0, [.ref a_text, .ref a_fixities, .ref a_cutter, .ref a_blocks, .ref a_rows, .ref a_tokens, .ref a_counts, .int z_wrongPlace])), (a_text, .inr (10, [.ref a_text_characters, .int (nI n_text_length)])), (a_text_characters, .inl (ka_text_characters, 240, .inl f_text_characters))]) [0, 1, 2] (by decide) rfl
      obtain ⟨qs, hqs⟩ := hE.msg _ (List.mem_of_getElem? (l := tx_str) (i := 0) rfl)
      exact ty_throw hx hb hnt hlocks (hl.1.trans hml.symm) hown (by decide +kernel) (by decide +kernel) (fun U hv hh => cx_xIAE (cx_hz hz hv) (hE.at hS hv hh)) (fun U hv => word_at (cx_warm hv) (zgood _ zm_543).2 (hz _ zm_543)) (fun U hv => word_at (cx_warm hv) (zgood _ zm_544).2 (hz _ zm_544)) (fun U hv => word_at (cx_warm hv) (zgood _ zm_545).2 (hz _ zm_545)) hqs d_LF_write_19 d_LF_write_22 d_LF_write_23 d_LF_write_25 d_LF_write_28 (covers_of_empty (B.noHandlers (hts _ List.mem_cons_self)) _) (Nat.le_of_ble_eq_true rfl) (Nat.le_of_ble_eq_true rfl) (Nat.le_of_ble_eq_true rfl) (Nat.le_of_ble_eq_true rfl) hS (Nat.le_refl _) (Nat.le_refl _) (by simp) (fun t ha h8 h9 => ⟨n_text_length, f_text_characters, by first | omega | assumption, by first | omega | assumption, by exact wL_no (wC_1 (wi_hi pH)) (by decide), by exact wt_no (wL_no (wC_1 (wi_hi pH)) (by decide)), cx_grown hP9 h9, va_K.moved ha hK, hD9⟩)
    · obtain ⟨N, hN1, hN8, eN⟩ := ge_nat (Int32.not_lt.mp pA) (Int32.not_lt.mp h2)
      subst eN
      have hl : lv_has ls 4 [(0, .ref a_t), (1, .long y0), (3, .int (nI N))] := hl
      refine lv_lload_n hx hb d_LF_write_11 rfl (lv_at hl 1 rfl) ?_
      refine lv_iload_n hx hb d_LF_write_12 rfl (lv_at hl 2 rfl) ?_
      have hPc := hP.sub (ws' := []) [] rfl
      have hDc := hD.sub (ws' := []) [] (by decide) rfl
      have hKc := hK.sub (tys' := []) [] rfl
      have hFc := va_free (wc := []) hD hS hA [] rfl
      refine va_calli (va_runS (As := [.long y0, .int (nI N)]) (rest := []) ⟨hx, hb, hml, hown, hz⟩ (s_Text_areCharactersX l dC dI s.heap.size y0 N (by first | omega | assumption)) (va_cwS 2 hz (zT zm_531 zm_532 zm_7 zm_533) rfl rfl rfl (by decide +kernel) ⟨Nat.le_of_ble_eq_true rfl, Nat.le_of_ble_eq_true rfl⟩) ⟨fun a U g mk q => by obtain ⟨q0, q1, qP, qK, qD⟩ := q; exact ⟨q0, q1, qP, va_K.moved (u := U) (U := U.calling g mk a) (Vm.Alike.refl U.vm) qK, qD⟩, fun U hU hW => ⟨rfl, by rw [hU], by rw [hU]; exact hPc, va_K.moved hW.alike hKc, hDc.weaken (fun _ _ _ _ => trivial)⟩⟩ rfl rfl hl.1 rfl (lv_room (Nat.le_of_ble_eq_true rfl)) d_LF_write_13 ⟨Nat.zero_le _, Nat.zero_le _⟩) hS (fun q _ h => hFc q h) hFc (fun r u t H1 locs ht hvm hw_r hB hz1 hk1 hS => ?_)
      obtain ⟨hP1, hK1, hD1⟩ := hB
      obtain ⟨hb_r, he_r⟩ := hw_r
      subst r
      rw [ht] at hP1
      obtain ⟨hP, hD⟩ := va_join (wr := [(a_t, .inr (0, [.ref a_text, .ref a_fixities, .ref a_cutter, .ref a_blocks, .ref a_rows, .ref a_tokens, .ref a_counts, .int z_wrongPlace])), (a_text, .inr (10, [.ref a_text_characters, .int (nI n_text_length)])), (a_text_characters, .inl (ka_text_characters, 240, .inl f_text_characters))]) (w1 := []) hP hD [] [0, 1, 2] rfl rfl (by decide) (by decide) hk1 hFc hP1 hD1
      generalize H1 = H at hP hS ⊢
      have hP : va_P (dC, dI) vcl [(a_t, .inr (0, [.ref a_text, .ref a_fixities, .ref a_cutter, .ref a_blocks, .ref a_rows, .ref a_tokens, .ref a_counts, .int z_wrongPlace])), (a_text, .inr (10, [.ref a_text_characters, .int (nI n_text_length)])), (a_text_characters, .inl (ka_text_characters, 240, .inl f_text_characters))] H := hP
      have hD : va_D A [(a_t, .inr (0, [.ref a_text, .ref a_fixities, .ref a_cutter, .ref a_blocks, .ref a_rows, .ref a_tokens, .ref a_counts, .int z_wrongPlace])), (a_text, .inr (10, [.ref a_text_characters, .int (nI n_text_length)])), (a_text_characters, .inl (ka_text_characters, 240, .inl f_text_characters))] := hD
      refine lv_if_ne (tgt := 29) hx hb d_LF_write_16 (by decide) (fun h3 => ?_) (fun h3 => ?_)
      · have pg := b01_yes h3
        refine lv_aload_n hx hb d_LF_write_29 rfl (lv_at hl 0 rfl) ?_
        refine va_get (D := (dC, dI)) (ci := 0) (v := .ref a_text) (C := R_LF) (T := F_LF) (N := 8) hx hb hz zu_LF hown hK hP 0 rfl rfl 0 (by decide) (hz (.fieldLink R_LF 12 "LayoutFront" "text" "LLayoutFront$Text;") zm_504) (fun _ h9 => h9) rfl d_LF_write_30 ?_
        refine lv_iload_n hx hb d_LF_write_33 rfl (lv_at hl 2 rfl) ?_
        have hPc := hP.sub (ws' := [(a_text, .inr (10, [.ref a_text_characters, .int (nI n_text_length)]))]) [1] rfl
        have hDc := hD.sub (ws' := [(a_text, .inr (10, [.ref a_text_characters, .int (nI n_text_length)]))]) [1] (by decide) rfl
        have hKc := hK.sub (tys' := []) [] rfl
        have hFc := va_free (wc := [(a_text, .inr (10, [.ref a_text_characters, .int (nI n_text_length)]))]) hD hS hA [1] rfl
        refine va_calli (va_runV (As := [.int (nI N)]) (rest := []) ⟨hx, hb, hml, hown, hz⟩ (s_Text_hasRoomForX l dC dI H.size a_text a_text_characters n_text_length N (by first | omega | assumption) (by first | omega | assumption)) (cwV 1 hz (zV zm_534 zm_535 zm_536 zm_7 zm_537) rfl rfl rfl (by decide +kernel) ⟨Nat.le_of_ble_eq_true rfl, Nat.le_of_ble_eq_true rfl⟩) ⟨fun a U g mk q => by obtain ⟨q0, q1, qP, qK, qD⟩ := q; exact ⟨q0, q1, qP, va_K.moved (u := U) (U := U.calling g mk a) (Vm.Alike.refl U.vm) qK, qD⟩, va_recv (q := (R_Text, F_Text, 2)) (q0 := 1) (ci := 10) hK hP rfl rfl, fun U hU hW => ⟨rfl, by rw [hU], by rw [hU]; exact hPc, va_K.moved hW.alike hKc, hDc.weaken (fun _ _ _ _ => trivial)⟩⟩ rfl rfl hl.1 rfl (lv_room (Nat.le_of_ble_eq_true rfl)) d_LF_write_34 ⟨Nat.zero_le _, Nat.zero_le _⟩) hS (fun q _ h => hFc q h) hFc (fun r u t H1 locs ht hvm hw_r hB hz1 hk1 hS => ?_)
        obtain ⟨hP1, hK1, hD1⟩ := hB
        obtain ⟨hb_r, he_r⟩ := hw_r
        subst r
        rw [ht] at hP1
        obtain ⟨hP, hD⟩ := va_join (wr := [(a_t, .inr (0, [.ref a_text, .ref a_fixities, .ref a_cutter, .ref a_blocks, .ref a_rows, .ref a_tokens, .ref a_counts, .int z_wrongPlace])), (a_text_characters, .inl (ka_text_characters, 240, .inl f_text_characters))]) (w1 := [(a_text, .inr (10, [.ref a_text_characters, .int (nI n_text_length)]))]) hP hD [1] [0, 2] rfl rfl (by decide) (by decide) hk1 hFc hP1 hD1
        generalize H1 = H at hP hS ⊢
        have hP : va_P (dC, dI) vcl [(a_t, .inr (0, [.ref a_text, .ref a_fixities, .ref a_cutter, .ref a_blocks, .ref a_rows, .ref a_tokens, .ref a_counts, .int z_wrongPlace])), (a_text_characters, .inl (ka_text_characters, 240, .inl f_text_characters)), (a_text, .inr (10, [.ref a_text_characters, .int (nI n_text_length)]))] H := hP
        have hD : va_D A [(a_t, .inr (0, [.ref a_text, .ref a_fixities, .ref a_cutter, .ref a_blocks, .ref a_rows, .ref a_tokens, .ref a_counts, .int z_wrongPlace])), (a_text_characters, .inl (ka_text_characters, 240, .inl f_text_characters)), (a_text, .inr (10, [.ref a_text_characters, .int (nI n_text_length)]))] := hD
        refine lv_if_ne (tgt := 50) hx hb d_LF_write_37 (by decide) (fun h4 => ?_) (fun h4 => ?_)
        · have pl := of_decide_eq_true (b01_yes h4)
          refine lv_aload_n hx hb d_LF_write_50 rfl (lv_at hl 0 rfl) ?_
          refine va_get (D := (dC, dI)) (ci := 0) (v := .ref a_text) (C := R_LF) (T := F_LF) (N := 8) hx hb hz zu_LF hown hK hP 0 rfl rfl 0 (by decide) (hz (.fieldLink R_LF 12 "LayoutFront" "text" "LLayoutFront$Text;") zm_504) (fun _ h9 => h9) rfl d_LF_write_51 ?_
          refine lv_lload_n hx hb d_LF_write_54 rfl (lv_at hl 1 rfl) ?_
          refine lv_iload_n hx hb d_LF_write_55 rfl (lv_at hl 2 rfl) ?_
          have hPc := hP.sub (ws' := [(a_text, .inr (10, [.ref a_text_characters, .int (nI n_text_length)])), (a_text_characters, .inl (ka_text_characters, 240, .inl f_text_characters))]) [2, 1] rfl
          have hDc := hD.sub (ws' := [(a_text, .inr (10, [.ref a_text_characters, .int (nI n_text_length)])), (a_text_characters, .inl (ka_text_characters, 240, .inl f_text_characters))]) [2, 1] (by decide) rfl
          have hKc := hK.sub (tys' := [(ka_text_characters, .char)]) [0] rfl
          have hFc := va_free (wc := [(a_text, .inr (10, [.ref a_text_characters, .int (nI n_text_length)])), (a_text_characters, .inl (ka_text_characters, 240, .inl f_text_characters))]) hD hS hA [2, 1] rfl
          refine va_callv (va_runV (As := [.long y0, .int (nI N)]) (rest := []) ⟨hx, hb, hml, hown, hz⟩ (s_Text_appendX l dC dI H.size a_text a_text_characters f_text_characters n_text_length y0 N ka_text_characters (by first | omega | assumption) (by first | omega | assumption) (by first | omega | assumption) (by first | omega | assumption)) (cwV 2 hz (zV zm_538 zm_539 zm_540 zm_7 zm_541) rfl rfl rfl (by decide +kernel) ⟨Nat.le_of_ble_eq_true rfl, Nat.le_of_ble_eq_true rfl⟩) ⟨fun a U g mk q => by obtain ⟨q0, q1, qP, qK, qD⟩ := q; exact ⟨q0, q1, qP, va_K.moved (u := U) (U := U.calling g mk a) (Vm.Alike.refl U.vm) qK, qD⟩, va_recv (q := (R_Text, F_Text, 2)) (q0 := 2) (ci := 10) hK hP rfl rfl, fun U hU hW => ⟨rfl, by rw [hU], by rw [hU]; exact hPc, va_K.moved hW.alike hKc, hDc.weaken (fun _ _ _ _ => trivial)⟩⟩ rfl rfl hl.1 rfl (lv_room (Nat.le_of_ble_eq_true rfl)) d_LF_write_56 ⟨Nat.zero_le _, Nat.zero_le _⟩) hS (fun q _ h => hFc q h) hFc (fun u t H1 locs ht hvm hw hB hz1 hk1 hS => ?_)
          obtain ⟨g5, g6, hb_g5, hb_g6, hq0_56, hq1_56, hP1, hK1, hD1⟩ := hB
          subst g5
          rw [ht] at hP1
          obtain ⟨hP, hD⟩ := va_join (wr := [(a_t, .inr (0, [.ref a_text, .ref a_fixities, .ref a_cutter, .ref a_blocks, .ref a_rows, .ref a_tokens, .ref a_counts, .int z_wrongPlace]))]) (w1 := [(a_text, .inr (10, [.ref a_text_characters, .int (nI (n_text_length + N))])), (a_text_characters, .inl (ka_text_characters, 240, .inl g6))]) hP hD [2, 1] [0] rfl rfl (by decide) (by decide) hk1 hFc hP1 hD1
          generalize H1 = H at hP hS ⊢
          have hP : va_P (dC, dI) vcl [(a_t, .inr (0, [.ref a_text, .ref a_fixities, .ref a_cutter, .ref a_blocks, .ref a_rows, .ref a_tokens, .ref a_counts, .int z_wrongPlace])), (a_text, .inr (10, [.ref a_text_characters, .int (nI (n_text_length + N))])), (a_text_characters, .inl (ka_text_characters, 240, .inl g6))] H := hP
          have hD : va_D A [(a_t, .inr (0, [.ref a_text, .ref a_fixities, .ref a_cutter, .ref a_blocks, .ref a_rows, .ref a_tokens, .ref a_counts, .int z_wrongPlace])), (a_text, .inr (10, [.ref a_text_characters, .int (nI (n_text_length + N))])), (a_text_characters, .inl (ka_text_characters, 240, .inl g6))] := hD
          refine lv_aload_n hx hb d_LF_write_59 rfl (lv_at hl 0 rfl) ?_
          refine va_get (D := (dC, dI)) (ci := 0) (v := .ref a_text) (C := R_LF) (T := F_LF) (N := 8) hx hb hz zu_LF hown hK hP 0 rfl rfl 0 (by decide) (hz (.fieldLink R_LF 12 "LayoutFront" "text" "LLayoutFront$Text;") zm_504) (fun _ h9 => h9) rfl d_LF_write_60 ?_
          have hPc := hP.sub (ws' := [(a_text, .inr (10, [.ref a_text_characters, .int (nI (n_text_length + N))]))]) [1] rfl
          have hDc := hD.sub (ws' := [(a_text, .inr (10, [.ref a_text_characters, .int (nI (n_text_length + N))]))]) [1] (by decide) rfl
          have hKc := hK.sub (tys' := []) [] rfl
          have hFc := va_free (wc := [(a_text, .inr (10, [.ref a_text_characters, .int (nI (n_text_length + N))]))]) hD hS hA [1] rfl
          refine va_calli (va_runV (As := []) (rest := []) ⟨hx, hb, hml, hown, hz⟩ (s_Text_length l dC dI H.size a_text a_text_characters ((n_text_length + N)) (by first | omega | assumption)) (cwV 0 hz (zV zm_542 zm_86 zm_87 zm_7 zm_88) rfl rfl rfl (by decide +kernel) ⟨Nat.le_of_ble_eq_true rfl, Nat.le_of_ble_eq_true rfl⟩) ⟨fun a U g mk q => by obtain ⟨q0, q1, qP, qK, qD⟩ := q; exact ⟨q0, q1, qP, va_K.moved (u := U) (U := U.calling g mk a) (Vm.Alike.refl U.vm) qK, qD⟩, va_recv (q := (R_Text, F_Text, 2)) (q0 := 1) (ci := 10) hK hP rfl rfl, fun U hU hW => ⟨rfl, by rw [hU], by rw [hU]; exact hPc, va_K.moved hW.alike hKc, hDc.weaken (fun _ _ _ _ => trivial)⟩⟩ rfl rfl hl.1 rfl (lv_room (Nat.le_of_ble_eq_true rfl)) d_LF_write_63 ⟨Nat.zero_le _, Nat.zero_le _⟩) hS (fun q _ h => hFc q h) hFc (fun r u t H1 locs ht hvm hw hB hz1 hk1 hS => ?_)
          obtain ⟨hP1, hK1, hD1⟩ := hB
          subst r
          rw [ht] at hP1
          obtain ⟨hP, hD⟩ := va_join (wr := [(a_t, .inr (0, [.ref a_text, .ref a_fixities, .ref a_cutter, .ref a_blocks, .ref a_rows, .ref a_tokens, .ref a_counts, .int z_wrongPlace])), (a_text_characters, .inl (ka_text_characters, 240, .inl g6))]) (w1 := [(a_text, .inr (10, [.ref a_text_characters, .int (nI (n_text_length + N))]))]) hP hD [1] [0, 2] rfl rfl (by decide) (by decide) hk1 hFc hP1 hD1
          generalize H1 = H at hP hS ⊢
          have hP : va_P (dC, dI) vcl [(a_t, .inr (0, [.ref a_text, .ref a_fixities, .ref a_cutter, .ref a_blocks, .ref a_rows, .ref a_tokens, .ref a_counts, .int z_wrongPlace])), (a_text_characters, .inl (ka_text_characters, 240, .inl g6)), (a_text, .inr (10, [.ref a_text_characters, .int (nI (n_text_length + N))]))] H := hP
          have hD : va_D A [(a_t, .inr (0, [.ref a_text, .ref a_fixities, .ref a_cutter, .ref a_blocks, .ref a_rows, .ref a_tokens, .ref a_counts, .int z_wrongPlace])), (a_text_characters, .inl (ka_text_characters, 240, .inl g6)), (a_text, .inr (10, [.ref a_text_characters, .int (nI (n_text_length + N))]))] := hD
          have hP9 := hP.sub (ws' := [(a_t, .inr (0, [.ref a_text, .ref a_fixities, .ref a_cutter, .ref a_blocks, .ref a_rows, .ref a_tokens, .ref a_counts, .int z_wrongPlace])), (a_text, .inr (10, [.ref a_text_characters, .int (nI (n_text_length + N))])), (a_text_characters, .inl (ka_text_characters, 240, .inl g6))]) [0, 2, 1] rfl
          have hD9 := hD.sub (ws' := [(a_t, .inr (0, [.ref a_text, .ref a_fixities, .ref a_cutter, .ref a_blocks, .ref a_rows, .ref a_tokens, .ref a_counts, .int z_wrongPlace])), (a_text, .inr (10, [.ref a_text_characters, .int (nI (n_text_length + N))])), (a_text_characters, .inl (ka_text_characters, 240, .inl g6))]) [0, 2, 1] (by decide) rfl
          refine ty_ret (Nat.zero_le _) (Nat.zero_le _) ?_
          exact W.iret (v := (nI (n_text_length + N))) hx hb hr (fun t ht hW => ⟨⟨(nI (n_text_length + N)), (), rfl, (by exact wR_yes hN8 (wC_0 hN1 hN8 pg pl)), ((n_text_length + N)), g6, by first | omega | assumption, by first | omega | assumption, by exact wL_yes hN8 (wC_0 hN1 hN8 pg pl), by exact wt_yes (wL_yes hN8 (wC_0 hN1 hN8 pg pl)) hq1_56, by rw [ht]; exact hP9, va_K.moved hW.alike hK, hD9⟩, hS.F ht⟩) hS.2.2 d_LF_write_66
        · have pl := of_decide_eq_false (b01_no h4)
          have hP9 := hP.sub (ws' := [(a_t, .inr (0, [.ref a_text, .ref a_fixities, .ref a_cutter, .ref a_blocks, .ref a_rows, .ref a_tokens, .ref a_counts, .int z_wrongPlace])), (a_text, .inr (10, [.ref a_text_characters, .int (nI n_text_length)])), (a_text_characters, .inl (ka_text_characters, 240, .inl f_text_characters))]) [0, 2, 1] rfl
          have hD9 := hD.sub (ws' := [(a_t, .inr (0, [.ref a_text, .ref a_fixities, .ref a_cutter, .ref a_blocks, .ref a_rows, .ref a_tokens, .ref a_counts, .int z_wrongPlace])), (a_text, .inr (10, [.ref a_text_characters, .int (nI n_text_length)])), (a_text_characters, .inl (ka_text_characters, 240, .inl f_text_characters))]) [0, 2, 1] (by decide) rfl
          obtain ⟨qs, hqs⟩ := hE.msg _ (List.mem_of_getElem? (l := tx_str) (i := 1) rfl)
          exact ty_throw hx hb hnt hlocks (hl.1.trans hml.symm) hown (by decide +kernel) (by decide +kernel) (fun U hv hh => cx_xISE (cx_hz hz hv) (hE.at hS hv hh)) (fun U hv => word_at (cx_warm hv) (zgood _ zm_546).2 (hz _ zm_546)) (fun U hv => word_at (cx_warm hv) (zgood _ zm_547).2 (hz _ zm_547)) (fun U hv => word_at (cx_warm hv) (zgood _ zm_548).2 (hz _ zm_548)) hqs d_LF_write_40 d_LF_write_43 d_LF_write_44 d_LF_write_46 d_LF_write_49 (covers_of_empty (B.noHandlers (hts _ List.mem_cons_self)) _) (Nat.le_of_ble_eq_true rfl) (Nat.le_of_ble_eq_true rfl) (Nat.le_of_ble_eq_true rfl) (Nat.le_of_ble_eq_true rfl) hS (Nat.le_refl _) (Nat.le_refl _) (by simp) (fun t ha h8 h9 => ⟨n_text_length, f_text_characters, by first | omega | assumption, by first | omega | assumption, by exact wL_no (wC_3 hN1 hN8 pg pl) (by decide), by exact wt_no (wL_no (wC_3 hN1 hN8 pg pl) (by decide)), cx_grown hP9 h9, va_K.moved ha hK, hD9⟩)
      · have pg := b01_no h3
        have hP9 := hP.sub (ws' := [(a_t, .inr (0, [.ref a_text, .ref a_fixities, .ref a_cutter, .ref a_blocks, .ref a_rows, .ref a_tokens, .ref a_counts, .int z_wrongPlace])), (a_text, .inr (10, [.ref a_text_characters, .int (nI n_text_length)])), (a_text_characters, .inl (ka_text_characters, 240, .inl f_text_characters))]) [0, 1, 2] rfl
        have hD9 := hD.sub (ws' := [(a_t, .inr (0, [.ref a_text, .ref a_fixities, .ref a_cutter, .ref a_blocks, .ref a_rows, .ref a_tokens, .ref a_counts, .int z_wrongPlace])), (a_text, .inr (10, [.ref a_text_characters, .int (nI n_text_length)])), (a_text_characters, .inl (ka_text_characters, 240, .inl f_text_characters))]) [0, 1, 2] (by decide) rfl
        obtain ⟨qs, hqs⟩ := hE.msg _ (List.mem_of_getElem? (l := tx_str) (i := 0) rfl)
        exact ty_throw hx hb hnt hlocks (hl.1.trans hml.symm) hown (by decide +kernel) (by decide +kernel) (fun U hv hh => cx_xIAE (cx_hz hz hv) (hE.at hS hv hh)) (fun U hv => word_at (cx_warm hv) (zgood _ zm_543).2 (hz _ zm_543)) (fun U hv => word_at (cx_warm hv) (zgood _ zm_544).2 (hz _ zm_544)) (fun U hv => word_at (cx_warm hv) (zgood _ zm_545).2 (hz _ zm_545)) hqs d_LF_write_19 d_LF_write_22 d_LF_write_23 d_LF_write_25 d_LF_write_28 (covers_of_empty (B.noHandlers (hts _ List.mem_cons_self)) _) (Nat.le_of_ble_eq_true rfl) (Nat.le_of_ble_eq_true rfl) (Nat.le_of_ble_eq_true rfl) (Nat.le_of_ble_eq_true rfl) hS (Nat.le_refl _) (Nat.le_refl _) (by simp) (fun t ha h8 h9 => ⟨n_text_length, f_text_characters, by first | omega | assumption, by first | omega | assumption, by exact wL_no (wC_2 hN1 hN8 pg) (by decide), by exact wt_no (wL_no (wC_2 hN1 hN8 pg) (by decide)), cx_grown hP9 h9, va_K.moved ha hK, hD9⟩)
set_option maxHeartbeats 4000000 in
set_option maxRecDepth 100000 in
theorem s_Cutter_foundTooMany6 (l : Launch) (dC : Nat → ClassId) (dI : Nat → Nat → Nat) (sz : Nat) (a_t : Nat) (a_lexemes : Nat) (n_at : Nat) (z_lineStart : Int32) (z_lineIsFresh : Int32) (z_wrongPlace : Int32) (z_tooMany : Int32) (b_at : n_at ≤ 241) (b_tooMany : z_tooMany = 0 ∨ z_tooMany = 1) : Met l y_Cutter_foundTooMany w_Cutter_foundTooMany ({ frames := 0, cells := 0, slots := 0, locals := 0 }) (va_Pc [.ref a_t] (fun U => U.heap.size = sz ∧ va_P (dC, dI) vcl [(a_t, .inr (3, [.ref a_lexemes, .int (nI n_at), .int z_lineStart, .int z_lineIsFresh, .int z_wrongPlace, .int z_tooMany]))] U.heap ∧ va_K (dC, dI) vcl [] U ∧ va_D (fun _ => True) [(a_t, .inr (3, [.ref a_lexemes, .int (nI n_at), .int z_lineStart, .int z_lineIsFresh, .int z_wrongPlace, .int z_tooMany]))])) (va_Qi (fun (r : Int32) (_ : Unit) => (r = 0 ∨ r = 1) ∧ (r = z_tooMany)) (fun _ t => va_P (dC, dI) vcl [(a_t, .inr (3, [.ref a_lexemes, .int (nI n_at), .int z_lineStart, .int z_lineIsFresh, .int z_wrongPlace, .int z_tooMany]))] t.heap ∧ va_K (dC, dI) vcl [] t ∧ va_D (va_A [(a_t, .inr (3, [.ref a_lexemes, .int (nI n_at), .int z_lineStart, .int z_lineIsFresh, .int z_wrongPlace, .int z_tooMany]))] sz) [(a_t, .inr (3, [.ref a_lexemes, .int (nI n_at), .int z_lineStart, .int z_lineIsFresh, .int z_wrongPlace, .int z_tooMany]))]) (va_A [(a_t, .inr (3, [.ref a_lexemes, .int (nI n_at), .int z_lineStart, .int z_lineIsFresh, .int z_wrongPlace, .int z_tooMany]))] sz)) 0 0 (va_A [(a_t, .inr (3, [.ref a_lexemes, .int (nI n_at), .int z_lineStart, .int z_lineIsFresh, .int z_wrongPlace, .int z_tooMany]))] sz) := by
  refine Met.ofW (cc := b_Cutter_foundTooMany) (maxL := 1) (ret := (some .boolean)) (by decide) rfl ?_
  intro p e s m args below meth c s₁ B hml hv
  obtain ⟨rfl, hsz, hP, hK, hD0⟩ := hv
  have hx := B.exec
  have hb := B.bytes
  have hr := B.returns
  have hts := atoms_spec (ws := w_Cutter_foundTooMany) B.pre
  have hz : ∀ w ∈ wz, w.before _ s = true := fun w h => hts w (List.mem_cons_of_mem _ h)
  have hown : s.vm.findClass R_Cutter = some m.cls := findClass_of_methodNamed B.named
  have hlocks := B.notSynchronized
  subst hsz
  have hD := hD0.self (sz := s.heap.size)
  generalize hAe : va_A [(a_t, .inr (3, [.ref a_lexemes, .int (nI n_at), .int z_lineStart, .int z_lineIsFresh, .int z_wrongPlace, .int z_tooMany]))] s.heap.size = A at hD ⊢
  have hA : ∀ q : Nat, s.heap.size ≤ q → A q := fun q h => by rw [← hAe]; exact Or.inr h
  have hS : va_S A s.heap s.heap [] := va_S.rf
  have hP : va_P (dC, dI) vcl [(a_t, .inr (3, [.ref a_lexemes, .int (nI n_at), .int z_lineStart, .int z_lineIsFresh, .int z_wrongPlace, .int z_tooMany]))] s.heap := hP
  have hl := lv_entry ([.ref a_t]) (n := 1) (Nat.le_of_ble_eq_true rfl)
  rw [lg_entry_eq]
  generalize (lg_sl ([.ref a_t]) ++ List.replicate (1 - (lg_sl ([.ref a_t])).length) Slot.unset).toArray = ls at hl ⊢
  have hl : lv_has ls 1 [(0, .ref a_t)] := hl
  refine lv_aload_n hx hb d_Cutter_foundTooMany_0 rfl (lv_at hl 0 rfl) ?_
  refine va_get (D := (dC, dI)) (ci := 3) (v := .int z_tooMany) (C := R_Cutter) (T := F_Cutter) (N := 6) hx hb hz zu_Cutter hown hK hP 0 rfl rfl 5 (by decide) (hz (.fieldLink R_Cutter 22 "LayoutFront$Cutter" "tooMany" "Z") zm_77) (fun _ h9 => h9) rfl d_Cutter_foundTooMany_1 ?_
  have hP9 := hP.sub (ws' := [(a_t, .inr (3, [.ref a_lexemes, .int (nI n_at), .int z_lineStart, .int z_lineIsFresh, .int z_wrongPlace, .int z_tooMany]))]) [0] rfl
  have hD9 := hD.sub (ws' := [(a_t, .inr (3, [.ref a_lexemes, .int (nI n_at), .int z_lineStart, .int z_lineIsFresh, .int z_wrongPlace, .int z_tooMany]))]) [0] (by decide) rfl
  exact W.zret (v := z_tooMany) hx hb hr (xr_nb (by first | assumption | exact Or.inl rfl | exact Or.inr rfl)) (fun t ht hW => ⟨⟨z_tooMany, (), rfl, ⟨(by first | assumption | exact Or.inl rfl | exact Or.inr rfl), (by rfl)⟩, by rw [ht]; exact hP9, va_K.moved hW.alike hK, hD9⟩, hS.F ht⟩) hS.2.2 d_Cutter_foundTooMany_4
/-! rows among laid tokens: levels, covered tokens, starts -/
section RWA
variable {s : Nat → Int32} {v : Nat → Int64} {P : Nat → Int32} {n k q p x j : Nat}
/-- the brackets that are open before token k, the latest first -/
def sk (s : Nat → Int32) (v : Nat → Int64) : Nat → List Nat
  | 0 => []
  | k + 1 => if opn (s k) (v k) = true then k :: sk s v k else if clo (s k) (v k) = true then (sk s v k).tail else sk s v k
def bl7 (s : Nat → Int32) (v : Nat → Int64) (n : Nat) : Prop := (∀ p, p ≤ n → 0 ≤ dep s v p) ∧ dep s v n = 0
theorem sk_o (h : opn (s k) (v k) = true) : sk s v (k + 1) = k :: sk s v k := by rw [sk, if_pos h]
theorem clo_opn (h : clo (s k) (v k) = true) : opn (s k) (v k) = false := by
  cases ho : opn (s k) (v k)
  · rfl
  · have := opn_clo ho; rw [h] at this; cases this
theorem sk_c (h : clo (s k) (v k) = true) : sk s v (k + 1) = (sk s v k).tail := by
  rw [sk, if_neg (by rw [clo_opn h]; decide), if_pos h]
theorem sk_n (h1 : opn (s k) (v k) = false) (h2 : clo (s k) (v k) = false) : sk s v (k + 1) = sk s v k := by
  rw [sk, if_neg (by rw [h1]; decide), if_neg (by rw [h2]; decide)]
theorem sk_lt : ∀ k q, q ∈ sk s v k → q < k
  | 0, q, h => by cases h
  | k + 1, q, h => by
    by_cases o : opn (s k) (v k) = true
    · rw [sk_o o] at h
      rcases List.mem_cons.mp h with e | h
      · omega
      · have := sk_lt k q h; omega
    · by_cases c : clo (s k) (v k) = true
      · rw [sk_c c] at h
        have := sk_lt k q (List.mem_of_mem_tail h); omega
      · rw [sk_n (by simpa using o) (by simpa using c)] at h
        have := sk_lt k q h; omega
theorem sk_suf : ∀ k q, q ∈ sk s v k → ∃ L, sk s v k = L ++ q :: sk s v q
  | 0, q, h => by cases h
  | k + 1, q, h => by
    by_cases o : opn (s k) (v k) = true
    · rw [sk_o o] at h ⊢
      rcases List.mem_cons.mp h with e | h
      · subst e; exact ⟨[], rfl⟩
      · obtain ⟨L, hL⟩ := sk_suf k q h
        exact ⟨k :: L, by rw [hL]; rfl⟩
    · by_cases c : clo (s k) (v k) = true
      · rw [sk_c c] at h ⊢
        obtain ⟨L, hL⟩ := sk_suf k q (List.mem_of_mem_tail h)
        cases L with
        | nil =>
          rw [hL] at h
          exact absurd (sk_lt q q h) (Nat.lt_irrefl _)
        | cons a L => exact ⟨L, by rw [hL]; rfl⟩
      · rw [sk_n (by simpa using o) (by simpa using c)] at h ⊢
        exact sk_suf k q h
theorem sk_len : ∀ k, (∀ p, p ≤ k → 0 ≤ dep s v p) → ((sk s v k).length : Int) = dep s v k
  | 0, _ => rfl
  | k + 1, h => by
    have ih := sk_len k (fun p hp => h p (by omega))
    have h1 := h (k + 1) (Nat.le_refl _)
    rw [dep] at h1 ⊢
    by_cases o : opn (s k) (v k) = true
    · rw [sk_o o, List.length_cons]
      simp only [dlt, o, if_true] at h1 ⊢
      omega
    · by_cases c : clo (s k) (v k) = true
      · rw [sk_c c, List.length_tail]
        have o' : opn (s k) (v k) = false := by simpa using o
        simp only [dlt, o', c, if_true] at h1 ⊢
        simp at h1 ⊢
        omega
      · have o' : opn (s k) (v k) = false := by simpa using o
        have c' : clo (s k) (v k) = false := by simpa using c
        rw [sk_n o' c']
        simp [dlt, o', c']
        exact ih
theorem sk_end (h : bl7 s v n) : sk s v n = [] := by
  have e := sk_len (s := s) (v := v) n h.1
  rw [h.2] at e
  exact List.length_eq_zero_iff.mp (by omega)
theorem grp_aux (hb : bl7 s v n) : ∀ d k, k + d = n → q ∈ sk s v k → ∃ p, k ≤ p ∧ p < n ∧ clo (s p) (v p) = true ∧ sk s v p = q :: sk s v q ∧ ∀ x, k ≤ x → x ≤ p → q ∈ sk s v x
  | 0, k, e, h => by
    have e' : k = n := by omega
    rw [e', sk_end hb] at h; cases h
  | d + 1, k, e, h => by
    by_cases h2 : q ∈ sk s v (k + 1)
    · obtain ⟨p, p1, p2, p3, p4, p5⟩ := grp_aux hb d (k + 1) (by omega) h2
      refine ⟨p, by omega, p2, p3, p4, fun x hx1 hx2 => ?_⟩
      by_cases z : x = k
      · rw [z]; exact h
      · exact p5 x (by omega) hx2
    · by_cases o : opn (s k) (v k) = true
      · rw [sk_o o] at h2
        exact absurd (List.mem_cons_of_mem _ h) h2
      · by_cases c : clo (s k) (v k) = true
        · refine ⟨k, Nat.le_refl _, by omega, c, ?_, fun x hx1 hx2 => by rw [show x = k by omega]; exact h⟩
          obtain ⟨L, hL⟩ := sk_suf k q h
          cases L with
          | nil => exact hL
          | cons a L =>
            rw [sk_c c, hL] at h2
            exact absurd (List.mem_append_right _ List.mem_cons_self) h2
        · rw [sk_n (by simpa using o) (by simpa using c)] at h2
          exact absurd h h2
theorem grp (hb : bl7 s v n) (hq : q < n) (ho : opn (s q) (v q) = true) : ∃ p, q < p ∧ p < n ∧ clo (s p) (v p) = true ∧ sk s v p = q :: sk s v q ∧ sk s v (p + 1) = sk s v q ∧ ∀ x, q < x → x ≤ p → q ∈ sk s v x := by
  obtain ⟨p, p1, p2, p3, p4, p5⟩ := grp_aux hb (n - (q + 1)) (q + 1) (by omega) (by rw [sk_o ho]; exact List.mem_cons_self)
  exact ⟨p, by omega, p2, p3, p4, by rw [sk_c p3, p4]; rfl, fun x h1 h2 => p5 x (by omega) h2⟩
def PN (s : Nat → Int32) (v : Nat → Int64) (P : Nat → Int32) (n : Nat) : Prop := ∀ p q, p < n → clo (s p) (v p) = true → (sk s v p).head? = some q → P q = nI p
theorem pn_pt (hb : bl7 s v n) (hn : n ≤ 600) (hP : PN s v P n) : PT s v P n := by
  refine ⟨fun q hq ho => ?_, fun q q' hq hq' ho ho' e => ?_⟩
  · obtain ⟨p, p1, p2, p3, p4, -⟩ := grp hb hq ho
    exact ⟨p, p1, p2, p3, hP p q p2 p3 (by rw [p4]; rfl)⟩
  · obtain ⟨p, p1, p2, p3, p4, -⟩ := grp hb hq ho
    obtain ⟨p', p1', p2', p3', p4', -⟩ := grp hb hq' ho'
    rw [hP p q p2 p3 (by rw [p4]; rfl), hP p' q' p2' p3' (by rw [p4']; rfl)] at e
    have e' := (nI_eq (a := p) (b := p') (by omega) (by omega)).mp e
    subst e'
    rw [p4] at p4'
    exact (List.cons.inj p4').1
abbrev e7 (s : Nat → Int32) (v : Nat → Int64) (P : Nat → Int32) (n k : Nat) : Nat := exN wdB rsB s v P n k
/-- three tokens that are one operation -/
def t3 (s : Nat → Int32) (v : Nat → Int64) (n k : Nat) : Bool := tkB s v n k && (nmB wdB s v n (k + 1) && tkB s v n (k + 2))
/-- how many tokens from k on belong to an operation that began before -/
def cv (s : Nat → Int32) (v : Nat → Int64) (n : Nat) : Nat → Nat
  | 0 => 0
  | k + 1 => if 0 < cv s v n k then cv s v n k - 1 else if t3 s v n k = true then 2 else 0
theorem cv_in : ∀ k, cv s v n k = 0 ∨ (cv s v n k = 2 ∧ nmB wdB s v n k = true ∧ tkB s v n (k + 1) = true) ∨ (cv s v n k = 1 ∧ tkB s v n k = true)
  | 0 => Or.inl rfl
  | k + 1 => by
    rw [cv]
    rcases cv_in k with h | ⟨h, h1, h2⟩ | ⟨h, h1⟩
    · rw [if_neg (by omega)]
      by_cases t : t3 s v n k = true
      · rw [if_pos t]
        simp only [t3, Bool.and_eq_true] at t
        exact Or.inr (Or.inl ⟨rfl, t.2.1, t.2.2⟩)
      · rw [if_neg t]; exact Or.inl rfl
    · rw [if_pos (by omega), h]; exact Or.inr (Or.inr ⟨rfl, h2⟩)
    · rw [if_pos (by omega), h]; exact Or.inl rfl
theorem tkB_s (h : tkB s v n k = true) : s k = 3 ∧ v k = 96 := by
  simp only [tkB, Bool.and_eq_true, beq_iff_eq] at h
  exact h.2
theorem nmB_s (h : nmB wdB s v n k = true) : s k = 0 := by
  simp only [nmB, Bool.and_eq_true, beq_iff_eq] at h
  exact h.2.1
theorem br_no {a : Int32} {b : Int64} (h : opn a b = true ∨ clo a b = true) : a = 3 ∧ ¬ b = 96 := by
  simp only [opn, clo, Bool.and_eq_true, Bool.or_eq_true, beq_iff_eq] at h
  rcases h with ⟨h1, h2 | h2⟩ | ⟨h1, h2 | h2⟩ <;> exact ⟨h1, by rw [h2]; decide⟩
theorem no_br {a : Int32} {b : Int64} (h : ¬ a = 3 ∨ b = 96) : opn a b = false ∧ clo a b = false := by
  constructor
  · cases ho : opn a b
    · rfl
    · have := br_no (Or.inl ho)
      rcases h with h | h
      · exact absurd this.1 h
      · exact absurd h this.2
  · cases hc : clo a b
    · rfl
    · have := br_no (Or.inr hc)
      rcases h with h | h
      · exact absurd this.1 h
      · exact absurd h this.2
theorem cv_br (h : opn (s k) (v k) = true ∨ clo (s k) (v k) = true) : cv s v n k = 0 := by
  have b := br_no h
  rcases cv_in (s := s) (v := v) (n := n) k with e | ⟨-, e, -⟩ | ⟨-, e⟩
  · exact e
  · have := nmB_s e; rw [b.1] at this; exact absurd this (by decide)
  · exact absurd (tkB_s e).2 b.2
theorem t3_no (h : ¬ s k = 3 ∨ ¬ v k = 96) : t3 s v n k = false := by
  cases t : t3 s v n k
  · rfl
  · simp only [t3, Bool.and_eq_true] at t
    have := tkB_s t.1
    rcases h with h | h
    · exact absurd this.1 h
    · exact absurd this.2 h
theorem cv_s0 (h : cv s v n k = 0) (t : t3 s v n k = false) : cv s v n (k + 1) = 0 := by
  rw [cv, if_neg (by omega), if_neg (by rw [t]; decide)]
theorem cv_s3 (h : cv s v n k = 0) (t : t3 s v n k = true) : cv s v n (k + 1) = 2 ∧ cv s v n (k + 2) = 1 ∧ cv s v n (k + 3) = 0 := by
  have a : cv s v n (k + 1) = 2 := by rw [cv, if_neg (by omega), if_pos t]
  have b : cv s v n (k + 2) = 1 := by
    show (if 0 < cv s v n (k + 1) then cv s v n (k + 1) - 1 else if t3 s v n (k + 1) = true then 2 else 0) = 1
    rw [if_pos (by omega), a]
  refine ⟨a, b, ?_⟩
  show (if 0 < cv s v n (k + 2) then cv s v n (k + 2) - 1 else if t3 s v n (k + 2) = true then 2 else 0) = 0
  rw [if_pos (by omega), b]
theorem ex_t3 (hs : s k = 3) (hv : v k = 96) (he : 0 < e7 s v P n k) : t3 s v n k = true ∧ e7 s v P n k = 3 := by
  have hno := (no_br (Or.inr hv) : opn (s k) (v k) = false ∧ _).1
  unfold e7 exN at he ⊢
  by_cases h1 : n ≤ k
  · rw [if_pos h1] at he; omega
  rw [if_neg h1] at he ⊢
  have h2 : ¬ (nmB wdB s v n k || s k == 1) = true := by
    rw [hs]
    simp [nmB, hs]
  rw [if_neg h2, if_neg (by rw [hno]; decide), if_neg (by rw [hs]; decide)] at he ⊢
  by_cases t : (tkB s v n k && (nmB wdB s v n (k + 1) && tkB s v n (k + 2))) = true
  · rw [if_pos t]; exact ⟨t, rfl⟩
  · rw [if_neg t] at he; omega
/-- linked: an item of its level ends just before it -/
def lk7 (s : Nat → Int32) (v : Nat → Int64) (P : Nat → Int32) (n k : Nat) : Bool :=
  decide (1 ≤ k) && (clo (s (k - 1)) (v (k - 1)) || (decide (cv s v n (k - 1) = 1) || (decide (cv s v n (k - 1) = 0) && (!opn (s (k - 1)) (v (k - 1)) && decide (0 < e7 s v P n (k - 1))))))
def st7 (s : Nat → Int32) (v : Nat → Int64) (P : Nat → Int32) (n k : Nat) : Bool := decide (cv s v n k = 0) && (decide (0 < e7 s v P n k) && !lk7 s v P n k)
theorem lk_s : lk7 s v P n (k + 1) = (clo (s k) (v k) || (decide (cv s v n k = 1) || (decide (cv s v n k = 0) && (!opn (s k) (v k) && decide (0 < e7 s v P n k))))) := by
  unfold lk7
  rw [show k + 1 - 1 = k by omega, decide_eq_true (show 1 ≤ k + 1 by omega), Bool.true_and]
/-- an item of a level: where it ends -/
theorem it_nx (hb : bl7 s v n) (hn : n ≤ 600) (hP : PN s v P n) (h0 : cv s v n k = 0) (he : 0 < e7 s v P n k) :
    k + e7 s v P n k ≤ n ∧ cv s v n (k + e7 s v P n k) = 0 ∧ lk7 s v P n (k + e7 s v P n k) = true ∧ sk s v (k + e7 s v P n k) = sk s v k ∧ ∀ x, k < x → x < k + e7 s v P n k → ¬ (st7 s v P n x = true ∧ sk s v x = sk s v k) := by
  have hT := pn_pt hb hn hP
  have hin := exN_in hn hT he
  refine ⟨hin, ?_⟩
  obtain ⟨hk, a | b | c⟩ := exN_cases hn hT he
  · rw [show e7 s v P n k = 1 from a.1]
    have s3 : ¬ s k = 3 := by
      rcases a.2 with z | z | z <;> rw [z] <;> decide
    have nb := no_br (b := v k) (Or.inl s3)
    refine ⟨cv_s0 h0 (t3_no (Or.inl s3)), ?_, sk_n nb.1 nb.2, fun x h1 h2 => by omega⟩
    rw [lk_s, h0, nb.1, decide_eq_true (show 0 < e7 s v P n k from he)]
    simp
  · obtain ⟨ho, p', p1', p2', p3', p4', p5'⟩ := b
    obtain ⟨p, p1, p2, p3, p4, p5, p6⟩ := grp hb hk ho
    have e1 := hP p k p2 p3 (by rw [p4]; rfl)
    have e2 := (nI_eq (a := p) (b := p') (by omega) (by omega)).mp (e1.symm.trans p4')
    subst e2
    have hj : k + e7 s v P n k = p + 1 := by
      have : e7 s v P n k = p - k + 1 := p5'
      omega
    rw [hj]
    have c0 := cv_br (n := n) (Or.inr p3)
    have b0 := br_no (Or.inr p3)
    refine ⟨cv_s0 c0 (t3_no (Or.inr b0.2)), by rw [lk_s, p3]; rfl, p5, fun x h1 h2 z => ?_⟩
    have := p6 x h1 (by omega)
    rw [z.2] at this
    exact absurd (sk_lt k k this) (Nat.lt_irrefl _)
  · obtain ⟨c0, c1, c2, c3, c4, c5, c6⟩ := c
    obtain ⟨t, e3⟩ := ex_t3 c2 c3 he
    rw [e3]
    obtain ⟨d1, d2, d3⟩ := cv_s3 h0 t
    have n0 := no_br (a := s k) (Or.inr c3)
    have n1 := no_br (a := s (k + 1)) (b := v (k + 1)) (Or.inl (by rw [c4]; decide))
    have n2 := no_br (a := s (k + 2)) (Or.inr c6)
    refine ⟨d3, ?_, ?_, fun x h1 h2 z => ?_⟩
    · show lk7 s v P n (k + 2 + 1) = true
      rw [lk_s, d2]; simp
    · show sk s v (k + 2 + 1) = sk s v k
      rw [sk_n n2.1 n2.2]
      show sk s v (k + 1 + 1) = sk s v k
      rw [sk_n n1.1 n1.2, sk_n n0.1 n0.2]
    · have z1 := z.1
      simp only [st7, Bool.and_eq_true, decide_eq_true_eq] at z1
      have hx : x = k + 1 ∨ x = k + 2 := by omega
      rcases hx with e | e
      · rw [e, d1] at z1; omega
      · rw [e, d2] at z1; omega
theorem op_ex (hb : bl7 s v n) (hn : n ≤ 600) (hP : PN s v P n) (hk : k < n) (ho : opn (s k) (v k) = true) : ∃ p, k < p ∧ p < n ∧ clo (s p) (v p) = true ∧ P k = nI p ∧ sk s v p = k :: sk s v k ∧ e7 s v P n k = p - k + 1 := by
  obtain ⟨p, p1, p2, p3, p4, -⟩ := grp hb hk ho
  have e1 := hP p k p2 p3 (by rw [p4]; rfl)
  refine ⟨p, p1, p2, p3, e1, p4, ?_⟩
  have b := br_no (Or.inl ho)
  unfold e7 exN
  rw [if_neg (by omega), if_neg (by simp [nmB, b.1]), if_pos ho, e1, nI_clamp (by omega)]
/-- a token that begins nothing -/
theorem it_zr (hb : bl7 s v n) (hn : n ≤ 600) (hP : PN s v P n) (hk : k < n) (h0 : cv s v n k = 0) (he : e7 s v P n k = 0) (hc : clo (s k) (v k) = false) : cv s v n (k + 1) = 0 ∧ lk7 s v P n (k + 1) = false ∧ sk s v (k + 1) = sk s v k := by
  have ho : opn (s k) (v k) = false := by
    cases ho : opn (s k) (v k)
    · rfl
    · obtain ⟨p, p1, -, -, -, -, p6⟩ := op_ex hb hn hP hk ho
      omega
  have ht : t3 s v n k = false := by
    cases t : t3 s v n k
    · rfl
    · exfalso
      have t' := t
      simp only [t3, Bool.and_eq_true] at t'
      have z := tkB_s t'.1
      have : e7 s v P n k = 3 := by
        unfold e7 exN
        rw [if_neg (by omega), if_neg (by simp [nmB, z.1]), if_neg (by rw [ho]; decide), if_neg (by rw [z.1]; decide)]
        exact if_pos t
      omega
  refine ⟨cv_s0 h0 ht, ?_, sk_n ho hc⟩
  rw [lk_s, hc, h0, ho, decide_eq_false (show ¬ 0 < e7 s v P n k by omega)]
  simp
theorem lv_st (hk : k < n) (ho : opn (s k) (v k) = true) : cv s v n (k + 1) = 0 ∧ lk7 s v P n (k + 1) = false ∧ sk s v (k + 1) = k :: sk s v k := by
  have c0 := cv_br (n := n) (Or.inl ho)
  have b0 := br_no (Or.inl ho)
  refine ⟨cv_s0 c0 (t3_no (Or.inr b0.2)), ?_, sk_o ho⟩
  rw [lk_s, opn_clo ho, c0, ho]
  simp
/-! sums -/
def sm (g : Nat → Nat) : Nat → Nat
  | 0 => 0
  | k + 1 => sm g k + g k
theorem sm_z {g : Nat → Nat} {a : Nat} : ∀ c, a ≤ c → (∀ x, a ≤ x → x < c → g x = 0) → sm g c = sm g a
  | 0, h, _ => by rw [Nat.le_zero.mp h]
  | c + 1, h, z => by
    by_cases e : a = c + 1
    · rw [e]
    · rw [sm, sm_z c (by omega) (fun x h1 h2 => z x h1 (by omega)), z c (by omega) (by omega)]; rfl
theorem sm_add {f g h : Nat → Nat} : ∀ c, (∀ x, x < c → h x = f x + g x) → sm h c = sm f c + sm g c
  | 0, _ => rfl
  | c + 1, e => by
    rw [sm, sm, sm, sm_add c (fun x hx => e x (by omega)), e c (by omega)]; omega
theorem sm_eq {f g : Nat → Nat} : ∀ c, (∀ x, x < c → f x = g x) → sm f c = sm g c
  | 0, _ => rfl
  | c + 1, e => by rw [sm, sm, sm_eq c (fun x hx => e x (by omega)), e c (by omega)]
theorem sm_le {f g : Nat → Nat} : ∀ c, (∀ x, x < c → f x ≤ g x) → sm f c ≤ sm g c
  | 0, _ => Nat.le_refl _
  | c + 1, e => by
    have := sm_le c (fun x hx => e x (by omega))
    have := e c (by omega)
    rw [sm, sm]; omega
theorem sm_mono {g : Nat → Nat} {a : Nat} : ∀ c, a ≤ c → sm g a ≤ sm g c
  | 0, h => by rw [Nat.le_zero.mp h]; exact Nat.le_refl _
  | c + 1, h => by
    by_cases e : a = c + 1
    · rw [e]; exact Nat.le_refl _
    · have := sm_mono (g := g) (a := a) c (by omega)
      rw [sm]; omega
/-- of one level, the starts -/
def gL (s : Nat → Int32) (v : Nat → Int64) (P : Nat → Int32) (n : Nat) (S : List Nat) (f : Nat → Nat) (j : Nat) : Nat := if st7 s v P n j = true ∧ sk s v j = S then f j else 0
theorem gl_it {f : Nat → Nat} (hb : bl7 s v n) (hn : n ≤ 600) (hP : PN s v P n) (h0 : cv s v n k = 0) (he : 0 < e7 s v P n k) : sm (gL s v P n (sk s v k) f) (k + e7 s v P n k) = sm (gL s v P n (sk s v k) f) k + (if st7 s v P n k = true then f k else 0) := by
  obtain ⟨-, -, -, -, h5⟩ := it_nx hb hn hP h0 he
  have e : sm (gL s v P n (sk s v k) f) (k + 1) = sm (gL s v P n (sk s v k) f) k + (if st7 s v P n k = true then f k else 0) := by
    rw [sm]
    unfold gL
    by_cases z : st7 s v P n k = true
    · rw [if_pos ⟨z, rfl⟩, if_pos z]
    · rw [if_neg (fun w => z w.1), if_neg z]
  rw [← e]
  exact sm_z _ (by omega) (fun x h1 h2 => if_neg (h5 x (by omega) h2))
theorem st_ex (h : st7 s v P n k = true) : cv s v n k = 0 ∧ 0 < e7 s v P n k ∧ lk7 s v P n k = false := by
  simp only [st7, Bool.and_eq_true, decide_eq_true_eq] at h
  exact ⟨h.1, h.2.1, by simpa using h.2.2⟩
theorem gl_zr {f : Nat → Nat} {S : List Nat} (he : e7 s v P n k = 0) : sm (gL s v P n S f) (k + 1) = sm (gL s v P n S f) k := by
  rw [sm]
  unfold gL
  rw [if_neg (fun z => by have := (st_ex z.1).2.1; omega)]; rfl
end RWA
/-! items of a row, and how a row is put together -/
section RWB
variable {s : Nat → Int32} {v : Nat → Int64} {P : Nat → Int32} {n k : Nat}
abbrev It := Int32 × Int32 × Int32
abbrev Rb := List It × Bool × Bool
def eo7 : List It → Bool
  | [] => false
  | x :: _ => x.2.2 == 0
def rbA (a b : Int32) (r : Rb) : Rb := match r.1 with
  | [] => ([(a, b, 0)], r.2)
  | x :: L => if x.2.2 = 0 then ((x.1, b, x.2.2) :: L, r.2) else ((a, b, 0) :: x :: L, r.2)
def rbO (a b : Int32) (d : Bool) (r : Rb) : Rb := ((a, b, if eo7 r.1 = true then 1 else 2) :: r.1, true, r.2.2 || (!eo7 r.1 && !d))
def rbN (s : Nat → Int32) (v : Nat → Int64) (P : Nat → Int32) (n k : Nat) (r : Rb) : Rb := if opB s v n k = true then rbO (nI k) (nI (k + e7 s v P n k - 1)) (v k == 45) r else rbA (nI k) (nI (k + e7 s v P n k - 1)) r
def ch7 (s : Nat → Int32) (v : Nat → Int64) (P : Nat → Int32) (n : Nat) : Nat → Nat → Rb → Nat × Rb
  | 0, k, r => (k, r)
  | f + 1, k, r => if 0 < e7 s v P n k then ch7 s v P n f (k + e7 s v P n k) (rbN s v P n k r) else (k, r)
def chE (s : Nat → Int32) (v : Nat → Int64) (P : Nat → Int32) (n k : Nat) (r : Rb) : Nat × Rb := ch7 s v P n (n - k) k r
theorem e7_lt (h : 0 < e7 s v P n k) : k < n := by
  unfold e7 exN at h
  by_cases z : n ≤ k
  · rw [if_pos z] at h; omega
  · omega
theorem ch7_more : ∀ (f g k : Nat) (r : Rb), n - k ≤ f → n - k ≤ g → ch7 s v P n f k r = ch7 s v P n g k r
  | 0, 0, _, _, _, _ => rfl
  | 0, g + 1, k, r, h, _ => by
    rw [ch7, ch7, if_neg (fun z => by have := e7_lt z; omega)]
  | f + 1, 0, k, r, _, h => by
    rw [ch7, ch7, if_neg (fun z => by have := e7_lt z; omega)]
  | f + 1, g + 1, k, r, h1, h2 => by
    rw [ch7, ch7]
    by_cases z : 0 < e7 s v P n k
    · have := e7_lt z
      rw [if_pos z, if_pos z, ch7_more f g _ _ (by omega) (by omega)]
    · rw [if_neg z, if_neg z]
theorem chE_go {r : Rb} (h : 0 < e7 s v P n k) : chE s v P n k r = chE s v P n (k + e7 s v P n k) (rbN s v P n k r) := by
  have := e7_lt h
  unfold chE
  obtain ⟨f, hf⟩ : ∃ f, n - k = f + 1 := ⟨n - k - 1, by omega⟩
  rw [hf, ch7, if_pos h]
  exact ch7_more _ _ _ _ (by omega) (by omega)
theorem chE_end {r : Rb} (h : e7 s v P n k = 0) : chE s v P n k r = (k, r) := by
  unfold chE
  cases hf : n - k with
  | zero => rfl
  | succ f => rw [ch7, if_neg (by omega)]
def wh7 (r : Rb) : Bool := r.2.1 && (!r.2.2 && eo7 r.1)
/-! resolution: what waits (level, side, minus place or -1), operands, pairs; the latest first -/
abbrev Wt := Int32 × Int32 × Int32
abbrev Sp := Int32 × Int32
abbrev Rs := List Wt × List Sp × List Sp
def gv7 (x : Rs) : Rs := match x.1, x.2.1 with
  | w :: W, a :: O => if w.2.2 = -1 then (match O with
      | [] => (W, [a], a :: x.2.2)
      | b :: O' => (W, (b.1, a.2) :: O', (b.1, a.2) :: x.2.2)) else (W, (w.2.2, a.2) :: O, (w.2.2, a.2) :: x.2.2)
  | _, _ => x
def ps7 (lv sd mp : Int32) (x : Rs) : Rs := ((lv, sd, mp) :: x.1, x.2)
def tk7 (lv sd : Int32) : Nat → Rs → Option Rs
  | 0, x => some (ps7 lv sd (-1) x)
  | f + 1, x => match x.1 with
    | [] => some (ps7 lv sd (-1) x)
    | w :: _ => if w.1 = lv ∧ (¬ w.2.1 = sd ∨ sd = 2) then none else if w.1 < lv ∨ (w.1 = lv ∧ ¬ sd = 0) then some (ps7 lv sd (-1) x) else tk7 lv sd f (gv7 x)
def tkE (lv sd : Int32) (x : Rs) : Option Rs := tk7 lv sd x.1.length x
def mn7 (pl : Int32) (x : Rs) : Option Rs := match x.1 with
  | [] => some (ps7 6 0 pl x)
  | w :: _ => if 6 ≤ w.1 then none else some (ps7 6 0 pl x)
def nm7 (v : Nat → Int64) (f l : Int32) : Int64 := if f = l then v f.toNatClampNeg else v (f + 1).toNatClampNeg
def tI7 (v : Nat → Int64) (F G : Int64 → Int32) (i : It) (x : Rs) : Option Rs := if i.2.2 = 1 then tkE (F (nm7 v i.1 i.2.1)) (G (nm7 v i.1 i.2.1)) x else if i.2.2 = 2 then mn7 i.1 x else some (x.1, (i.1, i.2.1) :: x.2.1, x.2.2)
def rs7 (v : Nat → Int64) (F G : Int64 → Int32) (B : List Sp) : List It → Option Rs
  | [] => some ([], [], B)
  | i :: L => match rs7 v F G B L with
    | none => none
    | some x => tI7 v F G i x
def fi7 : Nat → Rs → Rs
  | 0, x => x
  | f + 1, x => fi7 f (gv7 x)
def fin7 (x : Rs) : Rs := fi7 x.1.length x
/-- pairs found before stay below -/
def ap7 (B : List Sp) (x : Rs) : Rs := (x.1, x.2.1, x.2.2 ++ B)
theorem gv_ap {B : List Sp} {x : Rs} : gv7 (ap7 B x) = ap7 B (gv7 x) := by
  obtain ⟨W, O, R⟩ := x
  cases W with
  | nil => rfl
  | cons w W =>
    cases O with
    | nil => rfl
    | cons a O =>
      unfold gv7 ap7
      by_cases h : w.2.2 = -1
      · simp only [h, if_true]
        cases O <;> rfl
      · simp only [h, if_false]; rfl
theorem tk_ap {lv sd : Int32} {B : List Sp} : ∀ (f : Nat) (x : Rs), tk7 lv sd f (ap7 B x) = (tk7 lv sd f x).map (ap7 B)
  | 0, x => rfl
  | f + 1, x => by
    have ih := tk_ap (lv := lv) (sd := sd) (B := B) f (gv7 x)
    rw [← gv_ap] at ih
    rw [tk7, tk7]
    show (match x.1 with
      | [] => some (ps7 lv sd (-1) (ap7 B x))
      | w :: _ => if w.1 = lv ∧ (¬ w.2.1 = sd ∨ sd = 2) then none else if w.1 < lv ∨ (w.1 = lv ∧ ¬ sd = 0) then some (ps7 lv sd (-1) (ap7 B x)) else tk7 lv sd f (gv7 (ap7 B x))) = _
    cases x.1 with
    | nil => rfl
    | cons w W =>
      by_cases h1 : w.1 = lv ∧ (¬ w.2.1 = sd ∨ sd = 2)
      · simp only [h1, if_true]; rfl
      · simp only [h1, if_false]
        by_cases h2 : w.1 < lv ∨ (w.1 = lv ∧ ¬ sd = 0)
        · simp only [h2, if_true]; rfl
        · simp only [h2, if_false]; exact ih
theorem mn_ap {pl : Int32} {B : List Sp} {x : Rs} : mn7 pl (ap7 B x) = (mn7 pl x).map (ap7 B) := by
  unfold mn7
  show (match x.1 with
    | [] => some (ps7 6 0 pl (ap7 B x))
    | w :: _ => if 6 ≤ w.1 then none else some (ps7 6 0 pl (ap7 B x))) = _
  cases x.1 with
  | nil => rfl
  | cons w W =>
    by_cases h : 6 ≤ w.1
    · simp only [h, if_true]; rfl
    · simp only [h, if_false]; rfl
theorem tI_ap {F G : Int64 → Int32} {i : It} {B : List Sp} {x : Rs} : tI7 v F G i (ap7 B x) = (tI7 v F G i x).map (ap7 B) := by
  unfold tI7
  by_cases h1 : i.2.2 = 1
  · simp only [h1, if_true]
    unfold tkE
    exact tk_ap _ _
  · simp only [h1, if_false]
    by_cases h2 : i.2.2 = 2
    · simp only [h2, if_true]; exact mn_ap
    · simp only [h2, if_false]; rfl
theorem rs_ap {F G : Int64 → Int32} {B : List Sp} : ∀ L : List It, rs7 v F G B L = (rs7 v F G [] L).map (ap7 B)
  | [] => rfl
  | i :: L => by
    rw [rs7, rs7, rs_ap L]
    cases rs7 v F G [] L with
    | none => rfl
    | some x => exact tI_ap
theorem fi_ap {B : List Sp} : ∀ (f : Nat) (x : Rs), fi7 f (ap7 B x) = ap7 B (fi7 f x)
  | 0, x => rfl
  | f + 1, x => by rw [fi7, fi7, gv_ap]; exact fi_ap f _
theorem fin_ap {B : List Sp} {x : Rs} : fin7 (ap7 B x) = ap7 B (fin7 x) := fi_ap _ _
/-- operands: once there is one, there is one -/
theorem gv_1 {x : Rs} (h : 1 ≤ x.2.1.length) : 1 ≤ (gv7 x).2.1.length ∧ (gv7 x).1 = x.1.tail ∧ ((gv7 x).2.2.length = x.2.2.length + 1 ∨ x.1 = []) ∧ (gv7 x).2.1.length ≤ x.2.1.length := by
  obtain ⟨W, O, R⟩ := x
  cases W with
  | nil => exact ⟨h, rfl, Or.inr rfl, Nat.le_refl _⟩
  | cons w W =>
    cases O with
    | nil => exact absurd (show 1 ≤ 0 from h) (by decide)
    | cons a O =>
      unfold gv7
      by_cases z : w.2.2 = -1
      · simp only [z, if_true]
        cases O with
        | nil => exact ⟨Nat.le_refl _, rfl, Or.inl rfl, Nat.le_refl _⟩
        | cons b O => exact ⟨by show 1 ≤ (_ :: O).length; rw [List.length_cons]; omega, rfl, Or.inl rfl, by show (_ :: O).length ≤ (a :: b :: O).length; rw [List.length_cons, List.length_cons, List.length_cons]; omega⟩
      · simp only [z, if_false]
        exact ⟨by show 1 ≤ (_ :: O).length; rw [List.length_cons]; omega, rfl, Or.inl rfl, Nat.le_refl _⟩
end RWB
/-! rows of numbers as lists -/
section RWC
variable {a b c : Nat → Int32} {n m : Nat} {x y z : Int32}
def z3 (a b c : Nat → Int32) : Nat → List It
  | 0 => []
  | n + 1 => (a n, b n, c n) :: z3 a b c n
def z2 (a b : Nat → Int32) : Nat → List Sp
  | 0 => []
  | n + 1 => (a n, b n) :: z2 a b n
theorem z3_len : ∀ n, (z3 a b c n).length = n
  | 0 => rfl
  | n + 1 => by rw [z3, List.length_cons, z3_len n]
theorem z2_len : ∀ n, (z2 a b n).length = n
  | 0 => rfl
  | n + 1 => by rw [z2, List.length_cons, z2_len n]
theorem z3_upd : ∀ n, n ≤ m → z3 (upd a m x) (upd b m y) (upd c m z) n = z3 a b c n
  | 0, _ => rfl
  | n + 1, h => by
    rw [z3, z3, z3_upd n (by omega), show upd a m x n = a n from if_neg (by omega), show upd b m y n = b n from if_neg (by omega), show upd c m z n = c n from if_neg (by omega)]
theorem z2_upd : ∀ n, n ≤ m → z2 (upd a m x) (upd b m y) n = z2 a b n
  | 0, _ => rfl
  | n + 1, h => by
    rw [z2, z2, z2_upd n (by omega), show upd a m x n = a n from if_neg (by omega), show upd b m y n = b n from if_neg (by omega)]
theorem z3_cg {a' b' c' : Nat → Int32} : ∀ n, (∀ j, j < n → a j = a' j ∧ b j = b' j ∧ c j = c' j) → z3 a b c n = z3 a' b' c' n
  | 0, _ => rfl
  | n + 1, h => by
    obtain ⟨h1, h2, h3⟩ := h n (by omega)
    rw [z3, z3, z3_cg n (fun j hj => h j (by omega)), h1, h2, h3]
theorem z2_cg {a' b' : Nat → Int32} : ∀ n, (∀ j, j < n → a j = a' j ∧ b j = b' j) → z2 a b n = z2 a' b' n
  | 0, _ => rfl
  | n + 1, h => by
    obtain ⟨h1, h2⟩ := h n (by omega)
    rw [z2, z2, z2_cg n (fun j hj => h j (by omega)), h1, h2]
theorem z3_put : z3 (upd a n x) (upd b n y) (upd c n z) (n + 1) = (x, y, z) :: z3 a b c n := by
  rw [z3, z3_upd n (Nat.le_refl _), show upd a n x n = x from if_pos rfl, show upd b n y n = y from if_pos rfl, show upd c n z n = z from if_pos rfl]
theorem z2_put : z2 (upd a n x) (upd b n y) (n + 1) = (x, y) :: z2 a b n := by
  rw [z2, z2_upd n (Nat.le_refl _), show upd a n x n = x from if_pos rfl, show upd b n y n = y from if_pos rfl]
theorem z3_pop (h : 1 ≤ n) : z3 a b c n = (a (n - 1), b (n - 1), c (n - 1)) :: z3 a b c (n - 1) := by
  obtain ⟨k, rfl⟩ : ∃ k, n = k + 1 := ⟨n - 1, by omega⟩
  rw [show k + 1 - 1 = k by omega, z3]
theorem z2_pop (h : 1 ≤ n) : z2 a b n = (a (n - 1), b (n - 1)) :: z2 a b (n - 1) := by
  obtain ⟨k, rfl⟩ : ∃ k, n = k + 1 := ⟨n - 1, by omega⟩
  rw [show k + 1 - 1 = k by omega, z2]
theorem upd_ne {k : Nat} (h : ¬ k = m) : upd a m x k = a k := if_neg h
theorem upd_eq : upd a m x m = x := if_pos rfl
/-! the class's Row -/
theorem eo_1 (h : 1 ≤ n) (e : c (n - 1) = 0) : (1 : Int32) = b01 (eo7 (z3 a b c n)) := by
  rw [z3_pop h]; show 1 = b01 (c (n - 1) == 0); rw [e]; rfl
theorem eo_0 (h : n ≤ 0) : (0 : Int32) = b01 (eo7 (z3 a b c n)) := by
  rw [Nat.le_zero.mp h]; rfl
theorem eo_2 (h : 1 ≤ n) (e : ¬ c (n - 1) = 0) : (0 : Int32) = b01 (eo7 (z3 a b c n)) := by
  rw [z3_pop h]; show 0 = b01 (c (n - 1) == 0); simp [b01, e]
theorem eo_y (h : eo7 (z3 a b c n) = true) : 1 ≤ n ∧ c (n - 1) = 0 := by
  rcases Nat.eq_zero_or_pos n with e | e
  · rw [e] at h; cases h
  · rw [z3_pop e] at h
    exact ⟨e, by simpa [eo7] using h⟩
theorem ra_1 {r : Bool × Bool} (h : eo7 (z3 a b c n) = true) : (z3 a (upd b (n - 1) y) c n, r) = rbA x y (z3 a b c n, r) := by
  obtain ⟨h1, h2⟩ := eo_y h
  unfold rbA
  show _ = (match z3 a b c n with
    | [] => ([(x, y, 0)], r)
    | i :: L => if i.2.2 = 0 then ((i.1, y, i.2.2) :: L, r) else ((x, y, 0) :: i :: L, r))
  rw [z3_pop (a := a) (b := b) (c := c) h1]
  show _ = (if c (n - 1) = 0 then ((a (n - 1), y, c (n - 1)) :: z3 a b c (n - 1), r) else _)
  rw [if_pos h2, z3_pop (b := upd b (n - 1) y) h1, upd_eq, z3_cg (b' := b) (n - 1) (fun j hj => ⟨rfl, upd_ne (by omega), rfl⟩)]
theorem ra_2 {r : Bool × Bool} (h : eo7 (z3 a b c n) = false) : (z3 (upd a n x) (upd b n y) (upd c n 0) (n + 1), r) = rbA x y (z3 a b c n, r) := by
  unfold rbA
  rw [z3_put]
  show _ = (match z3 a b c n with
    | [] => ([(x, y, 0)], r)
    | i :: L => if i.2.2 = 0 then ((i.1, y, i.2.2) :: L, r) else ((x, y, 0) :: i :: L, r))
  cases hz : z3 a b c n with
  | nil => rfl
  | cons i L =>
    rw [hz] at h
    have h' : ¬ i.2.2 = 0 := by simpa [eo7] using h
    show _ = (if i.2.2 = 0 then _ else ((x, y, 0) :: i :: L, r))
    rw [if_neg h']
theorem ro_1 {p q : Bool} {d : Bool} {q' : Bool} (h : eo7 (z3 a b c n) = true) (hq : q' = q) : (z3 (upd a n x) (upd b n y) (upd c n 1) (n + 1), true, q') = rbO x y d (z3 a b c n, p, q) := by
  unfold rbO
  show _ = ((x, y, if eo7 (z3 a b c n) = true then 1 else 2) :: z3 a b c n, true, q || (!eo7 (z3 a b c n) && !d))
  rw [z3_put, h, hq]; simp
theorem ro_2 {p q : Bool} {d : Bool} {q' : Bool} (h : eo7 (z3 a b c n) = false) (hq : q' = (q || !d)) : (z3 (upd a n x) (upd b n y) (upd c n 2) (n + 1), true, q') = rbO x y d (z3 a b c n, p, q) := by
  unfold rbO
  show _ = ((x, y, if eo7 (z3 a b c n) = true then 1 else 2) :: z3 a b c n, true, q || (!eo7 (z3 a b c n) && !d))
  rw [z3_put, h, hq]; simp
end RWC
/-! the class's Row and Resolver, their answers -/
section RWD
variable {a b c lv sd mp fi la pf pl : Nat → Int32} {n nw no np : Nat} {o l x y z : Int32} {L : List It}
theorem wh_a (h : o = 0) : (0 : Int32) = b01 (wh7 (L, decide (¬ o = 0), decide (¬ l = 0))) := by
  unfold wh7; rw [decide_eq_false (fun w => w h)]; rfl
theorem wh_b (h : ¬ l = 0) : (0 : Int32) = b01 (wh7 (L, decide (¬ o = 0), decide (¬ l = 0))) := by
  unfold wh7; rw [decide_eq_true h]; simp [b01]
theorem wh_c (h : eo7 L = false) : (0 : Int32) = b01 (wh7 (L, decide (¬ o = 0), decide (¬ l = 0))) := by
  unfold wh7; rw [h]; simp [b01]
theorem wh_d (h1 : ¬ o = 0) (h2 : l = 0) (h3 : eo7 L = true) : (1 : Int32) = b01 (wh7 (L, decide (¬ o = 0), decide (¬ l = 0))) := by
  unfold wh7; rw [decide_eq_true h1, decide_eq_false (fun w => w h2), h3]; rfl
theorem lk_1 (h : ¬ l = 0) : decide (¬ (1 : Int32) = 0) = decide (¬ l = 0) := by rw [decide_eq_true h]; rfl
theorem lk_0 (h : l = 0) : decide (¬ (0 : Int32) = 0) = decide (¬ l = 0) := by subst h; rfl
theorem lk_2 (h : ¬ l = 0) : decide (¬ (1 : Int32) = 0) = (decide (¬ l = 0) || !decide (¬ y = 0)) := by rw [decide_eq_true h]; rfl
theorem lk_3 (h : l = 0) (hd : ¬ y = 0) : decide (¬ (0 : Int32) = 0) = (decide (¬ l = 0) || !decide (¬ y = 0)) := by subst h; rw [decide_eq_true hd]; rfl
theorem lk_4 (h : l = 0) (hd : y = 0) : decide (¬ (1 : Int32) = 0) = (decide (¬ l = 0) || !decide (¬ y = 0)) := by subst h; subst hd; rfl
theorem gs_m (hw : 1 ≤ nw) (ho : 1 ≤ no) (hm : ¬ mp (nw - 1) = -1) : (z3 lv sd mp (nw - 1), z2 (upd fi (no - 1) (mp (nw - 1))) la no, z2 (upd pf np ((upd fi (no - 1) (mp (nw - 1))) (no - 1))) (upd pl np (la (no - 1))) (np + 1)) = gv7 (z3 lv sd mp nw, z2 fi la no, z2 pf pl np) := by
  rw [z2_put, z2_pop (a := upd fi (no - 1) (mp (nw - 1))) ho, upd_eq, z2_cg (a' := fi) (b' := la) (no - 1) (fun j hj => ⟨upd_ne (by omega), rfl⟩), z3_pop hw, z2_pop (a := fi) ho]
  unfold gv7
  show _ = (if mp (nw - 1) = -1 then _ else (z3 lv sd mp (nw - 1), (mp (nw - 1), la (no - 1)) :: z2 fi la (no - 1), (mp (nw - 1), la (no - 1)) :: z2 pf pl np))
  rw [if_neg hm]
theorem gs_b (hw : 1 ≤ nw) (ho : 2 ≤ no) (hm : mp (nw - 1) = -1) : (z3 lv sd mp (nw - 1), z2 fi (upd la (no - 1 - 1) (la (no - 1))) (no - 1), z2 (upd pf np (fi (no - 1 - 1))) (upd pl np ((upd la (no - 1 - 1) (la (no - 1))) (no - 1 - 1))) (np + 1)) = gv7 (z3 lv sd mp nw, z2 fi la no, z2 pf pl np) := by
  rw [z2_put, z2_pop (b := upd la (no - 1 - 1) (la (no - 1))) (n := no - 1) (by omega), upd_eq, z2_cg (a' := fi) (b' := la) (no - 1 - 1) (fun j hj => ⟨rfl, upd_ne (by omega)⟩), z3_pop hw, z2_pop (a := fi) (b := la) (n := no) (by omega), z2_pop (a := fi) (b := la) (n := no - 1) (by omega)]
  unfold gv7
  show _ = (if mp (nw - 1) = -1 then (z3 lv sd mp (nw - 1), (fi (no - 1 - 1), la (no - 1)) :: z2 fi la (no - 1 - 1), (fi (no - 1 - 1), la (no - 1)) :: z2 pf pl np) else _)
  rw [if_pos hm]
theorem gs_1 (hw : 1 ≤ nw) (ho : no = 1) (hm : mp (nw - 1) = -1) : (z3 lv sd mp (nw - 1), z2 fi la no, z2 (upd pf np (fi (no - 1))) (upd pl np (la (no - 1))) (np + 1)) = gv7 (z3 lv sd mp nw, z2 fi la no, z2 pf pl np) := by
  subst ho
  rw [z2_put, z3_pop hw]
  unfold gv7
  show _ = (if mp (nw - 1) = -1 then (z3 lv sd mp (nw - 1), [(fi 0, la 0)], (fi 0, la 0) :: z2 pf pl np) else _)
  rw [if_pos hm]; rfl
theorem pf_u {j : Nat} (h : j < np) : upd pf np x j = pf j ∧ upd pl np y j = pl j := ⟨if_neg (by omega), if_neg (by omega)⟩
theorem mn_0 {O R : List Sp} (h : nw ≤ 0) : mn7 x (z3 lv sd mp nw, O, R) = some (ps7 6 0 x (z3 lv sd mp nw, O, R)) := by
  rw [Nat.le_zero.mp h]; rfl
theorem mn_1 {O R : List Sp} (h : 1 ≤ nw) (q : lv (nw - 1) < 6) : mn7 x (z3 lv sd mp nw, O, R) = some (ps7 6 0 x (z3 lv sd mp nw, O, R)) := by
  rw [z3_pop h]
  unfold mn7
  show (if 6 ≤ lv (nw - 1) then none else some _) = _
  rw [if_neg (Int32.not_le.mpr q)]
theorem mn_2 {O R : List Sp} (h : 1 ≤ nw) (q : ¬ lv (nw - 1) < 6) : mn7 x (z3 lv sd mp nw, O, R) = none := by
  rw [z3_pop h]
  unfold mn7
  show (if 6 ≤ lv (nw - 1) then none else some _) = _
  rw [if_pos (Int32.not_lt.mp q)]
theorem ps_z {O R : List Sp} : (z3 (upd lv nw x) (upd sd nw y) (upd mp nw z) (nw + 1), O, R) = ps7 x y z (z3 lv sd mp nw, O, R) := by
  unfold ps7; rw [z3_put]
theorem tk_more {lv sd : Int32} : ∀ (f g : Nat) (x : Rs), x.1.length ≤ f → x.1.length ≤ g → 1 ≤ x.2.1.length → tk7 lv sd f x = tk7 lv sd g x
  | 0, 0, _, _, _, _ => rfl
  | 0, g + 1, x, h, _, _ => by
    have e : x.1 = [] := List.length_eq_zero_iff.mp (by omega)
    rw [tk7, tk7, e]
  | f + 1, 0, x, _, h, _ => by
    have e : x.1 = [] := List.length_eq_zero_iff.mp (by omega)
    rw [tk7, tk7, e]
  | f + 1, g + 1, x, h1, h2, ho => by
    rw [tk7, tk7]
    have hg := gv_1 ho
    cases hx : x.1 with
    | nil => rfl
    | cons w W =>
      rw [hx, List.length_cons] at h1 h2
      have hl : (gv7 x).1.length = W.length := by rw [hg.2.1, hx]; rfl
      rw [tk_more f g (gv7 x) (by omega) (by omega) hg.1]
theorem tkE_n {l s : Int32} {x : Rs} (h : x.1 = []) : tkE l s x = some (ps7 l s (-1) x) := by
  unfold tkE; rw [h]; rfl
theorem tkE_c {l s : Int32} {x : Rs} {w : Wt} {W : List Wt} (h : x.1 = w :: W) : 1 ≤ x.2.1.length → tkE l s x = if w.1 = l ∧ (¬ w.2.1 = s ∨ s = 2) then none else if w.1 < l ∨ (w.1 = l ∧ ¬ s = 0) then some (ps7 l s (-1) x) else tkE l s (gv7 x) := by
  intro ho
  have hg := gv_1 ho
  have e : tkE l s x = tk7 l s (W.length + 1) x := by
    unfold tkE; rw [h, List.length_cons]
  rw [e, tk7, h]
  show (if w.1 = l ∧ (¬ w.2.1 = s ∨ s = 2) then none else if w.1 < l ∨ (w.1 = l ∧ ¬ s = 0) then some (ps7 l s (-1) x) else tk7 l s W.length (gv7 x)) = _
  have hl : (gv7 x).1.length = W.length := by rw [hg.2.1, h]; rfl
  rw [show tk7 l s W.length (gv7 x) = tkE l s (gv7 x) by unfold tkE; rw [hl]]
end RWD
set_option maxHeartbeats 4000000 in
set_option maxRecDepth 100000 in
theorem s_Row_clear7 (l : Launch) (dC : Nat → ClassId) (dI : Nat → Nat → Nat) (sz : Nat) (a_t : Nat) (a_parts : Nat) (a_firsts : Nat) (a_lasts : Nat) (n_size : Nat) (z_operates : Int32) (z_lacksOperand : Int32) (b_size : n_size ≤ 90) : Met l y_Row_clear w_Row_clear ({ frames := 0, cells := 0, slots := 0, locals := 0 }) (va_Pc [.ref a_t] (fun U => U.heap.size = sz ∧ va_P (dC, dI) vcl [(a_t, .inr (8, [.ref a_parts, .ref a_firsts, .ref a_lasts, .int (nI n_size), .int z_operates, .int z_lacksOperand]))] U.heap ∧ va_K (dC, dI) vcl [] U ∧ va_D (fun _ => True) [(a_t, .inr (8, [.ref a_parts, .ref a_firsts, .ref a_lasts, .int (nI n_size), .int z_operates, .int z_lacksOperand]))])) (va_Qv (fun (_ : Unit) => True) (fun _ t => ∃ (w_n_size : Nat) (w_z_operates : Int32) (w_z_lacksOperand : Int32), (w_n_size ≤ 90) ∧ (w_n_size = 0) ∧ (w_z_operates = 0) ∧ (w_z_lacksOperand = 0) ∧ va_P (dC, dI) vcl [(a_t, .inr (8, [.ref a_parts, .ref a_firsts, .ref a_lasts, .int (nI w_n_size), .int w_z_operates, .int w_z_lacksOperand]))] t.heap ∧ va_K (dC, dI) vcl [] t ∧ va_D (va_A [(a_t, .inr (8, [.ref a_parts, .ref a_firsts, .ref a_lasts, .int (nI n_size), .int z_operates, .int z_lacksOperand]))] sz) [(a_t, .inr (8, [.ref a_parts, .ref a_firsts, .ref a_lasts, .int (nI w_n_size), .int w_z_operates, .int w_z_lacksOperand]))]) (va_A [(a_t, .inr (8, [.ref a_parts, .ref a_firsts, .ref a_lasts, .int (nI n_size), .int z_operates, .int z_lacksOperand]))] sz)) 0 0 (va_A [(a_t, .inr (8, [.ref a_parts, .ref a_firsts, .ref a_lasts, .int (nI n_size), .int z_operates, .int z_lacksOperand]))] sz) := by
  refine Met.ofW (cc := b_Row_clear) (maxL := 1) (ret := none) (by decide) rfl ?_
  intro p e s m args below meth c s₁ B hml hv
  obtain ⟨rfl, hsz, hP, hK, hD0⟩ := hv
  have hx := B.exec
  have hb := B.bytes
  have hr := B.returns
  have hts := atoms_spec (ws := w_Row_clear) B.pre
  have hz : ∀ w ∈ wz, w.before _ s = true := fun w h => hts w (List.mem_cons_of_mem _ h)
  have hown : s.vm.findClass R_Row = some m.cls := findClass_of_methodNamed B.named
  have hlocks := B.notSynchronized
  subst hsz
  have hD := hD0.self (sz := s.heap.size)
  generalize hAe : va_A [(a_t, .inr (8, [.ref a_parts, .ref a_firsts, .ref a_lasts, .int (nI n_size), .int z_operates, .int z_lacksOperand]))] s.heap.size = A at hD ⊢
  have hA : ∀ q : Nat, s.heap.size ≤ q → A q := fun q h => by rw [← hAe]; exact Or.inr h
  have hS : va_S A s.heap s.heap [] := va_S.rf
  have hP : va_P (dC, dI) vcl [(a_t, .inr (8, [.ref a_parts, .ref a_firsts, .ref a_lasts, .int (nI n_size), .int z_operates, .int z_lacksOperand]))] s.heap := hP
  have hl := lv_entry ([.ref a_t]) (n := 1) (Nat.le_of_ble_eq_true rfl)
  rw [lg_entry_eq]
  generalize (lg_sl ([.ref a_t]) ++ List.replicate (1 - (lg_sl ([.ref a_t])).length) Slot.unset).toArray = ls at hl ⊢
  have hl : lv_has ls 1 [(0, .ref a_t)] := hl
  refine lv_aload_n hx hb d_Row_clear_0 rfl (lv_at hl 0 rfl) ?_
  refine lv_iconst (v := 0) hx hb d_Row_clear_1 (by decide) ?_
  refine va_put (D := (dC, dI)) (ci := 8) (v := .int 0) (ty := .int) (C := R_Row) (T := F_Row) (N := 6) hx hb hz zu_Row t_Row t_Row_ok n_Row hown hK hP hD hS 0 rfl rfl 3 (by decide) (hz (.fieldLink R_Row 21 "LayoutFront$Row" "size" "I") zm_312) (fun _ h9 => h9) rfl (by decide +kernel) (by decide +kernel) rfl (Nat.le_of_ble_eq_true rfl) d_Row_clear_2 (fun H locs hP hD hS => ?_)
  have hP : va_P (dC, dI) vcl [(a_t, .inr (8, [.ref a_parts, .ref a_firsts, .ref a_lasts, .int 0, .int z_operates, .int z_lacksOperand]))] H := hP
  have hD : va_D A [(a_t, .inr (8, [.ref a_parts, .ref a_firsts, .ref a_lasts, .int 0, .int z_operates, .int z_lacksOperand]))] := hD
  refine lv_aload_n hx hb d_Row_clear_5 rfl (lv_at hl 0 rfl) ?_
  refine lv_iconst (v := 0) hx hb d_Row_clear_6 (by decide) ?_
  refine va_put (D := (dC, dI)) (ci := 8) (v := .int 0) (ty := .boolean) (C := R_Row) (T := F_Row) (N := 6) hx hb hz zu_Row t_Row t_Row_ok n_Row hown hK hP hD hS 0 rfl rfl 4 (by decide) (hz (.fieldLink R_Row 25 "LayoutFront$Row" "operates" "Z") zm_313) (fun _ h9 => h9) rfl (by decide +kernel) (by decide +kernel) rfl (Nat.le_of_ble_eq_true rfl) d_Row_clear_7 (fun H locs hP hD hS => ?_)
  have hP : va_P (dC, dI) vcl [(a_t, .inr (8, [.ref a_parts, .ref a_firsts, .ref a_lasts, .int 0, .int 0, .int z_lacksOperand]))] H := hP
  have hD : va_D A [(a_t, .inr (8, [.ref a_parts, .ref a_firsts, .ref a_lasts, .int 0, .int 0, .int z_lacksOperand]))] := hD
  refine lv_aload_n hx hb d_Row_clear_10 rfl (lv_at hl 0 rfl) ?_
  refine lv_iconst (v := 0) hx hb d_Row_clear_11 (by decide) ?_
  refine va_put (D := (dC, dI)) (ci := 8) (v := .int 0) (ty := .boolean) (C := R_Row) (T := F_Row) (N := 6) hx hb hz zu_Row t_Row t_Row_ok n_Row hown hK hP hD hS 0 rfl rfl 5 (by decide) (hz (.fieldLink R_Row 29 "LayoutFront$Row" "lacksOperand" "Z") zm_314) (fun _ h9 => h9) rfl (by decide +kernel) (by decide +kernel) rfl (Nat.le_of_ble_eq_true rfl) d_Row_clear_12 (fun H locs hP hD hS => ?_)
  have hP : va_P (dC, dI) vcl [(a_t, .inr (8, [.ref a_parts, .ref a_firsts, .ref a_lasts, .int 0, .int 0, .int 0]))] H := hP
  have hD : va_D A [(a_t, .inr (8, [.ref a_parts, .ref a_firsts, .ref a_lasts, .int 0, .int 0, .int 0]))] := hD
  have hP9 := hP.sub (ws' := [(a_t, .inr (8, [.ref a_parts, .ref a_firsts, .ref a_lasts, .int 0, .int 0, .int 0]))]) [0] rfl
  have hD9 := hD.sub (ws' := [(a_t, .inr (8, [.ref a_parts, .ref a_firsts, .ref a_lasts, .int 0, .int 0, .int 0]))]) [0] (by decide) rfl
  exact W.vret hx hb hr (fun t ht hW => ⟨⟨(), rfl, trivial, 0, 0, 0, by first | rfl | omega, by first | rfl | omega, by first | rfl | omega, by first | rfl | omega, by rw [ht]; exact hP9, va_K.moved hW.alike hK, hD9⟩, hS.F ht⟩) hS.2.2 d_Row_clear_15
set_option maxHeartbeats 4000000 in
set_option maxRecDepth 100000 in
theorem s_Row_add7 (l : Launch) (dC : Nat → ClassId) (dI : Nat → Nat → Nat) (sz : Nat) (a_t : Nat) (a_parts : Nat) (f_parts : Nat → Int32) (a_firsts : Nat) (f_firsts : Nat → Int32) (a_lasts : Nat) (f_lasts : Nat → Int32) (n_size : Nat) (z_operates : Int32) (z_lacksOperand : Int32) (y0 : Int32) (y1 : Int32) (y2 : Int32) (ka_parts : ClassId) (ka_firsts : ClassId) (ka_lasts : ClassId) (b_size : n_size ≤ 90) (hp0 : n_size < 90) : Met l y_Row_add w_Row_add ({ frames := 0, cells := 0, slots := 0, locals := 0 }) (va_Pc [.ref a_t, .int y0, .int y1, .int y2] (fun U => U.heap.size = sz ∧ va_P (dC, dI) vcl [(a_t, .inr (8, [.ref a_parts, .ref a_firsts, .ref a_lasts, .int (nI n_size), .int z_operates, .int z_lacksOperand])), (a_parts, .inl (ka_parts, 90, .inl f_parts)), (a_firsts, .inl (ka_firsts, 90, .inl f_firsts)), (a_lasts, .inl (ka_lasts, 90, .inl f_lasts))] U.heap ∧ va_K (dC, dI) vcl [(ka_parts, .int), (ka_firsts, .int), (ka_lasts, .int)] U ∧ va_D (fun _ => True) [(a_t, .inr (8, [.ref a_parts, .ref a_firsts, .ref a_lasts, .int (nI n_size), .int z_operates, .int z_lacksOperand])), (a_parts, .inl (ka_parts, 90, .inl f_parts)), (a_firsts, .inl (ka_firsts, 90, .inl f_firsts)), (a_lasts, .inl (ka_lasts, 90, .inl f_lasts))])) (va_Qv (fun (_ : Unit) => True) (fun _ t => ∃ (w_n_size : Nat) (w_f_parts : Nat → Int32) (w_f_firsts : Nat → Int32) (w_f_lasts : Nat → Int32), (w_n_size ≤ 90) ∧ (w_n_size = n_size + 1) ∧ (w_f_parts = upd f_parts n_size y0) ∧ (w_f_firsts = upd f_firsts n_size y1) ∧ (w_f_lasts = upd f_lasts n_size y2) ∧ va_P (dC, dI) vcl [(a_t, .inr (8, [.ref a_parts, .ref a_firsts, .ref a_lasts, .int (nI w_n_size), .int z_operates, .int z_lacksOperand])), (a_parts, .inl (ka_parts, 90, .inl w_f_parts)), (a_firsts, .inl (ka_firsts, 90, .inl w_f_firsts)), (a_lasts, .inl (ka_lasts, 90, .inl w_f_lasts))] t.heap ∧ va_K (dC, dI) vcl [(ka_parts, .int), (ka_firsts, .int), (ka_lasts, .int)] t ∧ va_D (va_A [(a_t, .inr (8, [.ref a_parts, .ref a_firsts, .ref a_lasts, .int (nI n_size), .int z_operates, .int z_lacksOperand])), (a_parts, .inl (ka_parts, 90, .inl f_parts)), (a_firsts, .inl (ka_firsts, 90, .inl f_firsts)), (a_lasts, .inl (ka_lasts, 90, .inl f_lasts))] sz) [(a_t, .inr (8, [.ref a_parts, .ref a_firsts, .ref a_lasts, .int (nI w_n_size), .int z_operates, .int z_lacksOperand])), (a_parts, .inl (ka_parts, 90, .inl w_f_parts)), (a_firsts, .inl (ka_firsts, 90, .inl w_f_firsts)), (a_lasts, .inl (ka_lasts, 90, .inl w_f_lasts))]) (va_A [(a_t, .inr (8, [.ref a_parts, .ref a_firsts, .ref a_lasts, .int (nI n_size), .int z_operates, .int z_lacksOperand])), (a_parts, .inl (ka_parts, 90, .inl f_parts)), (a_firsts, .inl (ka_firsts, 90, .inl f_firsts)), (a_lasts, .inl (ka_lasts, 90, .inl f_lasts))] sz)) 0 0 (va_A [(a_t, .inr (8, [.ref a_parts, .ref a_firsts, .ref a_lasts, .int (nI n_size), .int z_operates, .int z_lacksOperand])), (a_parts, .inl (ka_parts, 90, .inl f_parts)), (a_firsts, .inl (ka_firsts, 90, .inl f_firsts)), (a_lasts, .inl (ka_lasts, 90, .inl f_lasts))] sz) := by
  refine Met.ofW (cc := b_Row_add) (maxL := 4) (ret := none) (by decide) rfl ?_
  intro p e s m args below meth c s₁ B hml hv
  obtain ⟨rfl, hsz, hP, hK, hD0⟩ := hv
  have hx := B.exec
  have hb := B.bytes
  have hr := B.returns
  have hts := atoms_spec (ws := w_Row_add) B.pre
  have hz : ∀ w ∈ wz, w.before _ s = true := fun w h => hts w (List.mem_cons_of_mem _ h)
  have hown : s.vm.findClass R_Row = some m.cls := findClass_of_methodNamed B.named
  have hlocks := B.notSynchronized
  subst hsz
  have hD := hD0.self (sz := s.heap.size)
  generalize hAe : va_A [(a_t, .inr (8, [.ref a_parts, .ref a_firsts, .ref a_lasts, .int (nI n_size), .int z_operates, .int z_lacksOperand])), (a_parts, .inl (ka_parts, 90, .inl f_parts)), (a_firsts, .inl (ka_firsts, 90, .inl f_firsts)), (a_lasts, .inl (ka_lasts, 90, .inl f_lasts))] s.heap.size = A at hD ⊢
  have hA : ∀ q : Nat, s.heap.size ≤ q → A q := fun q h => by rw [← hAe]; exact Or.inr h
  have hS : va_S A s.heap s.heap [] := va_S.rf
  have hP : va_P (dC, dI) vcl [(a_t, .inr (8, [.ref a_parts, .ref a_firsts, .ref a_lasts, .int (nI n_size), .int z_operates, .int z_lacksOperand])), (a_parts, .inl (ka_parts, 90, .inl f_parts)), (a_firsts, .inl (ka_firsts, 90, .inl f_firsts)), (a_lasts, .inl (ka_lasts, 90, .inl f_lasts))] s.heap := hP
  have hl := lv_entry ([.ref a_t, .int y0, .int y1, .int y2]) (n := 4) (Nat.le_of_ble_eq_true rfl)
  rw [lg_entry_eq]
  generalize (lg_sl ([.ref a_t, .int y0, .int y1, .int y2]) ++ List.replicate (4 - (lg_sl ([.ref a_t, .int y0, .int y1, .int y2])).length) Slot.unset).toArray = ls at hl ⊢
  have hl : lv_has ls 4 [(0, .ref a_t), (1, .int y0), (2, .int y1), (3, .int y2)] := hl
  refine lv_aload_n hx hb d_Row_add_0 rfl (lv_at hl 0 rfl) ?_
  refine va_get (D := (dC, dI)) (ci := 8) (v := .int (nI n_size)) (C := R_Row) (T := F_Row) (N := 6) hx hb hz zu_Row hown hK hP 0 rfl rfl 3 (by decide) (hz (.fieldLink R_Row 21 "LayoutFront$Row" "size" "I") zm_312) (fun _ h9 => h9) rfl d_Row_add_1 ?_
  refine lv_bipush (v := 90) hx hb d_Row_add_4 (by decide) ?_
  refine lv_icmp_ge (tgt := 49) hx hb d_Row_add_6 (by decide) (fun h1 => ?_) (fun h1 => ?_)
  · have h1 : 90 ≤ n_size := (nI_leI (a := 90) (b := n_size) (by omega) (by omega)).mp h1
    (exfalso; omega)
  · have h1 : ¬ 90 ≤ n_size := fun q => h1 ((nI_leI (a := 90) (b := n_size) (by omega) (by omega)).mpr q)
    refine lv_aload_n hx hb d_Row_add_9 rfl (lv_at hl 0 rfl) ?_
    refine va_get (D := (dC, dI)) (ci := 8) (v := .ref a_parts) (C := R_Row) (T := F_Row) (N := 6) hx hb hz zu_Row hown hK hP 0 rfl rfl 0 (by decide) (hz (.fieldLink R_Row 9 "LayoutFront$Row" "parts" "[I") zm_308) (fun _ h9 => h9) rfl d_Row_add_10 ?_
    refine lv_aload_n hx hb d_Row_add_13 rfl (lv_at hl 0 rfl) ?_
    refine va_get (D := (dC, dI)) (ci := 8) (v := .int (nI n_size)) (C := R_Row) (T := F_Row) (N := 6) hx hb hz zu_Row hown hK hP 0 rfl rfl 3 (by decide) (hz (.fieldLink R_Row 21 "LayoutFront$Row" "size" "I") zm_312) (fun _ h9 => h9) rfl d_Row_add_14 ?_
    refine lv_iload_n hx hb d_Row_add_17 rfl (lv_at hl 1 rfl) ?_
    refine va_iast hx hb hK hP hD hS 1 0 rfl rfl (vp_in_nI (by omega) (by omega)) d_Row_add_18 (fun H locs hP hD hS => ?_)
    rw [show ((nI n_size) : Int32).toNatClampNeg = n_size from nI_clamp (by omega)] at hP hD
    have hP : va_P (dC, dI) vcl [(a_t, .inr (8, [.ref a_parts, .ref a_firsts, .ref a_lasts, .int (nI n_size), .int z_operates, .int z_lacksOperand])), (a_parts, .inl (ka_parts, 90, .inl (upd f_parts n_size y0))), (a_firsts, .inl (ka_firsts, 90, .inl f_firsts)), (a_lasts, .inl (ka_lasts, 90, .inl f_lasts))] H := hP
    have hD : va_D A [(a_t, .inr (8, [.ref a_parts, .ref a_firsts, .ref a_lasts, .int (nI n_size), .int z_operates, .int z_lacksOperand])), (a_parts, .inl (ka_parts, 90, .inl (upd f_parts n_size y0))), (a_firsts, .inl (ka_firsts, 90, .inl f_firsts)), (a_lasts, .inl (ka_lasts, 90, .inl f_lasts))] := hD
    refine lv_aload_n hx hb d_Row_add_19 rfl (lv_at hl 0 rfl) ?_
    refine va_get (D := (dC, dI)) (ci := 8) (v := .ref a_firsts) (C := R_Row) (T := F_Row) (N := 6) hx hb hz zu_Row hown hK hP 0 rfl rfl 1 (by decide) (hz (.fieldLink R_Row 15 "LayoutFront$Row" "firsts" "[I") zm_309) (fun _ h9 => h9) rfl d_Row_add_20 ?_
    refine lv_aload_n hx hb d_Row_add_23 rfl (lv_at hl 0 rfl) ?_
    refine va_get (D := (dC, dI)) (ci := 8) (v := .int (nI n_size)) (C := R_Row) (T := F_Row) (N := 6) hx hb hz zu_Row hown hK hP 0 rfl rfl 3 (by decide) (hz (.fieldLink R_Row 21 "LayoutFront$Row" "size" "I") zm_312) (fun _ h9 => h9) rfl d_Row_add_24 ?_
    refine lv_iload_n hx hb d_Row_add_27 rfl (lv_at hl 2 rfl) ?_
    refine va_iast hx hb hK hP hD hS 2 1 rfl rfl (vp_in_nI (by omega) (by omega)) d_Row_add_28 (fun H locs hP hD hS => ?_)
    rw [show ((nI n_size) : Int32).toNatClampNeg = n_size from nI_clamp (by omega)] at hP hD
    have hP : va_P (dC, dI) vcl [(a_t, .inr (8, [.ref a_parts, .ref a_firsts, .ref a_lasts, .int (nI n_size), .int z_operates, .int z_lacksOperand])), (a_parts, .inl (ka_parts, 90, .inl (upd f_parts n_size y0))), (a_firsts, .inl (ka_firsts, 90, .inl (upd f_firsts n_size y1))), (a_lasts, .inl (ka_lasts, 90, .inl f_lasts))] H := hP
    have hD : va_D A [(a_t, .inr (8, [.ref a_parts, .ref a_firsts, .ref a_lasts, .int (nI n_size), .int z_operates, .int z_lacksOperand])), (a_parts, .inl (ka_parts, 90, .inl (upd f_parts n_size y0))), (a_firsts, .inl (ka_firsts, 90, .inl (upd f_firsts n_size y1))), (a_lasts, .inl (ka_lasts, 90, .inl f_lasts))] := hD
    refine lv_aload_n hx hb d_Row_add_29 rfl (lv_at hl 0 rfl) ?_
    refine va_get (D := (dC, dI)) (ci := 8) (v := .ref a_lasts) (C := R_Row) (T := F_Row) (N := 6) hx hb hz zu_Row hown hK hP 0 rfl rfl 2 (by decide) (hz (.fieldLink R_Row 18 "LayoutFront$Row" "lasts" "[I") zm_310) (fun _ h9 => h9) rfl d_Row_add_30 ?_
    refine lv_aload_n hx hb d_Row_add_33 rfl (lv_at hl 0 rfl) ?_
    refine va_get (D := (dC, dI)) (ci := 8) (v := .int (nI n_size)) (C := R_Row) (T := F_Row) (N := 6) hx hb hz zu_Row hown hK hP 0 rfl rfl 3 (by decide) (hz (.fieldLink R_Row 21 "LayoutFront$Row" "size" "I") zm_312) (fun _ h9 => h9) rfl d_Row_add_34 ?_
    refine lv_iload_n hx hb d_Row_add_37 rfl (lv_at hl 3 rfl) ?_
    refine va_iast hx hb hK hP hD hS 3 2 rfl rfl (vp_in_nI (by omega) (by omega)) d_Row_add_38 (fun H locs hP hD hS => ?_)
    rw [show ((nI n_size) : Int32).toNatClampNeg = n_size from nI_clamp (by omega)] at hP hD
    have hP : va_P (dC, dI) vcl [(a_t, .inr (8, [.ref a_parts, .ref a_firsts, .ref a_lasts, .int (nI n_size), .int z_operates, .int z_lacksOperand])), (a_parts, .inl (ka_parts, 90, .inl (upd f_parts n_size y0))), (a_firsts, .inl (ka_firsts, 90, .inl (upd f_firsts n_size y1))), (a_lasts, .inl (ka_lasts, 90, .inl (upd f_lasts n_size y2)))] H := hP
    have hD : va_D A [(a_t, .inr (8, [.ref a_parts, .ref a_firsts, .ref a_lasts, .int (nI n_size), .int z_operates, .int z_lacksOperand])), (a_parts, .inl (ka_parts, 90, .inl (upd f_parts n_size y0))), (a_firsts, .inl (ka_firsts, 90, .inl (upd f_firsts n_size y1))), (a_lasts, .inl (ka_lasts, 90, .inl (upd f_lasts n_size y2)))] := hD
    refine lv_aload_n hx hb d_Row_add_39 rfl (lv_at hl 0 rfl) ?_
    refine lv_dup hx hb d_Row_add_40 rfl ?_
    refine va_get (D := (dC, dI)) (ci := 8) (v := .int (nI n_size)) (C := R_Row) (T := F_Row) (N := 6) hx hb hz zu_Row hown hK hP 0 rfl rfl 3 (by decide) (hz (.fieldLink R_Row 21 "LayoutFront$Row" "size" "I") zm_312) (fun _ h9 => h9) rfl d_Row_add_41 ?_
    refine lv_iconst (v := 1) hx hb d_Row_add_44 (by decide) ?_
    refine xr_iadd (v := (nI (n_size + 1))) hx hb d_Row_add_45 (nI_add n_size 1) ?_
    refine va_put (D := (dC, dI)) (ci := 8) (v := .int (nI (n_size + 1))) (ty := .int) (C := R_Row) (T := F_Row) (N := 6) hx hb hz zu_Row t_Row t_Row_ok n_Row hown hK hP hD hS 0 rfl rfl 3 (by decide) (hz (.fieldLink R_Row 21 "LayoutFront$Row" "size" "I") zm_312) (fun _ h9 => h9) rfl (by decide +kernel) rfl rfl (Nat.le_of_ble_eq_true rfl) d_Row_add_46 (fun H locs hP hD hS => ?_)
    have hP : va_P (dC, dI) vcl [(a_t, .inr (8, [.ref a_parts, .ref a_firsts, .ref a_lasts, .int (nI (n_size + 1)), .int z_operates, .int z_lacksOperand])), (a_parts, .inl (ka_parts, 90, .inl (upd f_parts n_size y0))), (a_firsts, .inl (ka_firsts, 90, .inl (upd f_firsts n_size y1))), (a_lasts, .inl (ka_lasts, 90, .inl (upd f_lasts n_size y2)))] H := hP
    have hD : va_D A [(a_t, .inr (8, [.ref a_parts, .ref a_firsts, .ref a_lasts, .int (nI (n_size + 1)), .int z_operates, .int z_lacksOperand])), (a_parts, .inl (ka_parts, 90, .inl (upd f_parts n_size y0))), (a_firsts, .inl (ka_firsts, 90, .inl (upd f_firsts n_size y1))), (a_lasts, .inl (ka_lasts, 90, .inl (upd f_lasts n_size y2)))] := hD
    have hP9 := hP.sub (ws' := [(a_t, .inr (8, [.ref a_parts, .ref a_firsts, .ref a_lasts, .int (nI (n_size + 1)), .int z_operates, .int z_lacksOperand])), (a_parts, .inl (ka_parts, 90, .inl (upd f_parts n_size y0))), (a_firsts, .inl (ka_firsts, 90, .inl (upd f_firsts n_size y1))), (a_lasts, .inl (ka_lasts, 90, .inl (upd f_lasts n_size y2)))]) [0, 1, 2, 3] rfl
    have hD9 := hD.sub (ws' := [(a_t, .inr (8, [.ref a_parts, .ref a_firsts, .ref a_lasts, .int (nI (n_size + 1)), .int z_operates, .int z_lacksOperand])), (a_parts, .inl (ka_parts, 90, .inl (upd f_parts n_size y0))), (a_firsts, .inl (ka_firsts, 90, .inl (upd f_firsts n_size y1))), (a_lasts, .inl (ka_lasts, 90, .inl (upd f_lasts n_size y2)))]) [0, 1, 2, 3] (by decide) rfl
    exact W.vret hx hb hr (fun t ht hW => ⟨⟨(), rfl, trivial, ((n_size + 1)), ((upd f_parts n_size y0)), ((upd f_firsts n_size y1)), ((upd f_lasts n_size y2)), by first | rfl | omega, by first | rfl | omega, by first | rfl | omega, by first | rfl | omega, by first | rfl | omega, by rw [ht]; exact hP9, va_K.moved hW.alike hK, hD9⟩, hS.F ht⟩) hS.2.2 d_Row_add_49
set_option maxHeartbeats 4000000 in
set_option maxRecDepth 100000 in
theorem s_Row_endsWithOperand7 (l : Launch) (dC : Nat → ClassId) (dI : Nat → Nat → Nat) (sz : Nat) (a_t : Nat) (a_parts : Nat) (f_parts : Nat → Int32) (a_firsts : Nat) (f_firsts : Nat → Int32) (a_lasts : Nat) (f_lasts : Nat → Int32) (n_size : Nat) (z_operates : Int32) (z_lacksOperand : Int32) (ka_parts : ClassId) (b_size : n_size ≤ 90) : Met l y_Row_endsWithOperand w_Row_endsWithOperand ({ frames := 0, cells := 0, slots := 0, locals := 0 }) (va_Pc [.ref a_t] (fun U => U.heap.size = sz ∧ va_P (dC, dI) vcl [(a_t, .inr (8, [.ref a_parts, .ref a_firsts, .ref a_lasts, .int (nI n_size), .int z_operates, .int z_lacksOperand])), (a_parts, .inl (ka_parts, 90, .inl f_parts))] U.heap ∧ va_K (dC, dI) vcl [(ka_parts, .int)] U ∧ va_D (fun _ => True) [(a_t, .inr (8, [.ref a_parts, .ref a_firsts, .ref a_lasts, .int (nI n_size), .int z_operates, .int z_lacksOperand])), (a_parts, .inl (ka_parts, 90, .inl f_parts))])) (va_Qi (fun (r : Int32) (_ : Unit) => (r = 0 ∨ r = 1) ∧ (r = b01 (eo7 (z3 f_firsts f_lasts f_parts n_size)))) (fun _ t => va_P (dC, dI) vcl [(a_t, .inr (8, [.ref a_parts, .ref a_firsts, .ref a_lasts, .int (nI n_size), .int z_operates, .int z_lacksOperand])), (a_parts, .inl (ka_parts, 90, .inl f_parts))] t.heap ∧ va_K (dC, dI) vcl [(ka_parts, .int)] t ∧ va_D (va_A [(a_t, .inr (8, [.ref a_parts, .ref a_firsts, .ref a_lasts, .int (nI n_size), .int z_operates, .int z_lacksOperand])), (a_parts, .inl (ka_parts, 90, .inl f_parts))] sz) [(a_t, .inr (8, [.ref a_parts, .ref a_firsts, .ref a_lasts, .int (nI n_size), .int z_operates, .int z_lacksOperand])), (a_parts, .inl (ka_parts, 90, .inl f_parts))]) (va_A [(a_t, .inr (8, [.ref a_parts, .ref a_firsts, .ref a_lasts, .int (nI n_size), .int z_operates, .int z_lacksOperand])), (a_parts, .inl (ka_parts, 90, .inl f_parts))] sz)) 0 0 (va_A [(a_t, .inr (8, [.ref a_parts, .ref a_firsts, .ref a_lasts, .int (nI n_size), .int z_operates, .int z_lacksOperand])), (a_parts, .inl (ka_parts, 90, .inl f_parts))] sz) := by
  refine Met.ofW (cc := b_Row_endsWithOperand) (maxL := 1) (ret := (some .boolean)) (by decide) rfl ?_
  intro p e s m args below meth c s₁ B hml hv
  obtain ⟨rfl, hsz, hP, hK, hD0⟩ := hv
  have hx := B.exec
  have hb := B.bytes
  have hr := B.returns
  have hts := atoms_spec (ws := w_Row_endsWithOperand) B.pre
  have hz : ∀ w ∈ wz, w.before _ s = true := fun w h => hts w (List.mem_cons_of_mem _ h)
  have hown : s.vm.findClass R_Row = some m.cls := findClass_of_methodNamed B.named
  have hlocks := B.notSynchronized
  subst hsz
  have hD := hD0.self (sz := s.heap.size)
  generalize hAe : va_A [(a_t, .inr (8, [.ref a_parts, .ref a_firsts, .ref a_lasts, .int (nI n_size), .int z_operates, .int z_lacksOperand])), (a_parts, .inl (ka_parts, 90, .inl f_parts))] s.heap.size = A at hD ⊢
  have hA : ∀ q : Nat, s.heap.size ≤ q → A q := fun q h => by rw [← hAe]; exact Or.inr h
  have hS : va_S A s.heap s.heap [] := va_S.rf
  have hP : va_P (dC, dI) vcl [(a_t, .inr (8, [.ref a_parts, .ref a_firsts, .ref a_lasts, .int (nI n_size), .int z_operates, .int z_lacksOperand])), (a_parts, .inl (ka_parts, 90, .inl f_parts))] s.heap := hP
  have hl := lv_entry ([.ref a_t]) (n := 1) (Nat.le_of_ble_eq_true rfl)
  rw [lg_entry_eq]
  generalize (lg_sl ([.ref a_t]) ++ List.replicate (1 - (lg_sl ([.ref a_t])).length) Slot.unset).toArray = ls at hl ⊢
  have hl : lv_has ls 1 [(0, .ref a_t)] := hl
  refine lv_aload_n hx hb d_Row_endsWithOperand_0 rfl (lv_at hl 0 rfl) ?_
  refine va_get (D := (dC, dI)) (ci := 8) (v := .int (nI n_size)) (C := R_Row) (T := F_Row) (N := 6) hx hb hz zu_Row hown hK hP 0 rfl rfl 3 (by decide) (hz (.fieldLink R_Row 21 "LayoutFront$Row" "size" "I") zm_312) (fun _ h9 => h9) rfl d_Row_endsWithOperand_1 ?_
  refine lv_if_le (tgt := 25) hx hb d_Row_endsWithOperand_4 (by decide) (fun h1 => ?_) (fun h1 => ?_)
  · have h1 : n_size ≤ 0 := (nI_leI (a := n_size) (b := 0) (by omega) (by omega)).mp h1
    refine lv_iconst (v := 0) hx hb d_Row_endsWithOperand_25 (by decide) ?_
    have hP9 := hP.sub (ws' := [(a_t, .inr (8, [.ref a_parts, .ref a_firsts, .ref a_lasts, .int (nI n_size), .int z_operates, .int z_lacksOperand])), (a_parts, .inl (ka_parts, 90, .inl f_parts))]) [0, 1] rfl
    have hD9 := hD.sub (ws' := [(a_t, .inr (8, [.ref a_parts, .ref a_firsts, .ref a_lasts, .int (nI n_size), .int z_operates, .int z_lacksOperand])), (a_parts, .inl (ka_parts, 90, .inl f_parts))]) [0, 1] (by decide) rfl
    exact W.zret (v := 0) hx hb hr (by decide +kernel) (fun t ht hW => ⟨⟨0, (), rfl, ⟨(by first | assumption | exact Or.inl rfl | exact Or.inr rfl), (by exact eo_0 (by omega))⟩, by rw [ht]; exact hP9, va_K.moved hW.alike hK, hD9⟩, hS.F ht⟩) hS.2.2 d_Row_endsWithOperand_26
  · have h1 : ¬ n_size ≤ 0 := fun q => h1 ((nI_leI (a := n_size) (b := 0) (by omega) (by omega)).mpr q)
    refine lv_aload_n hx hb d_Row_endsWithOperand_7 rfl (lv_at hl 0 rfl) ?_
    refine va_get (D := (dC, dI)) (ci := 8) (v := .ref a_parts) (C := R_Row) (T := F_Row) (N := 6) hx hb hz zu_Row hown hK hP 0 rfl rfl 0 (by decide) (hz (.fieldLink R_Row 9 "LayoutFront$Row" "parts" "[I") zm_308) (fun _ h9 => h9) rfl d_Row_endsWithOperand_8 ?_
    refine lv_aload_n hx hb d_Row_endsWithOperand_11 rfl (lv_at hl 0 rfl) ?_
    refine va_get (D := (dC, dI)) (ci := 8) (v := .int (nI n_size)) (C := R_Row) (T := F_Row) (N := 6) hx hb hz zu_Row hown hK hP 0 rfl rfl 3 (by decide) (hz (.fieldLink R_Row 21 "LayoutFront$Row" "size" "I") zm_312) (fun _ h9 => h9) rfl d_Row_endsWithOperand_12 ?_
    refine lv_iconst (v := 1) hx hb d_Row_endsWithOperand_15 (by decide) ?_
    refine xr_isub (v := (nI (n_size - 1))) hx hb d_Row_endsWithOperand_16 (pk_sub (a := n_size) (b := 1) (by omega)) ?_
    refine xr_iald (v := (f_parts (n_size - 1))) hx hb hK hP 1 0 rfl rfl (vp_in_nI (by omega) (by omega)) (congrArg f_parts (nI_clamp (by omega))) d_Row_endsWithOperand_17 ?_
    refine lv_if_ne (tgt := 25) hx hb d_Row_endsWithOperand_18 (by decide) (fun h3 => ?_) (fun h3 => ?_)
    · have e18 := h3
      refine lv_iconst (v := 0) hx hb d_Row_endsWithOperand_25 (by decide) ?_
      have hP9 := hP.sub (ws' := [(a_t, .inr (8, [.ref a_parts, .ref a_firsts, .ref a_lasts, .int (nI n_size), .int z_operates, .int z_lacksOperand])), (a_parts, .inl (ka_parts, 90, .inl f_parts))]) [0, 1] rfl
      have hD9 := hD.sub (ws' := [(a_t, .inr (8, [.ref a_parts, .ref a_firsts, .ref a_lasts, .int (nI n_size), .int z_operates, .int z_lacksOperand])), (a_parts, .inl (ka_parts, 90, .inl f_parts))]) [0, 1] (by decide) rfl
      exact W.zret (v := 0) hx hb hr (by decide +kernel) (fun t ht hW => ⟨⟨0, (), rfl, ⟨(by first | assumption | exact Or.inl rfl | exact Or.inr rfl), (by exact eo_2 (by omega) e18)⟩, by rw [ht]; exact hP9, va_K.moved hW.alike hK, hD9⟩, hS.F ht⟩) hS.2.2 d_Row_endsWithOperand_26
    · have e18 := h3
      refine lv_iconst (v := 1) hx hb d_Row_endsWithOperand_21 (by decide) ?_
      refine lv_goto (tgt := 26) hx hb d_Row_endsWithOperand_22 (by decide) ?_
      have hP9 := hP.sub (ws' := [(a_t, .inr (8, [.ref a_parts, .ref a_firsts, .ref a_lasts, .int (nI n_size), .int z_operates, .int z_lacksOperand])), (a_parts, .inl (ka_parts, 90, .inl f_parts))]) [0, 1] rfl
      have hD9 := hD.sub (ws' := [(a_t, .inr (8, [.ref a_parts, .ref a_firsts, .ref a_lasts, .int (nI n_size), .int z_operates, .int z_lacksOperand])), (a_parts, .inl (ka_parts, 90, .inl f_parts))]) [0, 1] (by decide) rfl
      exact W.zret (v := 1) hx hb hr (by decide +kernel) (fun t ht hW => ⟨⟨1, (), rfl, ⟨(by first | assumption | exact Or.inl rfl | exact Or.inr rfl), (by exact eo_1 (by omega) e18)⟩, by rw [ht]; exact hP9, va_K.moved hW.alike hK, hD9⟩, hS.F ht⟩) hS.2.2 d_Row_endsWithOperand_26
set_option maxHeartbeats 4000000 in
set_option maxRecDepth 100000 in
theorem s_Row_addOperand7 (l : Launch) (dC : Nat → ClassId) (dI : Nat → Nat → Nat) (sz : Nat) (a_t : Nat) (a_parts : Nat) (f_parts : Nat → Int32) (a_firsts : Nat) (f_firsts : Nat → Int32) (a_lasts : Nat) (f_lasts : Nat → Int32) (n_size : Nat) (z_operates : Int32) (z_lacksOperand : Int32) (y0 : Int32) (y1 : Int32) (ka_parts : ClassId) (ka_firsts : ClassId) (ka_lasts : ClassId) (b_size : n_size ≤ 90) (hp0 : n_size < 90) : Met l y_Row_addOperand w_Row_addOperand ({ frames := 1, cells := 0, slots := 0, locals := 23 }) (va_Pc [.ref a_t, .int y0, .int y1] (fun U => U.heap.size = sz ∧ va_P (dC, dI) vcl [(a_t, .inr (8, [.ref a_parts, .ref a_firsts, .ref a_lasts, .int (nI n_size), .int z_operates, .int z_lacksOperand])), (a_parts, .inl (ka_parts, 90, .inl f_parts)), (a_firsts, .inl (ka_firsts, 90, .inl f_firsts)), (a_lasts, .inl (ka_lasts, 90, .inl f_lasts))] U.heap ∧ va_K (dC, dI) vcl [(ka_parts, .int), (ka_firsts, .int), (ka_lasts, .int)] U ∧ va_D (fun _ => True) [(a_t, .inr (8, [.ref a_parts, .ref a_firsts, .ref a_lasts, .int (nI n_size), .int z_operates, .int z_lacksOperand])), (a_parts, .inl (ka_parts, 90, .inl f_parts)), (a_firsts, .inl (ka_firsts, 90, .inl f_firsts)), (a_lasts, .inl (ka_lasts, 90, .inl f_lasts))])) (va_Qv (fun (_ : Unit) => True) (fun _ t => ∃ (w_n_size : Nat) (w_f_parts : Nat → Int32) (w_f_firsts : Nat → Int32) (w_f_lasts : Nat → Int32), (w_n_size ≤ 90) ∧ ((z3 w_f_firsts w_f_lasts w_f_parts w_n_size, decide (¬ z_operates = 0), decide (¬ z_lacksOperand = 0)) = rbA y0 y1 (z3 f_firsts f_lasts f_parts n_size, decide (¬ z_operates = 0), decide (¬ z_lacksOperand = 0))) ∧ va_P (dC, dI) vcl [(a_t, .inr (8, [.ref a_parts, .ref a_firsts, .ref a_lasts, .int (nI w_n_size), .int z_operates, .int z_lacksOperand])), (a_parts, .inl (ka_parts, 90, .inl w_f_parts)), (a_firsts, .inl (ka_firsts, 90, .inl w_f_firsts)), (a_lasts, .inl (ka_lasts, 90, .inl w_f_lasts))] t.heap ∧ va_K (dC, dI) vcl [(ka_parts, .int), (ka_firsts, .int), (ka_lasts, .int)] t ∧ va_D (va_A [(a_t, .inr (8, [.ref a_parts, .ref a_firsts, .ref a_lasts, .int (nI n_size), .int z_operates, .int z_lacksOperand])), (a_parts, .inl (ka_parts, 90, .inl f_parts)), (a_firsts, .inl (ka_firsts, 90, .inl f_firsts)), (a_lasts, .inl (ka_lasts, 90, .inl f_lasts))] sz) [(a_t, .inr (8, [.ref a_parts, .ref a_firsts, .ref a_lasts, .int (nI w_n_size), .int z_operates, .int z_lacksOperand])), (a_parts, .inl (ka_parts, 90, .inl w_f_parts)), (a_firsts, .inl (ka_firsts, 90, .inl w_f_firsts)), (a_lasts, .inl (ka_lasts, 90, .inl w_f_lasts))]) (va_A [(a_t, .inr (8, [.ref a_parts, .ref a_firsts, .ref a_lasts, .int (nI n_size), .int z_operates, .int z_lacksOperand])), (a_parts, .inl (ka_parts, 90, .inl f_parts)), (a_firsts, .inl (ka_firsts, 90, .inl f_firsts)), (a_lasts, .inl (ka_lasts, 90, .inl f_lasts))] sz)) 0 0 (va_A [(a_t, .inr (8, [.ref a_parts, .ref a_firsts, .ref a_lasts, .int (nI n_size), .int z_operates, .int z_lacksOperand])), (a_parts, .inl (ka_parts, 90, .inl f_parts)), (a_firsts, .inl (ka_firsts, 90, .inl f_firsts)), (a_lasts, .inl (ka_lasts, 90, .inl f_lasts))] sz) := by
  refine Met.ofW (cc := b_Row_addOperand) (maxL := 3) (ret := none) (by decide) rfl ?_
  intro p e s m args below meth c s₁ B hml hv
  obtain ⟨rfl, hsz, hP, hK, hD0⟩ := hv
  have hx := B.exec
  have hb := B.bytes
  have hr := B.returns
  have hts := atoms_spec (ws := w_Row_addOperand) B.pre
  have hz : ∀ w ∈ wz, w.before _ s = true := fun w h => hts w (List.mem_cons_of_mem _ h)
  have hown : s.vm.findClass R_Row = some m.cls := findClass_of_methodNamed B.named
  have hlocks := B.notSynchronized
  subst hsz
  have hD := hD0.self (sz := s.heap.size)
  generalize hAe : va_A [(a_t, .inr (8, [.ref a_parts, .ref a_firsts, .ref a_lasts, .int (nI n_size), .int z_operates, .int z_lacksOperand])), (a_parts, .inl (ka_parts, 90, .inl f_parts)), (a_firsts, .inl (ka_firsts, 90, .inl f_firsts)), (a_lasts, .inl (ka_lasts, 90, .inl f_lasts))] s.heap.size = A at hD ⊢
  have hA : ∀ q : Nat, s.heap.size ≤ q → A q := fun q h => by rw [← hAe]; exact Or.inr h
  have hS : va_S A s.heap s.heap [] := va_S.rf
  have hP : va_P (dC, dI) vcl [(a_t, .inr (8, [.ref a_parts, .ref a_firsts, .ref a_lasts, .int (nI n_size), .int z_operates, .int z_lacksOperand])), (a_parts, .inl (ka_parts, 90, .inl f_parts)), (a_firsts, .inl (ka_firsts, 90, .inl f_firsts)), (a_lasts, .inl (ka_lasts, 90, .inl f_lasts))] s.heap := hP
  have hl := lv_entry ([.ref a_t, .int y0, .int y1]) (n := 3) (Nat.le_of_ble_eq_true rfl)
  rw [lg_entry_eq]
  generalize (lg_sl ([.ref a_t, .int y0, .int y1]) ++ List.replicate (3 - (lg_sl ([.ref a_t, .int y0, .int y1])).length) Slot.unset).toArray = ls at hl ⊢
  have hl : lv_has ls 3 [(0, .ref a_t), (1, .int y0), (2, .int y1)] := hl
  refine lv_aload_n hx hb d_Row_addOperand_0 rfl (lv_at hl 0 rfl) ?_
  have hPc := hP.sub (ws' := [(a_t, .inr (8, [.ref a_parts, .ref a_firsts, .ref a_lasts, .int (nI n_size), .int z_operates, .int z_lacksOperand])), (a_parts, .inl (ka_parts, 90, .inl f_parts))]) [0, 1] rfl
  have hDc := hD.sub (ws' := [(a_t, .inr (8, [.ref a_parts, .ref a_firsts, .ref a_lasts, .int (nI n_size), .int z_operates, .int z_lacksOperand])), (a_parts, .inl (ka_parts, 90, .inl f_parts))]) [0, 1] (by decide) rfl
  have hKc := hK.sub (tys' := [(ka_parts, .int)]) [0] rfl
  have hFc := va_free (wc := [(a_t, .inr (8, [.ref a_parts, .ref a_firsts, .ref a_lasts, .int (nI n_size), .int z_operates, .int z_lacksOperand])), (a_parts, .inl (ka_parts, 90, .inl f_parts))]) hD hS hA [0, 1] rfl
  refine va_calli (va_runV (As := []) (rest := []) ⟨hx, hb, hml, hown, hz⟩ (s_Row_endsWithOperand7 l dC dI s.heap.size a_t a_parts f_parts a_firsts f_firsts a_lasts f_lasts n_size z_operates z_lacksOperand ka_parts (by first | omega | assumption | exact Or.inl rfl | exact Or.inr rfl | decide)) (cwV 0 hz (zV zm_315 zm_316 zm_317 zm_318 zm_319) rfl rfl rfl (by decide +kernel) ⟨Nat.le_of_ble_eq_true rfl, Nat.le_of_ble_eq_true rfl⟩) ⟨fun a U g mk q => by obtain ⟨q0, q1, qP, qK, qD⟩ := q; exact ⟨q0, q1, qP, va_K.moved (u := U) (U := U.calling g mk a) (Vm.Alike.refl U.vm) qK, qD⟩, va_recv (q := (R_Row, F_Row, 6)) (q0 := 0) (ci := 8) hK hP rfl rfl, fun U hU hW => ⟨rfl, by rw [hU], by rw [hU]; exact hPc, va_K.moved hW.alike hKc, hDc.weaken (fun _ _ _ _ => trivial)⟩⟩ rfl rfl hl.1 rfl (lv_room (Nat.le_of_ble_eq_true rfl)) d_Row_addOperand_1 ⟨Nat.zero_le _, Nat.zero_le _⟩) hS (fun q _ h => hFc q h) hFc (fun r u t H1 locs ht hvm hw_r hB hz1 hk1 hS => ?_)
  obtain ⟨hP1, hK1, hD1⟩ := hB
  obtain ⟨hb_r, he_r⟩ := hw_r
  subst r
  rw [ht] at hP1
  obtain ⟨hP, hD⟩ := va_join (wr := [(a_firsts, .inl (ka_firsts, 90, .inl f_firsts)), (a_lasts, .inl (ka_lasts, 90, .inl f_lasts))]) (w1 := [(a_t, .inr (8, [.ref a_parts, .ref a_firsts, .ref a_lasts, .int (nI n_size), .int z_operates, .int z_lacksOperand])), (a_parts, .inl (ka_parts, 90, .inl f_parts))]) hP hD [0, 1] [2, 3] rfl rfl (by decide) (by decide) hk1 hFc hP1 hD1
  generalize H1 = H at hP hS ⊢
  have hP : va_P (dC, dI) vcl [(a_firsts, .inl (ka_firsts, 90, .inl f_firsts)), (a_lasts, .inl (ka_lasts, 90, .inl f_lasts)), (a_t, .inr (8, [.ref a_parts, .ref a_firsts, .ref a_lasts, .int (nI n_size), .int z_operates, .int z_lacksOperand])), (a_parts, .inl (ka_parts, 90, .inl f_parts))] H := hP
  have hD : va_D A [(a_firsts, .inl (ka_firsts, 90, .inl f_firsts)), (a_lasts, .inl (ka_lasts, 90, .inl f_lasts)), (a_t, .inr (8, [.ref a_parts, .ref a_firsts, .ref a_lasts, .int (nI n_size), .int z_operates, .int z_lacksOperand])), (a_parts, .inl (ka_parts, 90, .inl f_parts))] := hD
  refine lv_if_eq (tgt := 22) hx hb d_Row_addOperand_4 (by decide) (fun h1 => ?_) (fun h1 => ?_)
  · have e4 := h1
    refine lv_aload_n hx hb d_Row_addOperand_22 rfl (lv_at hl 0 rfl) ?_
    refine lv_iconst (v := 0) hx hb d_Row_addOperand_23 (by decide) ?_
    refine lv_iload_n hx hb d_Row_addOperand_24 rfl (lv_at hl 1 rfl) ?_
    refine lv_iload_n hx hb d_Row_addOperand_25 rfl (lv_at hl 2 rfl) ?_
    have hPc := hP.sub (ws' := [(a_t, .inr (8, [.ref a_parts, .ref a_firsts, .ref a_lasts, .int (nI n_size), .int z_operates, .int z_lacksOperand])), (a_parts, .inl (ka_parts, 90, .inl f_parts)), (a_firsts, .inl (ka_firsts, 90, .inl f_firsts)), (a_lasts, .inl (ka_lasts, 90, .inl f_lasts))]) [2, 3, 0, 1] rfl
    have hDc := hD.sub (ws' := [(a_t, .inr (8, [.ref a_parts, .ref a_firsts, .ref a_lasts, .int (nI n_size), .int z_operates, .int z_lacksOperand])), (a_parts, .inl (ka_parts, 90, .inl f_parts)), (a_firsts, .inl (ka_firsts, 90, .inl f_firsts)), (a_lasts, .inl (ka_lasts, 90, .inl f_lasts))]) [2, 3, 0, 1] (by decide) rfl
    have hKc := hK.sub (tys' := [(ka_parts, .int), (ka_firsts, .int), (ka_lasts, .int)]) [0, 1, 2] rfl
    have hFc := va_free (wc := [(a_t, .inr (8, [.ref a_parts, .ref a_firsts, .ref a_lasts, .int (nI n_size), .int z_operates, .int z_lacksOperand])), (a_parts, .inl (ka_parts, 90, .inl f_parts)), (a_firsts, .inl (ka_firsts, 90, .inl f_firsts)), (a_lasts, .inl (ka_lasts, 90, .inl f_lasts))]) hD hS hA [2, 3, 0, 1] rfl
    refine va_callv (va_runV (As := [.int 0, .int y0, .int y1]) (rest := []) ⟨hx, hb, hml, hown, hz⟩ (s_Row_add7 l dC dI H.size a_t a_parts f_parts a_firsts f_firsts a_lasts f_lasts n_size z_operates z_lacksOperand 0 y0 y1 ka_parts ka_firsts ka_lasts (by first | omega | assumption | exact Or.inl rfl | exact Or.inr rfl | decide) (by first | omega | assumption | exact Or.inl rfl | exact Or.inr rfl | decide)) (cwV 3 hz (zV zm_320 zm_321 zm_322 zm_318 zm_323) rfl rfl rfl (by decide +kernel) ⟨Nat.le_of_ble_eq_true rfl, Nat.le_of_ble_eq_true rfl⟩) ⟨fun a U g mk q => by obtain ⟨q0, q1, qP, qK, qD⟩ := q; exact ⟨q0, q1, qP, va_K.moved (u := U) (U := U.calling g mk a) (Vm.Alike.refl U.vm) qK, qD⟩, va_recv (q := (R_Row, F_Row, 6)) (q0 := 2) (ci := 8) hK hP rfl rfl, fun U hU hW => ⟨rfl, by rw [hU], by rw [hU]; exact hPc, va_K.moved hW.alike hKc, hDc.weaken (fun _ _ _ _ => trivial)⟩⟩ rfl rfl hl.1 rfl (lv_room (Nat.le_of_ble_eq_true rfl)) d_Row_addOperand_26 ⟨Nat.zero_le _, Nat.zero_le _⟩) hS (fun q _ h => hFc q h) hFc (fun u t H1 locs ht hvm hw hB hz1 hk1 hS => ?_)
    obtain ⟨g2, g3, g4, g5, hb_g2, hq0_26, hq1_26, hq2_26, hq3_26, hP1, hK1, hD1⟩ := hB
    subst g2
    subst g3
    subst g4
    subst g5
    rw [ht] at hP1
    obtain ⟨hP, hD⟩ := va_join (wr := []) (w1 := [(a_t, .inr (8, [.ref a_parts, .ref a_firsts, .ref a_lasts, .int (nI (n_size + 1)), .int z_operates, .int z_lacksOperand])), (a_parts, .inl (ka_parts, 90, .inl (upd f_parts n_size 0))), (a_firsts, .inl (ka_firsts, 90, .inl (upd f_firsts n_size y0))), (a_lasts, .inl (ka_lasts, 90, .inl (upd f_lasts n_size y1)))]) hP hD [2, 3, 0, 1] [] rfl rfl (by decide) (by decide) hk1 hFc hP1 hD1
    generalize H1 = H at hP hS ⊢
    have hP : va_P (dC, dI) vcl [(a_t, .inr (8, [.ref a_parts, .ref a_firsts, .ref a_lasts, .int (nI (n_size + 1)), .int z_operates, .int z_lacksOperand])), (a_parts, .inl (ka_parts, 90, .inl (upd f_parts n_size 0))), (a_firsts, .inl (ka_firsts, 90, .inl (upd f_firsts n_size y0))), (a_lasts, .inl (ka_lasts, 90, .inl (upd f_lasts n_size y1)))] H := hP
    have hD : va_D A [(a_t, .inr (8, [.ref a_parts, .ref a_firsts, .ref a_lasts, .int (nI (n_size + 1)), .int z_operates, .int z_lacksOperand])), (a_parts, .inl (ka_parts, 90, .inl (upd f_parts n_size 0))), (a_firsts, .inl (ka_firsts, 90, .inl (upd f_firsts n_size y0))), (a_lasts, .inl (ka_lasts, 90, .inl (upd f_lasts n_size y1)))] := hD
    have hP9 := hP.sub (ws' := [(a_t, .inr (8, [.ref a_parts, .ref a_firsts, .ref a_lasts, .int (nI (n_size + 1)), .int z_operates, .int z_lacksOperand])), (a_parts, .inl (ka_parts, 90, .inl (upd f_parts n_size 0))), (a_firsts, .inl (ka_firsts, 90, .inl (upd f_firsts n_size y0))), (a_lasts, .inl (ka_lasts, 90, .inl (upd f_lasts n_size y1)))]) [0, 1, 2, 3] rfl
    have hD9 := hD.sub (ws' := [(a_t, .inr (8, [.ref a_parts, .ref a_firsts, .ref a_lasts, .int (nI (n_size + 1)), .int z_operates, .int z_lacksOperand])), (a_parts, .inl (ka_parts, 90, .inl (upd f_parts n_size 0))), (a_firsts, .inl (ka_firsts, 90, .inl (upd f_firsts n_size y0))), (a_lasts, .inl (ka_lasts, 90, .inl (upd f_lasts n_size y1)))]) [0, 1, 2, 3] (by decide) rfl
    exact W.vret hx hb hr (fun t ht hW => ⟨⟨(), rfl, trivial, ((n_size + 1)), ((upd f_parts n_size 0)), ((upd f_firsts n_size y0)), ((upd f_lasts n_size y1)), by first | omega | assumption | exact Or.inl rfl | exact Or.inr rfl | decide, by exact ra_2 (b01_no e4), by rw [ht]; exact hP9, va_K.moved hW.alike hK, hD9⟩, hS.F ht⟩) hS.2.2 d_Row_addOperand_29
  · have e4 := h1
    have o1 := (eo_y (b01_yes h1)).1
    refine lv_aload_n hx hb d_Row_addOperand_7 rfl (lv_at hl 0 rfl) ?_
    refine va_get (D := (dC, dI)) (ci := 8) (v := .ref a_lasts) (C := R_Row) (T := F_Row) (N := 6) hx hb hz zu_Row hown hK hP 2 rfl rfl 2 (by decide) (hz (.fieldLink R_Row 18 "LayoutFront$Row" "lasts" "[I") zm_310) (fun _ h9 => h9) rfl d_Row_addOperand_8 ?_
    refine lv_aload_n hx hb d_Row_addOperand_11 rfl (lv_at hl 0 rfl) ?_
    refine va_get (D := (dC, dI)) (ci := 8) (v := .int (nI n_size)) (C := R_Row) (T := F_Row) (N := 6) hx hb hz zu_Row hown hK hP 2 rfl rfl 3 (by decide) (hz (.fieldLink R_Row 21 "LayoutFront$Row" "size" "I") zm_312) (fun _ h9 => h9) rfl d_Row_addOperand_12 ?_
    refine lv_iconst (v := 1) hx hb d_Row_addOperand_15 (by decide) ?_
    refine xr_isub (v := (nI (n_size - 1))) hx hb d_Row_addOperand_16 (pk_sub (a := n_size) (b := 1) (by omega)) ?_
    refine lv_iload_n hx hb d_Row_addOperand_17 rfl (lv_at hl 2 rfl) ?_
    refine va_iast hx hb hK hP hD hS 1 2 rfl rfl (vp_in_nI (by omega) (by omega)) d_Row_addOperand_18 (fun H locs hP hD hS => ?_)
    rw [show ((nI (n_size - 1)) : Int32).toNatClampNeg = (n_size - 1) from nI_clamp (by omega)] at hP hD
    have hP : va_P (dC, dI) vcl [(a_firsts, .inl (ka_firsts, 90, .inl f_firsts)), (a_lasts, .inl (ka_lasts, 90, .inl (upd f_lasts (n_size - 1) y1))), (a_t, .inr (8, [.ref a_parts, .ref a_firsts, .ref a_lasts, .int (nI n_size), .int z_operates, .int z_lacksOperand])), (a_parts, .inl (ka_parts, 90, .inl f_parts))] H := hP
    have hD : va_D A [(a_firsts, .inl (ka_firsts, 90, .inl f_firsts)), (a_lasts, .inl (ka_lasts, 90, .inl (upd f_lasts (n_size - 1) y1))), (a_t, .inr (8, [.ref a_parts, .ref a_firsts, .ref a_lasts, .int (nI n_size), .int z_operates, .int z_lacksOperand])), (a_parts, .inl (ka_parts, 90, .inl f_parts))] := hD
    refine lv_goto (tgt := 29) hx hb d_Row_addOperand_19 (by decide) ?_
    have hP9 := hP.sub (ws' := [(a_t, .inr (8, [.ref a_parts, .ref a_firsts, .ref a_lasts, .int (nI n_size), .int z_operates, .int z_lacksOperand])), (a_parts, .inl (ka_parts, 90, .inl f_parts)), (a_firsts, .inl (ka_firsts, 90, .inl f_firsts)), (a_lasts, .inl (ka_lasts, 90, .inl (upd f_lasts (n_size - 1) y1)))]) [2, 3, 0, 1] rfl
    have hD9 := hD.sub (ws' := [(a_t, .inr (8, [.ref a_parts, .ref a_firsts, .ref a_lasts, .int (nI n_size), .int z_operates, .int z_lacksOperand])), (a_parts, .inl (ka_parts, 90, .inl f_parts)), (a_firsts, .inl (ka_firsts, 90, .inl f_firsts)), (a_lasts, .inl (ka_lasts, 90, .inl (upd f_lasts (n_size - 1) y1)))]) [2, 3, 0, 1] (by decide) rfl
    exact W.vret hx hb hr (fun t ht hW => ⟨⟨(), rfl, trivial, n_size, f_parts, f_firsts, ((upd f_lasts (n_size - 1) y1)), by first | omega | assumption | exact Or.inl rfl | exact Or.inr rfl | decide, by exact ra_1 (b01_yes e4), by rw [ht]; exact hP9, va_K.moved hW.alike hK, hD9⟩, hS.F ht⟩) hS.2.2 d_Row_addOperand_29
set_option maxHeartbeats 4000000 in
set_option maxRecDepth 100000 in
theorem s_Row_addOperation7 (l : Launch) (dC : Nat → ClassId) (dI : Nat → Nat → Nat) (sz : Nat) (a_t : Nat) (a_parts : Nat) (f_parts : Nat → Int32) (a_firsts : Nat) (f_firsts : Nat → Int32) (a_lasts : Nat) (f_lasts : Nat → Int32) (n_size : Nat) (z_operates : Int32) (z_lacksOperand : Int32) (y0 : Int32) (y1 : Int32) (y2 : Int32) (ka_parts : ClassId) (ka_firsts : ClassId) (ka_lasts : ClassId) (b_size : n_size ≤ 90) (hp0 : n_size < 90) : Met l y_Row_addOperation w_Row_addOperation ({ frames := 1, cells := 0, slots := 0, locals := 23 }) (va_Pc [.ref a_t, .int y0, .int y1, .int y2] (fun U => U.heap.size = sz ∧ va_P (dC, dI) vcl [(a_t, .inr (8, [.ref a_parts, .ref a_firsts, .ref a_lasts, .int (nI n_size), .int z_operates, .int z_lacksOperand])), (a_parts, .inl (ka_parts, 90, .inl f_parts)), (a_firsts, .inl (ka_firsts, 90, .inl f_firsts)), (a_lasts, .inl (ka_lasts, 90, .inl f_lasts))] U.heap ∧ va_K (dC, dI) vcl [(ka_parts, .int), (ka_firsts, .int), (ka_lasts, .int)] U ∧ va_D (fun _ => True) [(a_t, .inr (8, [.ref a_parts, .ref a_firsts, .ref a_lasts, .int (nI n_size), .int z_operates, .int z_lacksOperand])), (a_parts, .inl (ka_parts, 90, .inl f_parts)), (a_firsts, .inl (ka_firsts, 90, .inl f_firsts)), (a_lasts, .inl (ka_lasts, 90, .inl f_lasts))])) (va_Qv (fun (_ : Unit) => True) (fun _ t => ∃ (w_n_size : Nat) (w_z_operates : Int32) (w_z_lacksOperand : Int32) (w_f_parts : Nat → Int32) (w_f_firsts : Nat → Int32) (w_f_lasts : Nat → Int32), (w_n_size ≤ 90) ∧ ((z3 w_f_firsts w_f_lasts w_f_parts w_n_size, decide (¬ w_z_operates = 0), decide (¬ w_z_lacksOperand = 0)) = rbO y0 y1 (decide (¬ y2 = 0)) (z3 f_firsts f_lasts f_parts n_size, decide (¬ z_operates = 0), decide (¬ z_lacksOperand = 0))) ∧ va_P (dC, dI) vcl [(a_t, .inr (8, [.ref a_parts, .ref a_firsts, .ref a_lasts, .int (nI w_n_size), .int w_z_operates, .int w_z_lacksOperand])), (a_parts, .inl (ka_parts, 90, .inl w_f_parts)), (a_firsts, .inl (ka_firsts, 90, .inl w_f_firsts)), (a_lasts, .inl (ka_lasts, 90, .inl w_f_lasts))] t.heap ∧ va_K (dC, dI) vcl [(ka_parts, .int), (ka_firsts, .int), (ka_lasts, .int)] t ∧ va_D (va_A [(a_t, .inr (8, [.ref a_parts, .ref a_firsts, .ref a_lasts, .int (nI n_size), .int z_operates, .int z_lacksOperand])), (a_parts, .inl (ka_parts, 90, .inl f_parts)), (a_firsts, .inl (ka_firsts, 90, .inl f_firsts)), (a_lasts, .inl (ka_lasts, 90, .inl f_lasts))] sz) [(a_t, .inr (8, [.ref a_parts, .ref a_firsts, .ref a_lasts, .int (nI w_n_size), .int w_z_operates, .int w_z_lacksOperand])), (a_parts, .inl (ka_parts, 90, .inl w_f_parts)), (a_firsts, .inl (ka_firsts, 90, .inl w_f_firsts)), (a_lasts, .inl (ka_lasts, 90, .inl w_f_lasts))]) (va_A [(a_t, .inr (8, [.ref a_parts, .ref a_firsts, .ref a_lasts, .int (nI n_size), .int z_operates, .int z_lacksOperand])), (a_parts, .inl (ka_parts, 90, .inl f_parts)), (a_firsts, .inl (ka_firsts, 90, .inl f_firsts)), (a_lasts, .inl (ka_lasts, 90, .inl f_lasts))] sz)) 0 0 (va_A [(a_t, .inr (8, [.ref a_parts, .ref a_firsts, .ref a_lasts, .int (nI n_size), .int z_operates, .int z_lacksOperand])), (a_parts, .inl (ka_parts, 90, .inl f_parts)), (a_firsts, .inl (ka_firsts, 90, .inl f_firsts)), (a_lasts, .inl (ka_lasts, 90, .inl f_lasts))] sz) := by
  refine Met.ofW (cc := b_Row_addOperation) (maxL := 5) (ret := none) (by decide) rfl ?_
  intro p e s m args below meth c s₁ B hml hv
  obtain ⟨rfl, hsz, hP, hK, hD0⟩ := hv
  have hx := B.exec
  have hb := B.bytes
  have hr := B.returns
  have hts := atoms_spec (ws := w_Row_addOperation) B.pre
  have hz : ∀ w ∈ wz, w.before _ s = true := fun w h => hts w (List.mem_cons_of_mem _ h)
  have hown : s.vm.findClass R_Row = some m.cls := findClass_of_methodNamed B.named
  have hlocks := B.notSynchronized
  subst hsz
  have hD := hD0.self (sz := s.heap.size)
  generalize hAe : va_A [(a_t, .inr (8, [.ref a_parts, .ref a_firsts, .ref a_lasts, .int (nI n_size), .int z_operates, .int z_lacksOperand])), (a_parts, .inl (ka_parts, 90, .inl f_parts)), (a_firsts, .inl (ka_firsts, 90, .inl f_firsts)), (a_lasts, .inl (ka_lasts, 90, .inl f_lasts))] s.heap.size = A at hD ⊢
  have hA : ∀ q : Nat, s.heap.size ≤ q → A q := fun q h => by rw [← hAe]; exact Or.inr h
  have hS : va_S A s.heap s.heap [] := va_S.rf
  have hP : va_P (dC, dI) vcl [(a_t, .inr (8, [.ref a_parts, .ref a_firsts, .ref a_lasts, .int (nI n_size), .int z_operates, .int z_lacksOperand])), (a_parts, .inl (ka_parts, 90, .inl f_parts)), (a_firsts, .inl (ka_firsts, 90, .inl f_firsts)), (a_lasts, .inl (ka_lasts, 90, .inl f_lasts))] s.heap := hP
  have hl := lv_entry ([.ref a_t, .int y0, .int y1, .int y2]) (n := 5) (Nat.le_of_ble_eq_true rfl)
  rw [lg_entry_eq]
  generalize (lg_sl ([.ref a_t, .int y0, .int y1, .int y2]) ++ List.replicate (5 - (lg_sl ([.ref a_t, .int y0, .int y1, .int y2])).length) Slot.unset).toArray = ls at hl ⊢
  have hl : lv_has ls 5 [(0, .ref a_t), (1, .int y0), (2, .int y1), (3, .int y2)] := hl
  refine lv_aload_n hx hb d_Row_addOperation_0 rfl (lv_at hl 0 rfl) ?_
  have hPc := hP.sub (ws' := [(a_t, .inr (8, [.ref a_parts, .ref a_firsts, .ref a_lasts, .int (nI n_size), .int z_operates, .int z_lacksOperand])), (a_parts, .inl (ka_parts, 90, .inl f_parts))]) [0, 1] rfl
  have hDc := hD.sub (ws' := [(a_t, .inr (8, [.ref a_parts, .ref a_firsts, .ref a_lasts, .int (nI n_size), .int z_operates, .int z_lacksOperand])), (a_parts, .inl (ka_parts, 90, .inl f_parts))]) [0, 1] (by decide) rfl
  have hKc := hK.sub (tys' := [(ka_parts, .int)]) [0] rfl
  have hFc := va_free (wc := [(a_t, .inr (8, [.ref a_parts, .ref a_firsts, .ref a_lasts, .int (nI n_size), .int z_operates, .int z_lacksOperand])), (a_parts, .inl (ka_parts, 90, .inl f_parts))]) hD hS hA [0, 1] rfl
  refine va_calli (va_runV (As := []) (rest := []) ⟨hx, hb, hml, hown, hz⟩ (s_Row_endsWithOperand7 l dC dI s.heap.size a_t a_parts f_parts a_firsts f_firsts a_lasts f_lasts n_size z_operates z_lacksOperand ka_parts (by first | omega | assumption | exact Or.inl rfl | exact Or.inr rfl | decide)) (cwV 0 hz (zV zm_315 zm_316 zm_317 zm_318 zm_319) rfl rfl rfl (by decide +kernel) ⟨Nat.le_of_ble_eq_true rfl, Nat.le_of_ble_eq_true rfl⟩) ⟨fun a U g mk q => by obtain ⟨q0, q1, qP, qK, qD⟩ := q; exact ⟨q0, q1, qP, va_K.moved (u := U) (U := U.calling g mk a) (Vm.Alike.refl U.vm) qK, qD⟩, va_recv (q := (R_Row, F_Row, 6)) (q0 := 0) (ci := 8) hK hP rfl rfl, fun U hU hW => ⟨rfl, by rw [hU], by rw [hU]; exact hPc, va_K.moved hW.alike hKc, hDc.weaken (fun _ _ _ _ => trivial)⟩⟩ rfl rfl hl.1 rfl (lv_room (Nat.le_of_ble_eq_true rfl)) d_Row_addOperation_1 ⟨Nat.zero_le _, Nat.zero_le _⟩) hS (fun q _ h => hFc q h) hFc (fun r u t H1 locs ht hvm hw_r hB hz1 hk1 hS => ?_)
  obtain ⟨hP1, hK1, hD1⟩ := hB
  obtain ⟨hb_r, he_r⟩ := hw_r
  subst r
  rw [ht] at hP1
  obtain ⟨hP, hD⟩ := va_join (wr := [(a_firsts, .inl (ka_firsts, 90, .inl f_firsts)), (a_lasts, .inl (ka_lasts, 90, .inl f_lasts))]) (w1 := [(a_t, .inr (8, [.ref a_parts, .ref a_firsts, .ref a_lasts, .int (nI n_size), .int z_operates, .int z_lacksOperand])), (a_parts, .inl (ka_parts, 90, .inl f_parts))]) hP hD [0, 1] [2, 3] rfl rfl (by decide) (by decide) hk1 hFc hP1 hD1
  generalize H1 = H at hP hS ⊢
  have hP : va_P (dC, dI) vcl [(a_firsts, .inl (ka_firsts, 90, .inl f_firsts)), (a_lasts, .inl (ka_lasts, 90, .inl f_lasts)), (a_t, .inr (8, [.ref a_parts, .ref a_firsts, .ref a_lasts, .int (nI n_size), .int z_operates, .int z_lacksOperand])), (a_parts, .inl (ka_parts, 90, .inl f_parts))] H := hP
  have hD : va_D A [(a_firsts, .inl (ka_firsts, 90, .inl f_firsts)), (a_lasts, .inl (ka_lasts, 90, .inl f_lasts)), (a_t, .inr (8, [.ref a_parts, .ref a_firsts, .ref a_lasts, .int (nI n_size), .int z_operates, .int z_lacksOperand])), (a_parts, .inl (ka_parts, 90, .inl f_parts))] := hD
  refine lv_if_ne (tgt := 11) hx hb d_Row_addOperation_4 (by decide) (fun h1 => ?_) (fun h1 => ?_)
  · have e4 := h1
    refine lv_iconst (v := 0) hx hb d_Row_addOperation_11 (by decide) ?_
    refine lv_istore hx hb d_Row_addOperation_12 hl (by decide) rfl (fun ls hl => ?_)
    have hl : lv_has ls 5 [(4, .int 0), (0, .ref a_t), (1, .int y0), (2, .int y1), (3, .int y2)] := hl
    refine lv_aload_n hx hb d_Row_addOperation_14 rfl (lv_at hl 1 rfl) ?_
    refine lv_iconst (v := 1) hx hb d_Row_addOperation_15 (by decide) ?_
    refine va_put (D := (dC, dI)) (ci := 8) (v := .int 1) (ty := .boolean) (C := R_Row) (T := F_Row) (N := 6) hx hb hz zu_Row t_Row t_Row_ok n_Row hown hK hP hD hS 2 rfl rfl 4 (by decide) (hz (.fieldLink R_Row 25 "LayoutFront$Row" "operates" "Z") zm_313) (fun _ h9 => h9) rfl (by decide +kernel) (by decide +kernel) rfl (Nat.le_of_ble_eq_true rfl) d_Row_addOperation_16 (fun H locs hP hD hS => ?_)
    have hP : va_P (dC, dI) vcl [(a_firsts, .inl (ka_firsts, 90, .inl f_firsts)), (a_lasts, .inl (ka_lasts, 90, .inl f_lasts)), (a_t, .inr (8, [.ref a_parts, .ref a_firsts, .ref a_lasts, .int (nI n_size), .int 1, .int z_lacksOperand])), (a_parts, .inl (ka_parts, 90, .inl f_parts))] H := hP
    have hD : va_D A [(a_firsts, .inl (ka_firsts, 90, .inl f_firsts)), (a_lasts, .inl (ka_lasts, 90, .inl f_lasts)), (a_t, .inr (8, [.ref a_parts, .ref a_firsts, .ref a_lasts, .int (nI n_size), .int 1, .int z_lacksOperand])), (a_parts, .inl (ka_parts, 90, .inl f_parts))] := hD
    refine lv_aload_n hx hb d_Row_addOperation_19 rfl (lv_at hl 1 rfl) ?_
    refine lv_aload_n hx hb d_Row_addOperation_20 rfl (lv_at hl 1 rfl) ?_
    refine va_get (D := (dC, dI)) (ci := 8) (v := .int z_lacksOperand) (C := R_Row) (T := F_Row) (N := 6) hx hb hz zu_Row hown hK hP 2 rfl rfl 5 (by decide) (hz (.fieldLink R_Row 29 "LayoutFront$Row" "lacksOperand" "Z") zm_314) (fun _ h9 => h9) rfl d_Row_addOperation_21 ?_
    refine lv_if_ne (tgt := 36) hx hb d_Row_addOperation_24 (by decide) (fun h2 => ?_) (fun h2 => ?_)
    · have e24 := h2
      refine lv_iconst (v := 1) hx hb d_Row_addOperation_36 (by decide) ?_
      refine lv_goto (tgt := 41) hx hb d_Row_addOperation_37 (by decide) ?_
      refine va_put (D := (dC, dI)) (ci := 8) (v := .int 1) (ty := .boolean) (C := R_Row) (T := F_Row) (N := 6) hx hb hz zu_Row t_Row t_Row_ok n_Row hown hK hP hD hS 2 rfl rfl 5 (by decide) (hz (.fieldLink R_Row 29 "LayoutFront$Row" "lacksOperand" "Z") zm_314) (fun _ h9 => h9) rfl (by decide +kernel) (by decide +kernel) rfl (Nat.le_of_ble_eq_true rfl) d_Row_addOperation_41 (fun H locs hP hD hS => ?_)
      have hP : va_P (dC, dI) vcl [(a_firsts, .inl (ka_firsts, 90, .inl f_firsts)), (a_lasts, .inl (ka_lasts, 90, .inl f_lasts)), (a_t, .inr (8, [.ref a_parts, .ref a_firsts, .ref a_lasts, .int (nI n_size), .int 1, .int 1])), (a_parts, .inl (ka_parts, 90, .inl f_parts))] H := hP
      have hD : va_D A [(a_firsts, .inl (ka_firsts, 90, .inl f_firsts)), (a_lasts, .inl (ka_lasts, 90, .inl f_lasts)), (a_t, .inr (8, [.ref a_parts, .ref a_firsts, .ref a_lasts, .int (nI n_size), .int 1, .int 1])), (a_parts, .inl (ka_parts, 90, .inl f_parts))] := hD
      refine lv_aload_n hx hb d_Row_addOperation_44 rfl (lv_at hl 1 rfl) ?_
      refine lv_iload hx hb d_Row_addOperation_45 (lv_at hl 0 rfl) ?_
      refine lv_if_eq (tgt := 54) hx hb d_Row_addOperation_47 (by decide) (fun _ => ?_) (fun h => (h (by decide +kernel)).elim)
      refine lv_iconst (v := 1) hx hb d_Row_addOperation_54 (by decide) ?_
      refine lv_iload_n hx hb d_Row_addOperation_55 rfl (lv_at hl 2 rfl) ?_
      refine lv_iload_n hx hb d_Row_addOperation_56 rfl (lv_at hl 3 rfl) ?_
      have hPc := hP.sub (ws' := [(a_t, .inr (8, [.ref a_parts, .ref a_firsts, .ref a_lasts, .int (nI n_size), .int 1, .int 1])), (a_parts, .inl (ka_parts, 90, .inl f_parts)), (a_firsts, .inl (ka_firsts, 90, .inl f_firsts)), (a_lasts, .inl (ka_lasts, 90, .inl f_lasts))]) [2, 3, 0, 1] rfl
      have hDc := hD.sub (ws' := [(a_t, .inr (8, [.ref a_parts, .ref a_firsts, .ref a_lasts, .int (nI n_size), .int 1, .int 1])), (a_parts, .inl (ka_parts, 90, .inl f_parts)), (a_firsts, .inl (ka_firsts, 90, .inl f_firsts)), (a_lasts, .inl (ka_lasts, 90, .inl f_lasts))]) [2, 3, 0, 1] (by decide) rfl
      have hKc := hK.sub (tys' := [(ka_parts, .int), (ka_firsts, .int), (ka_lasts, .int)]) [0, 1, 2] rfl
      have hFc := va_free (wc := [(a_t, .inr (8, [.ref a_parts, .ref a_firsts, .ref a_lasts, .int (nI n_size), .int 1, .int 1])), (a_parts, .inl (ka_parts, 90, .inl f_parts)), (a_firsts, .inl (ka_firsts, 90, .inl f_firsts)), (a_lasts, .inl (ka_lasts, 90, .inl f_lasts))]) hD hS hA [2, 3, 0, 1] rfl
      refine va_callv (va_runV (As := [.int 1, .int y0, .int y1]) (rest := []) ⟨hx, hb, hml, hown, hz⟩ (s_Row_add7 l dC dI H.size a_t a_parts f_parts a_firsts f_firsts a_lasts f_lasts n_size 1 1 1 y0 y1 ka_parts ka_firsts ka_lasts (by first | omega | assumption | exact Or.inl rfl | exact Or.inr rfl | decide) (by first | omega | assumption | exact Or.inl rfl | exact Or.inr rfl | decide)) (cwV 3 hz (zV zm_320 zm_321 zm_322 zm_318 zm_323) rfl rfl rfl (by decide +kernel) ⟨Nat.le_of_ble_eq_true rfl, Nat.le_of_ble_eq_true rfl⟩) ⟨fun a U g mk q => by obtain ⟨q0, q1, qP, qK, qD⟩ := q; exact ⟨q0, q1, qP, va_K.moved (u := U) (U := U.calling g mk a) (Vm.Alike.refl U.vm) qK, qD⟩, va_recv (q := (R_Row, F_Row, 6)) (q0 := 2) (ci := 8) hK hP rfl rfl, fun U hU hW => ⟨rfl, by rw [hU], by rw [hU]; exact hPc, va_K.moved hW.alike hKc, hDc.weaken (fun _ _ _ _ => trivial)⟩⟩ rfl rfl hl.1 rfl (lv_room (Nat.le_of_ble_eq_true rfl)) d_Row_addOperation_57 ⟨Nat.zero_le _, Nat.zero_le _⟩) hS (fun q _ h => hFc q h) hFc (fun u t H1 locs ht hvm hw hB hz1 hk1 hS => ?_)
      obtain ⟨g3, g4, g5, g6, hb_g3, hq0_57, hq1_57, hq2_57, hq3_57, hP1, hK1, hD1⟩ := hB
      subst g3
      subst g4
      subst g5
      subst g6
      rw [ht] at hP1
      obtain ⟨hP, hD⟩ := va_join (wr := []) (w1 := [(a_t, .inr (8, [.ref a_parts, .ref a_firsts, .ref a_lasts, .int (nI (n_size + 1)), .int 1, .int 1])), (a_parts, .inl (ka_parts, 90, .inl (upd f_parts n_size 1))), (a_firsts, .inl (ka_firsts, 90, .inl (upd f_firsts n_size y0))), (a_lasts, .inl (ka_lasts, 90, .inl (upd f_lasts n_size y1)))]) hP hD [2, 3, 0, 1] [] rfl rfl (by decide) (by decide) hk1 hFc hP1 hD1
      generalize H1 = H at hP hS ⊢
      have hP : va_P (dC, dI) vcl [(a_t, .inr (8, [.ref a_parts, .ref a_firsts, .ref a_lasts, .int (nI (n_size + 1)), .int 1, .int 1])), (a_parts, .inl (ka_parts, 90, .inl (upd f_parts n_size 1))), (a_firsts, .inl (ka_firsts, 90, .inl (upd f_firsts n_size y0))), (a_lasts, .inl (ka_lasts, 90, .inl (upd f_lasts n_size y1)))] H := hP
      have hD : va_D A [(a_t, .inr (8, [.ref a_parts, .ref a_firsts, .ref a_lasts, .int (nI (n_size + 1)), .int 1, .int 1])), (a_parts, .inl (ka_parts, 90, .inl (upd f_parts n_size 1))), (a_firsts, .inl (ka_firsts, 90, .inl (upd f_firsts n_size y0))), (a_lasts, .inl (ka_lasts, 90, .inl (upd f_lasts n_size y1)))] := hD
      have hP9 := hP.sub (ws' := [(a_t, .inr (8, [.ref a_parts, .ref a_firsts, .ref a_lasts, .int (nI (n_size + 1)), .int 1, .int 1])), (a_parts, .inl (ka_parts, 90, .inl (upd f_parts n_size 1))), (a_firsts, .inl (ka_firsts, 90, .inl (upd f_firsts n_size y0))), (a_lasts, .inl (ka_lasts, 90, .inl (upd f_lasts n_size y1)))]) [0, 1, 2, 3] rfl
      have hD9 := hD.sub (ws' := [(a_t, .inr (8, [.ref a_parts, .ref a_firsts, .ref a_lasts, .int (nI (n_size + 1)), .int 1, .int 1])), (a_parts, .inl (ka_parts, 90, .inl (upd f_parts n_size 1))), (a_firsts, .inl (ka_firsts, 90, .inl (upd f_firsts n_size y0))), (a_lasts, .inl (ka_lasts, 90, .inl (upd f_lasts n_size y1)))]) [0, 1, 2, 3] (by decide) rfl
      exact W.vret hx hb hr (fun t ht hW => ⟨⟨(), rfl, trivial, ((n_size + 1)), 1, 1, ((upd f_parts n_size 1)), ((upd f_firsts n_size y0)), ((upd f_lasts n_size y1)), by first | omega | assumption | exact Or.inl rfl | exact Or.inr rfl | decide, by exact ro_1 (b01_yes e4) (lk_1 e24), by rw [ht]; exact hP9, va_K.moved hW.alike hK, hD9⟩, hS.F ht⟩) hS.2.2 d_Row_addOperation_60
    · have e24 := h2
      refine lv_iload hx hb d_Row_addOperation_27 (lv_at hl 0 rfl) ?_
      refine lv_if_eq (tgt := 40) hx hb d_Row_addOperation_29 (by decide) (fun _ => ?_) (fun h => (h (by decide +kernel)).elim)
      refine lv_iconst (v := 0) hx hb d_Row_addOperation_40 (by decide) ?_
      refine va_put (D := (dC, dI)) (ci := 8) (v := .int 0) (ty := .boolean) (C := R_Row) (T := F_Row) (N := 6) hx hb hz zu_Row t_Row t_Row_ok n_Row hown hK hP hD hS 2 rfl rfl 5 (by decide) (hz (.fieldLink R_Row 29 "LayoutFront$Row" "lacksOperand" "Z") zm_314) (fun _ h9 => h9) rfl (by decide +kernel) (by decide +kernel) rfl (Nat.le_of_ble_eq_true rfl) d_Row_addOperation_41 (fun H locs hP hD hS => ?_)
      have hP : va_P (dC, dI) vcl [(a_firsts, .inl (ka_firsts, 90, .inl f_firsts)), (a_lasts, .inl (ka_lasts, 90, .inl f_lasts)), (a_t, .inr (8, [.ref a_parts, .ref a_firsts, .ref a_lasts, .int (nI n_size), .int 1, .int 0])), (a_parts, .inl (ka_parts, 90, .inl f_parts))] H := hP
      have hD : va_D A [(a_firsts, .inl (ka_firsts, 90, .inl f_firsts)), (a_lasts, .inl (ka_lasts, 90, .inl f_lasts)), (a_t, .inr (8, [.ref a_parts, .ref a_firsts, .ref a_lasts, .int (nI n_size), .int 1, .int 0])), (a_parts, .inl (ka_parts, 90, .inl f_parts))] := hD
      refine lv_aload_n hx hb d_Row_addOperation_44 rfl (lv_at hl 1 rfl) ?_
      refine lv_iload hx hb d_Row_addOperation_45 (lv_at hl 0 rfl) ?_
      refine lv_if_eq (tgt := 54) hx hb d_Row_addOperation_47 (by decide) (fun _ => ?_) (fun h => (h (by decide +kernel)).elim)
      refine lv_iconst (v := 1) hx hb d_Row_addOperation_54 (by decide) ?_
      refine lv_iload_n hx hb d_Row_addOperation_55 rfl (lv_at hl 2 rfl) ?_
      refine lv_iload_n hx hb d_Row_addOperation_56 rfl (lv_at hl 3 rfl) ?_
      have hPc := hP.sub (ws' := [(a_t, .inr (8, [.ref a_parts, .ref a_firsts, .ref a_lasts, .int (nI n_size), .int 1, .int 0])), (a_parts, .inl (ka_parts, 90, .inl f_parts)), (a_firsts, .inl (ka_firsts, 90, .inl f_firsts)), (a_lasts, .inl (ka_lasts, 90, .inl f_lasts))]) [2, 3, 0, 1] rfl
      have hDc := hD.sub (ws' := [(a_t, .inr (8, [.ref a_parts, .ref a_firsts, .ref a_lasts, .int (nI n_size), .int 1, .int 0])), (a_parts, .inl (ka_parts, 90, .inl f_parts)), (a_firsts, .inl (ka_firsts, 90, .inl f_firsts)), (a_lasts, .inl (ka_lasts, 90, .inl f_lasts))]) [2, 3, 0, 1] (by decide) rfl
      have hKc := hK.sub (tys' := [(ka_parts, .int), (ka_firsts, .int), (ka_lasts, .int)]) [0, 1, 2] rfl
      have hFc := va_free (wc := [(a_t, .inr (8, [.ref a_parts, .ref a_firsts, .ref a_lasts, .int (nI n_size), .int 1, .int 0])), (a_parts, .inl (ka_parts, 90, .inl f_parts)), (a_firsts, .inl (ka_firsts, 90, .inl f_firsts)), (a_lasts, .inl (ka_lasts, 90, .inl f_lasts))]) hD hS hA [2, 3, 0, 1] rfl
      refine va_callv (va_runV (As := [.int 1, .int y0, .int y1]) (rest := []) ⟨hx, hb, hml, hown, hz⟩ (s_Row_add7 l dC dI H.size a_t a_parts f_parts a_firsts f_firsts a_lasts f_lasts n_size 1 0 1 y0 y1 ka_parts ka_firsts ka_lasts (by first | omega | assumption | exact Or.inl rfl | exact Or.inr rfl | decide) (by first | omega | assumption | exact Or.inl rfl | exact Or.inr rfl | decide)) (cwV 3 hz (zV zm_320 zm_321 zm_322 zm_318 zm_323) rfl rfl rfl (by decide +kernel) ⟨Nat.le_of_ble_eq_true rfl, Nat.le_of_ble_eq_true rfl⟩) ⟨fun a U g mk q => by obtain ⟨q0, q1, qP, qK, qD⟩ := q; exact ⟨q0, q1, qP, va_K.moved (u := U) (U := U.calling g mk a) (Vm.Alike.refl U.vm) qK, qD⟩, va_recv (q := (R_Row, F_Row, 6)) (q0 := 2) (ci := 8) hK hP rfl rfl, fun U hU hW => ⟨rfl, by rw [hU], by rw [hU]; exact hPc, va_K.moved hW.alike hKc, hDc.weaken (fun _ _ _ _ => trivial)⟩⟩ rfl rfl hl.1 rfl (lv_room (Nat.le_of_ble_eq_true rfl)) d_Row_addOperation_57 ⟨Nat.zero_le _, Nat.zero_le _⟩) hS (fun q _ h => hFc q h) hFc (fun u t H1 locs ht hvm hw hB hz1 hk1 hS => ?_)
      obtain ⟨g7, g8, g9, g10, hb_g7, hq0_57, hq1_57, hq2_57, hq3_57, hP1, hK1, hD1⟩ := hB
      subst g7
      subst g8
      subst g9
      subst g10
      rw [ht] at hP1
      obtain ⟨hP, hD⟩ := va_join (wr := []) (w1 := [(a_t, .inr (8, [.ref a_parts, .ref a_firsts, .ref a_lasts, .int (nI (n_size + 1)), .int 1, .int 0])), (a_parts, .inl (ka_parts, 90, .inl (upd f_parts n_size 1))), (a_firsts, .inl (ka_firsts, 90, .inl (upd f_firsts n_size y0))), (a_lasts, .inl (ka_lasts, 90, .inl (upd f_lasts n_size y1)))]) hP hD [2, 3, 0, 1] [] rfl rfl (by decide) (by decide) hk1 hFc hP1 hD1
      generalize H1 = H at hP hS ⊢
      have hP : va_P (dC, dI) vcl [(a_t, .inr (8, [.ref a_parts, .ref a_firsts, .ref a_lasts, .int (nI (n_size + 1)), .int 1, .int 0])), (a_parts, .inl (ka_parts, 90, .inl (upd f_parts n_size 1))), (a_firsts, .inl (ka_firsts, 90, .inl (upd f_firsts n_size y0))), (a_lasts, .inl (ka_lasts, 90, .inl (upd f_lasts n_size y1)))] H := hP
      have hD : va_D A [(a_t, .inr (8, [.ref a_parts, .ref a_firsts, .ref a_lasts, .int (nI (n_size + 1)), .int 1, .int 0])), (a_parts, .inl (ka_parts, 90, .inl (upd f_parts n_size 1))), (a_firsts, .inl (ka_firsts, 90, .inl (upd f_firsts n_size y0))), (a_lasts, .inl (ka_lasts, 90, .inl (upd f_lasts n_size y1)))] := hD
      have hP9 := hP.sub (ws' := [(a_t, .inr (8, [.ref a_parts, .ref a_firsts, .ref a_lasts, .int (nI (n_size + 1)), .int 1, .int 0])), (a_parts, .inl (ka_parts, 90, .inl (upd f_parts n_size 1))), (a_firsts, .inl (ka_firsts, 90, .inl (upd f_firsts n_size y0))), (a_lasts, .inl (ka_lasts, 90, .inl (upd f_lasts n_size y1)))]) [0, 1, 2, 3] rfl
      have hD9 := hD.sub (ws' := [(a_t, .inr (8, [.ref a_parts, .ref a_firsts, .ref a_lasts, .int (nI (n_size + 1)), .int 1, .int 0])), (a_parts, .inl (ka_parts, 90, .inl (upd f_parts n_size 1))), (a_firsts, .inl (ka_firsts, 90, .inl (upd f_firsts n_size y0))), (a_lasts, .inl (ka_lasts, 90, .inl (upd f_lasts n_size y1)))]) [0, 1, 2, 3] (by decide) rfl
      exact W.vret hx hb hr (fun t ht hW => ⟨⟨(), rfl, trivial, ((n_size + 1)), 1, 0, ((upd f_parts n_size 1)), ((upd f_firsts n_size y0)), ((upd f_lasts n_size y1)), by first | omega | assumption | exact Or.inl rfl | exact Or.inr rfl | decide, by exact ro_1 (b01_yes e4) (lk_0 e24), by rw [ht]; exact hP9, va_K.moved hW.alike hK, hD9⟩, hS.F ht⟩) hS.2.2 d_Row_addOperation_60
  · have e4 := h1
    refine lv_iconst (v := 1) hx hb d_Row_addOperation_7 (by decide) ?_
    refine lv_goto (tgt := 12) hx hb d_Row_addOperation_8 (by decide) ?_
    refine lv_istore hx hb d_Row_addOperation_12 hl (by decide) rfl (fun ls hl => ?_)
    have hl : lv_has ls 5 [(4, .int 1), (0, .ref a_t), (1, .int y0), (2, .int y1), (3, .int y2)] := hl
    refine lv_aload_n hx hb d_Row_addOperation_14 rfl (lv_at hl 1 rfl) ?_
    refine lv_iconst (v := 1) hx hb d_Row_addOperation_15 (by decide) ?_
    refine va_put (D := (dC, dI)) (ci := 8) (v := .int 1) (ty := .boolean) (C := R_Row) (T := F_Row) (N := 6) hx hb hz zu_Row t_Row t_Row_ok n_Row hown hK hP hD hS 2 rfl rfl 4 (by decide) (hz (.fieldLink R_Row 25 "LayoutFront$Row" "operates" "Z") zm_313) (fun _ h9 => h9) rfl (by decide +kernel) (by decide +kernel) rfl (Nat.le_of_ble_eq_true rfl) d_Row_addOperation_16 (fun H locs hP hD hS => ?_)
    have hP : va_P (dC, dI) vcl [(a_firsts, .inl (ka_firsts, 90, .inl f_firsts)), (a_lasts, .inl (ka_lasts, 90, .inl f_lasts)), (a_t, .inr (8, [.ref a_parts, .ref a_firsts, .ref a_lasts, .int (nI n_size), .int 1, .int z_lacksOperand])), (a_parts, .inl (ka_parts, 90, .inl f_parts))] H := hP
    have hD : va_D A [(a_firsts, .inl (ka_firsts, 90, .inl f_firsts)), (a_lasts, .inl (ka_lasts, 90, .inl f_lasts)), (a_t, .inr (8, [.ref a_parts, .ref a_firsts, .ref a_lasts, .int (nI n_size), .int 1, .int z_lacksOperand])), (a_parts, .inl (ka_parts, 90, .inl f_parts))] := hD
    refine lv_aload_n hx hb d_Row_addOperation_19 rfl (lv_at hl 1 rfl) ?_
    refine lv_aload_n hx hb d_Row_addOperation_20 rfl (lv_at hl 1 rfl) ?_
    refine va_get (D := (dC, dI)) (ci := 8) (v := .int z_lacksOperand) (C := R_Row) (T := F_Row) (N := 6) hx hb hz zu_Row hown hK hP 2 rfl rfl 5 (by decide) (hz (.fieldLink R_Row 29 "LayoutFront$Row" "lacksOperand" "Z") zm_314) (fun _ h9 => h9) rfl d_Row_addOperation_21 ?_
    refine lv_if_ne (tgt := 36) hx hb d_Row_addOperation_24 (by decide) (fun h11 => ?_) (fun h11 => ?_)
    · have e24 := h11
      refine lv_iconst (v := 1) hx hb d_Row_addOperation_36 (by decide) ?_
      refine lv_goto (tgt := 41) hx hb d_Row_addOperation_37 (by decide) ?_
      refine va_put (D := (dC, dI)) (ci := 8) (v := .int 1) (ty := .boolean) (C := R_Row) (T := F_Row) (N := 6) hx hb hz zu_Row t_Row t_Row_ok n_Row hown hK hP hD hS 2 rfl rfl 5 (by decide) (hz (.fieldLink R_Row 29 "LayoutFront$Row" "lacksOperand" "Z") zm_314) (fun _ h9 => h9) rfl (by decide +kernel) (by decide +kernel) rfl (Nat.le_of_ble_eq_true rfl) d_Row_addOperation_41 (fun H locs hP hD hS => ?_)
      have hP : va_P (dC, dI) vcl [(a_firsts, .inl (ka_firsts, 90, .inl f_firsts)), (a_lasts, .inl (ka_lasts, 90, .inl f_lasts)), (a_t, .inr (8, [.ref a_parts, .ref a_firsts, .ref a_lasts, .int (nI n_size), .int 1, .int 1])), (a_parts, .inl (ka_parts, 90, .inl f_parts))] H := hP
      have hD : va_D A [(a_firsts, .inl (ka_firsts, 90, .inl f_firsts)), (a_lasts, .inl (ka_lasts, 90, .inl f_lasts)), (a_t, .inr (8, [.ref a_parts, .ref a_firsts, .ref a_lasts, .int (nI n_size), .int 1, .int 1])), (a_parts, .inl (ka_parts, 90, .inl f_parts))] := hD
      refine lv_aload_n hx hb d_Row_addOperation_44 rfl (lv_at hl 1 rfl) ?_
      refine lv_iload hx hb d_Row_addOperation_45 (lv_at hl 0 rfl) ?_
      refine lv_if_eq (tgt := 54) hx hb d_Row_addOperation_47 (by decide) (fun h => absurd h (by decide +kernel)) (fun _ => ?_)
      refine lv_iconst (v := 2) hx hb d_Row_addOperation_50 (by decide) ?_
      refine lv_goto (tgt := 55) hx hb d_Row_addOperation_51 (by decide) ?_
      refine lv_iload_n hx hb d_Row_addOperation_55 rfl (lv_at hl 2 rfl) ?_
      refine lv_iload_n hx hb d_Row_addOperation_56 rfl (lv_at hl 3 rfl) ?_
      have hPc := hP.sub (ws' := [(a_t, .inr (8, [.ref a_parts, .ref a_firsts, .ref a_lasts, .int (nI n_size), .int 1, .int 1])), (a_parts, .inl (ka_parts, 90, .inl f_parts)), (a_firsts, .inl (ka_firsts, 90, .inl f_firsts)), (a_lasts, .inl (ka_lasts, 90, .inl f_lasts))]) [2, 3, 0, 1] rfl
      have hDc := hD.sub (ws' := [(a_t, .inr (8, [.ref a_parts, .ref a_firsts, .ref a_lasts, .int (nI n_size), .int 1, .int 1])), (a_parts, .inl (ka_parts, 90, .inl f_parts)), (a_firsts, .inl (ka_firsts, 90, .inl f_firsts)), (a_lasts, .inl (ka_lasts, 90, .inl f_lasts))]) [2, 3, 0, 1] (by decide) rfl
      have hKc := hK.sub (tys' := [(ka_parts, .int), (ka_firsts, .int), (ka_lasts, .int)]) [0, 1, 2] rfl
      have hFc := va_free (wc := [(a_t, .inr (8, [.ref a_parts, .ref a_firsts, .ref a_lasts, .int (nI n_size), .int 1, .int 1])), (a_parts, .inl (ka_parts, 90, .inl f_parts)), (a_firsts, .inl (ka_firsts, 90, .inl f_firsts)), (a_lasts, .inl (ka_lasts, 90, .inl f_lasts))]) hD hS hA [2, 3, 0, 1] rfl
      refine va_callv (va_runV (As := [.int 2, .int y0, .int y1]) (rest := []) ⟨hx, hb, hml, hown, hz⟩ (s_Row_add7 l dC dI H.size a_t a_parts f_parts a_firsts f_firsts a_lasts f_lasts n_size 1 1 2 y0 y1 ka_parts ka_firsts ka_lasts (by first | omega | assumption | exact Or.inl rfl | exact Or.inr rfl | decide) (by first | omega | assumption | exact Or.inl rfl | exact Or.inr rfl | decide)) (cwV 3 hz (zV zm_320 zm_321 zm_322 zm_318 zm_323) rfl rfl rfl (by decide +kernel) ⟨Nat.le_of_ble_eq_true rfl, Nat.le_of_ble_eq_true rfl⟩) ⟨fun a U g mk q => by obtain ⟨q0, q1, qP, qK, qD⟩ := q; exact ⟨q0, q1, qP, va_K.moved (u := U) (U := U.calling g mk a) (Vm.Alike.refl U.vm) qK, qD⟩, va_recv (q := (R_Row, F_Row, 6)) (q0 := 2) (ci := 8) hK hP rfl rfl, fun U hU hW => ⟨rfl, by rw [hU], by rw [hU]; exact hPc, va_K.moved hW.alike hKc, hDc.weaken (fun _ _ _ _ => trivial)⟩⟩ rfl rfl hl.1 rfl (lv_room (Nat.le_of_ble_eq_true rfl)) d_Row_addOperation_57 ⟨Nat.zero_le _, Nat.zero_le _⟩) hS (fun q _ h => hFc q h) hFc (fun u t H1 locs ht hvm hw hB hz1 hk1 hS => ?_)
      obtain ⟨g12, g13, g14, g15, hb_g12, hq0_57, hq1_57, hq2_57, hq3_57, hP1, hK1, hD1⟩ := hB
      subst g12
      subst g13
      subst g14
      subst g15
      rw [ht] at hP1
      obtain ⟨hP, hD⟩ := va_join (wr := []) (w1 := [(a_t, .inr (8, [.ref a_parts, .ref a_firsts, .ref a_lasts, .int (nI (n_size + 1)), .int 1, .int 1])), (a_parts, .inl (ka_parts, 90, .inl (upd f_parts n_size 2))), (a_firsts, .inl (ka_firsts, 90, .inl (upd f_firsts n_size y0))), (a_lasts, .inl (ka_lasts, 90, .inl (upd f_lasts n_size y1)))]) hP hD [2, 3, 0, 1] [] rfl rfl (by decide) (by decide) hk1 hFc hP1 hD1
      generalize H1 = H at hP hS ⊢
      have hP : va_P (dC, dI) vcl [(a_t, .inr (8, [.ref a_parts, .ref a_firsts, .ref a_lasts, .int (nI (n_size + 1)), .int 1, .int 1])), (a_parts, .inl (ka_parts, 90, .inl (upd f_parts n_size 2))), (a_firsts, .inl (ka_firsts, 90, .inl (upd f_firsts n_size y0))), (a_lasts, .inl (ka_lasts, 90, .inl (upd f_lasts n_size y1)))] H := hP
      have hD : va_D A [(a_t, .inr (8, [.ref a_parts, .ref a_firsts, .ref a_lasts, .int (nI (n_size + 1)), .int 1, .int 1])), (a_parts, .inl (ka_parts, 90, .inl (upd f_parts n_size 2))), (a_firsts, .inl (ka_firsts, 90, .inl (upd f_firsts n_size y0))), (a_lasts, .inl (ka_lasts, 90, .inl (upd f_lasts n_size y1)))] := hD
      have hP9 := hP.sub (ws' := [(a_t, .inr (8, [.ref a_parts, .ref a_firsts, .ref a_lasts, .int (nI (n_size + 1)), .int 1, .int 1])), (a_parts, .inl (ka_parts, 90, .inl (upd f_parts n_size 2))), (a_firsts, .inl (ka_firsts, 90, .inl (upd f_firsts n_size y0))), (a_lasts, .inl (ka_lasts, 90, .inl (upd f_lasts n_size y1)))]) [0, 1, 2, 3] rfl
      have hD9 := hD.sub (ws' := [(a_t, .inr (8, [.ref a_parts, .ref a_firsts, .ref a_lasts, .int (nI (n_size + 1)), .int 1, .int 1])), (a_parts, .inl (ka_parts, 90, .inl (upd f_parts n_size 2))), (a_firsts, .inl (ka_firsts, 90, .inl (upd f_firsts n_size y0))), (a_lasts, .inl (ka_lasts, 90, .inl (upd f_lasts n_size y1)))]) [0, 1, 2, 3] (by decide) rfl
      exact W.vret hx hb hr (fun t ht hW => ⟨⟨(), rfl, trivial, ((n_size + 1)), 1, 1, ((upd f_parts n_size 2)), ((upd f_firsts n_size y0)), ((upd f_lasts n_size y1)), by first | omega | assumption | exact Or.inl rfl | exact Or.inr rfl | decide, by exact ro_2 (b01_no e4) (lk_2 e24), by rw [ht]; exact hP9, va_K.moved hW.alike hK, hD9⟩, hS.F ht⟩) hS.2.2 d_Row_addOperation_60
    · have e24 := h11
      refine lv_iload hx hb d_Row_addOperation_27 (lv_at hl 0 rfl) ?_
      refine lv_if_eq (tgt := 40) hx hb d_Row_addOperation_29 (by decide) (fun h => absurd h (by decide +kernel)) (fun _ => ?_)
      refine lv_iload_n hx hb d_Row_addOperation_32 rfl (lv_at hl 4 rfl) ?_
      refine lv_if_ne (tgt := 40) hx hb d_Row_addOperation_33 (by decide) (fun h16 => ?_) (fun h16 => ?_)
      · have e33 := h16
        refine lv_iconst (v := 0) hx hb d_Row_addOperation_40 (by decide) ?_
        refine va_put (D := (dC, dI)) (ci := 8) (v := .int 0) (ty := .boolean) (C := R_Row) (T := F_Row) (N := 6) hx hb hz zu_Row t_Row t_Row_ok n_Row hown hK hP hD hS 2 rfl rfl 5 (by decide) (hz (.fieldLink R_Row 29 "LayoutFront$Row" "lacksOperand" "Z") zm_314) (fun _ h9 => h9) rfl (by decide +kernel) (by decide +kernel) rfl (Nat.le_of_ble_eq_true rfl) d_Row_addOperation_41 (fun H locs hP hD hS => ?_)
        have hP : va_P (dC, dI) vcl [(a_firsts, .inl (ka_firsts, 90, .inl f_firsts)), (a_lasts, .inl (ka_lasts, 90, .inl f_lasts)), (a_t, .inr (8, [.ref a_parts, .ref a_firsts, .ref a_lasts, .int (nI n_size), .int 1, .int 0])), (a_parts, .inl (ka_parts, 90, .inl f_parts))] H := hP
        have hD : va_D A [(a_firsts, .inl (ka_firsts, 90, .inl f_firsts)), (a_lasts, .inl (ka_lasts, 90, .inl f_lasts)), (a_t, .inr (8, [.ref a_parts, .ref a_firsts, .ref a_lasts, .int (nI n_size), .int 1, .int 0])), (a_parts, .inl (ka_parts, 90, .inl f_parts))] := hD
        refine lv_aload_n hx hb d_Row_addOperation_44 rfl (lv_at hl 1 rfl) ?_
        refine lv_iload hx hb d_Row_addOperation_45 (lv_at hl 0 rfl) ?_
        refine lv_if_eq (tgt := 54) hx hb d_Row_addOperation_47 (by decide) (fun h => absurd h (by decide +kernel)) (fun _ => ?_)
        refine lv_iconst (v := 2) hx hb d_Row_addOperation_50 (by decide) ?_
        refine lv_goto (tgt := 55) hx hb d_Row_addOperation_51 (by decide) ?_
        refine lv_iload_n hx hb d_Row_addOperation_55 rfl (lv_at hl 2 rfl) ?_
        refine lv_iload_n hx hb d_Row_addOperation_56 rfl (lv_at hl 3 rfl) ?_
        have hPc := hP.sub (ws' := [(a_t, .inr (8, [.ref a_parts, .ref a_firsts, .ref a_lasts, .int (nI n_size), .int 1, .int 0])), (a_parts, .inl (ka_parts, 90, .inl f_parts)), (a_firsts, .inl (ka_firsts, 90, .inl f_firsts)), (a_lasts, .inl (ka_lasts, 90, .inl f_lasts))]) [2, 3, 0, 1] rfl
        have hDc := hD.sub (ws' := [(a_t, .inr (8, [.ref a_parts, .ref a_firsts, .ref a_lasts, .int (nI n_size), .int 1, .int 0])), (a_parts, .inl (ka_parts, 90, .inl f_parts)), (a_firsts, .inl (ka_firsts, 90, .inl f_firsts)), (a_lasts, .inl (ka_lasts, 90, .inl f_lasts))]) [2, 3, 0, 1] (by decide) rfl
        have hKc := hK.sub (tys' := [(ka_parts, .int), (ka_firsts, .int), (ka_lasts, .int)]) [0, 1, 2] rfl
        have hFc := va_free (wc := [(a_t, .inr (8, [.ref a_parts, .ref a_firsts, .ref a_lasts, .int (nI n_size), .int 1, .int 0])), (a_parts, .inl (ka_parts, 90, .inl f_parts)), (a_firsts, .inl (ka_firsts, 90, .inl f_firsts)), (a_lasts, .inl (ka_lasts, 90, .inl f_lasts))]) hD hS hA [2, 3, 0, 1] rfl
        refine va_callv (va_runV (As := [.int 2, .int y0, .int y1]) (rest := []) ⟨hx, hb, hml, hown, hz⟩ (s_Row_add7 l dC dI H.size a_t a_parts f_parts a_firsts f_firsts a_lasts f_lasts n_size 1 0 2 y0 y1 ka_parts ka_firsts ka_lasts (by first | omega | assumption | exact Or.inl rfl | exact Or.inr rfl | decide) (by first | omega | assumption | exact Or.inl rfl | exact Or.inr rfl | decide)) (cwV 3 hz (zV zm_320 zm_321 zm_322 zm_318 zm_323) rfl rfl rfl (by decide +kernel) ⟨Nat.le_of_ble_eq_true rfl, Nat.le_of_ble_eq_true rfl⟩) ⟨fun a U g mk q => by obtain ⟨q0, q1, qP, qK, qD⟩ := q; exact ⟨q0, q1, qP, va_K.moved (u := U) (U := U.calling g mk a) (Vm.Alike.refl U.vm) qK, qD⟩, va_recv (q := (R_Row, F_Row, 6)) (q0 := 2) (ci := 8) hK hP rfl rfl, fun U hU hW => ⟨rfl, by rw [hU], by rw [hU]; exact hPc, va_K.moved hW.alike hKc, hDc.weaken (fun _ _ _ _ => trivial)⟩⟩ rfl rfl hl.1 rfl (lv_room (Nat.le_of_ble_eq_true rfl)) d_Row_addOperation_57 ⟨Nat.zero_le _, Nat.zero_le _⟩) hS (fun q _ h => hFc q h) hFc (fun u t H1 locs ht hvm hw hB hz1 hk1 hS => ?_)
        obtain ⟨g17, g18, g19, g20, hb_g17, hq0_57, hq1_57, hq2_57, hq3_57, hP1, hK1, hD1⟩ := hB
        subst g17
        subst g18
        subst g19
        subst g20
        rw [ht] at hP1
        obtain ⟨hP, hD⟩ := va_join (wr := []) (w1 := [(a_t, .inr (8, [.ref a_parts, .ref a_firsts, .ref a_lasts, .int (nI (n_size + 1)), .int 1, .int 0])), (a_parts, .inl (ka_parts, 90, .inl (upd f_parts n_size 2))), (a_firsts, .inl (ka_firsts, 90, .inl (upd f_firsts n_size y0))), (a_lasts, .inl (ka_lasts, 90, .inl (upd f_lasts n_size y1)))]) hP hD [2, 3, 0, 1] [] rfl rfl (by decide) (by decide) hk1 hFc hP1 hD1
        generalize H1 = H at hP hS ⊢
        have hP : va_P (dC, dI) vcl [(a_t, .inr (8, [.ref a_parts, .ref a_firsts, .ref a_lasts, .int (nI (n_size + 1)), .int 1, .int 0])), (a_parts, .inl (ka_parts, 90, .inl (upd f_parts n_size 2))), (a_firsts, .inl (ka_firsts, 90, .inl (upd f_firsts n_size y0))), (a_lasts, .inl (ka_lasts, 90, .inl (upd f_lasts n_size y1)))] H := hP
        have hD : va_D A [(a_t, .inr (8, [.ref a_parts, .ref a_firsts, .ref a_lasts, .int (nI (n_size + 1)), .int 1, .int 0])), (a_parts, .inl (ka_parts, 90, .inl (upd f_parts n_size 2))), (a_firsts, .inl (ka_firsts, 90, .inl (upd f_firsts n_size y0))), (a_lasts, .inl (ka_lasts, 90, .inl (upd f_lasts n_size y1)))] := hD
        have hP9 := hP.sub (ws' := [(a_t, .inr (8, [.ref a_parts, .ref a_firsts, .ref a_lasts, .int (nI (n_size + 1)), .int 1, .int 0])), (a_parts, .inl (ka_parts, 90, .inl (upd f_parts n_size 2))), (a_firsts, .inl (ka_firsts, 90, .inl (upd f_firsts n_size y0))), (a_lasts, .inl (ka_lasts, 90, .inl (upd f_lasts n_size y1)))]) [0, 1, 2, 3] rfl
        have hD9 := hD.sub (ws' := [(a_t, .inr (8, [.ref a_parts, .ref a_firsts, .ref a_lasts, .int (nI (n_size + 1)), .int 1, .int 0])), (a_parts, .inl (ka_parts, 90, .inl (upd f_parts n_size 2))), (a_firsts, .inl (ka_firsts, 90, .inl (upd f_firsts n_size y0))), (a_lasts, .inl (ka_lasts, 90, .inl (upd f_lasts n_size y1)))]) [0, 1, 2, 3] (by decide) rfl
        exact W.vret hx hb hr (fun t ht hW => ⟨⟨(), rfl, trivial, ((n_size + 1)), 1, 0, ((upd f_parts n_size 2)), ((upd f_firsts n_size y0)), ((upd f_lasts n_size y1)), by first | omega | assumption | exact Or.inl rfl | exact Or.inr rfl | decide, by exact ro_2 (b01_no e4) (lk_3 e24 e33), by rw [ht]; exact hP9, va_K.moved hW.alike hK, hD9⟩, hS.F ht⟩) hS.2.2 d_Row_addOperation_60
      · have e33 := h16
        refine lv_iconst (v := 1) hx hb d_Row_addOperation_36 (by decide) ?_
        refine lv_goto (tgt := 41) hx hb d_Row_addOperation_37 (by decide) ?_
        refine va_put (D := (dC, dI)) (ci := 8) (v := .int 1) (ty := .boolean) (C := R_Row) (T := F_Row) (N := 6) hx hb hz zu_Row t_Row t_Row_ok n_Row hown hK hP hD hS 2 rfl rfl 5 (by decide) (hz (.fieldLink R_Row 29 "LayoutFront$Row" "lacksOperand" "Z") zm_314) (fun _ h9 => h9) rfl (by decide +kernel) (by decide +kernel) rfl (Nat.le_of_ble_eq_true rfl) d_Row_addOperation_41 (fun H locs hP hD hS => ?_)
        have hP : va_P (dC, dI) vcl [(a_firsts, .inl (ka_firsts, 90, .inl f_firsts)), (a_lasts, .inl (ka_lasts, 90, .inl f_lasts)), (a_t, .inr (8, [.ref a_parts, .ref a_firsts, .ref a_lasts, .int (nI n_size), .int 1, .int 1])), (a_parts, .inl (ka_parts, 90, .inl f_parts))] H := hP
        have hD : va_D A [(a_firsts, .inl (ka_firsts, 90, .inl f_firsts)), (a_lasts, .inl (ka_lasts, 90, .inl f_lasts)), (a_t, .inr (8, [.ref a_parts, .ref a_firsts, .ref a_lasts, .int (nI n_size), .int 1, .int 1])), (a_parts, .inl (ka_parts, 90, .inl f_parts))] := hD
        refine lv_aload_n hx hb d_Row_addOperation_44 rfl (lv_at hl 1 rfl) ?_
        refine lv_iload hx hb d_Row_addOperation_45 (lv_at hl 0 rfl) ?_
        refine lv_if_eq (tgt := 54) hx hb d_Row_addOperation_47 (by decide) (fun h => absurd h (by decide +kernel)) (fun _ => ?_)
        refine lv_iconst (v := 2) hx hb d_Row_addOperation_50 (by decide) ?_
        refine lv_goto (tgt := 55) hx hb d_Row_addOperation_51 (by decide) ?_
        refine lv_iload_n hx hb d_Row_addOperation_55 rfl (lv_at hl 2 rfl) ?_
        refine lv_iload_n hx hb d_Row_addOperation_56 rfl (lv_at hl 3 rfl) ?_
        have hPc := hP.sub (ws' := [(a_t, .inr (8, [.ref a_parts, .ref a_firsts, .ref a_lasts, .int (nI n_size), .int 1, .int 1])), (a_parts, .inl (ka_parts, 90, .inl f_parts)), (a_firsts, .inl (ka_firsts, 90, .inl f_firsts)), (a_lasts, .inl (ka_lasts, 90, .inl f_lasts))]) [2, 3, 0, 1] rfl
        have hDc := hD.sub (ws' := [(a_t, .inr (8, [.ref a_parts, .ref a_firsts, .ref a_lasts, .int (nI n_size), .int 1, .int 1])), (a_parts, .inl (ka_parts, 90, .inl f_parts)), (a_firsts, .inl (ka_firsts, 90, .inl f_firsts)), (a_lasts, .inl (ka_lasts, 90, .inl f_lasts))]) [2, 3, 0, 1] (by decide) rfl
        have hKc := hK.sub (tys' := [(ka_parts, .int), (ka_firsts, .int), (ka_lasts, .int)]) [0, 1, 2] rfl
        have hFc := va_free (wc := [(a_t, .inr (8, [.ref a_parts, .ref a_firsts, .ref a_lasts, .int (nI n_size), .int 1, .int 1])), (a_parts, .inl (ka_parts, 90, .inl f_parts)), (a_firsts, .inl (ka_firsts, 90, .inl f_firsts)), (a_lasts, .inl (ka_lasts, 90, .inl f_lasts))]) hD hS hA [2, 3, 0, 1] rfl
        refine va_callv (va_runV (As := [.int 2, .int y0, .int y1]) (rest := []) ⟨hx, hb, hml, hown, hz⟩ (s_Row_add7 l dC dI H.size a_t a_parts f_parts a_firsts f_firsts a_lasts f_lasts n_size 1 1 2 y0 y1 ka_parts ka_firsts ka_lasts (by first | omega | assumption | exact Or.inl rfl | exact Or.inr rfl | decide) (by first | omega | assumption | exact Or.inl rfl | exact Or.inr rfl | decide)) (cwV 3 hz (zV zm_320 zm_321 zm_322 zm_318 zm_323) rfl rfl rfl (by decide +kernel) ⟨Nat.le_of_ble_eq_true rfl, Nat.le_of_ble_eq_true rfl⟩) ⟨fun a U g mk q => by obtain ⟨q0, q1, qP, qK, qD⟩ := q; exact ⟨q0, q1, qP, va_K.moved (u := U) (U := U.calling g mk a) (Vm.Alike.refl U.vm) qK, qD⟩, va_recv (q := (R_Row, F_Row, 6)) (q0 := 2) (ci := 8) hK hP rfl rfl, fun U hU hW => ⟨rfl, by rw [hU], by rw [hU]; exact hPc, va_K.moved hW.alike hKc, hDc.weaken (fun _ _ _ _ => trivial)⟩⟩ rfl rfl hl.1 rfl (lv_room (Nat.le_of_ble_eq_true rfl)) d_Row_addOperation_57 ⟨Nat.zero_le _, Nat.zero_le _⟩) hS (fun q _ h => hFc q h) hFc (fun u t H1 locs ht hvm hw hB hz1 hk1 hS => ?_)
        obtain ⟨g21, g22, g23, g24, hb_g21, hq0_57, hq1_57, hq2_57, hq3_57, hP1, hK1, hD1⟩ := hB
        subst g21
        subst g22
        subst g23
        subst g24
        rw [ht] at hP1
        obtain ⟨hP, hD⟩ := va_join (wr := []) (w1 := [(a_t, .inr (8, [.ref a_parts, .ref a_firsts, .ref a_lasts, .int (nI (n_size + 1)), .int 1, .int 1])), (a_parts, .inl (ka_parts, 90, .inl (upd f_parts n_size 2))), (a_firsts, .inl (ka_firsts, 90, .inl (upd f_firsts n_size y0))), (a_lasts, .inl (ka_lasts, 90, .inl (upd f_lasts n_size y1)))]) hP hD [2, 3, 0, 1] [] rfl rfl (by decide) (by decide) hk1 hFc hP1 hD1
        generalize H1 = H at hP hS ⊢
        have hP : va_P (dC, dI) vcl [(a_t, .inr (8, [.ref a_parts, .ref a_firsts, .ref a_lasts, .int (nI (n_size + 1)), .int 1, .int 1])), (a_parts, .inl (ka_parts, 90, .inl (upd f_parts n_size 2))), (a_firsts, .inl (ka_firsts, 90, .inl (upd f_firsts n_size y0))), (a_lasts, .inl (ka_lasts, 90, .inl (upd f_lasts n_size y1)))] H := hP
        have hD : va_D A [(a_t, .inr (8, [.ref a_parts, .ref a_firsts, .ref a_lasts, .int (nI (n_size + 1)), .int 1, .int 1])), (a_parts, .inl (ka_parts, 90, .inl (upd f_parts n_size 2))), (a_firsts, .inl (ka_firsts, 90, .inl (upd f_firsts n_size y0))), (a_lasts, .inl (ka_lasts, 90, .inl (upd f_lasts n_size y1)))] := hD
        have hP9 := hP.sub (ws' := [(a_t, .inr (8, [.ref a_parts, .ref a_firsts, .ref a_lasts, .int (nI (n_size + 1)), .int 1, .int 1])), (a_parts, .inl (ka_parts, 90, .inl (upd f_parts n_size 2))), (a_firsts, .inl (ka_firsts, 90, .inl (upd f_firsts n_size y0))), (a_lasts, .inl (ka_lasts, 90, .inl (upd f_lasts n_size y1)))]) [0, 1, 2, 3] rfl
        have hD9 := hD.sub (ws' := [(a_t, .inr (8, [.ref a_parts, .ref a_firsts, .ref a_lasts, .int (nI (n_size + 1)), .int 1, .int 1])), (a_parts, .inl (ka_parts, 90, .inl (upd f_parts n_size 2))), (a_firsts, .inl (ka_firsts, 90, .inl (upd f_firsts n_size y0))), (a_lasts, .inl (ka_lasts, 90, .inl (upd f_lasts n_size y1)))]) [0, 1, 2, 3] (by decide) rfl
        exact W.vret hx hb hr (fun t ht hW => ⟨⟨(), rfl, trivial, ((n_size + 1)), 1, 1, ((upd f_parts n_size 2)), ((upd f_firsts n_size y0)), ((upd f_lasts n_size y1)), by first | omega | assumption | exact Or.inl rfl | exact Or.inr rfl | decide, by exact ro_2 (b01_no e4) (lk_4 e24 e33), by rw [ht]; exact hP9, va_K.moved hW.alike hK, hD9⟩, hS.F ht⟩) hS.2.2 d_Row_addOperation_60
set_option maxHeartbeats 4000000 in
set_option maxRecDepth 100000 in
theorem s_Row_isWhole7 (l : Launch) (dC : Nat → ClassId) (dI : Nat → Nat → Nat) (sz : Nat) (a_t : Nat) (a_parts : Nat) (f_parts : Nat → Int32) (a_firsts : Nat) (f_firsts : Nat → Int32) (a_lasts : Nat) (f_lasts : Nat → Int32) (n_size : Nat) (z_operates : Int32) (z_lacksOperand : Int32) (ka_parts : ClassId) (b_size : n_size ≤ 90) : Met l y_Row_isWhole w_Row_isWhole ({ frames := 1, cells := 0, slots := 0, locals := 20 }) (va_Pc [.ref a_t] (fun U => U.heap.size = sz ∧ va_P (dC, dI) vcl [(a_t, .inr (8, [.ref a_parts, .ref a_firsts, .ref a_lasts, .int (nI n_size), .int z_operates, .int z_lacksOperand])), (a_parts, .inl (ka_parts, 90, .inl f_parts))] U.heap ∧ va_K (dC, dI) vcl [(ka_parts, .int)] U ∧ va_D (fun _ => True) [(a_t, .inr (8, [.ref a_parts, .ref a_firsts, .ref a_lasts, .int (nI n_size), .int z_operates, .int z_lacksOperand])), (a_parts, .inl (ka_parts, 90, .inl f_parts))])) (va_Qi (fun (r : Int32) (_ : Unit) => (r = 0 ∨ r = 1) ∧ (r = b01 (wh7 (z3 f_firsts f_lasts f_parts n_size, decide (¬ z_operates = 0), decide (¬ z_lacksOperand = 0))))) (fun _ t => va_P (dC, dI) vcl [(a_t, .inr (8, [.ref a_parts, .ref a_firsts, .ref a_lasts, .int (nI n_size), .int z_operates, .int z_lacksOperand])), (a_parts, .inl (ka_parts, 90, .inl f_parts))] t.heap ∧ va_K (dC, dI) vcl [(ka_parts, .int)] t ∧ va_D (va_A [(a_t, .inr (8, [.ref a_parts, .ref a_firsts, .ref a_lasts, .int (nI n_size), .int z_operates, .int z_lacksOperand])), (a_parts, .inl (ka_parts, 90, .inl f_parts))] sz) [(a_t, .inr (8, [.ref a_parts, .ref a_firsts, .ref a_lasts, .int (nI n_size), .int z_operates, .int z_lacksOperand])), (a_parts, .inl (ka_parts, 90, .inl f_parts))]) (va_A [(a_t, .inr (8, [.ref a_parts, .ref a_firsts, .ref a_lasts, .int (nI n_size), .int z_operates, .int z_lacksOperand])), (a_parts, .inl (ka_parts, 90, .inl f_parts))] sz)) 0 0 (va_A [(a_t, .inr (8, [.ref a_parts, .ref a_firsts, .ref a_lasts, .int (nI n_size), .int z_operates, .int z_lacksOperand])), (a_parts, .inl (ka_parts, 90, .inl f_parts))] sz) := by
  refine Met.ofW (cc := b_Row_isWhole) (maxL := 1) (ret := (some .boolean)) (by decide) rfl ?_
  intro p e s m args below meth c s₁ B hml hv
  obtain ⟨rfl, hsz, hP, hK, hD0⟩ := hv
  have hx := B.exec
  have hb := B.bytes
  have hr := B.returns
  have hts := atoms_spec (ws := w_Row_isWhole) B.pre
  have hz : ∀ w ∈ wz, w.before _ s = true := fun w h => hts w (List.mem_cons_of_mem _ h)
  have hown : s.vm.findClass R_Row = some m.cls := findClass_of_methodNamed B.named
  have hlocks := B.notSynchronized
  subst hsz
  have hD := hD0.self (sz := s.heap.size)
  generalize hAe : va_A [(a_t, .inr (8, [.ref a_parts, .ref a_firsts, .ref a_lasts, .int (nI n_size), .int z_operates, .int z_lacksOperand])), (a_parts, .inl (ka_parts, 90, .inl f_parts))] s.heap.size = A at hD ⊢
  have hA : ∀ q : Nat, s.heap.size ≤ q → A q := fun q h => by rw [← hAe]; exact Or.inr h
  have hS : va_S A s.heap s.heap [] := va_S.rf
  have hP : va_P (dC, dI) vcl [(a_t, .inr (8, [.ref a_parts, .ref a_firsts, .ref a_lasts, .int (nI n_size), .int z_operates, .int z_lacksOperand])), (a_parts, .inl (ka_parts, 90, .inl f_parts))] s.heap := hP
  have hl := lv_entry ([.ref a_t]) (n := 1) (Nat.le_of_ble_eq_true rfl)
  rw [lg_entry_eq]
  generalize (lg_sl ([.ref a_t]) ++ List.replicate (1 - (lg_sl ([.ref a_t])).length) Slot.unset).toArray = ls at hl ⊢
  have hl : lv_has ls 1 [(0, .ref a_t)] := hl
  refine lv_aload_n hx hb d_Row_isWhole_0 rfl (lv_at hl 0 rfl) ?_
  refine va_get (D := (dC, dI)) (ci := 8) (v := .int z_operates) (C := R_Row) (T := F_Row) (N := 6) hx hb hz zu_Row hown hK hP 0 rfl rfl 4 (by decide) (hz (.fieldLink R_Row 25 "LayoutFront$Row" "operates" "Z") zm_313) (fun _ h9 => h9) rfl d_Row_isWhole_1 ?_
  refine lv_if_eq (tgt := 25) hx hb d_Row_isWhole_4 (by decide) (fun h1 => ?_) (fun h1 => ?_)
  · have e4 := h1
    refine lv_iconst (v := 0) hx hb d_Row_isWhole_25 (by decide) ?_
    have hP9 := hP.sub (ws' := [(a_t, .inr (8, [.ref a_parts, .ref a_firsts, .ref a_lasts, .int (nI n_size), .int z_operates, .int z_lacksOperand])), (a_parts, .inl (ka_parts, 90, .inl f_parts))]) [0, 1] rfl
    have hD9 := hD.sub (ws' := [(a_t, .inr (8, [.ref a_parts, .ref a_firsts, .ref a_lasts, .int (nI n_size), .int z_operates, .int z_lacksOperand])), (a_parts, .inl (ka_parts, 90, .inl f_parts))]) [0, 1] (by decide) rfl
    exact W.zret (v := 0) hx hb hr (by decide +kernel) (fun t ht hW => ⟨⟨0, (), rfl, ⟨(by first | assumption | exact Or.inl rfl | exact Or.inr rfl), (by exact wh_a e4)⟩, by rw [ht]; exact hP9, va_K.moved hW.alike hK, hD9⟩, hS.F ht⟩) hS.2.2 d_Row_isWhole_26
  · have e4 := h1
    refine lv_aload_n hx hb d_Row_isWhole_7 rfl (lv_at hl 0 rfl) ?_
    refine va_get (D := (dC, dI)) (ci := 8) (v := .int z_lacksOperand) (C := R_Row) (T := F_Row) (N := 6) hx hb hz zu_Row hown hK hP 0 rfl rfl 5 (by decide) (hz (.fieldLink R_Row 29 "LayoutFront$Row" "lacksOperand" "Z") zm_314) (fun _ h9 => h9) rfl d_Row_isWhole_8 ?_
    refine lv_if_ne (tgt := 25) hx hb d_Row_isWhole_11 (by decide) (fun h2 => ?_) (fun h2 => ?_)
    · have e11 := h2
      refine lv_iconst (v := 0) hx hb d_Row_isWhole_25 (by decide) ?_
      have hP9 := hP.sub (ws' := [(a_t, .inr (8, [.ref a_parts, .ref a_firsts, .ref a_lasts, .int (nI n_size), .int z_operates, .int z_lacksOperand])), (a_parts, .inl (ka_parts, 90, .inl f_parts))]) [0, 1] rfl
      have hD9 := hD.sub (ws' := [(a_t, .inr (8, [.ref a_parts, .ref a_firsts, .ref a_lasts, .int (nI n_size), .int z_operates, .int z_lacksOperand])), (a_parts, .inl (ka_parts, 90, .inl f_parts))]) [0, 1] (by decide) rfl
      exact W.zret (v := 0) hx hb hr (by decide +kernel) (fun t ht hW => ⟨⟨0, (), rfl, ⟨(by first | assumption | exact Or.inl rfl | exact Or.inr rfl), (by exact wh_b e11)⟩, by rw [ht]; exact hP9, va_K.moved hW.alike hK, hD9⟩, hS.F ht⟩) hS.2.2 d_Row_isWhole_26
    · have e11 := h2
      refine lv_aload_n hx hb d_Row_isWhole_14 rfl (lv_at hl 0 rfl) ?_
      have hPc := hP.sub (ws' := [(a_t, .inr (8, [.ref a_parts, .ref a_firsts, .ref a_lasts, .int (nI n_size), .int z_operates, .int z_lacksOperand])), (a_parts, .inl (ka_parts, 90, .inl f_parts))]) [0, 1] rfl
      have hDc := hD.sub (ws' := [(a_t, .inr (8, [.ref a_parts, .ref a_firsts, .ref a_lasts, .int (nI n_size), .int z_operates, .int z_lacksOperand])), (a_parts, .inl (ka_parts, 90, .inl f_parts))]) [0, 1] (by decide) rfl
      have hKc := hK.sub (tys' := [(ka_parts, .int)]) [0] rfl
      have hFc := va_free (wc := [(a_t, .inr (8, [.ref a_parts, .ref a_firsts, .ref a_lasts, .int (nI n_size), .int z_operates, .int z_lacksOperand])), (a_parts, .inl (ka_parts, 90, .inl f_parts))]) hD hS hA [0, 1] rfl
      refine va_calli (va_runV (As := []) (rest := []) ⟨hx, hb, hml, hown, hz⟩ (s_Row_endsWithOperand7 l dC dI s.heap.size a_t a_parts f_parts a_firsts f_firsts a_lasts f_lasts n_size z_operates z_lacksOperand ka_parts (by first | omega | assumption | exact Or.inl rfl | exact Or.inr rfl | decide)) (cwV 0 hz (zV zm_315 zm_316 zm_317 zm_318 zm_319) rfl rfl rfl (by decide +kernel) ⟨Nat.le_of_ble_eq_true rfl, Nat.le_of_ble_eq_true rfl⟩) ⟨fun a U g mk q => by obtain ⟨q0, q1, qP, qK, qD⟩ := q; exact ⟨q0, q1, qP, va_K.moved (u := U) (U := U.calling g mk a) (Vm.Alike.refl U.vm) qK, qD⟩, va_recv (q := (R_Row, F_Row, 6)) (q0 := 0) (ci := 8) hK hP rfl rfl, fun U hU hW => ⟨rfl, by rw [hU], by rw [hU]; exact hPc, va_K.moved hW.alike hKc, hDc.weaken (fun _ _ _ _ => trivial)⟩⟩ rfl rfl hl.1 rfl (lv_room (Nat.le_of_ble_eq_true rfl)) d_Row_isWhole_15 ⟨Nat.zero_le _, Nat.zero_le _⟩) hS (fun q _ h => hFc q h) hFc (fun r u t H1 locs ht hvm hw_r hB hz1 hk1 hS => ?_)
      obtain ⟨hP1, hK1, hD1⟩ := hB
      obtain ⟨hb_r, he_r⟩ := hw_r
      subst r
      rw [ht] at hP1
      obtain ⟨hP, hD⟩ := va_join (wr := []) (w1 := [(a_t, .inr (8, [.ref a_parts, .ref a_firsts, .ref a_lasts, .int (nI n_size), .int z_operates, .int z_lacksOperand])), (a_parts, .inl (ka_parts, 90, .inl f_parts))]) hP hD [0, 1] [] rfl rfl (by decide) (by decide) hk1 hFc hP1 hD1
      generalize H1 = H at hP hS ⊢
      have hP : va_P (dC, dI) vcl [(a_t, .inr (8, [.ref a_parts, .ref a_firsts, .ref a_lasts, .int (nI n_size), .int z_operates, .int z_lacksOperand])), (a_parts, .inl (ka_parts, 90, .inl f_parts))] H := hP
      have hD : va_D A [(a_t, .inr (8, [.ref a_parts, .ref a_firsts, .ref a_lasts, .int (nI n_size), .int z_operates, .int z_lacksOperand])), (a_parts, .inl (ka_parts, 90, .inl f_parts))] := hD
      refine lv_if_eq (tgt := 25) hx hb d_Row_isWhole_18 (by decide) (fun h3 => ?_) (fun h3 => ?_)
      · have e18 := h3
        refine lv_iconst (v := 0) hx hb d_Row_isWhole_25 (by decide) ?_
        have hP9 := hP.sub (ws' := [(a_t, .inr (8, [.ref a_parts, .ref a_firsts, .ref a_lasts, .int (nI n_size), .int z_operates, .int z_lacksOperand])), (a_parts, .inl (ka_parts, 90, .inl f_parts))]) [0, 1] rfl
        have hD9 := hD.sub (ws' := [(a_t, .inr (8, [.ref a_parts, .ref a_firsts, .ref a_lasts, .int (nI n_size), .int z_operates, .int z_lacksOperand])), (a_parts, .inl (ka_parts, 90, .inl f_parts))]) [0, 1] (by decide) rfl
        exact W.zret (v := 0) hx hb hr (by decide +kernel) (fun t ht hW => ⟨⟨0, (), rfl, ⟨(by first | assumption | exact Or.inl rfl | exact Or.inr rfl), (by exact wh_c (b01_no e18))⟩, by rw [ht]; exact hP9, va_K.moved hW.alike hK, hD9⟩, hS.F ht⟩) hS.2.2 d_Row_isWhole_26
      · have e18 := h3
        refine lv_iconst (v := 1) hx hb d_Row_isWhole_21 (by decide) ?_
        refine lv_goto (tgt := 26) hx hb d_Row_isWhole_22 (by decide) ?_
        have hP9 := hP.sub (ws' := [(a_t, .inr (8, [.ref a_parts, .ref a_firsts, .ref a_lasts, .int (nI n_size), .int z_operates, .int z_lacksOperand])), (a_parts, .inl (ka_parts, 90, .inl f_parts))]) [0, 1] rfl
        have hD9 := hD.sub (ws' := [(a_t, .inr (8, [.ref a_parts, .ref a_firsts, .ref a_lasts, .int (nI n_size), .int z_operates, .int z_lacksOperand])), (a_parts, .inl (ka_parts, 90, .inl f_parts))]) [0, 1] (by decide) rfl
        exact W.zret (v := 1) hx hb hr (by decide +kernel) (fun t ht hW => ⟨⟨1, (), rfl, ⟨(by first | assumption | exact Or.inl rfl | exact Or.inr rfl), (by exact wh_d e4 e11 (b01_yes e18))⟩, by rw [ht]; exact hP9, va_K.moved hW.alike hK, hD9⟩, hS.F ht⟩) hS.2.2 d_Row_isWhole_26
set_option maxHeartbeats 4000000 in
set_option maxRecDepth 100000 in
theorem s_Row_has7 (l : Launch) (dC : Nat → ClassId) (dI : Nat → Nat → Nat) (sz : Nat) (a_t : Nat) (a_parts : Nat) (a_firsts : Nat) (a_lasts : Nat) (n_size : Nat) (z_operates : Int32) (z_lacksOperand : Int32) (y0 : Int32) (b_size : n_size ≤ 90) : Met l y_Row_has w_Row_has ({ frames := 0, cells := 0, slots := 0, locals := 0 }) (va_Pc [.ref a_t, .int y0] (fun U => U.heap.size = sz ∧ va_P (dC, dI) vcl [(a_t, .inr (8, [.ref a_parts, .ref a_firsts, .ref a_lasts, .int (nI n_size), .int z_operates, .int z_lacksOperand]))] U.heap ∧ va_K (dC, dI) vcl [] U ∧ va_D (fun _ => True) [(a_t, .inr (8, [.ref a_parts, .ref a_firsts, .ref a_lasts, .int (nI n_size), .int z_operates, .int z_lacksOperand]))])) (va_Qi (fun (r : Int32) (_ : Unit) => (r = 0 ∨ r = 1) ∧ (r = hsI n_size y0)) (fun _ t => va_P (dC, dI) vcl [(a_t, .inr (8, [.ref a_parts, .ref a_firsts, .ref a_lasts, .int (nI n_size), .int z_operates, .int z_lacksOperand]))] t.heap ∧ va_K (dC, dI) vcl [] t ∧ va_D (va_A [(a_t, .inr (8, [.ref a_parts, .ref a_firsts, .ref a_lasts, .int (nI n_size), .int z_operates, .int z_lacksOperand]))] sz) [(a_t, .inr (8, [.ref a_parts, .ref a_firsts, .ref a_lasts, .int (nI n_size), .int z_operates, .int z_lacksOperand]))]) (va_A [(a_t, .inr (8, [.ref a_parts, .ref a_firsts, .ref a_lasts, .int (nI n_size), .int z_operates, .int z_lacksOperand]))] sz)) 0 0 (va_A [(a_t, .inr (8, [.ref a_parts, .ref a_firsts, .ref a_lasts, .int (nI n_size), .int z_operates, .int z_lacksOperand]))] sz) := by
  refine Met.ofW (cc := b_Row_has) (maxL := 2) (ret := (some .boolean)) (by decide) rfl ?_
  intro p e s m args below meth c s₁ B hml hv
  obtain ⟨rfl, hsz, hP, hK, hD0⟩ := hv
  have hx := B.exec
  have hb := B.bytes
  have hr := B.returns
  have hts := atoms_spec (ws := w_Row_has) B.pre
  have hz : ∀ w ∈ wz, w.before _ s = true := fun w h => hts w (List.mem_cons_of_mem _ h)
  have hown : s.vm.findClass R_Row = some m.cls := findClass_of_methodNamed B.named
  have hlocks := B.notSynchronized
  subst hsz
  have hD := hD0.self (sz := s.heap.size)
  generalize hAe : va_A [(a_t, .inr (8, [.ref a_parts, .ref a_firsts, .ref a_lasts, .int (nI n_size), .int z_operates, .int z_lacksOperand]))] s.heap.size = A at hD ⊢
  have hA : ∀ q : Nat, s.heap.size ≤ q → A q := fun q h => by rw [← hAe]; exact Or.inr h
  have hS : va_S A s.heap s.heap [] := va_S.rf
  have hP : va_P (dC, dI) vcl [(a_t, .inr (8, [.ref a_parts, .ref a_firsts, .ref a_lasts, .int (nI n_size), .int z_operates, .int z_lacksOperand]))] s.heap := hP
  have hl := lv_entry ([.ref a_t, .int y0]) (n := 2) (Nat.le_of_ble_eq_true rfl)
  rw [lg_entry_eq]
  generalize (lg_sl ([.ref a_t, .int y0]) ++ List.replicate (2 - (lg_sl ([.ref a_t, .int y0])).length) Slot.unset).toArray = ls at hl ⊢
  have hl : lv_has ls 2 [(0, .ref a_t), (1, .int y0)] := hl
  refine lv_iload_n hx hb d_Row_has_0 rfl (lv_at hl 1 rfl) ?_
  refine lv_if_lt (tgt := 16) hx hb d_Row_has_1 (by decide) (fun h1 => ?_) (fun h1 => ?_)
  · refine lv_iconst (v := 0) hx hb d_Row_has_16 (by decide) ?_
    have hP9 := hP.sub (ws' := [(a_t, .inr (8, [.ref a_parts, .ref a_firsts, .ref a_lasts, .int (nI n_size), .int z_operates, .int z_lacksOperand]))]) [0] rfl
    have hD9 := hD.sub (ws' := [(a_t, .inr (8, [.ref a_parts, .ref a_firsts, .ref a_lasts, .int (nI n_size), .int z_operates, .int z_lacksOperand]))]) [0] (by decide) rfl
    exact W.zret (v := 0) hx hb hr (by decide +kernel) (fun t ht hW => ⟨⟨0, (), rfl, ⟨(by first | assumption | exact Or.inl rfl | exact Or.inr rfl), (by unfold hsI; simp [*])⟩, by rw [ht]; exact hP9, va_K.moved hW.alike hK, hD9⟩, hS.F ht⟩) hS.2.2 d_Row_has_17
  · refine lv_iload_n hx hb d_Row_has_4 rfl (lv_at hl 1 rfl) ?_
    refine lv_aload_n hx hb d_Row_has_5 rfl (lv_at hl 0 rfl) ?_
    refine va_get (D := (dC, dI)) (ci := 8) (v := .int (nI n_size)) (C := R_Row) (T := F_Row) (N := 6) hx hb hz zu_Row hown hK hP 0 rfl rfl 3 (by decide) (hz (.fieldLink R_Row 21 "LayoutFront$Row" "size" "I") zm_312) (fun _ h9 => h9) rfl d_Row_has_6 ?_
    refine lv_icmp_ge (tgt := 16) hx hb d_Row_has_9 (by decide) (fun h2 => ?_) (fun h2 => ?_)
    · refine lv_iconst (v := 0) hx hb d_Row_has_16 (by decide) ?_
      have hP9 := hP.sub (ws' := [(a_t, .inr (8, [.ref a_parts, .ref a_firsts, .ref a_lasts, .int (nI n_size), .int z_operates, .int z_lacksOperand]))]) [0] rfl
      have hD9 := hD.sub (ws' := [(a_t, .inr (8, [.ref a_parts, .ref a_firsts, .ref a_lasts, .int (nI n_size), .int z_operates, .int z_lacksOperand]))]) [0] (by decide) rfl
      exact W.zret (v := 0) hx hb hr (by decide +kernel) (fun t ht hW => ⟨⟨0, (), rfl, ⟨(by first | assumption | exact Or.inl rfl | exact Or.inr rfl), (by unfold hsI; simp [*])⟩, by rw [ht]; exact hP9, va_K.moved hW.alike hK, hD9⟩, hS.F ht⟩) hS.2.2 d_Row_has_17
    · refine lv_iconst (v := 1) hx hb d_Row_has_12 (by decide) ?_
      refine lv_goto (tgt := 17) hx hb d_Row_has_13 (by decide) ?_
      have hP9 := hP.sub (ws' := [(a_t, .inr (8, [.ref a_parts, .ref a_firsts, .ref a_lasts, .int (nI n_size), .int z_operates, .int z_lacksOperand]))]) [0] rfl
      have hD9 := hD.sub (ws' := [(a_t, .inr (8, [.ref a_parts, .ref a_firsts, .ref a_lasts, .int (nI n_size), .int z_operates, .int z_lacksOperand]))]) [0] (by decide) rfl
      exact W.zret (v := 1) hx hb hr (by decide +kernel) (fun t ht hW => ⟨⟨1, (), rfl, ⟨(by first | assumption | exact Or.inl rfl | exact Or.inr rfl), (by unfold hsI; simp [*])⟩, by rw [ht]; exact hP9, va_K.moved hW.alike hK, hD9⟩, hS.F ht⟩) hS.2.2 d_Row_has_17
set_option maxHeartbeats 4000000 in
set_option maxRecDepth 100000 in
theorem s_Row_partAt7 (l : Launch) (dC : Nat → ClassId) (dI : Nat → Nat → Nat) (sz : Nat) (a_t : Nat) (a_parts : Nat) (f_parts : Nat → Int32) (a_firsts : Nat) (a_lasts : Nat) (n_size : Nat) (z_operates : Int32) (z_lacksOperand : Int32) (y0 : Nat) (ka_parts : ClassId) (b_size : n_size ≤ 90) (by0 : y0 ≤ 90) : Met l y_Row_partAt w_Row_partAt ({ frames := 1, cells := 0, slots := 0, locals := 21 }) (va_Pc [.ref a_t, .int (nI y0)] (fun U => U.heap.size = sz ∧ va_P (dC, dI) vcl [(a_t, .inr (8, [.ref a_parts, .ref a_firsts, .ref a_lasts, .int (nI n_size), .int z_operates, .int z_lacksOperand])), (a_parts, .inl (ka_parts, 90, .inl f_parts))] U.heap ∧ va_K (dC, dI) vcl [(ka_parts, .int)] U ∧ va_D (fun _ => True) [(a_t, .inr (8, [.ref a_parts, .ref a_firsts, .ref a_lasts, .int (nI n_size), .int z_operates, .int z_lacksOperand])), (a_parts, .inl (ka_parts, 90, .inl f_parts))])) (va_Qi (fun (r : Int32) (_ : Unit) => r = if y0 < n_size then f_parts y0 else (-1)) (fun _ t => va_P (dC, dI) vcl [(a_t, .inr (8, [.ref a_parts, .ref a_firsts, .ref a_lasts, .int (nI n_size), .int z_operates, .int z_lacksOperand])), (a_parts, .inl (ka_parts, 90, .inl f_parts))] t.heap ∧ va_K (dC, dI) vcl [(ka_parts, .int)] t ∧ va_D (va_A [(a_t, .inr (8, [.ref a_parts, .ref a_firsts, .ref a_lasts, .int (nI n_size), .int z_operates, .int z_lacksOperand])), (a_parts, .inl (ka_parts, 90, .inl f_parts))] sz) [(a_t, .inr (8, [.ref a_parts, .ref a_firsts, .ref a_lasts, .int (nI n_size), .int z_operates, .int z_lacksOperand])), (a_parts, .inl (ka_parts, 90, .inl f_parts))]) (va_A [(a_t, .inr (8, [.ref a_parts, .ref a_firsts, .ref a_lasts, .int (nI n_size), .int z_operates, .int z_lacksOperand])), (a_parts, .inl (ka_parts, 90, .inl f_parts))] sz)) 0 0 (va_A [(a_t, .inr (8, [.ref a_parts, .ref a_firsts, .ref a_lasts, .int (nI n_size), .int z_operates, .int z_lacksOperand])), (a_parts, .inl (ka_parts, 90, .inl f_parts))] sz) := by
  refine Met.ofW (cc := b_Row_partAt) (maxL := 2) (ret := (some .int)) (by decide) rfl ?_
  intro p e s m args below meth c s₁ B hml hv
  obtain ⟨rfl, hsz, hP, hK, hD0⟩ := hv
  have hx := B.exec
  have hb := B.bytes
  have hr := B.returns
  have hts := atoms_spec (ws := w_Row_partAt) B.pre
  have hz : ∀ w ∈ wz, w.before _ s = true := fun w h => hts w (List.mem_cons_of_mem _ h)
  have hown : s.vm.findClass R_Row = some m.cls := findClass_of_methodNamed B.named
  have hlocks := B.notSynchronized
  subst hsz
  have hD := hD0.self (sz := s.heap.size)
  generalize hAe : va_A [(a_t, .inr (8, [.ref a_parts, .ref a_firsts, .ref a_lasts, .int (nI n_size), .int z_operates, .int z_lacksOperand])), (a_parts, .inl (ka_parts, 90, .inl f_parts))] s.heap.size = A at hD ⊢
  have hA : ∀ q : Nat, s.heap.size ≤ q → A q := fun q h => by rw [← hAe]; exact Or.inr h
  have hS : va_S A s.heap s.heap [] := va_S.rf
  have hP : va_P (dC, dI) vcl [(a_t, .inr (8, [.ref a_parts, .ref a_firsts, .ref a_lasts, .int (nI n_size), .int z_operates, .int z_lacksOperand])), (a_parts, .inl (ka_parts, 90, .inl f_parts))] s.heap := hP
  have hl := lv_entry ([.ref a_t, .int (nI y0)]) (n := 2) (Nat.le_of_ble_eq_true rfl)
  rw [lg_entry_eq]
  generalize (lg_sl ([.ref a_t, .int (nI y0)]) ++ List.replicate (2 - (lg_sl ([.ref a_t, .int (nI y0)])).length) Slot.unset).toArray = ls at hl ⊢
  have hl : lv_has ls 2 [(0, .ref a_t), (1, .int (nI y0))] := hl
  refine lv_aload_n hx hb d_Row_partAt_0 rfl (lv_at hl 0 rfl) ?_
  refine lv_iload_n hx hb d_Row_partAt_1 rfl (lv_at hl 1 rfl) ?_
  have hPc := hP.sub (ws' := [(a_t, .inr (8, [.ref a_parts, .ref a_firsts, .ref a_lasts, .int (nI n_size), .int z_operates, .int z_lacksOperand]))]) [0] rfl
  have hDc := hD.sub (ws' := [(a_t, .inr (8, [.ref a_parts, .ref a_firsts, .ref a_lasts, .int (nI n_size), .int z_operates, .int z_lacksOperand]))]) [0] (by decide) rfl
  have hKc := hK.sub (tys' := []) [] rfl
  have hFc := va_free (wc := [(a_t, .inr (8, [.ref a_parts, .ref a_firsts, .ref a_lasts, .int (nI n_size), .int z_operates, .int z_lacksOperand]))]) hD hS hA [0] rfl
  refine va_calli (va_runV (As := [.int (nI y0)]) (rest := []) ⟨hx, hb, hml, hown, hz⟩ (s_Row_has7 l dC dI s.heap.size a_t a_parts a_firsts a_lasts n_size z_operates z_lacksOperand ((nI y0)) (by first | omega | assumption | exact Or.inl rfl | exact Or.inr rfl)) (cwV 1 hz (zV zm_324 zm_325 zm_326 zm_318 zm_327) rfl rfl rfl (by decide +kernel) ⟨Nat.le_of_ble_eq_true rfl, Nat.le_of_ble_eq_true rfl⟩) ⟨fun a U g mk q => by obtain ⟨q0, q1, qP, qK, qD⟩ := q; exact ⟨q0, q1, qP, va_K.moved (u := U) (U := U.calling g mk a) (Vm.Alike.refl U.vm) qK, qD⟩, va_recv (q := (R_Row, F_Row, 6)) (q0 := 0) (ci := 8) hK hP rfl rfl, fun U hU hW => ⟨rfl, by rw [hU], by rw [hU]; exact hPc, va_K.moved hW.alike hKc, hDc.weaken (fun _ _ _ _ => trivial)⟩⟩ rfl rfl hl.1 rfl (lv_room (Nat.le_of_ble_eq_true rfl)) d_Row_partAt_2 ⟨Nat.zero_le _, Nat.zero_le _⟩) hS (fun q _ h => hFc q h) hFc (fun r u t H1 locs ht hvm hw_r hB hz1 hk1 hS => ?_)
  obtain ⟨hP1, hK1, hD1⟩ := hB
  obtain ⟨hb_r, he_r⟩ := hw_r
  subst r
  rw [ht] at hP1
  obtain ⟨hP, hD⟩ := va_join (wr := [(a_parts, .inl (ka_parts, 90, .inl f_parts))]) (w1 := [(a_t, .inr (8, [.ref a_parts, .ref a_firsts, .ref a_lasts, .int (nI n_size), .int z_operates, .int z_lacksOperand]))]) hP hD [0] [1] rfl rfl (by decide) (by decide) hk1 hFc hP1 hD1
  generalize H1 = H at hP hS ⊢
  have hP : va_P (dC, dI) vcl [(a_parts, .inl (ka_parts, 90, .inl f_parts)), (a_t, .inr (8, [.ref a_parts, .ref a_firsts, .ref a_lasts, .int (nI n_size), .int z_operates, .int z_lacksOperand]))] H := hP
  have hD : va_D A [(a_parts, .inl (ka_parts, 90, .inl f_parts)), (a_t, .inr (8, [.ref a_parts, .ref a_firsts, .ref a_lasts, .int (nI n_size), .int z_operates, .int z_lacksOperand]))] := hD
  refine lv_if_eq (tgt := 17) hx hb d_Row_partAt_5 (by decide) (fun h1 => ?_) (fun h1 => ?_)
  · have e5 := hs_no h1 (by omega) (by omega)
    refine lv_iconst (v := (-1)) hx hb d_Row_partAt_17 (by decide) ?_
    have hP9 := hP.sub (ws' := [(a_t, .inr (8, [.ref a_parts, .ref a_firsts, .ref a_lasts, .int (nI n_size), .int z_operates, .int z_lacksOperand])), (a_parts, .inl (ka_parts, 90, .inl f_parts))]) [1, 0] rfl
    have hD9 := hD.sub (ws' := [(a_t, .inr (8, [.ref a_parts, .ref a_firsts, .ref a_lasts, .int (nI n_size), .int z_operates, .int z_lacksOperand])), (a_parts, .inl (ka_parts, 90, .inl f_parts))]) [1, 0] (by decide) rfl
    exact W.iret (v := (-1)) hx hb hr (fun t ht hW => ⟨⟨(-1), (), rfl, (by first | exact (if_neg e5).symm | exact (if_pos e5).symm), by rw [ht]; exact hP9, va_K.moved hW.alike hK, hD9⟩, hS.F ht⟩) hS.2.2 d_Row_partAt_18
  · have e5 := hs_yes h1 (by omega) (by omega)
    refine lv_aload_n hx hb d_Row_partAt_8 rfl (lv_at hl 0 rfl) ?_
    refine va_get (D := (dC, dI)) (ci := 8) (v := .ref a_parts) (C := R_Row) (T := F_Row) (N := 6) hx hb hz zu_Row hown hK hP 1 rfl rfl 0 (by decide) (hz (.fieldLink R_Row 9 "LayoutFront$Row" "parts" "[I") zm_308) (fun _ h9 => h9) rfl d_Row_partAt_9 ?_
    refine lv_iload_n hx hb d_Row_partAt_12 rfl (lv_at hl 1 rfl) ?_
    refine xr_iald (v := (f_parts y0)) hx hb hK hP 0 0 rfl rfl (vp_in_nI (by omega) (by omega)) (congrArg f_parts (nI_clamp (by omega))) d_Row_partAt_13 ?_
    refine lv_goto (tgt := 18) hx hb d_Row_partAt_14 (by decide) ?_
    have hP9 := hP.sub (ws' := [(a_t, .inr (8, [.ref a_parts, .ref a_firsts, .ref a_lasts, .int (nI n_size), .int z_operates, .int z_lacksOperand])), (a_parts, .inl (ka_parts, 90, .inl f_parts))]) [1, 0] rfl
    have hD9 := hD.sub (ws' := [(a_t, .inr (8, [.ref a_parts, .ref a_firsts, .ref a_lasts, .int (nI n_size), .int z_operates, .int z_lacksOperand])), (a_parts, .inl (ka_parts, 90, .inl f_parts))]) [1, 0] (by decide) rfl
    exact W.iret (v := (f_parts y0)) hx hb hr (fun t ht hW => ⟨⟨(f_parts y0), (), rfl, (by first | exact (if_neg e5).symm | exact (if_pos e5).symm), by rw [ht]; exact hP9, va_K.moved hW.alike hK, hD9⟩, hS.F ht⟩) hS.2.2 d_Row_partAt_18
set_option maxHeartbeats 4000000 in
set_option maxRecDepth 100000 in
theorem s_Row_firstAt7 (l : Launch) (dC : Nat → ClassId) (dI : Nat → Nat → Nat) (sz : Nat) (a_t : Nat) (a_parts : Nat) (a_firsts : Nat) (f_firsts : Nat → Int32) (a_lasts : Nat) (n_size : Nat) (z_operates : Int32) (z_lacksOperand : Int32) (y0 : Nat) (ka_firsts : ClassId) (b_size : n_size ≤ 90) (by0 : y0 ≤ 90) : Met l y_Row_firstAt w_Row_firstAt ({ frames := 1, cells := 0, slots := 0, locals := 21 }) (va_Pc [.ref a_t, .int (nI y0)] (fun U => U.heap.size = sz ∧ va_P (dC, dI) vcl [(a_t, .inr (8, [.ref a_parts, .ref a_firsts, .ref a_lasts, .int (nI n_size), .int z_operates, .int z_lacksOperand])), (a_firsts, .inl (ka_firsts, 90, .inl f_firsts))] U.heap ∧ va_K (dC, dI) vcl [(ka_firsts, .int)] U ∧ va_D (fun _ => True) [(a_t, .inr (8, [.ref a_parts, .ref a_firsts, .ref a_lasts, .int (nI n_size), .int z_operates, .int z_lacksOperand])), (a_firsts, .inl (ka_firsts, 90, .inl f_firsts))])) (va_Qi (fun (r : Int32) (_ : Unit) => r = if y0 < n_size then f_firsts y0 else (-1)) (fun _ t => va_P (dC, dI) vcl [(a_t, .inr (8, [.ref a_parts, .ref a_firsts, .ref a_lasts, .int (nI n_size), .int z_operates, .int z_lacksOperand])), (a_firsts, .inl (ka_firsts, 90, .inl f_firsts))] t.heap ∧ va_K (dC, dI) vcl [(ka_firsts, .int)] t ∧ va_D (va_A [(a_t, .inr (8, [.ref a_parts, .ref a_firsts, .ref a_lasts, .int (nI n_size), .int z_operates, .int z_lacksOperand])), (a_firsts, .inl (ka_firsts, 90, .inl f_firsts))] sz) [(a_t, .inr (8, [.ref a_parts, .ref a_firsts, .ref a_lasts, .int (nI n_size), .int z_operates, .int z_lacksOperand])), (a_firsts, .inl (ka_firsts, 90, .inl f_firsts))]) (va_A [(a_t, .inr (8, [.ref a_parts, .ref a_firsts, .ref a_lasts, .int (nI n_size), .int z_operates, .int z_lacksOperand])), (a_firsts, .inl (ka_firsts, 90, .inl f_firsts))] sz)) 0 0 (va_A [(a_t, .inr (8, [.ref a_parts, .ref a_firsts, .ref a_lasts, .int (nI n_size), .int z_operates, .int z_lacksOperand])), (a_firsts, .inl (ka_firsts, 90, .inl f_firsts))] sz) := by
  refine Met.ofW (cc := b_Row_firstAt) (maxL := 2) (ret := (some .int)) (by decide) rfl ?_
  intro p e s m args below meth c s₁ B hml hv
  obtain ⟨rfl, hsz, hP, hK, hD0⟩ := hv
  have hx := B.exec
  have hb := B.bytes
  have hr := B.returns
  have hts := atoms_spec (ws := w_Row_firstAt) B.pre
  have hz : ∀ w ∈ wz, w.before _ s = true := fun w h => hts w (List.mem_cons_of_mem _ h)
  have hown : s.vm.findClass R_Row = some m.cls := findClass_of_methodNamed B.named
  have hlocks := B.notSynchronized
  subst hsz
  have hD := hD0.self (sz := s.heap.size)
  generalize hAe : va_A [(a_t, .inr (8, [.ref a_parts, .ref a_firsts, .ref a_lasts, .int (nI n_size), .int z_operates, .int z_lacksOperand])), (a_firsts, .inl (ka_firsts, 90, .inl f_firsts))] s.heap.size = A at hD ⊢
  have hA : ∀ q : Nat, s.heap.size ≤ q → A q := fun q h => by rw [← hAe]; exact Or.inr h
  have hS : va_S A s.heap s.heap [] := va_S.rf
  have hP : va_P (dC, dI) vcl [(a_t, .inr (8, [.ref a_parts, .ref a_firsts, .ref a_lasts, .int (nI n_size), .int z_operates, .int z_lacksOperand])), (a_firsts, .inl (ka_firsts, 90, .inl f_firsts))] s.heap := hP
  have hl := lv_entry ([.ref a_t, .int (nI y0)]) (n := 2) (Nat.le_of_ble_eq_true rfl)
  rw [lg_entry_eq]
  generalize (lg_sl ([.ref a_t, .int (nI y0)]) ++ List.replicate (2 - (lg_sl ([.ref a_t, .int (nI y0)])).length) Slot.unset).toArray = ls at hl ⊢
  have hl : lv_has ls 2 [(0, .ref a_t), (1, .int (nI y0))] := hl
  refine lv_aload_n hx hb d_Row_firstAt_0 rfl (lv_at hl 0 rfl) ?_
  refine lv_iload_n hx hb d_Row_firstAt_1 rfl (lv_at hl 1 rfl) ?_
  have hPc := hP.sub (ws' := [(a_t, .inr (8, [.ref a_parts, .ref a_firsts, .ref a_lasts, .int (nI n_size), .int z_operates, .int z_lacksOperand]))]) [0] rfl
  have hDc := hD.sub (ws' := [(a_t, .inr (8, [.ref a_parts, .ref a_firsts, .ref a_lasts, .int (nI n_size), .int z_operates, .int z_lacksOperand]))]) [0] (by decide) rfl
  have hKc := hK.sub (tys' := []) [] rfl
  have hFc := va_free (wc := [(a_t, .inr (8, [.ref a_parts, .ref a_firsts, .ref a_lasts, .int (nI n_size), .int z_operates, .int z_lacksOperand]))]) hD hS hA [0] rfl
  refine va_calli (va_runV (As := [.int (nI y0)]) (rest := []) ⟨hx, hb, hml, hown, hz⟩ (s_Row_has7 l dC dI s.heap.size a_t a_parts a_firsts a_lasts n_size z_operates z_lacksOperand ((nI y0)) (by first | omega | assumption | exact Or.inl rfl | exact Or.inr rfl)) (cwV 1 hz (zV zm_324 zm_325 zm_326 zm_318 zm_327) rfl rfl rfl (by decide +kernel) ⟨Nat.le_of_ble_eq_true rfl, Nat.le_of_ble_eq_true rfl⟩) ⟨fun a U g mk q => by obtain ⟨q0, q1, qP, qK, qD⟩ := q; exact ⟨q0, q1, qP, va_K.moved (u := U) (U := U.calling g mk a) (Vm.Alike.refl U.vm) qK, qD⟩, va_recv (q := (R_Row, F_Row, 6)) (q0 := 0) (ci := 8) hK hP rfl rfl, fun U hU hW => ⟨rfl, by rw [hU], by rw [hU]; exact hPc, va_K.moved hW.alike hKc, hDc.weaken (fun _ _ _ _ => trivial)⟩⟩ rfl rfl hl.1 rfl (lv_room (Nat.le_of_ble_eq_true rfl)) d_Row_firstAt_2 ⟨Nat.zero_le _, Nat.zero_le _⟩) hS (fun q _ h => hFc q h) hFc (fun r u t H1 locs ht hvm hw_r hB hz1 hk1 hS => ?_)
  obtain ⟨hP1, hK1, hD1⟩ := hB
  obtain ⟨hb_r, he_r⟩ := hw_r
  subst r
  rw [ht] at hP1
  obtain ⟨hP, hD⟩ := va_join (wr := [(a_firsts, .inl (ka_firsts, 90, .inl f_firsts))]) (w1 := [(a_t, .inr (8, [.ref a_parts, .ref a_firsts, .ref a_lasts, .int (nI n_size), .int z_operates, .int z_lacksOperand]))]) hP hD [0] [1] rfl rfl (by decide) (by decide) hk1 hFc hP1 hD1
  generalize H1 = H at hP hS ⊢
  have hP : va_P (dC, dI) vcl [(a_firsts, .inl (ka_firsts, 90, .inl f_firsts)), (a_t, .inr (8, [.ref a_parts, .ref a_firsts, .ref a_lasts, .int (nI n_size), .int z_operates, .int z_lacksOperand]))] H := hP
  have hD : va_D A [(a_firsts, .inl (ka_firsts, 90, .inl f_firsts)), (a_t, .inr (8, [.ref a_parts, .ref a_firsts, .ref a_lasts, .int (nI n_size), .int z_operates, .int z_lacksOperand]))] := hD
  refine lv_if_eq (tgt := 17) hx hb d_Row_firstAt_5 (by decide) (fun h1 => ?_) (fun h1 => ?_)
  · have e5 := hs_no h1 (by omega) (by omega)
    refine lv_iconst (v := (-1)) hx hb d_Row_firstAt_17 (by decide) ?_
    have hP9 := hP.sub (ws' := [(a_t, .inr (8, [.ref a_parts, .ref a_firsts, .ref a_lasts, .int (nI n_size), .int z_operates, .int z_lacksOperand])), (a_firsts, .inl (ka_firsts, 90, .inl f_firsts))]) [1, 0] rfl
    have hD9 := hD.sub (ws' := [(a_t, .inr (8, [.ref a_parts, .ref a_firsts, .ref a_lasts, .int (nI n_size), .int z_operates, .int z_lacksOperand])), (a_firsts, .inl (ka_firsts, 90, .inl f_firsts))]) [1, 0] (by decide) rfl
    exact W.iret (v := (-1)) hx hb hr (fun t ht hW => ⟨⟨(-1), (), rfl, (by first | exact (if_neg e5).symm | exact (if_pos e5).symm), by rw [ht]; exact hP9, va_K.moved hW.alike hK, hD9⟩, hS.F ht⟩) hS.2.2 d_Row_firstAt_18
  · have e5 := hs_yes h1 (by omega) (by omega)
    refine lv_aload_n hx hb d_Row_firstAt_8 rfl (lv_at hl 0 rfl) ?_
    refine va_get (D := (dC, dI)) (ci := 8) (v := .ref a_firsts) (C := R_Row) (T := F_Row) (N := 6) hx hb hz zu_Row hown hK hP 1 rfl rfl 1 (by decide) (hz (.fieldLink R_Row 15 "LayoutFront$Row" "firsts" "[I") zm_309) (fun _ h9 => h9) rfl d_Row_firstAt_9 ?_
    refine lv_iload_n hx hb d_Row_firstAt_12 rfl (lv_at hl 1 rfl) ?_
    refine xr_iald (v := (f_firsts y0)) hx hb hK hP 0 0 rfl rfl (vp_in_nI (by omega) (by omega)) (congrArg f_firsts (nI_clamp (by omega))) d_Row_firstAt_13 ?_
    refine lv_goto (tgt := 18) hx hb d_Row_firstAt_14 (by decide) ?_
    have hP9 := hP.sub (ws' := [(a_t, .inr (8, [.ref a_parts, .ref a_firsts, .ref a_lasts, .int (nI n_size), .int z_operates, .int z_lacksOperand])), (a_firsts, .inl (ka_firsts, 90, .inl f_firsts))]) [1, 0] rfl
    have hD9 := hD.sub (ws' := [(a_t, .inr (8, [.ref a_parts, .ref a_firsts, .ref a_lasts, .int (nI n_size), .int z_operates, .int z_lacksOperand])), (a_firsts, .inl (ka_firsts, 90, .inl f_firsts))]) [1, 0] (by decide) rfl
    exact W.iret (v := (f_firsts y0)) hx hb hr (fun t ht hW => ⟨⟨(f_firsts y0), (), rfl, (by first | exact (if_neg e5).symm | exact (if_pos e5).symm), by rw [ht]; exact hP9, va_K.moved hW.alike hK, hD9⟩, hS.F ht⟩) hS.2.2 d_Row_firstAt_18
set_option maxHeartbeats 4000000 in
set_option maxRecDepth 100000 in
theorem s_Row_lastAt7 (l : Launch) (dC : Nat → ClassId) (dI : Nat → Nat → Nat) (sz : Nat) (a_t : Nat) (a_parts : Nat) (a_firsts : Nat) (a_lasts : Nat) (f_lasts : Nat → Int32) (n_size : Nat) (z_operates : Int32) (z_lacksOperand : Int32) (y0 : Nat) (ka_lasts : ClassId) (b_size : n_size ≤ 90) (by0 : y0 ≤ 90) : Met l y_Row_lastAt w_Row_lastAt ({ frames := 1, cells := 0, slots := 0, locals := 21 }) (va_Pc [.ref a_t, .int (nI y0)] (fun U => U.heap.size = sz ∧ va_P (dC, dI) vcl [(a_t, .inr (8, [.ref a_parts, .ref a_firsts, .ref a_lasts, .int (nI n_size), .int z_operates, .int z_lacksOperand])), (a_lasts, .inl (ka_lasts, 90, .inl f_lasts))] U.heap ∧ va_K (dC, dI) vcl [(ka_lasts, .int)] U ∧ va_D (fun _ => True) [(a_t, .inr (8, [.ref a_parts, .ref a_firsts, .ref a_lasts, .int (nI n_size), .int z_operates, .int z_lacksOperand])), (a_lasts, .inl (ka_lasts, 90, .inl f_lasts))])) (va_Qi (fun (r : Int32) (_ : Unit) => r = if y0 < n_size then f_lasts y0 else (-1)) (fun _ t => va_P (dC, dI) vcl [(a_t, .inr (8, [.ref a_parts, .ref a_firsts, .ref a_lasts, .int (nI n_size), .int z_operates, .int z_lacksOperand])), (a_lasts, .inl (ka_lasts, 90, .inl f_lasts))] t.heap ∧ va_K (dC, dI) vcl [(ka_lasts, .int)] t ∧ va_D (va_A [(a_t, .inr (8, [.ref a_parts, .ref a_firsts, .ref a_lasts, .int (nI n_size), .int z_operates, .int z_lacksOperand])), (a_lasts, .inl (ka_lasts, 90, .inl f_lasts))] sz) [(a_t, .inr (8, [.ref a_parts, .ref a_firsts, .ref a_lasts, .int (nI n_size), .int z_operates, .int z_lacksOperand])), (a_lasts, .inl (ka_lasts, 90, .inl f_lasts))]) (va_A [(a_t, .inr (8, [.ref a_parts, .ref a_firsts, .ref a_lasts, .int (nI n_size), .int z_operates, .int z_lacksOperand])), (a_lasts, .inl (ka_lasts, 90, .inl f_lasts))] sz)) 0 0 (va_A [(a_t, .inr (8, [.ref a_parts, .ref a_firsts, .ref a_lasts, .int (nI n_size), .int z_operates, .int z_lacksOperand])), (a_lasts, .inl (ka_lasts, 90, .inl f_lasts))] sz) := by
  refine Met.ofW (cc := b_Row_lastAt) (maxL := 2) (ret := (some .int)) (by decide) rfl ?_
  intro p e s m args below meth c s₁ B hml hv
  obtain ⟨rfl, hsz, hP, hK, hD0⟩ := hv
  have hx := B.exec
  have hb := B.bytes
  have hr := B.returns
  have hts := atoms_spec (ws := w_Row_lastAt) B.pre
  have hz : ∀ w ∈ wz, w.before _ s = true := fun w h => hts w (List.mem_cons_of_mem _ h)
  have hown : s.vm.findClass R_Row = some m.cls := findClass_of_methodNamed B.named
  have hlocks := B.notSynchronized
  subst hsz
  have hD := hD0.self (sz := s.heap.size)
  generalize hAe : va_A [(a_t, .inr (8, [.ref a_parts, .ref a_firsts, .ref a_lasts, .int (nI n_size), .int z_operates, .int z_lacksOperand])), (a_lasts, .inl (ka_lasts, 90, .inl f_lasts))] s.heap.size = A at hD ⊢
  have hA : ∀ q : Nat, s.heap.size ≤ q → A q := fun q h => by rw [← hAe]; exact Or.inr h
  have hS : va_S A s.heap s.heap [] := va_S.rf
  have hP : va_P (dC, dI) vcl [(a_t, .inr (8, [.ref a_parts, .ref a_firsts, .ref a_lasts, .int (nI n_size), .int z_operates, .int z_lacksOperand])), (a_lasts, .inl (ka_lasts, 90, .inl f_lasts))] s.heap := hP
  have hl := lv_entry ([.ref a_t, .int (nI y0)]) (n := 2) (Nat.le_of_ble_eq_true rfl)
  rw [lg_entry_eq]
  generalize (lg_sl ([.ref a_t, .int (nI y0)]) ++ List.replicate (2 - (lg_sl ([.ref a_t, .int (nI y0)])).length) Slot.unset).toArray = ls at hl ⊢
  have hl : lv_has ls 2 [(0, .ref a_t), (1, .int (nI y0))] := hl
  refine lv_aload_n hx hb d_Row_lastAt_0 rfl (lv_at hl 0 rfl) ?_
  refine lv_iload_n hx hb d_Row_lastAt_1 rfl (lv_at hl 1 rfl) ?_
  have hPc := hP.sub (ws' := [(a_t, .inr (8, [.ref a_parts, .ref a_firsts, .ref a_lasts, .int (nI n_size), .int z_operates, .int z_lacksOperand]))]) [0] rfl
  have hDc := hD.sub (ws' := [(a_t, .inr (8, [.ref a_parts, .ref a_firsts, .ref a_lasts, .int (nI n_size), .int z_operates, .int z_lacksOperand]))]) [0] (by decide) rfl
  have hKc := hK.sub (tys' := []) [] rfl
  have hFc := va_free (wc := [(a_t, .inr (8, [.ref a_parts, .ref a_firsts, .ref a_lasts, .int (nI n_size), .int z_operates, .int z_lacksOperand]))]) hD hS hA [0] rfl
  refine va_calli (va_runV (As := [.int (nI y0)]) (rest := []) ⟨hx, hb, hml, hown, hz⟩ (s_Row_has7 l dC dI s.heap.size a_t a_parts a_firsts a_lasts n_size z_operates z_lacksOperand ((nI y0)) (by first | omega | assumption | exact Or.inl rfl | exact Or.inr rfl)) (cwV 1 hz (zV zm_324 zm_325 zm_326 zm_318 zm_327) rfl rfl rfl (by decide +kernel) ⟨Nat.le_of_ble_eq_true rfl, Nat.le_of_ble_eq_true rfl⟩) ⟨fun a U g mk q => by obtain ⟨q0, q1, qP, qK, qD⟩ := q; exact ⟨q0, q1, qP, va_K.moved (u := U) (U := U.calling g mk a) (Vm.Alike.refl U.vm) qK, qD⟩, va_recv (q := (R_Row, F_Row, 6)) (q0 := 0) (ci := 8) hK hP rfl rfl, fun U hU hW => ⟨rfl, by rw [hU], by rw [hU]; exact hPc, va_K.moved hW.alike hKc, hDc.weaken (fun _ _ _ _ => trivial)⟩⟩ rfl rfl hl.1 rfl (lv_room (Nat.le_of_ble_eq_true rfl)) d_Row_lastAt_2 ⟨Nat.zero_le _, Nat.zero_le _⟩) hS (fun q _ h => hFc q h) hFc (fun r u t H1 locs ht hvm hw_r hB hz1 hk1 hS => ?_)
  obtain ⟨hP1, hK1, hD1⟩ := hB
  obtain ⟨hb_r, he_r⟩ := hw_r
  subst r
  rw [ht] at hP1
  obtain ⟨hP, hD⟩ := va_join (wr := [(a_lasts, .inl (ka_lasts, 90, .inl f_lasts))]) (w1 := [(a_t, .inr (8, [.ref a_parts, .ref a_firsts, .ref a_lasts, .int (nI n_size), .int z_operates, .int z_lacksOperand]))]) hP hD [0] [1] rfl rfl (by decide) (by decide) hk1 hFc hP1 hD1
  generalize H1 = H at hP hS ⊢
  have hP : va_P (dC, dI) vcl [(a_lasts, .inl (ka_lasts, 90, .inl f_lasts)), (a_t, .inr (8, [.ref a_parts, .ref a_firsts, .ref a_lasts, .int (nI n_size), .int z_operates, .int z_lacksOperand]))] H := hP
  have hD : va_D A [(a_lasts, .inl (ka_lasts, 90, .inl f_lasts)), (a_t, .inr (8, [.ref a_parts, .ref a_firsts, .ref a_lasts, .int (nI n_size), .int z_operates, .int z_lacksOperand]))] := hD
  refine lv_if_eq (tgt := 17) hx hb d_Row_lastAt_5 (by decide) (fun h1 => ?_) (fun h1 => ?_)
  · have e5 := hs_no h1 (by omega) (by omega)
    refine lv_iconst (v := (-1)) hx hb d_Row_lastAt_17 (by decide) ?_
    have hP9 := hP.sub (ws' := [(a_t, .inr (8, [.ref a_parts, .ref a_firsts, .ref a_lasts, .int (nI n_size), .int z_operates, .int z_lacksOperand])), (a_lasts, .inl (ka_lasts, 90, .inl f_lasts))]) [1, 0] rfl
    have hD9 := hD.sub (ws' := [(a_t, .inr (8, [.ref a_parts, .ref a_firsts, .ref a_lasts, .int (nI n_size), .int z_operates, .int z_lacksOperand])), (a_lasts, .inl (ka_lasts, 90, .inl f_lasts))]) [1, 0] (by decide) rfl
    exact W.iret (v := (-1)) hx hb hr (fun t ht hW => ⟨⟨(-1), (), rfl, (by first | exact (if_neg e5).symm | exact (if_pos e5).symm), by rw [ht]; exact hP9, va_K.moved hW.alike hK, hD9⟩, hS.F ht⟩) hS.2.2 d_Row_lastAt_18
  · have e5 := hs_yes h1 (by omega) (by omega)
    refine lv_aload_n hx hb d_Row_lastAt_8 rfl (lv_at hl 0 rfl) ?_
    refine va_get (D := (dC, dI)) (ci := 8) (v := .ref a_lasts) (C := R_Row) (T := F_Row) (N := 6) hx hb hz zu_Row hown hK hP 1 rfl rfl 2 (by decide) (hz (.fieldLink R_Row 18 "LayoutFront$Row" "lasts" "[I") zm_310) (fun _ h9 => h9) rfl d_Row_lastAt_9 ?_
    refine lv_iload_n hx hb d_Row_lastAt_12 rfl (lv_at hl 1 rfl) ?_
    refine xr_iald (v := (f_lasts y0)) hx hb hK hP 0 0 rfl rfl (vp_in_nI (by omega) (by omega)) (congrArg f_lasts (nI_clamp (by omega))) d_Row_lastAt_13 ?_
    refine lv_goto (tgt := 18) hx hb d_Row_lastAt_14 (by decide) ?_
    have hP9 := hP.sub (ws' := [(a_t, .inr (8, [.ref a_parts, .ref a_firsts, .ref a_lasts, .int (nI n_size), .int z_operates, .int z_lacksOperand])), (a_lasts, .inl (ka_lasts, 90, .inl f_lasts))]) [1, 0] rfl
    have hD9 := hD.sub (ws' := [(a_t, .inr (8, [.ref a_parts, .ref a_firsts, .ref a_lasts, .int (nI n_size), .int z_operates, .int z_lacksOperand])), (a_lasts, .inl (ka_lasts, 90, .inl f_lasts))]) [1, 0] (by decide) rfl
    exact W.iret (v := (f_lasts y0)) hx hb hr (fun t ht hW => ⟨⟨(f_lasts y0), (), rfl, (by first | exact (if_neg e5).symm | exact (if_pos e5).symm), by rw [ht]; exact hP9, va_K.moved hW.alike hK, hD9⟩, hS.F ht⟩) hS.2.2 d_Row_lastAt_18
set_option maxHeartbeats 4000000 in
set_option maxRecDepth 100000 in
theorem s_Resolver_startRow7 (l : Launch) (dC : Nat → ClassId) (dI : Nat → Nat → Nat) (sz : Nat) (a_t : Nat) (a_pairFirsts : Nat) (a_pairLasts : Nat) (n_pairs : Nat) (n_pairsBefore : Nat) (a_firsts : Nat) (a_lasts : Nat) (n_operands : Nat) (a_levels : Nat) (a_sides : Nat) (a_minusPlaces : Nat) (n_waiting : Nat) (b_pairs : n_pairs ≤ 90) (b_pairsBefore : n_pairsBefore ≤ 90) (b_operands : n_operands ≤ 90) (b_waiting : n_waiting ≤ 90) : Met l y_Resolver_startRow w_Resolver_startRow ({ frames := 0, cells := 0, slots := 0, locals := 0 }) (va_Pc [.ref a_t] (fun U => U.heap.size = sz ∧ va_P (dC, dI) vcl [(a_t, .inr (7, [.ref a_pairFirsts, .ref a_pairLasts, .int (nI n_pairs), .int (nI n_pairsBefore), .ref a_firsts, .ref a_lasts, .int (nI n_operands), .ref a_levels, .ref a_sides, .ref a_minusPlaces, .int (nI n_waiting)]))] U.heap ∧ va_K (dC, dI) vcl [] U ∧ va_D (fun _ => True) [(a_t, .inr (7, [.ref a_pairFirsts, .ref a_pairLasts, .int (nI n_pairs), .int (nI n_pairsBefore), .ref a_firsts, .ref a_lasts, .int (nI n_operands), .ref a_levels, .ref a_sides, .ref a_minusPlaces, .int (nI n_waiting)]))])) (va_Qv (fun (_ : Unit) => True) (fun _ t => ∃ (w_n_pairsBefore : Nat) (w_n_operands : Nat) (w_n_waiting : Nat), (w_n_pairsBefore ≤ 90) ∧ (w_n_operands ≤ 90) ∧ (w_n_waiting ≤ 90) ∧ (w_n_pairsBefore = n_pairs) ∧ (w_n_operands = 0) ∧ (w_n_waiting = 0) ∧ va_P (dC, dI) vcl [(a_t, .inr (7, [.ref a_pairFirsts, .ref a_pairLasts, .int (nI n_pairs), .int (nI w_n_pairsBefore), .ref a_firsts, .ref a_lasts, .int (nI w_n_operands), .ref a_levels, .ref a_sides, .ref a_minusPlaces, .int (nI w_n_waiting)]))] t.heap ∧ va_K (dC, dI) vcl [] t ∧ va_D (va_A [(a_t, .inr (7, [.ref a_pairFirsts, .ref a_pairLasts, .int (nI n_pairs), .int (nI n_pairsBefore), .ref a_firsts, .ref a_lasts, .int (nI n_operands), .ref a_levels, .ref a_sides, .ref a_minusPlaces, .int (nI n_waiting)]))] sz) [(a_t, .inr (7, [.ref a_pairFirsts, .ref a_pairLasts, .int (nI n_pairs), .int (nI w_n_pairsBefore), .ref a_firsts, .ref a_lasts, .int (nI w_n_operands), .ref a_levels, .ref a_sides, .ref a_minusPlaces, .int (nI w_n_waiting)]))]) (va_A [(a_t, .inr (7, [.ref a_pairFirsts, .ref a_pairLasts, .int (nI n_pairs), .int (nI n_pairsBefore), .ref a_firsts, .ref a_lasts, .int (nI n_operands), .ref a_levels, .ref a_sides, .ref a_minusPlaces, .int (nI n_waiting)]))] sz)) 0 0 (va_A [(a_t, .inr (7, [.ref a_pairFirsts, .ref a_pairLasts, .int (nI n_pairs), .int (nI n_pairsBefore), .ref a_firsts, .ref a_lasts, .int (nI n_operands), .ref a_levels, .ref a_sides, .ref a_minusPlaces, .int (nI n_waiting)]))] sz) := by
  refine Met.ofW (cc := b_Resolver_startRow) (maxL := 1) (ret := none) (by decide) rfl ?_
  intro p e s m args below meth c s₁ B hml hv
  obtain ⟨rfl, hsz, hP, hK, hD0⟩ := hv
  have hx := B.exec
  have hb := B.bytes
  have hr := B.returns
  have hts := atoms_spec (ws := w_Resolver_startRow) B.pre
  have hz : ∀ w ∈ wz, w.before _ s = true := fun w h => hts w (List.mem_cons_of_mem _ h)
  have hown : s.vm.findClass R_Resolver = some m.cls := findClass_of_methodNamed B.named
  have hlocks := B.notSynchronized
  subst hsz
  have hD := hD0.self (sz := s.heap.size)
  generalize hAe : va_A [(a_t, .inr (7, [.ref a_pairFirsts, .ref a_pairLasts, .int (nI n_pairs), .int (nI n_pairsBefore), .ref a_firsts, .ref a_lasts, .int (nI n_operands), .ref a_levels, .ref a_sides, .ref a_minusPlaces, .int (nI n_waiting)]))] s.heap.size = A at hD ⊢
  have hA : ∀ q : Nat, s.heap.size ≤ q → A q := fun q h => by rw [← hAe]; exact Or.inr h
  have hS : va_S A s.heap s.heap [] := va_S.rf
  have hP : va_P (dC, dI) vcl [(a_t, .inr (7, [.ref a_pairFirsts, .ref a_pairLasts, .int (nI n_pairs), .int (nI n_pairsBefore), .ref a_firsts, .ref a_lasts, .int (nI n_operands), .ref a_levels, .ref a_sides, .ref a_minusPlaces, .int (nI n_waiting)]))] s.heap := hP
  have hl := lv_entry ([.ref a_t]) (n := 1) (Nat.le_of_ble_eq_true rfl)
  rw [lg_entry_eq]
  generalize (lg_sl ([.ref a_t]) ++ List.replicate (1 - (lg_sl ([.ref a_t])).length) Slot.unset).toArray = ls at hl ⊢
  have hl : lv_has ls 1 [(0, .ref a_t)] := hl
  refine lv_aload_n hx hb d_Resolver_startRow_0 rfl (lv_at hl 0 rfl) ?_
  refine lv_aload_n hx hb d_Resolver_startRow_1 rfl (lv_at hl 0 rfl) ?_
  refine va_get (D := (dC, dI)) (ci := 7) (v := .int (nI n_pairs)) (C := R_Resolver) (T := F_Resolver) (N := 11) hx hb hz zu_Resolver hown hK hP 0 rfl rfl 2 (by decide) (hz (.fieldLink R_Resolver 33 "LayoutFront$Resolver" "pairs" "I") zm_336) (fun _ h9 => h9) rfl d_Resolver_startRow_2 ?_
  refine va_put (D := (dC, dI)) (ci := 7) (v := .int (nI n_pairs)) (ty := .int) (C := R_Resolver) (T := F_Resolver) (N := 11) hx hb hz zu_Resolver t_Resolver t_Resolver_ok n_Resolver hown hK hP hD hS 0 rfl rfl 3 (by decide) (hz (.fieldLink R_Resolver 40 "LayoutFront$Resolver" "pairsBefore" "I") zm_342) (fun _ h9 => h9) rfl (by decide +kernel) rfl rfl (Nat.le_of_ble_eq_true rfl) d_Resolver_startRow_5 (fun H locs hP hD hS => ?_)
  have hP : va_P (dC, dI) vcl [(a_t, .inr (7, [.ref a_pairFirsts, .ref a_pairLasts, .int (nI n_pairs), .int (nI n_pairs), .ref a_firsts, .ref a_lasts, .int (nI n_operands), .ref a_levels, .ref a_sides, .ref a_minusPlaces, .int (nI n_waiting)]))] H := hP
  have hD : va_D A [(a_t, .inr (7, [.ref a_pairFirsts, .ref a_pairLasts, .int (nI n_pairs), .int (nI n_pairs), .ref a_firsts, .ref a_lasts, .int (nI n_operands), .ref a_levels, .ref a_sides, .ref a_minusPlaces, .int (nI n_waiting)]))] := hD
  refine lv_aload_n hx hb d_Resolver_startRow_8 rfl (lv_at hl 0 rfl) ?_
  refine lv_iconst (v := 0) hx hb d_Resolver_startRow_9 (by decide) ?_
  refine va_put (D := (dC, dI)) (ci := 7) (v := .int 0) (ty := .int) (C := R_Resolver) (T := F_Resolver) (N := 11) hx hb hz zu_Resolver t_Resolver t_Resolver_ok n_Resolver hown hK hP hD hS 0 rfl rfl 6 (by decide) (hz (.fieldLink R_Resolver 43 "LayoutFront$Resolver" "operands" "I") zm_343) (fun _ h9 => h9) rfl (by decide +kernel) (by decide +kernel) rfl (Nat.le_of_ble_eq_true rfl) d_Resolver_startRow_10 (fun H locs hP hD hS => ?_)
  have hP : va_P (dC, dI) vcl [(a_t, .inr (7, [.ref a_pairFirsts, .ref a_pairLasts, .int (nI n_pairs), .int (nI n_pairs), .ref a_firsts, .ref a_lasts, .int 0, .ref a_levels, .ref a_sides, .ref a_minusPlaces, .int (nI n_waiting)]))] H := hP
  have hD : va_D A [(a_t, .inr (7, [.ref a_pairFirsts, .ref a_pairLasts, .int (nI n_pairs), .int (nI n_pairs), .ref a_firsts, .ref a_lasts, .int 0, .ref a_levels, .ref a_sides, .ref a_minusPlaces, .int (nI n_waiting)]))] := hD
  refine lv_aload_n hx hb d_Resolver_startRow_13 rfl (lv_at hl 0 rfl) ?_
  refine lv_iconst (v := 0) hx hb d_Resolver_startRow_14 (by decide) ?_
  refine va_put (D := (dC, dI)) (ci := 7) (v := .int 0) (ty := .int) (C := R_Resolver) (T := F_Resolver) (N := 11) hx hb hz zu_Resolver t_Resolver t_Resolver_ok n_Resolver hown hK hP hD hS 0 rfl rfl 10 (by decide) (hz (.fieldLink R_Resolver 46 "LayoutFront$Resolver" "waiting" "I") zm_344) (fun _ h9 => h9) rfl (by decide +kernel) (by decide +kernel) rfl (Nat.le_of_ble_eq_true rfl) d_Resolver_startRow_15 (fun H locs hP hD hS => ?_)
  have hP : va_P (dC, dI) vcl [(a_t, .inr (7, [.ref a_pairFirsts, .ref a_pairLasts, .int (nI n_pairs), .int (nI n_pairs), .ref a_firsts, .ref a_lasts, .int 0, .ref a_levels, .ref a_sides, .ref a_minusPlaces, .int 0]))] H := hP
  have hD : va_D A [(a_t, .inr (7, [.ref a_pairFirsts, .ref a_pairLasts, .int (nI n_pairs), .int (nI n_pairs), .ref a_firsts, .ref a_lasts, .int 0, .ref a_levels, .ref a_sides, .ref a_minusPlaces, .int 0]))] := hD
  have hP9 := hP.sub (ws' := [(a_t, .inr (7, [.ref a_pairFirsts, .ref a_pairLasts, .int (nI n_pairs), .int (nI n_pairs), .ref a_firsts, .ref a_lasts, .int 0, .ref a_levels, .ref a_sides, .ref a_minusPlaces, .int 0]))]) [0] rfl
  have hD9 := hD.sub (ws' := [(a_t, .inr (7, [.ref a_pairFirsts, .ref a_pairLasts, .int (nI n_pairs), .int (nI n_pairs), .ref a_firsts, .ref a_lasts, .int 0, .ref a_levels, .ref a_sides, .ref a_minusPlaces, .int 0]))]) [0] (by decide) rfl
  exact W.vret hx hb hr (fun t ht hW => ⟨⟨(), rfl, trivial, n_pairs, 0, 0, by first | rfl | omega, by first | rfl | omega, by first | rfl | omega, by first | rfl | omega, by first | rfl | omega, by first | rfl | omega, by rw [ht]; exact hP9, va_K.moved hW.alike hK, hD9⟩, hS.F ht⟩) hS.2.2 d_Resolver_startRow_18
set_option maxHeartbeats 4000000 in
set_option maxRecDepth 100000 in
theorem s_Resolver_clear7 (l : Launch) (dC : Nat → ClassId) (dI : Nat → Nat → Nat) (sz : Nat) (a_t : Nat) (a_pairFirsts : Nat) (a_pairLasts : Nat) (n_pairs : Nat) (n_pairsBefore : Nat) (a_firsts : Nat) (a_lasts : Nat) (n_operands : Nat) (a_levels : Nat) (a_sides : Nat) (a_minusPlaces : Nat) (n_waiting : Nat) (b_pairs : n_pairs ≤ 90) (b_pairsBefore : n_pairsBefore ≤ 90) (b_operands : n_operands ≤ 90) (b_waiting : n_waiting ≤ 90) : Met l y_Resolver_clear w_Resolver_clear ({ frames := 1, cells := 0, slots := 0, locals := 20 }) (va_Pc [.ref a_t] (fun U => U.heap.size = sz ∧ va_P (dC, dI) vcl [(a_t, .inr (7, [.ref a_pairFirsts, .ref a_pairLasts, .int (nI n_pairs), .int (nI n_pairsBefore), .ref a_firsts, .ref a_lasts, .int (nI n_operands), .ref a_levels, .ref a_sides, .ref a_minusPlaces, .int (nI n_waiting)]))] U.heap ∧ va_K (dC, dI) vcl [] U ∧ va_D (fun _ => True) [(a_t, .inr (7, [.ref a_pairFirsts, .ref a_pairLasts, .int (nI n_pairs), .int (nI n_pairsBefore), .ref a_firsts, .ref a_lasts, .int (nI n_operands), .ref a_levels, .ref a_sides, .ref a_minusPlaces, .int (nI n_waiting)]))])) (va_Qv (fun (_ : Unit) => True) (fun _ t => ∃ (w_n_pairs : Nat) (w_n_pairsBefore : Nat) (w_n_operands : Nat) (w_n_waiting : Nat), (w_n_pairs ≤ 90) ∧ (w_n_pairsBefore ≤ 90) ∧ (w_n_operands ≤ 90) ∧ (w_n_waiting ≤ 90) ∧ (w_n_pairs = 0) ∧ (w_n_pairsBefore = 0) ∧ (w_n_operands = 0) ∧ (w_n_waiting = 0) ∧ va_P (dC, dI) vcl [(a_t, .inr (7, [.ref a_pairFirsts, .ref a_pairLasts, .int (nI w_n_pairs), .int (nI w_n_pairsBefore), .ref a_firsts, .ref a_lasts, .int (nI w_n_operands), .ref a_levels, .ref a_sides, .ref a_minusPlaces, .int (nI w_n_waiting)]))] t.heap ∧ va_K (dC, dI) vcl [] t ∧ va_D (va_A [(a_t, .inr (7, [.ref a_pairFirsts, .ref a_pairLasts, .int (nI n_pairs), .int (nI n_pairsBefore), .ref a_firsts, .ref a_lasts, .int (nI n_operands), .ref a_levels, .ref a_sides, .ref a_minusPlaces, .int (nI n_waiting)]))] sz) [(a_t, .inr (7, [.ref a_pairFirsts, .ref a_pairLasts, .int (nI w_n_pairs), .int (nI w_n_pairsBefore), .ref a_firsts, .ref a_lasts, .int (nI w_n_operands), .ref a_levels, .ref a_sides, .ref a_minusPlaces, .int (nI w_n_waiting)]))]) (va_A [(a_t, .inr (7, [.ref a_pairFirsts, .ref a_pairLasts, .int (nI n_pairs), .int (nI n_pairsBefore), .ref a_firsts, .ref a_lasts, .int (nI n_operands), .ref a_levels, .ref a_sides, .ref a_minusPlaces, .int (nI n_waiting)]))] sz)) 0 0 (va_A [(a_t, .inr (7, [.ref a_pairFirsts, .ref a_pairLasts, .int (nI n_pairs), .int (nI n_pairsBefore), .ref a_firsts, .ref a_lasts, .int (nI n_operands), .ref a_levels, .ref a_sides, .ref a_minusPlaces, .int (nI n_waiting)]))] sz) := by
  refine Met.ofW (cc := b_Resolver_clear) (maxL := 1) (ret := none) (by decide) rfl ?_
  intro p e s m args below meth c s₁ B hml hv
  obtain ⟨rfl, hsz, hP, hK, hD0⟩ := hv
  have hx := B.exec
  have hb := B.bytes
  have hr := B.returns
  have hts := atoms_spec (ws := w_Resolver_clear) B.pre
  have hz : ∀ w ∈ wz, w.before _ s = true := fun w h => hts w (List.mem_cons_of_mem _ h)
  have hown : s.vm.findClass R_Resolver = some m.cls := findClass_of_methodNamed B.named
  have hlocks := B.notSynchronized
  subst hsz
  have hD := hD0.self (sz := s.heap.size)
  generalize hAe : va_A [(a_t, .inr (7, [.ref a_pairFirsts, .ref a_pairLasts, .int (nI n_pairs), .int (nI n_pairsBefore), .ref a_firsts, .ref a_lasts, .int (nI n_operands), .ref a_levels, .ref a_sides, .ref a_minusPlaces, .int (nI n_waiting)]))] s.heap.size = A at hD ⊢
  have hA : ∀ q : Nat, s.heap.size ≤ q → A q := fun q h => by rw [← hAe]; exact Or.inr h
  have hS : va_S A s.heap s.heap [] := va_S.rf
  have hP : va_P (dC, dI) vcl [(a_t, .inr (7, [.ref a_pairFirsts, .ref a_pairLasts, .int (nI n_pairs), .int (nI n_pairsBefore), .ref a_firsts, .ref a_lasts, .int (nI n_operands), .ref a_levels, .ref a_sides, .ref a_minusPlaces, .int (nI n_waiting)]))] s.heap := hP
  have hl := lv_entry ([.ref a_t]) (n := 1) (Nat.le_of_ble_eq_true rfl)
  rw [lg_entry_eq]
  generalize (lg_sl ([.ref a_t]) ++ List.replicate (1 - (lg_sl ([.ref a_t])).length) Slot.unset).toArray = ls at hl ⊢
  have hl : lv_has ls 1 [(0, .ref a_t)] := hl
  refine lv_aload_n hx hb d_Resolver_clear_0 rfl (lv_at hl 0 rfl) ?_
  refine lv_iconst (v := 0) hx hb d_Resolver_clear_1 (by decide) ?_
  refine va_put (D := (dC, dI)) (ci := 7) (v := .int 0) (ty := .int) (C := R_Resolver) (T := F_Resolver) (N := 11) hx hb hz zu_Resolver t_Resolver t_Resolver_ok n_Resolver hown hK hP hD hS 0 rfl rfl 2 (by decide) (hz (.fieldLink R_Resolver 33 "LayoutFront$Resolver" "pairs" "I") zm_336) (fun _ h9 => h9) rfl (by decide +kernel) (by decide +kernel) rfl (Nat.le_of_ble_eq_true rfl) d_Resolver_clear_2 (fun H locs hP hD hS => ?_)
  have hP : va_P (dC, dI) vcl [(a_t, .inr (7, [.ref a_pairFirsts, .ref a_pairLasts, .int 0, .int (nI n_pairsBefore), .ref a_firsts, .ref a_lasts, .int (nI n_operands), .ref a_levels, .ref a_sides, .ref a_minusPlaces, .int (nI n_waiting)]))] H := hP
  have hD : va_D A [(a_t, .inr (7, [.ref a_pairFirsts, .ref a_pairLasts, .int 0, .int (nI n_pairsBefore), .ref a_firsts, .ref a_lasts, .int (nI n_operands), .ref a_levels, .ref a_sides, .ref a_minusPlaces, .int (nI n_waiting)]))] := hD
  refine lv_aload_n hx hb d_Resolver_clear_5 rfl (lv_at hl 0 rfl) ?_
  have hPc := hP.sub (ws' := [(a_t, .inr (7, [.ref a_pairFirsts, .ref a_pairLasts, .int 0, .int (nI n_pairsBefore), .ref a_firsts, .ref a_lasts, .int (nI n_operands), .ref a_levels, .ref a_sides, .ref a_minusPlaces, .int (nI n_waiting)]))]) [0] rfl
  have hDc := hD.sub (ws' := [(a_t, .inr (7, [.ref a_pairFirsts, .ref a_pairLasts, .int 0, .int (nI n_pairsBefore), .ref a_firsts, .ref a_lasts, .int (nI n_operands), .ref a_levels, .ref a_sides, .ref a_minusPlaces, .int (nI n_waiting)]))]) [0] (by decide) rfl
  have hKc := hK.sub (tys' := []) [] rfl
  have hFc := va_free (wc := [(a_t, .inr (7, [.ref a_pairFirsts, .ref a_pairLasts, .int 0, .int (nI n_pairsBefore), .ref a_firsts, .ref a_lasts, .int (nI n_operands), .ref a_levels, .ref a_sides, .ref a_minusPlaces, .int (nI n_waiting)]))]) hD hS hA [0] rfl
  refine va_callv (va_runV (As := []) (rest := []) ⟨hx, hb, hml, hown, hz⟩ (s_Resolver_startRow7 l dC dI H.size a_t a_pairFirsts a_pairLasts 0 n_pairsBefore a_firsts a_lasts n_operands a_levels a_sides a_minusPlaces n_waiting (by first | rfl | omega) (by first | rfl | omega) (by first | rfl | omega) (by first | rfl | omega)) (cwV 0 hz (zV zm_337 zm_338 zm_339 zm_340 zm_341) rfl rfl rfl (by decide +kernel) ⟨Nat.le_of_ble_eq_true rfl, Nat.le_of_ble_eq_true rfl⟩) ⟨fun a U g mk q => by obtain ⟨q0, q1, qP, qK, qD⟩ := q; exact ⟨q0, q1, qP, va_K.moved (u := U) (U := U.calling g mk a) (Vm.Alike.refl U.vm) qK, qD⟩, va_recv (q := (R_Resolver, F_Resolver, 11)) (q0 := 0) (ci := 7) hK hP rfl rfl, fun U hU hW => ⟨rfl, by rw [hU], by rw [hU]; exact hPc, va_K.moved hW.alike hKc, hDc.weaken (fun _ _ _ _ => trivial)⟩⟩ rfl rfl hl.1 rfl (lv_room (Nat.le_of_ble_eq_true rfl)) d_Resolver_clear_6 ⟨Nat.zero_le _, Nat.zero_le _⟩) hS (fun q _ h => hFc q h) hFc (fun u t H1 locs ht hvm hw hB hz1 hk1 hS => ?_)
  obtain ⟨g1, g2, g3, hb_g1, hb_g2, hb_g3, hq0_6, hq1_6, hq2_6, hP1, hK1, hD1⟩ := hB
  subst g1
  subst g2
  subst g3
  rw [ht] at hP1
  obtain ⟨hP, hD⟩ := va_join (wr := []) (w1 := [(a_t, .inr (7, [.ref a_pairFirsts, .ref a_pairLasts, .int 0, .int (nI (0)), .ref a_firsts, .ref a_lasts, .int (nI (0)), .ref a_levels, .ref a_sides, .ref a_minusPlaces, .int (nI (0))]))]) hP hD [0] [] rfl rfl (by decide) (by decide) hk1 hFc hP1 hD1
  generalize H1 = H at hP hS ⊢
  have hP : va_P (dC, dI) vcl [(a_t, .inr (7, [.ref a_pairFirsts, .ref a_pairLasts, .int 0, .int (nI (0)), .ref a_firsts, .ref a_lasts, .int (nI (0)), .ref a_levels, .ref a_sides, .ref a_minusPlaces, .int (nI (0))]))] H := hP
  have hD : va_D A [(a_t, .inr (7, [.ref a_pairFirsts, .ref a_pairLasts, .int 0, .int (nI (0)), .ref a_firsts, .ref a_lasts, .int (nI (0)), .ref a_levels, .ref a_sides, .ref a_minusPlaces, .int (nI (0))]))] := hD
  have hP9 := hP.sub (ws' := [(a_t, .inr (7, [.ref a_pairFirsts, .ref a_pairLasts, .int 0, .int (nI (0)), .ref a_firsts, .ref a_lasts, .int (nI (0)), .ref a_levels, .ref a_sides, .ref a_minusPlaces, .int (nI (0))]))]) [0] rfl
  have hD9 := hD.sub (ws' := [(a_t, .inr (7, [.ref a_pairFirsts, .ref a_pairLasts, .int 0, .int (nI (0)), .ref a_firsts, .ref a_lasts, .int (nI (0)), .ref a_levels, .ref a_sides, .ref a_minusPlaces, .int (nI (0))]))]) [0] (by decide) rfl
  exact W.vret hx hb hr (fun t ht hW => ⟨⟨(), rfl, trivial, 0, ((0)), ((0)), ((0)), by first | rfl | omega, by first | rfl | omega, by first | rfl | omega, by first | rfl | omega, by first | rfl | omega, by first | rfl | omega, by first | rfl | omega, by first | rfl | omega, by rw [ht]; exact hP9, va_K.moved hW.alike hK, hD9⟩, hS.F ht⟩) hS.2.2 d_Resolver_clear_9
set_option maxHeartbeats 4000000 in
set_option maxRecDepth 100000 in
theorem s_Resolver_giveUpRow7 (l : Launch) (dC : Nat → ClassId) (dI : Nat → Nat → Nat) (sz : Nat) (a_t : Nat) (a_pairFirsts : Nat) (a_pairLasts : Nat) (n_pairs : Nat) (n_pairsBefore : Nat) (a_firsts : Nat) (a_lasts : Nat) (n_operands : Nat) (a_levels : Nat) (a_sides : Nat) (a_minusPlaces : Nat) (n_waiting : Nat) (b_pairs : n_pairs ≤ 90) (b_pairsBefore : n_pairsBefore ≤ 90) (b_operands : n_operands ≤ 90) (b_waiting : n_waiting ≤ 90) : Met l y_Resolver_giveUpRow w_Resolver_giveUpRow ({ frames := 0, cells := 0, slots := 0, locals := 0 }) (va_Pc [.ref a_t] (fun U => U.heap.size = sz ∧ va_P (dC, dI) vcl [(a_t, .inr (7, [.ref a_pairFirsts, .ref a_pairLasts, .int (nI n_pairs), .int (nI n_pairsBefore), .ref a_firsts, .ref a_lasts, .int (nI n_operands), .ref a_levels, .ref a_sides, .ref a_minusPlaces, .int (nI n_waiting)]))] U.heap ∧ va_K (dC, dI) vcl [] U ∧ va_D (fun _ => True) [(a_t, .inr (7, [.ref a_pairFirsts, .ref a_pairLasts, .int (nI n_pairs), .int (nI n_pairsBefore), .ref a_firsts, .ref a_lasts, .int (nI n_operands), .ref a_levels, .ref a_sides, .ref a_minusPlaces, .int (nI n_waiting)]))])) (va_Qv (fun (_ : Unit) => True) (fun _ t => ∃ (w_n_pairs : Nat), (w_n_pairs ≤ 90) ∧ (w_n_pairs = n_pairsBefore) ∧ va_P (dC, dI) vcl [(a_t, .inr (7, [.ref a_pairFirsts, .ref a_pairLasts, .int (nI w_n_pairs), .int (nI n_pairsBefore), .ref a_firsts, .ref a_lasts, .int (nI n_operands), .ref a_levels, .ref a_sides, .ref a_minusPlaces, .int (nI n_waiting)]))] t.heap ∧ va_K (dC, dI) vcl [] t ∧ va_D (va_A [(a_t, .inr (7, [.ref a_pairFirsts, .ref a_pairLasts, .int (nI n_pairs), .int (nI n_pairsBefore), .ref a_firsts, .ref a_lasts, .int (nI n_operands), .ref a_levels, .ref a_sides, .ref a_minusPlaces, .int (nI n_waiting)]))] sz) [(a_t, .inr (7, [.ref a_pairFirsts, .ref a_pairLasts, .int (nI w_n_pairs), .int (nI n_pairsBefore), .ref a_firsts, .ref a_lasts, .int (nI n_operands), .ref a_levels, .ref a_sides, .ref a_minusPlaces, .int (nI n_waiting)]))]) (va_A [(a_t, .inr (7, [.ref a_pairFirsts, .ref a_pairLasts, .int (nI n_pairs), .int (nI n_pairsBefore), .ref a_firsts, .ref a_lasts, .int (nI n_operands), .ref a_levels, .ref a_sides, .ref a_minusPlaces, .int (nI n_waiting)]))] sz)) 0 0 (va_A [(a_t, .inr (7, [.ref a_pairFirsts, .ref a_pairLasts, .int (nI n_pairs), .int (nI n_pairsBefore), .ref a_firsts, .ref a_lasts, .int (nI n_operands), .ref a_levels, .ref a_sides, .ref a_minusPlaces, .int (nI n_waiting)]))] sz) := by
  refine Met.ofW (cc := b_Resolver_giveUpRow) (maxL := 1) (ret := none) (by decide) rfl ?_
  intro p e s m args below meth c s₁ B hml hv
  obtain ⟨rfl, hsz, hP, hK, hD0⟩ := hv
  have hx := B.exec
  have hb := B.bytes
  have hr := B.returns
  have hts := atoms_spec (ws := w_Resolver_giveUpRow) B.pre
  have hz : ∀ w ∈ wz, w.before _ s = true := fun w h => hts w (List.mem_cons_of_mem _ h)
  have hown : s.vm.findClass R_Resolver = some m.cls := findClass_of_methodNamed B.named
  have hlocks := B.notSynchronized
  subst hsz
  have hD := hD0.self (sz := s.heap.size)
  generalize hAe : va_A [(a_t, .inr (7, [.ref a_pairFirsts, .ref a_pairLasts, .int (nI n_pairs), .int (nI n_pairsBefore), .ref a_firsts, .ref a_lasts, .int (nI n_operands), .ref a_levels, .ref a_sides, .ref a_minusPlaces, .int (nI n_waiting)]))] s.heap.size = A at hD ⊢
  have hA : ∀ q : Nat, s.heap.size ≤ q → A q := fun q h => by rw [← hAe]; exact Or.inr h
  have hS : va_S A s.heap s.heap [] := va_S.rf
  have hP : va_P (dC, dI) vcl [(a_t, .inr (7, [.ref a_pairFirsts, .ref a_pairLasts, .int (nI n_pairs), .int (nI n_pairsBefore), .ref a_firsts, .ref a_lasts, .int (nI n_operands), .ref a_levels, .ref a_sides, .ref a_minusPlaces, .int (nI n_waiting)]))] s.heap := hP
  have hl := lv_entry ([.ref a_t]) (n := 1) (Nat.le_of_ble_eq_true rfl)
  rw [lg_entry_eq]
  generalize (lg_sl ([.ref a_t]) ++ List.replicate (1 - (lg_sl ([.ref a_t])).length) Slot.unset).toArray = ls at hl ⊢
  have hl : lv_has ls 1 [(0, .ref a_t)] := hl
  refine lv_aload_n hx hb d_Resolver_giveUpRow_0 rfl (lv_at hl 0 rfl) ?_
  refine lv_aload_n hx hb d_Resolver_giveUpRow_1 rfl (lv_at hl 0 rfl) ?_
  refine va_get (D := (dC, dI)) (ci := 7) (v := .int (nI n_pairsBefore)) (C := R_Resolver) (T := F_Resolver) (N := 11) hx hb hz zu_Resolver hown hK hP 0 rfl rfl 3 (by decide) (hz (.fieldLink R_Resolver 40 "LayoutFront$Resolver" "pairsBefore" "I") zm_342) (fun _ h9 => h9) rfl d_Resolver_giveUpRow_2 ?_
  refine va_put (D := (dC, dI)) (ci := 7) (v := .int (nI n_pairsBefore)) (ty := .int) (C := R_Resolver) (T := F_Resolver) (N := 11) hx hb hz zu_Resolver t_Resolver t_Resolver_ok n_Resolver hown hK hP hD hS 0 rfl rfl 2 (by decide) (hz (.fieldLink R_Resolver 33 "LayoutFront$Resolver" "pairs" "I") zm_336) (fun _ h9 => h9) rfl (by decide +kernel) rfl rfl (Nat.le_of_ble_eq_true rfl) d_Resolver_giveUpRow_5 (fun H locs hP hD hS => ?_)
  have hP : va_P (dC, dI) vcl [(a_t, .inr (7, [.ref a_pairFirsts, .ref a_pairLasts, .int (nI n_pairsBefore), .int (nI n_pairsBefore), .ref a_firsts, .ref a_lasts, .int (nI n_operands), .ref a_levels, .ref a_sides, .ref a_minusPlaces, .int (nI n_waiting)]))] H := hP
  have hD : va_D A [(a_t, .inr (7, [.ref a_pairFirsts, .ref a_pairLasts, .int (nI n_pairsBefore), .int (nI n_pairsBefore), .ref a_firsts, .ref a_lasts, .int (nI n_operands), .ref a_levels, .ref a_sides, .ref a_minusPlaces, .int (nI n_waiting)]))] := hD
  have hP9 := hP.sub (ws' := [(a_t, .inr (7, [.ref a_pairFirsts, .ref a_pairLasts, .int (nI n_pairsBefore), .int (nI n_pairsBefore), .ref a_firsts, .ref a_lasts, .int (nI n_operands), .ref a_levels, .ref a_sides, .ref a_minusPlaces, .int (nI n_waiting)]))]) [0] rfl
  have hD9 := hD.sub (ws' := [(a_t, .inr (7, [.ref a_pairFirsts, .ref a_pairLasts, .int (nI n_pairsBefore), .int (nI n_pairsBefore), .ref a_firsts, .ref a_lasts, .int (nI n_operands), .ref a_levels, .ref a_sides, .ref a_minusPlaces, .int (nI n_waiting)]))]) [0] (by decide) rfl
  exact W.vret hx hb hr (fun t ht hW => ⟨⟨(), rfl, trivial, n_pairsBefore, by first | rfl | omega, by first | rfl | omega, by rw [ht]; exact hP9, va_K.moved hW.alike hK, hD9⟩, hS.F ht⟩) hS.2.2 d_Resolver_giveUpRow_8
set_option maxHeartbeats 4000000 in
set_option maxRecDepth 100000 in
theorem s_Resolver_takeOperand7 (l : Launch) (dC : Nat → ClassId) (dI : Nat → Nat → Nat) (sz : Nat) (a_t : Nat) (a_pairFirsts : Nat) (a_pairLasts : Nat) (n_pairs : Nat) (n_pairsBefore : Nat) (a_firsts : Nat) (f_firsts : Nat → Int32) (a_lasts : Nat) (f_lasts : Nat → Int32) (n_operands : Nat) (a_levels : Nat) (a_sides : Nat) (a_minusPlaces : Nat) (n_waiting : Nat) (y0 : Int32) (y1 : Int32) (ka_firsts : ClassId) (ka_lasts : ClassId) (b_pairs : n_pairs ≤ 90) (b_pairsBefore : n_pairsBefore ≤ 90) (b_operands : n_operands ≤ 90) (b_waiting : n_waiting ≤ 90) (hp0 : n_operands < 90) : Met l y_Resolver_takeOperand w_Resolver_takeOperand ({ frames := 0, cells := 0, slots := 0, locals := 0 }) (va_Pc [.ref a_t, .int y0, .int y1] (fun U => U.heap.size = sz ∧ va_P (dC, dI) vcl [(a_t, .inr (7, [.ref a_pairFirsts, .ref a_pairLasts, .int (nI n_pairs), .int (nI n_pairsBefore), .ref a_firsts, .ref a_lasts, .int (nI n_operands), .ref a_levels, .ref a_sides, .ref a_minusPlaces, .int (nI n_waiting)])), (a_firsts, .inl (ka_firsts, 90, .inl f_firsts)), (a_lasts, .inl (ka_lasts, 90, .inl f_lasts))] U.heap ∧ va_K (dC, dI) vcl [(ka_firsts, .int), (ka_lasts, .int)] U ∧ va_D (fun _ => True) [(a_t, .inr (7, [.ref a_pairFirsts, .ref a_pairLasts, .int (nI n_pairs), .int (nI n_pairsBefore), .ref a_firsts, .ref a_lasts, .int (nI n_operands), .ref a_levels, .ref a_sides, .ref a_minusPlaces, .int (nI n_waiting)])), (a_firsts, .inl (ka_firsts, 90, .inl f_firsts)), (a_lasts, .inl (ka_lasts, 90, .inl f_lasts))])) (va_Qv (fun (_ : Unit) => True) (fun _ t => ∃ (w_n_operands : Nat) (w_f_firsts : Nat → Int32) (w_f_lasts : Nat → Int32), (w_n_operands ≤ 90) ∧ (w_n_operands = n_operands + 1) ∧ (w_f_firsts = upd f_firsts n_operands y0) ∧ (w_f_lasts = upd f_lasts n_operands y1) ∧ va_P (dC, dI) vcl [(a_t, .inr (7, [.ref a_pairFirsts, .ref a_pairLasts, .int (nI n_pairs), .int (nI n_pairsBefore), .ref a_firsts, .ref a_lasts, .int (nI w_n_operands), .ref a_levels, .ref a_sides, .ref a_minusPlaces, .int (nI n_waiting)])), (a_firsts, .inl (ka_firsts, 90, .inl w_f_firsts)), (a_lasts, .inl (ka_lasts, 90, .inl w_f_lasts))] t.heap ∧ va_K (dC, dI) vcl [(ka_firsts, .int), (ka_lasts, .int)] t ∧ va_D (va_A [(a_t, .inr (7, [.ref a_pairFirsts, .ref a_pairLasts, .int (nI n_pairs), .int (nI n_pairsBefore), .ref a_firsts, .ref a_lasts, .int (nI n_operands), .ref a_levels, .ref a_sides, .ref a_minusPlaces, .int (nI n_waiting)])), (a_firsts, .inl (ka_firsts, 90, .inl f_firsts)), (a_lasts, .inl (ka_lasts, 90, .inl f_lasts))] sz) [(a_t, .inr (7, [.ref a_pairFirsts, .ref a_pairLasts, .int (nI n_pairs), .int (nI n_pairsBefore), .ref a_firsts, .ref a_lasts, .int (nI w_n_operands), .ref a_levels, .ref a_sides, .ref a_minusPlaces, .int (nI n_waiting)])), (a_firsts, .inl (ka_firsts, 90, .inl w_f_firsts)), (a_lasts, .inl (ka_lasts, 90, .inl w_f_lasts))]) (va_A [(a_t, .inr (7, [.ref a_pairFirsts, .ref a_pairLasts, .int (nI n_pairs), .int (nI n_pairsBefore), .ref a_firsts, .ref a_lasts, .int (nI n_operands), .ref a_levels, .ref a_sides, .ref a_minusPlaces, .int (nI n_waiting)])), (a_firsts, .inl (ka_firsts, 90, .inl f_firsts)), (a_lasts, .inl (ka_lasts, 90, .inl f_lasts))] sz)) 0 0 (va_A [(a_t, .inr (7, [.ref a_pairFirsts, .ref a_pairLasts, .int (nI n_pairs), .int (nI n_pairsBefore), .ref a_firsts, .ref a_lasts, .int (nI n_operands), .ref a_levels, .ref a_sides, .ref a_minusPlaces, .int (nI n_waiting)])), (a_firsts, .inl (ka_firsts, 90, .inl f_firsts)), (a_lasts, .inl (ka_lasts, 90, .inl f_lasts))] sz) := by
  refine Met.ofW (cc := b_Resolver_takeOperand) (maxL := 3) (ret := none) (by decide) rfl ?_
  intro p e s m args below meth c s₁ B hml hv
  obtain ⟨rfl, hsz, hP, hK, hD0⟩ := hv
  have hx := B.exec
  have hb := B.bytes
  have hr := B.returns
  have hts := atoms_spec (ws := w_Resolver_takeOperand) B.pre
  have hz : ∀ w ∈ wz, w.before _ s = true := fun w h => hts w (List.mem_cons_of_mem _ h)
  have hown : s.vm.findClass R_Resolver = some m.cls := findClass_of_methodNamed B.named
  have hlocks := B.notSynchronized
  subst hsz
  have hD := hD0.self (sz := s.heap.size)
  generalize hAe : va_A [(a_t, .inr (7, [.ref a_pairFirsts, .ref a_pairLasts, .int (nI n_pairs), .int (nI n_pairsBefore), .ref a_firsts, .ref a_lasts, .int (nI n_operands), .ref a_levels, .ref a_sides, .ref a_minusPlaces, .int (nI n_waiting)])), (a_firsts, .inl (ka_firsts, 90, .inl f_firsts)), (a_lasts, .inl (ka_lasts, 90, .inl f_lasts))] s.heap.size = A at hD ⊢
  have hA : ∀ q : Nat, s.heap.size ≤ q → A q := fun q h => by rw [← hAe]; exact Or.inr h
  have hS : va_S A s.heap s.heap [] := va_S.rf
  have hP : va_P (dC, dI) vcl [(a_t, .inr (7, [.ref a_pairFirsts, .ref a_pairLasts, .int (nI n_pairs), .int (nI n_pairsBefore), .ref a_firsts, .ref a_lasts, .int (nI n_operands), .ref a_levels, .ref a_sides, .ref a_minusPlaces, .int (nI n_waiting)])), (a_firsts, .inl (ka_firsts, 90, .inl f_firsts)), (a_lasts, .inl (ka_lasts, 90, .inl f_lasts))] s.heap := hP
  have hl := lv_entry ([.ref a_t, .int y0, .int y1]) (n := 3) (Nat.le_of_ble_eq_true rfl)
  rw [lg_entry_eq]
  generalize (lg_sl ([.ref a_t, .int y0, .int y1]) ++ List.replicate (3 - (lg_sl ([.ref a_t, .int y0, .int y1])).length) Slot.unset).toArray = ls at hl ⊢
  have hl : lv_has ls 3 [(0, .ref a_t), (1, .int y0), (2, .int y1)] := hl
  refine lv_aload_n hx hb d_Resolver_takeOperand_0 rfl (lv_at hl 0 rfl) ?_
  refine va_get (D := (dC, dI)) (ci := 7) (v := .int (nI n_operands)) (C := R_Resolver) (T := F_Resolver) (N := 11) hx hb hz zu_Resolver hown hK hP 0 rfl rfl 6 (by decide) (hz (.fieldLink R_Resolver 43 "LayoutFront$Resolver" "operands" "I") zm_343) (fun _ h9 => h9) rfl d_Resolver_takeOperand_1 ?_
  refine lv_bipush (v := 90) hx hb d_Resolver_takeOperand_4 (by decide) ?_
  refine lv_icmp_ge (tgt := 39) hx hb d_Resolver_takeOperand_6 (by decide) (fun h1 => ?_) (fun h1 => ?_)
  · have h1 : 90 ≤ n_operands := (nI_leI (a := 90) (b := n_operands) (by omega) (by omega)).mp h1
    (exfalso; omega)
  · have h1 : ¬ 90 ≤ n_operands := fun q => h1 ((nI_leI (a := 90) (b := n_operands) (by omega) (by omega)).mpr q)
    refine lv_aload_n hx hb d_Resolver_takeOperand_9 rfl (lv_at hl 0 rfl) ?_
    refine va_get (D := (dC, dI)) (ci := 7) (v := .ref a_firsts) (C := R_Resolver) (T := F_Resolver) (N := 11) hx hb hz zu_Resolver hown hK hP 0 rfl rfl 4 (by decide) (hz (.fieldLink R_Resolver 18 "LayoutFront$Resolver" "firsts" "[I") zm_330) (fun _ h9 => h9) rfl d_Resolver_takeOperand_10 ?_
    refine lv_aload_n hx hb d_Resolver_takeOperand_13 rfl (lv_at hl 0 rfl) ?_
    refine va_get (D := (dC, dI)) (ci := 7) (v := .int (nI n_operands)) (C := R_Resolver) (T := F_Resolver) (N := 11) hx hb hz zu_Resolver hown hK hP 0 rfl rfl 6 (by decide) (hz (.fieldLink R_Resolver 43 "LayoutFront$Resolver" "operands" "I") zm_343) (fun _ h9 => h9) rfl d_Resolver_takeOperand_14 ?_
    refine lv_iload_n hx hb d_Resolver_takeOperand_17 rfl (lv_at hl 1 rfl) ?_
    refine va_iast hx hb hK hP hD hS 1 0 rfl rfl (vp_in_nI (by omega) (by omega)) d_Resolver_takeOperand_18 (fun H locs hP hD hS => ?_)
    rw [show ((nI n_operands) : Int32).toNatClampNeg = n_operands from nI_clamp (by omega)] at hP hD
    have hP : va_P (dC, dI) vcl [(a_t, .inr (7, [.ref a_pairFirsts, .ref a_pairLasts, .int (nI n_pairs), .int (nI n_pairsBefore), .ref a_firsts, .ref a_lasts, .int (nI n_operands), .ref a_levels, .ref a_sides, .ref a_minusPlaces, .int (nI n_waiting)])), (a_firsts, .inl (ka_firsts, 90, .inl (upd f_firsts n_operands y0))), (a_lasts, .inl (ka_lasts, 90, .inl f_lasts))] H := hP
    have hD : va_D A [(a_t, .inr (7, [.ref a_pairFirsts, .ref a_pairLasts, .int (nI n_pairs), .int (nI n_pairsBefore), .ref a_firsts, .ref a_lasts, .int (nI n_operands), .ref a_levels, .ref a_sides, .ref a_minusPlaces, .int (nI n_waiting)])), (a_firsts, .inl (ka_firsts, 90, .inl (upd f_firsts n_operands y0))), (a_lasts, .inl (ka_lasts, 90, .inl f_lasts))] := hD
    refine lv_aload_n hx hb d_Resolver_takeOperand_19 rfl (lv_at hl 0 rfl) ?_
    refine va_get (D := (dC, dI)) (ci := 7) (v := .ref a_lasts) (C := R_Resolver) (T := F_Resolver) (N := 11) hx hb hz zu_Resolver hown hK hP 0 rfl rfl 5 (by decide) (hz (.fieldLink R_Resolver 21 "LayoutFront$Resolver" "lasts" "[I") zm_331) (fun _ h9 => h9) rfl d_Resolver_takeOperand_20 ?_
    refine lv_aload_n hx hb d_Resolver_takeOperand_23 rfl (lv_at hl 0 rfl) ?_
    refine va_get (D := (dC, dI)) (ci := 7) (v := .int (nI n_operands)) (C := R_Resolver) (T := F_Resolver) (N := 11) hx hb hz zu_Resolver hown hK hP 0 rfl rfl 6 (by decide) (hz (.fieldLink R_Resolver 43 "LayoutFront$Resolver" "operands" "I") zm_343) (fun _ h9 => h9) rfl d_Resolver_takeOperand_24 ?_
    refine lv_iload_n hx hb d_Resolver_takeOperand_27 rfl (lv_at hl 2 rfl) ?_
    refine va_iast hx hb hK hP hD hS 2 1 rfl rfl (vp_in_nI (by omega) (by omega)) d_Resolver_takeOperand_28 (fun H locs hP hD hS => ?_)
    rw [show ((nI n_operands) : Int32).toNatClampNeg = n_operands from nI_clamp (by omega)] at hP hD
    have hP : va_P (dC, dI) vcl [(a_t, .inr (7, [.ref a_pairFirsts, .ref a_pairLasts, .int (nI n_pairs), .int (nI n_pairsBefore), .ref a_firsts, .ref a_lasts, .int (nI n_operands), .ref a_levels, .ref a_sides, .ref a_minusPlaces, .int (nI n_waiting)])), (a_firsts, .inl (ka_firsts, 90, .inl (upd f_firsts n_operands y0))), (a_lasts, .inl (ka_lasts, 90, .inl (upd f_lasts n_operands y1)))] H := hP
    have hD : va_D A [(a_t, .inr (7, [.ref a_pairFirsts, .ref a_pairLasts, .int (nI n_pairs), .int (nI n_pairsBefore), .ref a_firsts, .ref a_lasts, .int (nI n_operands), .ref a_levels, .ref a_sides, .ref a_minusPlaces, .int (nI n_waiting)])), (a_firsts, .inl (ka_firsts, 90, .inl (upd f_firsts n_operands y0))), (a_lasts, .inl (ka_lasts, 90, .inl (upd f_lasts n_operands y1)))] := hD
    refine lv_aload_n hx hb d_Resolver_takeOperand_29 rfl (lv_at hl 0 rfl) ?_
    refine lv_dup hx hb d_Resolver_takeOperand_30 rfl ?_
    refine va_get (D := (dC, dI)) (ci := 7) (v := .int (nI n_operands)) (C := R_Resolver) (T := F_Resolver) (N := 11) hx hb hz zu_Resolver hown hK hP 0 rfl rfl 6 (by decide) (hz (.fieldLink R_Resolver 43 "LayoutFront$Resolver" "operands" "I") zm_343) (fun _ h9 => h9) rfl d_Resolver_takeOperand_31 ?_
    refine lv_iconst (v := 1) hx hb d_Resolver_takeOperand_34 (by decide) ?_
    refine xr_iadd (v := (nI (n_operands + 1))) hx hb d_Resolver_takeOperand_35 (nI_add n_operands 1) ?_
    refine va_put (D := (dC, dI)) (ci := 7) (v := .int (nI (n_operands + 1))) (ty := .int) (C := R_Resolver) (T := F_Resolver) (N := 11) hx hb hz zu_Resolver t_Resolver t_Resolver_ok n_Resolver hown hK hP hD hS 0 rfl rfl 6 (by decide) (hz (.fieldLink R_Resolver 43 "LayoutFront$Resolver" "operands" "I") zm_343) (fun _ h9 => h9) rfl (by decide +kernel) rfl rfl (Nat.le_of_ble_eq_true rfl) d_Resolver_takeOperand_36 (fun H locs hP hD hS => ?_)
    have hP : va_P (dC, dI) vcl [(a_t, .inr (7, [.ref a_pairFirsts, .ref a_pairLasts, .int (nI n_pairs), .int (nI n_pairsBefore), .ref a_firsts, .ref a_lasts, .int (nI (n_operands + 1)), .ref a_levels, .ref a_sides, .ref a_minusPlaces, .int (nI n_waiting)])), (a_firsts, .inl (ka_firsts, 90, .inl (upd f_firsts n_operands y0))), (a_lasts, .inl (ka_lasts, 90, .inl (upd f_lasts n_operands y1)))] H := hP
    have hD : va_D A [(a_t, .inr (7, [.ref a_pairFirsts, .ref a_pairLasts, .int (nI n_pairs), .int (nI n_pairsBefore), .ref a_firsts, .ref a_lasts, .int (nI (n_operands + 1)), .ref a_levels, .ref a_sides, .ref a_minusPlaces, .int (nI n_waiting)])), (a_firsts, .inl (ka_firsts, 90, .inl (upd f_firsts n_operands y0))), (a_lasts, .inl (ka_lasts, 90, .inl (upd f_lasts n_operands y1)))] := hD
    have hP9 := hP.sub (ws' := [(a_t, .inr (7, [.ref a_pairFirsts, .ref a_pairLasts, .int (nI n_pairs), .int (nI n_pairsBefore), .ref a_firsts, .ref a_lasts, .int (nI (n_operands + 1)), .ref a_levels, .ref a_sides, .ref a_minusPlaces, .int (nI n_waiting)])), (a_firsts, .inl (ka_firsts, 90, .inl (upd f_firsts n_operands y0))), (a_lasts, .inl (ka_lasts, 90, .inl (upd f_lasts n_operands y1)))]) [0, 1, 2] rfl
    have hD9 := hD.sub (ws' := [(a_t, .inr (7, [.ref a_pairFirsts, .ref a_pairLasts, .int (nI n_pairs), .int (nI n_pairsBefore), .ref a_firsts, .ref a_lasts, .int (nI (n_operands + 1)), .ref a_levels, .ref a_sides, .ref a_minusPlaces, .int (nI n_waiting)])), (a_firsts, .inl (ka_firsts, 90, .inl (upd f_firsts n_operands y0))), (a_lasts, .inl (ka_lasts, 90, .inl (upd f_lasts n_operands y1)))]) [0, 1, 2] (by decide) rfl
    exact W.vret hx hb hr (fun t ht hW => ⟨⟨(), rfl, trivial, ((n_operands + 1)), ((upd f_firsts n_operands y0)), ((upd f_lasts n_operands y1)), by first | rfl | omega, by first | rfl | omega, by first | rfl | omega, by first | rfl | omega, by rw [ht]; exact hP9, va_K.moved hW.alike hK, hD9⟩, hS.F ht⟩) hS.2.2 d_Resolver_takeOperand_39
set_option maxHeartbeats 4000000 in
set_option maxRecDepth 100000 in
theorem s_Resolver_letWait7 (l : Launch) (dC : Nat → ClassId) (dI : Nat → Nat → Nat) (sz : Nat) (a_t : Nat) (a_pairFirsts : Nat) (a_pairLasts : Nat) (n_pairs : Nat) (n_pairsBefore : Nat) (a_firsts : Nat) (a_lasts : Nat) (n_operands : Nat) (a_levels : Nat) (f_levels : Nat → Int32) (a_sides : Nat) (f_sides : Nat → Int32) (a_minusPlaces : Nat) (f_minusPlaces : Nat → Int32) (n_waiting : Nat) (y0 : Int32) (y1 : Int32) (y2 : Int32) (ka_levels : ClassId) (ka_sides : ClassId) (ka_minusPlaces : ClassId) (b_pairs : n_pairs ≤ 90) (b_pairsBefore : n_pairsBefore ≤ 90) (b_operands : n_operands ≤ 90) (b_waiting : n_waiting ≤ 90) (hp0 : n_waiting < 90) : Met l y_Resolver_letWait w_Resolver_letWait ({ frames := 0, cells := 0, slots := 0, locals := 0 }) (va_Pc [.ref a_t, .int y0, .int y1, .int y2] (fun U => U.heap.size = sz ∧ va_P (dC, dI) vcl [(a_t, .inr (7, [.ref a_pairFirsts, .ref a_pairLasts, .int (nI n_pairs), .int (nI n_pairsBefore), .ref a_firsts, .ref a_lasts, .int (nI n_operands), .ref a_levels, .ref a_sides, .ref a_minusPlaces, .int (nI n_waiting)])), (a_levels, .inl (ka_levels, 90, .inl f_levels)), (a_sides, .inl (ka_sides, 90, .inl f_sides)), (a_minusPlaces, .inl (ka_minusPlaces, 90, .inl f_minusPlaces))] U.heap ∧ va_K (dC, dI) vcl [(ka_levels, .int), (ka_sides, .int), (ka_minusPlaces, .int)] U ∧ va_D (fun _ => True) [(a_t, .inr (7, [.ref a_pairFirsts, .ref a_pairLasts, .int (nI n_pairs), .int (nI n_pairsBefore), .ref a_firsts, .ref a_lasts, .int (nI n_operands), .ref a_levels, .ref a_sides, .ref a_minusPlaces, .int (nI n_waiting)])), (a_levels, .inl (ka_levels, 90, .inl f_levels)), (a_sides, .inl (ka_sides, 90, .inl f_sides)), (a_minusPlaces, .inl (ka_minusPlaces, 90, .inl f_minusPlaces))])) (va_Qv (fun (_ : Unit) => True) (fun _ t => ∃ (w_n_waiting : Nat) (w_f_levels : Nat → Int32) (w_f_sides : Nat → Int32) (w_f_minusPlaces : Nat → Int32), (w_n_waiting ≤ 90) ∧ (w_n_waiting = n_waiting + 1) ∧ (w_f_levels = upd f_levels n_waiting y0) ∧ (w_f_sides = upd f_sides n_waiting y1) ∧ (w_f_minusPlaces = upd f_minusPlaces n_waiting y2) ∧ va_P (dC, dI) vcl [(a_t, .inr (7, [.ref a_pairFirsts, .ref a_pairLasts, .int (nI n_pairs), .int (nI n_pairsBefore), .ref a_firsts, .ref a_lasts, .int (nI n_operands), .ref a_levels, .ref a_sides, .ref a_minusPlaces, .int (nI w_n_waiting)])), (a_levels, .inl (ka_levels, 90, .inl w_f_levels)), (a_sides, .inl (ka_sides, 90, .inl w_f_sides)), (a_minusPlaces, .inl (ka_minusPlaces, 90, .inl w_f_minusPlaces))] t.heap ∧ va_K (dC, dI) vcl [(ka_levels, .int), (ka_sides, .int), (ka_minusPlaces, .int)] t ∧ va_D (va_A [(a_t, .inr (7, [.ref a_pairFirsts, .ref a_pairLasts, .int (nI n_pairs), .int (nI n_pairsBefore), .ref a_firsts, .ref a_lasts, .int (nI n_operands), .ref a_levels, .ref a_sides, .ref a_minusPlaces, .int (nI n_waiting)])), (a_levels, .inl (ka_levels, 90, .inl f_levels)), (a_sides, .inl (ka_sides, 90, .inl f_sides)), (a_minusPlaces, .inl (ka_minusPlaces, 90, .inl f_minusPlaces))] sz) [(a_t, .inr (7, [.ref a_pairFirsts, .ref a_pairLasts, .int (nI n_pairs), .int (nI n_pairsBefore), .ref a_firsts, .ref a_lasts, .int (nI n_operands), .ref a_levels, .ref a_sides, .ref a_minusPlaces, .int (nI w_n_waiting)])), (a_levels, .inl (ka_levels, 90, .inl w_f_levels)), (a_sides, .inl (ka_sides, 90, .inl w_f_sides)), (a_minusPlaces, .inl (ka_minusPlaces, 90, .inl w_f_minusPlaces))]) (va_A [(a_t, .inr (7, [.ref a_pairFirsts, .ref a_pairLasts, .int (nI n_pairs), .int (nI n_pairsBefore), .ref a_firsts, .ref a_lasts, .int (nI n_operands), .ref a_levels, .ref a_sides, .ref a_minusPlaces, .int (nI n_waiting)])), (a_levels, .inl (ka_levels, 90, .inl f_levels)), (a_sides, .inl (ka_sides, 90, .inl f_sides)), (a_minusPlaces, .inl (ka_minusPlaces, 90, .inl f_minusPlaces))] sz)) 0 0 (va_A [(a_t, .inr (7, [.ref a_pairFirsts, .ref a_pairLasts, .int (nI n_pairs), .int (nI n_pairsBefore), .ref a_firsts, .ref a_lasts, .int (nI n_operands), .ref a_levels, .ref a_sides, .ref a_minusPlaces, .int (nI n_waiting)])), (a_levels, .inl (ka_levels, 90, .inl f_levels)), (a_sides, .inl (ka_sides, 90, .inl f_sides)), (a_minusPlaces, .inl (ka_minusPlaces, 90, .inl f_minusPlaces))] sz) := by
  refine Met.ofW (cc := b_Resolver_letWait) (maxL := 4) (ret := none) (by decide) rfl ?_
  intro p e s m args below meth c s₁ B hml hv
  obtain ⟨rfl, hsz, hP, hK, hD0⟩ := hv
  have hx := B.exec
  have hb := B.bytes
  have hr := B.returns
  have hts := atoms_spec (ws := w_Resolver_letWait) B.pre
  have hz : ∀ w ∈ wz, w.before _ s = true := fun w h => hts w (List.mem_cons_of_mem _ h)
  have hown : s.vm.findClass R_Resolver = some m.cls := findClass_of_methodNamed B.named
  have hlocks := B.notSynchronized
  subst hsz
  have hD := hD0.self (sz := s.heap.size)
  generalize hAe : va_A [(a_t, .inr (7, [.ref a_pairFirsts, .ref a_pairLasts, .int (nI n_pairs), .int (nI n_pairsBefore), .ref a_firsts, .ref a_lasts, .int (nI n_operands), .ref a_levels, .ref a_sides, .ref a_minusPlaces, .int (nI n_waiting)])), (a_levels, .inl (ka_levels, 90, .inl f_levels)), (a_sides, .inl (ka_sides, 90, .inl f_sides)), (a_minusPlaces, .inl (ka_minusPlaces, 90, .inl f_minusPlaces))] s.heap.size = A at hD ⊢
  have hA : ∀ q : Nat, s.heap.size ≤ q → A q := fun q h => by rw [← hAe]; exact Or.inr h
  have hS : va_S A s.heap s.heap [] := va_S.rf
  have hP : va_P (dC, dI) vcl [(a_t, .inr (7, [.ref a_pairFirsts, .ref a_pairLasts, .int (nI n_pairs), .int (nI n_pairsBefore), .ref a_firsts, .ref a_lasts, .int (nI n_operands), .ref a_levels, .ref a_sides, .ref a_minusPlaces, .int (nI n_waiting)])), (a_levels, .inl (ka_levels, 90, .inl f_levels)), (a_sides, .inl (ka_sides, 90, .inl f_sides)), (a_minusPlaces, .inl (ka_minusPlaces, 90, .inl f_minusPlaces))] s.heap := hP
  have hl := lv_entry ([.ref a_t, .int y0, .int y1, .int y2]) (n := 4) (Nat.le_of_ble_eq_true rfl)
  rw [lg_entry_eq]
  generalize (lg_sl ([.ref a_t, .int y0, .int y1, .int y2]) ++ List.replicate (4 - (lg_sl ([.ref a_t, .int y0, .int y1, .int y2])).length) Slot.unset).toArray = ls at hl ⊢
  have hl : lv_has ls 4 [(0, .ref a_t), (1, .int y0), (2, .int y1), (3, .int y2)] := hl
  refine lv_aload_n hx hb d_Resolver_letWait_0 rfl (lv_at hl 0 rfl) ?_
  refine va_get (D := (dC, dI)) (ci := 7) (v := .int (nI n_waiting)) (C := R_Resolver) (T := F_Resolver) (N := 11) hx hb hz zu_Resolver hown hK hP 0 rfl rfl 10 (by decide) (hz (.fieldLink R_Resolver 46 "LayoutFront$Resolver" "waiting" "I") zm_344) (fun _ h9 => h9) rfl d_Resolver_letWait_1 ?_
  refine lv_bipush (v := 90) hx hb d_Resolver_letWait_4 (by decide) ?_
  refine lv_icmp_ge (tgt := 49) hx hb d_Resolver_letWait_6 (by decide) (fun h1 => ?_) (fun h1 => ?_)
  · have h1 : 90 ≤ n_waiting := (nI_leI (a := 90) (b := n_waiting) (by omega) (by omega)).mp h1
    (exfalso; omega)
  · have h1 : ¬ 90 ≤ n_waiting := fun q => h1 ((nI_leI (a := 90) (b := n_waiting) (by omega) (by omega)).mpr q)
    refine lv_aload_n hx hb d_Resolver_letWait_9 rfl (lv_at hl 0 rfl) ?_
    refine va_get (D := (dC, dI)) (ci := 7) (v := .ref a_levels) (C := R_Resolver) (T := F_Resolver) (N := 11) hx hb hz zu_Resolver hown hK hP 0 rfl rfl 7 (by decide) (hz (.fieldLink R_Resolver 24 "LayoutFront$Resolver" "levels" "[I") zm_332) (fun _ h9 => h9) rfl d_Resolver_letWait_10 ?_
    refine lv_aload_n hx hb d_Resolver_letWait_13 rfl (lv_at hl 0 rfl) ?_
    refine va_get (D := (dC, dI)) (ci := 7) (v := .int (nI n_waiting)) (C := R_Resolver) (T := F_Resolver) (N := 11) hx hb hz zu_Resolver hown hK hP 0 rfl rfl 10 (by decide) (hz (.fieldLink R_Resolver 46 "LayoutFront$Resolver" "waiting" "I") zm_344) (fun _ h9 => h9) rfl d_Resolver_letWait_14 ?_
    refine lv_iload_n hx hb d_Resolver_letWait_17 rfl (lv_at hl 1 rfl) ?_
    refine va_iast hx hb hK hP hD hS 1 0 rfl rfl (vp_in_nI (by omega) (by omega)) d_Resolver_letWait_18 (fun H locs hP hD hS => ?_)
    rw [show ((nI n_waiting) : Int32).toNatClampNeg = n_waiting from nI_clamp (by omega)] at hP hD
    have hP : va_P (dC, dI) vcl [(a_t, .inr (7, [.ref a_pairFirsts, .ref a_pairLasts, .int (nI n_pairs), .int (nI n_pairsBefore), .ref a_firsts, .ref a_lasts, .int (nI n_operands), .ref a_levels, .ref a_sides, .ref a_minusPlaces, .int (nI n_waiting)])), (a_levels, .inl (ka_levels, 90, .inl (upd f_levels n_waiting y0))), (a_sides, .inl (ka_sides, 90, .inl f_sides)), (a_minusPlaces, .inl (ka_minusPlaces, 90, .inl f_minusPlaces))] H := hP
    have hD : va_D A [(a_t, .inr (7, [.ref a_pairFirsts, .ref a_pairLasts, .int (nI n_pairs), .int (nI n_pairsBefore), .ref a_firsts, .ref a_lasts, .int (nI n_operands), .ref a_levels, .ref a_sides, .ref a_minusPlaces, .int (nI n_waiting)])), (a_levels, .inl (ka_levels, 90, .inl (upd f_levels n_waiting y0))), (a_sides, .inl (ka_sides, 90, .inl f_sides)), (a_minusPlaces, .inl (ka_minusPlaces, 90, .inl f_minusPlaces))] := hD
    refine lv_aload_n hx hb d_Resolver_letWait_19 rfl (lv_at hl 0 rfl) ?_
    refine va_get (D := (dC, dI)) (ci := 7) (v := .ref a_sides) (C := R_Resolver) (T := F_Resolver) (N := 11) hx hb hz zu_Resolver hown hK hP 0 rfl rfl 8 (by decide) (hz (.fieldLink R_Resolver 27 "LayoutFront$Resolver" "sides" "[I") zm_333) (fun _ h9 => h9) rfl d_Resolver_letWait_20 ?_
    refine lv_aload_n hx hb d_Resolver_letWait_23 rfl (lv_at hl 0 rfl) ?_
    refine va_get (D := (dC, dI)) (ci := 7) (v := .int (nI n_waiting)) (C := R_Resolver) (T := F_Resolver) (N := 11) hx hb hz zu_Resolver hown hK hP 0 rfl rfl 10 (by decide) (hz (.fieldLink R_Resolver 46 "LayoutFront$Resolver" "waiting" "I") zm_344) (fun _ h9 => h9) rfl d_Resolver_letWait_24 ?_
    refine lv_iload_n hx hb d_Resolver_letWait_27 rfl (lv_at hl 2 rfl) ?_
    refine va_iast hx hb hK hP hD hS 2 1 rfl rfl (vp_in_nI (by omega) (by omega)) d_Resolver_letWait_28 (fun H locs hP hD hS => ?_)
    rw [show ((nI n_waiting) : Int32).toNatClampNeg = n_waiting from nI_clamp (by omega)] at hP hD
    have hP : va_P (dC, dI) vcl [(a_t, .inr (7, [.ref a_pairFirsts, .ref a_pairLasts, .int (nI n_pairs), .int (nI n_pairsBefore), .ref a_firsts, .ref a_lasts, .int (nI n_operands), .ref a_levels, .ref a_sides, .ref a_minusPlaces, .int (nI n_waiting)])), (a_levels, .inl (ka_levels, 90, .inl (upd f_levels n_waiting y0))), (a_sides, .inl (ka_sides, 90, .inl (upd f_sides n_waiting y1))), (a_minusPlaces, .inl (ka_minusPlaces, 90, .inl f_minusPlaces))] H := hP
    have hD : va_D A [(a_t, .inr (7, [.ref a_pairFirsts, .ref a_pairLasts, .int (nI n_pairs), .int (nI n_pairsBefore), .ref a_firsts, .ref a_lasts, .int (nI n_operands), .ref a_levels, .ref a_sides, .ref a_minusPlaces, .int (nI n_waiting)])), (a_levels, .inl (ka_levels, 90, .inl (upd f_levels n_waiting y0))), (a_sides, .inl (ka_sides, 90, .inl (upd f_sides n_waiting y1))), (a_minusPlaces, .inl (ka_minusPlaces, 90, .inl f_minusPlaces))] := hD
    refine lv_aload_n hx hb d_Resolver_letWait_29 rfl (lv_at hl 0 rfl) ?_
    refine va_get (D := (dC, dI)) (ci := 7) (v := .ref a_minusPlaces) (C := R_Resolver) (T := F_Resolver) (N := 11) hx hb hz zu_Resolver hown hK hP 0 rfl rfl 9 (by decide) (hz (.fieldLink R_Resolver 30 "LayoutFront$Resolver" "minusPlaces" "[I") zm_334) (fun _ h9 => h9) rfl d_Resolver_letWait_30 ?_
    refine lv_aload_n hx hb d_Resolver_letWait_33 rfl (lv_at hl 0 rfl) ?_
    refine va_get (D := (dC, dI)) (ci := 7) (v := .int (nI n_waiting)) (C := R_Resolver) (T := F_Resolver) (N := 11) hx hb hz zu_Resolver hown hK hP 0 rfl rfl 10 (by decide) (hz (.fieldLink R_Resolver 46 "LayoutFront$Resolver" "waiting" "I") zm_344) (fun _ h9 => h9) rfl d_Resolver_letWait_34 ?_
    refine lv_iload_n hx hb d_Resolver_letWait_37 rfl (lv_at hl 3 rfl) ?_
    refine va_iast hx hb hK hP hD hS 3 2 rfl rfl (vp_in_nI (by omega) (by omega)) d_Resolver_letWait_38 (fun H locs hP hD hS => ?_)
    rw [show ((nI n_waiting) : Int32).toNatClampNeg = n_waiting from nI_clamp (by omega)] at hP hD
    have hP : va_P (dC, dI) vcl [(a_t, .inr (7, [.ref a_pairFirsts, .ref a_pairLasts, .int (nI n_pairs), .int (nI n_pairsBefore), .ref a_firsts, .ref a_lasts, .int (nI n_operands), .ref a_levels, .ref a_sides, .ref a_minusPlaces, .int (nI n_waiting)])), (a_levels, .inl (ka_levels, 90, .inl (upd f_levels n_waiting y0))), (a_sides, .inl (ka_sides, 90, .inl (upd f_sides n_waiting y1))), (a_minusPlaces, .inl (ka_minusPlaces, 90, .inl (upd f_minusPlaces n_waiting y2)))] H := hP
    have hD : va_D A [(a_t, .inr (7, [.ref a_pairFirsts, .ref a_pairLasts, .int (nI n_pairs), .int (nI n_pairsBefore), .ref a_firsts, .ref a_lasts, .int (nI n_operands), .ref a_levels, .ref a_sides, .ref a_minusPlaces, .int (nI n_waiting)])), (a_levels, .inl (ka_levels, 90, .inl (upd f_levels n_waiting y0))), (a_sides, .inl (ka_sides, 90, .inl (upd f_sides n_waiting y1))), (a_minusPlaces, .inl (ka_minusPlaces, 90, .inl (upd f_minusPlaces n_waiting y2)))] := hD
    refine lv_aload_n hx hb d_Resolver_letWait_39 rfl (lv_at hl 0 rfl) ?_
    refine lv_dup hx hb d_Resolver_letWait_40 rfl ?_
    refine va_get (D := (dC, dI)) (ci := 7) (v := .int (nI n_waiting)) (C := R_Resolver) (T := F_Resolver) (N := 11) hx hb hz zu_Resolver hown hK hP 0 rfl rfl 10 (by decide) (hz (.fieldLink R_Resolver 46 "LayoutFront$Resolver" "waiting" "I") zm_344) (fun _ h9 => h9) rfl d_Resolver_letWait_41 ?_
    refine lv_iconst (v := 1) hx hb d_Resolver_letWait_44 (by decide) ?_
    refine xr_iadd (v := (nI (n_waiting + 1))) hx hb d_Resolver_letWait_45 (nI_add n_waiting 1) ?_
    refine va_put (D := (dC, dI)) (ci := 7) (v := .int (nI (n_waiting + 1))) (ty := .int) (C := R_Resolver) (T := F_Resolver) (N := 11) hx hb hz zu_Resolver t_Resolver t_Resolver_ok n_Resolver hown hK hP hD hS 0 rfl rfl 10 (by decide) (hz (.fieldLink R_Resolver 46 "LayoutFront$Resolver" "waiting" "I") zm_344) (fun _ h9 => h9) rfl (by decide +kernel) rfl rfl (Nat.le_of_ble_eq_true rfl) d_Resolver_letWait_46 (fun H locs hP hD hS => ?_)
    have hP : va_P (dC, dI) vcl [(a_t, .inr (7, [.ref a_pairFirsts, .ref a_pairLasts, .int (nI n_pairs), .int (nI n_pairsBefore), .ref a_firsts, .ref a_lasts, .int (nI n_operands), .ref a_levels, .ref a_sides, .ref a_minusPlaces, .int (nI (n_waiting + 1))])), (a_levels, .inl (ka_levels, 90, .inl (upd f_levels n_waiting y0))), (a_sides, .inl (ka_sides, 90, .inl (upd f_sides n_waiting y1))), (a_minusPlaces, .inl (ka_minusPlaces, 90, .inl (upd f_minusPlaces n_waiting y2)))] H := hP
    have hD : va_D A [(a_t, .inr (7, [.ref a_pairFirsts, .ref a_pairLasts, .int (nI n_pairs), .int (nI n_pairsBefore), .ref a_firsts, .ref a_lasts, .int (nI n_operands), .ref a_levels, .ref a_sides, .ref a_minusPlaces, .int (nI (n_waiting + 1))])), (a_levels, .inl (ka_levels, 90, .inl (upd f_levels n_waiting y0))), (a_sides, .inl (ka_sides, 90, .inl (upd f_sides n_waiting y1))), (a_minusPlaces, .inl (ka_minusPlaces, 90, .inl (upd f_minusPlaces n_waiting y2)))] := hD
    have hP9 := hP.sub (ws' := [(a_t, .inr (7, [.ref a_pairFirsts, .ref a_pairLasts, .int (nI n_pairs), .int (nI n_pairsBefore), .ref a_firsts, .ref a_lasts, .int (nI n_operands), .ref a_levels, .ref a_sides, .ref a_minusPlaces, .int (nI (n_waiting + 1))])), (a_levels, .inl (ka_levels, 90, .inl (upd f_levels n_waiting y0))), (a_sides, .inl (ka_sides, 90, .inl (upd f_sides n_waiting y1))), (a_minusPlaces, .inl (ka_minusPlaces, 90, .inl (upd f_minusPlaces n_waiting y2)))]) [0, 1, 2, 3] rfl
    have hD9 := hD.sub (ws' := [(a_t, .inr (7, [.ref a_pairFirsts, .ref a_pairLasts, .int (nI n_pairs), .int (nI n_pairsBefore), .ref a_firsts, .ref a_lasts, .int (nI n_operands), .ref a_levels, .ref a_sides, .ref a_minusPlaces, .int (nI (n_waiting + 1))])), (a_levels, .inl (ka_levels, 90, .inl (upd f_levels n_waiting y0))), (a_sides, .inl (ka_sides, 90, .inl (upd f_sides n_waiting y1))), (a_minusPlaces, .inl (ka_minusPlaces, 90, .inl (upd f_minusPlaces n_waiting y2)))]) [0, 1, 2, 3] (by decide) rfl
    exact W.vret hx hb hr (fun t ht hW => ⟨⟨(), rfl, trivial, ((n_waiting + 1)), ((upd f_levels n_waiting y0)), ((upd f_sides n_waiting y1)), ((upd f_minusPlaces n_waiting y2)), by first | rfl | omega, by first | rfl | omega, by first | rfl | omega, by first | rfl | omega, by first | rfl | omega, by rw [ht]; exact hP9, va_K.moved hW.alike hK, hD9⟩, hS.F ht⟩) hS.2.2 d_Resolver_letWait_49
set_option maxHeartbeats 4000000 in
set_option maxRecDepth 100000 in
theorem s_Resolver_giveSides7 (l : Launch) (dC : Nat → ClassId) (dI : Nat → Nat → Nat) (sz : Nat) (a_t : Nat) (a_pairFirsts : Nat) (f_pairFirsts : Nat → Int32) (a_pairLasts : Nat) (f_pairLasts : Nat → Int32) (n_pairs : Nat) (n_pairsBefore : Nat) (a_firsts : Nat) (f_firsts : Nat → Int32) (a_lasts : Nat) (f_lasts : Nat → Int32) (n_operands : Nat) (a_levels : Nat) (f_levels : Nat → Int32) (a_sides : Nat) (f_sides : Nat → Int32) (a_minusPlaces : Nat) (f_minusPlaces : Nat → Int32) (n_waiting : Nat) (ka_pairFirsts : ClassId) (ka_pairLasts : ClassId) (ka_firsts : ClassId) (ka_lasts : ClassId) (ka_minusPlaces : ClassId) (b_pairs : n_pairs ≤ 90) (b_pairsBefore : n_pairsBefore ≤ 90) (b_operands : n_operands ≤ 90) (b_waiting : n_waiting ≤ 90) (hp0 : 1 ≤ n_waiting) (hp1 : 1 ≤ n_operands) (hp2 : n_pairs < 90) : Met l y_Resolver_giveSides w_Resolver_giveSides ({ frames := 0, cells := 0, slots := 0, locals := 0 }) (va_Pc [.ref a_t] (fun U => U.heap.size = sz ∧ va_P (dC, dI) vcl [(a_t, .inr (7, [.ref a_pairFirsts, .ref a_pairLasts, .int (nI n_pairs), .int (nI n_pairsBefore), .ref a_firsts, .ref a_lasts, .int (nI n_operands), .ref a_levels, .ref a_sides, .ref a_minusPlaces, .int (nI n_waiting)])), (a_pairFirsts, .inl (ka_pairFirsts, 90, .inl f_pairFirsts)), (a_pairLasts, .inl (ka_pairLasts, 90, .inl f_pairLasts)), (a_firsts, .inl (ka_firsts, 90, .inl f_firsts)), (a_lasts, .inl (ka_lasts, 90, .inl f_lasts)), (a_minusPlaces, .inl (ka_minusPlaces, 90, .inl f_minusPlaces))] U.heap ∧ va_K (dC, dI) vcl [(ka_pairFirsts, .int), (ka_pairLasts, .int), (ka_firsts, .int), (ka_lasts, .int), (ka_minusPlaces, .int)] U ∧ va_D (fun _ => True) [(a_t, .inr (7, [.ref a_pairFirsts, .ref a_pairLasts, .int (nI n_pairs), .int (nI n_pairsBefore), .ref a_firsts, .ref a_lasts, .int (nI n_operands), .ref a_levels, .ref a_sides, .ref a_minusPlaces, .int (nI n_waiting)])), (a_pairFirsts, .inl (ka_pairFirsts, 90, .inl f_pairFirsts)), (a_pairLasts, .inl (ka_pairLasts, 90, .inl f_pairLasts)), (a_firsts, .inl (ka_firsts, 90, .inl f_firsts)), (a_lasts, .inl (ka_lasts, 90, .inl f_lasts)), (a_minusPlaces, .inl (ka_minusPlaces, 90, .inl f_minusPlaces))])) (va_Qv (fun (_ : Unit) => True) (fun _ t => ∃ (w_n_pairs : Nat) (w_n_operands : Nat) (w_n_waiting : Nat) (w_f_pairFirsts : Nat → Int32) (w_f_pairLasts : Nat → Int32) (w_f_firsts : Nat → Int32) (w_f_lasts : Nat → Int32), (w_n_pairs ≤ 90) ∧ (w_n_operands ≤ 90) ∧ (w_n_waiting ≤ 90) ∧ (w_n_pairs = n_pairs + 1) ∧ (w_n_waiting = n_waiting - 1) ∧ ((z3 f_levels f_sides f_minusPlaces (n_waiting - 1), z2 w_f_firsts w_f_lasts w_n_operands, z2 w_f_pairFirsts w_f_pairLasts (n_pairs + 1)) = gv7 (z3 f_levels f_sides f_minusPlaces n_waiting, z2 f_firsts f_lasts n_operands, z2 f_pairFirsts f_pairLasts n_pairs)) ∧ (1 ≤ w_n_operands) ∧ (w_n_operands ≤ n_operands) ∧ (∀ j, j < n_pairs → w_f_pairFirsts j = f_pairFirsts j ∧ w_f_pairLasts j = f_pairLasts j) ∧ va_P (dC, dI) vcl [(a_t, .inr (7, [.ref a_pairFirsts, .ref a_pairLasts, .int (nI w_n_pairs), .int (nI n_pairsBefore), .ref a_firsts, .ref a_lasts, .int (nI w_n_operands), .ref a_levels, .ref a_sides, .ref a_minusPlaces, .int (nI w_n_waiting)])), (a_pairFirsts, .inl (ka_pairFirsts, 90, .inl w_f_pairFirsts)), (a_pairLasts, .inl (ka_pairLasts, 90, .inl w_f_pairLasts)), (a_firsts, .inl (ka_firsts, 90, .inl w_f_firsts)), (a_lasts, .inl (ka_lasts, 90, .inl w_f_lasts)), (a_minusPlaces, .inl (ka_minusPlaces, 90, .inl f_minusPlaces))] t.heap ∧ va_K (dC, dI) vcl [(ka_pairFirsts, .int), (ka_pairLasts, .int), (ka_firsts, .int), (ka_lasts, .int), (ka_minusPlaces, .int)] t ∧ va_D (va_A [(a_t, .inr (7, [.ref a_pairFirsts, .ref a_pairLasts, .int (nI n_pairs), .int (nI n_pairsBefore), .ref a_firsts, .ref a_lasts, .int (nI n_operands), .ref a_levels, .ref a_sides, .ref a_minusPlaces, .int (nI n_waiting)])), (a_pairFirsts, .inl (ka_pairFirsts, 90, .inl f_pairFirsts)), (a_pairLasts, .inl (ka_pairLasts, 90, .inl f_pairLasts)), (a_firsts, .inl (ka_firsts, 90, .inl f_firsts)), (a_lasts, .inl (ka_lasts, 90, .inl f_lasts)), (a_minusPlaces, .inl (ka_minusPlaces, 90, .inl f_minusPlaces))] sz) [(a_t, .inr (7, [.ref a_pairFirsts, .ref a_pairLasts, .int (nI w_n_pairs), .int (nI n_pairsBefore), .ref a_firsts, .ref a_lasts, .int (nI w_n_operands), .ref a_levels, .ref a_sides, .ref a_minusPlaces, .int (nI w_n_waiting)])), (a_pairFirsts, .inl (ka_pairFirsts, 90, .inl w_f_pairFirsts)), (a_pairLasts, .inl (ka_pairLasts, 90, .inl w_f_pairLasts)), (a_firsts, .inl (ka_firsts, 90, .inl w_f_firsts)), (a_lasts, .inl (ka_lasts, 90, .inl w_f_lasts)), (a_minusPlaces, .inl (ka_minusPlaces, 90, .inl f_minusPlaces))]) (va_A [(a_t, .inr (7, [.ref a_pairFirsts, .ref a_pairLasts, .int (nI n_pairs), .int (nI n_pairsBefore), .ref a_firsts, .ref a_lasts, .int (nI n_operands), .ref a_levels, .ref a_sides, .ref a_minusPlaces, .int (nI n_waiting)])), (a_pairFirsts, .inl (ka_pairFirsts, 90, .inl f_pairFirsts)), (a_pairLasts, .inl (ka_pairLasts, 90, .inl f_pairLasts)), (a_firsts, .inl (ka_firsts, 90, .inl f_firsts)), (a_lasts, .inl (ka_lasts, 90, .inl f_lasts)), (a_minusPlaces, .inl (ka_minusPlaces, 90, .inl f_minusPlaces))] sz)) 0 0 (va_A [(a_t, .inr (7, [.ref a_pairFirsts, .ref a_pairLasts, .int (nI n_pairs), .int (nI n_pairsBefore), .ref a_firsts, .ref a_lasts, .int (nI n_operands), .ref a_levels, .ref a_sides, .ref a_minusPlaces, .int (nI n_waiting)])), (a_pairFirsts, .inl (ka_pairFirsts, 90, .inl f_pairFirsts)), (a_pairLasts, .inl (ka_pairLasts, 90, .inl f_pairLasts)), (a_firsts, .inl (ka_firsts, 90, .inl f_firsts)), (a_lasts, .inl (ka_lasts, 90, .inl f_lasts)), (a_minusPlaces, .inl (ka_minusPlaces, 90, .inl f_minusPlaces))] sz) := by
  refine Met.ofW (cc := b_Resolver_giveSides) (maxL := 1) (ret := none) (by decide) rfl ?_
  intro p e s m args below meth c s₁ B hml hv
  obtain ⟨rfl, hsz, hP, hK, hD0⟩ := hv
  have hx := B.exec
  have hb := B.bytes
  have hr := B.returns
  have hts := atoms_spec (ws := w_Resolver_giveSides) B.pre
  have hz : ∀ w ∈ wz, w.before _ s = true := fun w h => hts w (List.mem_cons_of_mem _ h)
  have hown : s.vm.findClass R_Resolver = some m.cls := findClass_of_methodNamed B.named
  have hlocks := B.notSynchronized
  subst hsz
  have hD := hD0.self (sz := s.heap.size)
  generalize hAe : va_A [(a_t, .inr (7, [.ref a_pairFirsts, .ref a_pairLasts, .int (nI n_pairs), .int (nI n_pairsBefore), .ref a_firsts, .ref a_lasts, .int (nI n_operands), .ref a_levels, .ref a_sides, .ref a_minusPlaces, .int (nI n_waiting)])), (a_pairFirsts, .inl (ka_pairFirsts, 90, .inl f_pairFirsts)), (a_pairLasts, .inl (ka_pairLasts, 90, .inl f_pairLasts)), (a_firsts, .inl (ka_firsts, 90, .inl f_firsts)), (a_lasts, .inl (ka_lasts, 90, .inl f_lasts)), (a_minusPlaces, .inl (ka_minusPlaces, 90, .inl f_minusPlaces))] s.heap.size = A at hD ⊢
  have hA : ∀ q : Nat, s.heap.size ≤ q → A q := fun q h => by rw [← hAe]; exact Or.inr h
  have hS : va_S A s.heap s.heap [] := va_S.rf
  have hP : va_P (dC, dI) vcl [(a_t, .inr (7, [.ref a_pairFirsts, .ref a_pairLasts, .int (nI n_pairs), .int (nI n_pairsBefore), .ref a_firsts, .ref a_lasts, .int (nI n_operands), .ref a_levels, .ref a_sides, .ref a_minusPlaces, .int (nI n_waiting)])), (a_pairFirsts, .inl (ka_pairFirsts, 90, .inl f_pairFirsts)), (a_pairLasts, .inl (ka_pairLasts, 90, .inl f_pairLasts)), (a_firsts, .inl (ka_firsts, 90, .inl f_firsts)), (a_lasts, .inl (ka_lasts, 90, .inl f_lasts)), (a_minusPlaces, .inl (ka_minusPlaces, 90, .inl f_minusPlaces))] s.heap := hP
  have hl := lv_entry ([.ref a_t]) (n := 1) (Nat.le_of_ble_eq_true rfl)
  rw [lg_entry_eq]
  generalize (lg_sl ([.ref a_t]) ++ List.replicate (1 - (lg_sl ([.ref a_t])).length) Slot.unset).toArray = ls at hl ⊢
  have hl : lv_has ls 1 [(0, .ref a_t)] := hl
  refine lv_aload_n hx hb d_Resolver_giveSides_0 rfl (lv_at hl 0 rfl) ?_
  refine va_get (D := (dC, dI)) (ci := 7) (v := .int (nI n_waiting)) (C := R_Resolver) (T := F_Resolver) (N := 11) hx hb hz zu_Resolver hown hK hP 0 rfl rfl 10 (by decide) (hz (.fieldLink R_Resolver 46 "LayoutFront$Resolver" "waiting" "I") zm_344) (fun _ h9 => h9) rfl d_Resolver_giveSides_1 ?_
  refine lv_iconst (v := 1) hx hb d_Resolver_giveSides_4 (by decide) ?_
  refine lv_icmp_lt (tgt := 16) hx hb d_Resolver_giveSides_5 (by decide) (fun h1 => ?_) (fun h1 => ?_)
  · have h1 : n_waiting < 1 := (nI_ltI (a := n_waiting) (b := 1) (by omega) (by omega)).mp h1
    (exfalso; omega)
  · have h1 : ¬ n_waiting < 1 := fun q => h1 ((nI_ltI (a := n_waiting) (b := 1) (by omega) (by omega)).mpr q)
    refine lv_aload_n hx hb d_Resolver_giveSides_8 rfl (lv_at hl 0 rfl) ?_
    refine va_get (D := (dC, dI)) (ci := 7) (v := .int (nI n_operands)) (C := R_Resolver) (T := F_Resolver) (N := 11) hx hb hz zu_Resolver hown hK hP 0 rfl rfl 6 (by decide) (hz (.fieldLink R_Resolver 43 "LayoutFront$Resolver" "operands" "I") zm_343) (fun _ h9 => h9) rfl d_Resolver_giveSides_9 ?_
    refine lv_iconst (v := 1) hx hb d_Resolver_giveSides_12 (by decide) ?_
    refine lv_icmp_ge (tgt := 17) hx hb d_Resolver_giveSides_13 (by decide) (fun h2 => ?_) (fun h2 => ?_)
    · have h2 : 1 ≤ n_operands := (nI_leI (a := 1) (b := n_operands) (by omega) (by omega)).mp h2
      refine lv_aload_n hx hb d_Resolver_giveSides_17 rfl (lv_at hl 0 rfl) ?_
      refine lv_dup hx hb d_Resolver_giveSides_18 rfl ?_
      refine va_get (D := (dC, dI)) (ci := 7) (v := .int (nI n_waiting)) (C := R_Resolver) (T := F_Resolver) (N := 11) hx hb hz zu_Resolver hown hK hP 0 rfl rfl 10 (by decide) (hz (.fieldLink R_Resolver 46 "LayoutFront$Resolver" "waiting" "I") zm_344) (fun _ h9 => h9) rfl d_Resolver_giveSides_19 ?_
      refine lv_iconst (v := 1) hx hb d_Resolver_giveSides_22 (by decide) ?_
      refine xr_isub (v := (nI (n_waiting - 1))) hx hb d_Resolver_giveSides_23 (pk_sub (a := n_waiting) (b := 1) (by omega)) ?_
      refine va_put (D := (dC, dI)) (ci := 7) (v := .int (nI (n_waiting - 1))) (ty := .int) (C := R_Resolver) (T := F_Resolver) (N := 11) hx hb hz zu_Resolver t_Resolver t_Resolver_ok n_Resolver hown hK hP hD hS 0 rfl rfl 10 (by decide) (hz (.fieldLink R_Resolver 46 "LayoutFront$Resolver" "waiting" "I") zm_344) (fun _ h9 => h9) rfl (by decide +kernel) rfl rfl (Nat.le_of_ble_eq_true rfl) d_Resolver_giveSides_24 (fun H locs hP hD hS => ?_)
      have hP : va_P (dC, dI) vcl [(a_t, .inr (7, [.ref a_pairFirsts, .ref a_pairLasts, .int (nI n_pairs), .int (nI n_pairsBefore), .ref a_firsts, .ref a_lasts, .int (nI n_operands), .ref a_levels, .ref a_sides, .ref a_minusPlaces, .int (nI (n_waiting - 1))])), (a_pairFirsts, .inl (ka_pairFirsts, 90, .inl f_pairFirsts)), (a_pairLasts, .inl (ka_pairLasts, 90, .inl f_pairLasts)), (a_firsts, .inl (ka_firsts, 90, .inl f_firsts)), (a_lasts, .inl (ka_lasts, 90, .inl f_lasts)), (a_minusPlaces, .inl (ka_minusPlaces, 90, .inl f_minusPlaces))] H := hP
      have hD : va_D A [(a_t, .inr (7, [.ref a_pairFirsts, .ref a_pairLasts, .int (nI n_pairs), .int (nI n_pairsBefore), .ref a_firsts, .ref a_lasts, .int (nI n_operands), .ref a_levels, .ref a_sides, .ref a_minusPlaces, .int (nI (n_waiting - 1))])), (a_pairFirsts, .inl (ka_pairFirsts, 90, .inl f_pairFirsts)), (a_pairLasts, .inl (ka_pairLasts, 90, .inl f_pairLasts)), (a_firsts, .inl (ka_firsts, 90, .inl f_firsts)), (a_lasts, .inl (ka_lasts, 90, .inl f_lasts)), (a_minusPlaces, .inl (ka_minusPlaces, 90, .inl f_minusPlaces))] := hD
      refine lv_aload_n hx hb d_Resolver_giveSides_27 rfl (lv_at hl 0 rfl) ?_
      refine va_get (D := (dC, dI)) (ci := 7) (v := .ref a_minusPlaces) (C := R_Resolver) (T := F_Resolver) (N := 11) hx hb hz zu_Resolver hown hK hP 0 rfl rfl 9 (by decide) (hz (.fieldLink R_Resolver 30 "LayoutFront$Resolver" "minusPlaces" "[I") zm_334) (fun _ h9 => h9) rfl d_Resolver_giveSides_28 ?_
      refine lv_aload_n hx hb d_Resolver_giveSides_31 rfl (lv_at hl 0 rfl) ?_
      refine va_get (D := (dC, dI)) (ci := 7) (v := .int (nI (n_waiting - 1))) (C := R_Resolver) (T := F_Resolver) (N := 11) hx hb hz zu_Resolver hown hK hP 0 rfl rfl 10 (by decide) (hz (.fieldLink R_Resolver 46 "LayoutFront$Resolver" "waiting" "I") zm_344) (fun _ h9 => h9) rfl d_Resolver_giveSides_32 ?_
      refine xr_iald (v := (f_minusPlaces (n_waiting - 1))) hx hb hK hP 5 4 rfl rfl (vp_in_nI (by omega) (by omega)) (congrArg f_minusPlaces (nI_clamp (by omega))) d_Resolver_giveSides_35 ?_
      refine lv_iconst (v := (-1)) hx hb d_Resolver_giveSides_36 (by decide) ?_
      refine lv_icmp_eq (tgt := 63) hx hb d_Resolver_giveSides_37 (by decide) (fun h4 => ?_) (fun h4 => ?_)
      · have e37 := h4
        refine lv_aload_n hx hb d_Resolver_giveSides_63 rfl (lv_at hl 0 rfl) ?_
        refine va_get (D := (dC, dI)) (ci := 7) (v := .int (nI n_operands)) (C := R_Resolver) (T := F_Resolver) (N := 11) hx hb hz zu_Resolver hown hK hP 0 rfl rfl 6 (by decide) (hz (.fieldLink R_Resolver 43 "LayoutFront$Resolver" "operands" "I") zm_343) (fun _ h9 => h9) rfl d_Resolver_giveSides_64 ?_
        refine lv_iconst (v := 2) hx hb d_Resolver_giveSides_67 (by decide) ?_
        refine lv_icmp_lt (tgt := 101) hx hb d_Resolver_giveSides_68 (by decide) (fun h5 => ?_) (fun h5 => ?_)
        · have h5 : n_operands < 2 := (nI_ltI (a := n_operands) (b := 2) (by omega) (by omega)).mp h5
          have e68 := h5
          refine lv_aload_n hx hb d_Resolver_giveSides_101 rfl (lv_at hl 0 rfl) ?_
          refine va_get (D := (dC, dI)) (ci := 7) (v := .int (nI n_pairs)) (C := R_Resolver) (T := F_Resolver) (N := 11) hx hb hz zu_Resolver hown hK hP 0 rfl rfl 2 (by decide) (hz (.fieldLink R_Resolver 33 "LayoutFront$Resolver" "pairs" "I") zm_336) (fun _ h9 => h9) rfl d_Resolver_giveSides_102 ?_
          refine lv_bipush (v := 90) hx hb d_Resolver_giveSides_105 (by decide) ?_
          refine lv_icmp_ge (tgt := 160) hx hb d_Resolver_giveSides_107 (by decide) (fun h6 => ?_) (fun h6 => ?_)
          · have h6 : 90 ≤ n_pairs := (nI_leI (a := 90) (b := n_pairs) (by omega) (by omega)).mp h6
            (exfalso; omega)
          · have h6 : ¬ 90 ≤ n_pairs := fun q => h6 ((nI_leI (a := 90) (b := n_pairs) (by omega) (by omega)).mpr q)
            refine lv_aload_n hx hb d_Resolver_giveSides_110 rfl (lv_at hl 0 rfl) ?_
            refine va_get (D := (dC, dI)) (ci := 7) (v := .ref a_pairFirsts) (C := R_Resolver) (T := F_Resolver) (N := 11) hx hb hz zu_Resolver hown hK hP 0 rfl rfl 0 (by decide) (hz (.fieldLink R_Resolver 9 "LayoutFront$Resolver" "pairFirsts" "[I") zm_328) (fun _ h9 => h9) rfl d_Resolver_giveSides_111 ?_
            refine lv_aload_n hx hb d_Resolver_giveSides_114 rfl (lv_at hl 0 rfl) ?_
            refine va_get (D := (dC, dI)) (ci := 7) (v := .int (nI n_pairs)) (C := R_Resolver) (T := F_Resolver) (N := 11) hx hb hz zu_Resolver hown hK hP 0 rfl rfl 2 (by decide) (hz (.fieldLink R_Resolver 33 "LayoutFront$Resolver" "pairs" "I") zm_336) (fun _ h9 => h9) rfl d_Resolver_giveSides_115 ?_
            refine lv_aload_n hx hb d_Resolver_giveSides_118 rfl (lv_at hl 0 rfl) ?_
            refine va_get (D := (dC, dI)) (ci := 7) (v := .ref a_firsts) (C := R_Resolver) (T := F_Resolver) (N := 11) hx hb hz zu_Resolver hown hK hP 0 rfl rfl 4 (by decide) (hz (.fieldLink R_Resolver 18 "LayoutFront$Resolver" "firsts" "[I") zm_330) (fun _ h9 => h9) rfl d_Resolver_giveSides_119 ?_
            refine lv_aload_n hx hb d_Resolver_giveSides_122 rfl (lv_at hl 0 rfl) ?_
            refine va_get (D := (dC, dI)) (ci := 7) (v := .int (nI n_operands)) (C := R_Resolver) (T := F_Resolver) (N := 11) hx hb hz zu_Resolver hown hK hP 0 rfl rfl 6 (by decide) (hz (.fieldLink R_Resolver 43 "LayoutFront$Resolver" "operands" "I") zm_343) (fun _ h9 => h9) rfl d_Resolver_giveSides_123 ?_
            refine lv_iconst (v := 1) hx hb d_Resolver_giveSides_126 (by decide) ?_
            refine xr_isub (v := (nI (n_operands - 1))) hx hb d_Resolver_giveSides_127 (pk_sub (a := n_operands) (b := 1) (by omega)) ?_
            refine xr_iald (v := (f_firsts (n_operands - 1))) hx hb hK hP 3 2 rfl rfl (vp_in_nI (by omega) (by omega)) (congrArg f_firsts (nI_clamp (by omega))) d_Resolver_giveSides_128 ?_
            refine va_iast hx hb hK hP hD hS 1 0 rfl rfl (vp_in_nI (by omega) (by omega)) d_Resolver_giveSides_129 (fun H locs hP hD hS => ?_)
            rw [show ((nI n_pairs) : Int32).toNatClampNeg = n_pairs from nI_clamp (by omega)] at hP hD
            have hP : va_P (dC, dI) vcl [(a_t, .inr (7, [.ref a_pairFirsts, .ref a_pairLasts, .int (nI n_pairs), .int (nI n_pairsBefore), .ref a_firsts, .ref a_lasts, .int (nI n_operands), .ref a_levels, .ref a_sides, .ref a_minusPlaces, .int (nI (n_waiting - 1))])), (a_pairFirsts, .inl (ka_pairFirsts, 90, .inl (upd f_pairFirsts n_pairs (f_firsts (n_operands - 1))))), (a_pairLasts, .inl (ka_pairLasts, 90, .inl f_pairLasts)), (a_firsts, .inl (ka_firsts, 90, .inl f_firsts)), (a_lasts, .inl (ka_lasts, 90, .inl f_lasts)), (a_minusPlaces, .inl (ka_minusPlaces, 90, .inl f_minusPlaces))] H := hP
            have hD : va_D A [(a_t, .inr (7, [.ref a_pairFirsts, .ref a_pairLasts, .int (nI n_pairs), .int (nI n_pairsBefore), .ref a_firsts, .ref a_lasts, .int (nI n_operands), .ref a_levels, .ref a_sides, .ref a_minusPlaces, .int (nI (n_waiting - 1))])), (a_pairFirsts, .inl (ka_pairFirsts, 90, .inl (upd f_pairFirsts n_pairs (f_firsts (n_operands - 1))))), (a_pairLasts, .inl (ka_pairLasts, 90, .inl f_pairLasts)), (a_firsts, .inl (ka_firsts, 90, .inl f_firsts)), (a_lasts, .inl (ka_lasts, 90, .inl f_lasts)), (a_minusPlaces, .inl (ka_minusPlaces, 90, .inl f_minusPlaces))] := hD
            refine lv_aload_n hx hb d_Resolver_giveSides_130 rfl (lv_at hl 0 rfl) ?_
            refine va_get (D := (dC, dI)) (ci := 7) (v := .ref a_pairLasts) (C := R_Resolver) (T := F_Resolver) (N := 11) hx hb hz zu_Resolver hown hK hP 0 rfl rfl 1 (by decide) (hz (.fieldLink R_Resolver 15 "LayoutFront$Resolver" "pairLasts" "[I") zm_329) (fun _ h9 => h9) rfl d_Resolver_giveSides_131 ?_
            refine lv_aload_n hx hb d_Resolver_giveSides_134 rfl (lv_at hl 0 rfl) ?_
            refine va_get (D := (dC, dI)) (ci := 7) (v := .int (nI n_pairs)) (C := R_Resolver) (T := F_Resolver) (N := 11) hx hb hz zu_Resolver hown hK hP 0 rfl rfl 2 (by decide) (hz (.fieldLink R_Resolver 33 "LayoutFront$Resolver" "pairs" "I") zm_336) (fun _ h9 => h9) rfl d_Resolver_giveSides_135 ?_
            refine lv_aload_n hx hb d_Resolver_giveSides_138 rfl (lv_at hl 0 rfl) ?_
            refine va_get (D := (dC, dI)) (ci := 7) (v := .ref a_lasts) (C := R_Resolver) (T := F_Resolver) (N := 11) hx hb hz zu_Resolver hown hK hP 0 rfl rfl 5 (by decide) (hz (.fieldLink R_Resolver 21 "LayoutFront$Resolver" "lasts" "[I") zm_331) (fun _ h9 => h9) rfl d_Resolver_giveSides_139 ?_
            refine lv_aload_n hx hb d_Resolver_giveSides_142 rfl (lv_at hl 0 rfl) ?_
            refine va_get (D := (dC, dI)) (ci := 7) (v := .int (nI n_operands)) (C := R_Resolver) (T := F_Resolver) (N := 11) hx hb hz zu_Resolver hown hK hP 0 rfl rfl 6 (by decide) (hz (.fieldLink R_Resolver 43 "LayoutFront$Resolver" "operands" "I") zm_343) (fun _ h9 => h9) rfl d_Resolver_giveSides_143 ?_
            refine lv_iconst (v := 1) hx hb d_Resolver_giveSides_146 (by decide) ?_
            refine xr_isub (v := (nI (n_operands - 1))) hx hb d_Resolver_giveSides_147 (pk_sub (a := n_operands) (b := 1) (by omega)) ?_
            refine xr_iald (v := (f_lasts (n_operands - 1))) hx hb hK hP 4 3 rfl rfl (vp_in_nI (by omega) (by omega)) (congrArg f_lasts (nI_clamp (by omega))) d_Resolver_giveSides_148 ?_
            refine va_iast hx hb hK hP hD hS 2 1 rfl rfl (vp_in_nI (by omega) (by omega)) d_Resolver_giveSides_149 (fun H locs hP hD hS => ?_)
            rw [show ((nI n_pairs) : Int32).toNatClampNeg = n_pairs from nI_clamp (by omega)] at hP hD
            have hP : va_P (dC, dI) vcl [(a_t, .inr (7, [.ref a_pairFirsts, .ref a_pairLasts, .int (nI n_pairs), .int (nI n_pairsBefore), .ref a_firsts, .ref a_lasts, .int (nI n_operands), .ref a_levels, .ref a_sides, .ref a_minusPlaces, .int (nI (n_waiting - 1))])), (a_pairFirsts, .inl (ka_pairFirsts, 90, .inl (upd f_pairFirsts n_pairs (f_firsts (n_operands - 1))))), (a_pairLasts, .inl (ka_pairLasts, 90, .inl (upd f_pairLasts n_pairs (f_lasts (n_operands - 1))))), (a_firsts, .inl (ka_firsts, 90, .inl f_firsts)), (a_lasts, .inl (ka_lasts, 90, .inl f_lasts)), (a_minusPlaces, .inl (ka_minusPlaces, 90, .inl f_minusPlaces))] H := hP
            have hD : va_D A [(a_t, .inr (7, [.ref a_pairFirsts, .ref a_pairLasts, .int (nI n_pairs), .int (nI n_pairsBefore), .ref a_firsts, .ref a_lasts, .int (nI n_operands), .ref a_levels, .ref a_sides, .ref a_minusPlaces, .int (nI (n_waiting - 1))])), (a_pairFirsts, .inl (ka_pairFirsts, 90, .inl (upd f_pairFirsts n_pairs (f_firsts (n_operands - 1))))), (a_pairLasts, .inl (ka_pairLasts, 90, .inl (upd f_pairLasts n_pairs (f_lasts (n_operands - 1))))), (a_firsts, .inl (ka_firsts, 90, .inl f_firsts)), (a_lasts, .inl (ka_lasts, 90, .inl f_lasts)), (a_minusPlaces, .inl (ka_minusPlaces, 90, .inl f_minusPlaces))] := hD
            refine lv_aload_n hx hb d_Resolver_giveSides_150 rfl (lv_at hl 0 rfl) ?_
            refine lv_dup hx hb d_Resolver_giveSides_151 rfl ?_
            refine va_get (D := (dC, dI)) (ci := 7) (v := .int (nI n_pairs)) (C := R_Resolver) (T := F_Resolver) (N := 11) hx hb hz zu_Resolver hown hK hP 0 rfl rfl 2 (by decide) (hz (.fieldLink R_Resolver 33 "LayoutFront$Resolver" "pairs" "I") zm_336) (fun _ h9 => h9) rfl d_Resolver_giveSides_152 ?_
            refine lv_iconst (v := 1) hx hb d_Resolver_giveSides_155 (by decide) ?_
            refine xr_iadd (v := (nI (n_pairs + 1))) hx hb d_Resolver_giveSides_156 (nI_add n_pairs 1) ?_
            refine va_put (D := (dC, dI)) (ci := 7) (v := .int (nI (n_pairs + 1))) (ty := .int) (C := R_Resolver) (T := F_Resolver) (N := 11) hx hb hz zu_Resolver t_Resolver t_Resolver_ok n_Resolver hown hK hP hD hS 0 rfl rfl 2 (by decide) (hz (.fieldLink R_Resolver 33 "LayoutFront$Resolver" "pairs" "I") zm_336) (fun _ h9 => h9) rfl (by decide +kernel) rfl rfl (Nat.le_of_ble_eq_true rfl) d_Resolver_giveSides_157 (fun H locs hP hD hS => ?_)
            have hP : va_P (dC, dI) vcl [(a_t, .inr (7, [.ref a_pairFirsts, .ref a_pairLasts, .int (nI (n_pairs + 1)), .int (nI n_pairsBefore), .ref a_firsts, .ref a_lasts, .int (nI n_operands), .ref a_levels, .ref a_sides, .ref a_minusPlaces, .int (nI (n_waiting - 1))])), (a_pairFirsts, .inl (ka_pairFirsts, 90, .inl (upd f_pairFirsts n_pairs (f_firsts (n_operands - 1))))), (a_pairLasts, .inl (ka_pairLasts, 90, .inl (upd f_pairLasts n_pairs (f_lasts (n_operands - 1))))), (a_firsts, .inl (ka_firsts, 90, .inl f_firsts)), (a_lasts, .inl (ka_lasts, 90, .inl f_lasts)), (a_minusPlaces, .inl (ka_minusPlaces, 90, .inl f_minusPlaces))] H := hP
            have hD : va_D A [(a_t, .inr (7, [.ref a_pairFirsts, .ref a_pairLasts, .int (nI (n_pairs + 1)), .int (nI n_pairsBefore), .ref a_firsts, .ref a_lasts, .int (nI n_operands), .ref a_levels, .ref a_sides, .ref a_minusPlaces, .int (nI (n_waiting - 1))])), (a_pairFirsts, .inl (ka_pairFirsts, 90, .inl (upd f_pairFirsts n_pairs (f_firsts (n_operands - 1))))), (a_pairLasts, .inl (ka_pairLasts, 90, .inl (upd f_pairLasts n_pairs (f_lasts (n_operands - 1))))), (a_firsts, .inl (ka_firsts, 90, .inl f_firsts)), (a_lasts, .inl (ka_lasts, 90, .inl f_lasts)), (a_minusPlaces, .inl (ka_minusPlaces, 90, .inl f_minusPlaces))] := hD
            have hP9 := hP.sub (ws' := [(a_t, .inr (7, [.ref a_pairFirsts, .ref a_pairLasts, .int (nI (n_pairs + 1)), .int (nI n_pairsBefore), .ref a_firsts, .ref a_lasts, .int (nI n_operands), .ref a_levels, .ref a_sides, .ref a_minusPlaces, .int (nI (n_waiting - 1))])), (a_pairFirsts, .inl (ka_pairFirsts, 90, .inl (upd f_pairFirsts n_pairs (f_firsts (n_operands - 1))))), (a_pairLasts, .inl (ka_pairLasts, 90, .inl (upd f_pairLasts n_pairs (f_lasts (n_operands - 1))))), (a_firsts, .inl (ka_firsts, 90, .inl f_firsts)), (a_lasts, .inl (ka_lasts, 90, .inl f_lasts)), (a_minusPlaces, .inl (ka_minusPlaces, 90, .inl f_minusPlaces))]) [0, 1, 2, 3, 4, 5] rfl
            have hD9 := hD.sub (ws' := [(a_t, .inr (7, [.ref a_pairFirsts, .ref a_pairLasts, .int (nI (n_pairs + 1)), .int (nI n_pairsBefore), .ref a_firsts, .ref a_lasts, .int (nI n_operands), .ref a_levels, .ref a_sides, .ref a_minusPlaces, .int (nI (n_waiting - 1))])), (a_pairFirsts, .inl (ka_pairFirsts, 90, .inl (upd f_pairFirsts n_pairs (f_firsts (n_operands - 1))))), (a_pairLasts, .inl (ka_pairLasts, 90, .inl (upd f_pairLasts n_pairs (f_lasts (n_operands - 1))))), (a_firsts, .inl (ka_firsts, 90, .inl f_firsts)), (a_lasts, .inl (ka_lasts, 90, .inl f_lasts)), (a_minusPlaces, .inl (ka_minusPlaces, 90, .inl f_minusPlaces))]) [0, 1, 2, 3, 4, 5] (by decide) rfl
            exact W.vret hx hb hr (fun t ht hW => ⟨⟨(), rfl, trivial, ((n_pairs + 1)), n_operands, ((n_waiting - 1)), ((upd f_pairFirsts n_pairs (f_firsts (n_operands - 1)))), ((upd f_pairLasts n_pairs (f_lasts (n_operands - 1)))), f_firsts, f_lasts, by first | rfl | omega | assumption, by first | rfl | omega | assumption, by first | rfl | omega | assumption, by first | rfl | omega | assumption, by first | rfl | omega | assumption, by exact gs_1 hp0 (by omega) e37, by first | rfl | omega | assumption, by first | rfl | omega | assumption, by exact fun j hj => pf_u hj, by rw [ht]; exact hP9, va_K.moved hW.alike hK, hD9⟩, hS.F ht⟩) hS.2.2 d_Resolver_giveSides_160
        · have h5 : ¬ n_operands < 2 := fun q => h5 ((nI_ltI (a := n_operands) (b := 2) (by omega) (by omega)).mpr q)
          have e68 := h5
          refine lv_aload_n hx hb d_Resolver_giveSides_71 rfl (lv_at hl 0 rfl) ?_
          refine lv_dup hx hb d_Resolver_giveSides_72 rfl ?_
          refine va_get (D := (dC, dI)) (ci := 7) (v := .int (nI n_operands)) (C := R_Resolver) (T := F_Resolver) (N := 11) hx hb hz zu_Resolver hown hK hP 0 rfl rfl 6 (by decide) (hz (.fieldLink R_Resolver 43 "LayoutFront$Resolver" "operands" "I") zm_343) (fun _ h9 => h9) rfl d_Resolver_giveSides_73 ?_
          refine lv_iconst (v := 1) hx hb d_Resolver_giveSides_76 (by decide) ?_
          refine xr_isub (v := (nI (n_operands - 1))) hx hb d_Resolver_giveSides_77 (pk_sub (a := n_operands) (b := 1) (by omega)) ?_
          refine va_put (D := (dC, dI)) (ci := 7) (v := .int (nI (n_operands - 1))) (ty := .int) (C := R_Resolver) (T := F_Resolver) (N := 11) hx hb hz zu_Resolver t_Resolver t_Resolver_ok n_Resolver hown hK hP hD hS 0 rfl rfl 6 (by decide) (hz (.fieldLink R_Resolver 43 "LayoutFront$Resolver" "operands" "I") zm_343) (fun _ h9 => h9) rfl (by decide +kernel) rfl rfl (Nat.le_of_ble_eq_true rfl) d_Resolver_giveSides_78 (fun H locs hP hD hS => ?_)
          have hP : va_P (dC, dI) vcl [(a_t, .inr (7, [.ref a_pairFirsts, .ref a_pairLasts, .int (nI n_pairs), .int (nI n_pairsBefore), .ref a_firsts, .ref a_lasts, .int (nI (n_operands - 1)), .ref a_levels, .ref a_sides, .ref a_minusPlaces, .int (nI (n_waiting - 1))])), (a_pairFirsts, .inl (ka_pairFirsts, 90, .inl f_pairFirsts)), (a_pairLasts, .inl (ka_pairLasts, 90, .inl f_pairLasts)), (a_firsts, .inl (ka_firsts, 90, .inl f_firsts)), (a_lasts, .inl (ka_lasts, 90, .inl f_lasts)), (a_minusPlaces, .inl (ka_minusPlaces, 90, .inl f_minusPlaces))] H := hP
          have hD : va_D A [(a_t, .inr (7, [.ref a_pairFirsts, .ref a_pairLasts, .int (nI n_pairs), .int (nI n_pairsBefore), .ref a_firsts, .ref a_lasts, .int (nI (n_operands - 1)), .ref a_levels, .ref a_sides, .ref a_minusPlaces, .int (nI (n_waiting - 1))])), (a_pairFirsts, .inl (ka_pairFirsts, 90, .inl f_pairFirsts)), (a_pairLasts, .inl (ka_pairLasts, 90, .inl f_pairLasts)), (a_firsts, .inl (ka_firsts, 90, .inl f_firsts)), (a_lasts, .inl (ka_lasts, 90, .inl f_lasts)), (a_minusPlaces, .inl (ka_minusPlaces, 90, .inl f_minusPlaces))] := hD
          refine lv_aload_n hx hb d_Resolver_giveSides_81 rfl (lv_at hl 0 rfl) ?_
          refine va_get (D := (dC, dI)) (ci := 7) (v := .ref a_lasts) (C := R_Resolver) (T := F_Resolver) (N := 11) hx hb hz zu_Resolver hown hK hP 0 rfl rfl 5 (by decide) (hz (.fieldLink R_Resolver 21 "LayoutFront$Resolver" "lasts" "[I") zm_331) (fun _ h9 => h9) rfl d_Resolver_giveSides_82 ?_
          refine lv_aload_n hx hb d_Resolver_giveSides_85 rfl (lv_at hl 0 rfl) ?_
          refine va_get (D := (dC, dI)) (ci := 7) (v := .int (nI (n_operands - 1))) (C := R_Resolver) (T := F_Resolver) (N := 11) hx hb hz zu_Resolver hown hK hP 0 rfl rfl 6 (by decide) (hz (.fieldLink R_Resolver 43 "LayoutFront$Resolver" "operands" "I") zm_343) (fun _ h9 => h9) rfl d_Resolver_giveSides_86 ?_
          refine lv_iconst (v := 1) hx hb d_Resolver_giveSides_89 (by decide) ?_
          refine xr_isub (v := (nI ((n_operands - 1) - 1))) hx hb d_Resolver_giveSides_90 (pk_sub (a := (n_operands - 1)) (b := 1) (by omega)) ?_
          refine lv_aload_n hx hb d_Resolver_giveSides_91 rfl (lv_at hl 0 rfl) ?_
          refine va_get (D := (dC, dI)) (ci := 7) (v := .ref a_lasts) (C := R_Resolver) (T := F_Resolver) (N := 11) hx hb hz zu_Resolver hown hK hP 0 rfl rfl 5 (by decide) (hz (.fieldLink R_Resolver 21 "LayoutFront$Resolver" "lasts" "[I") zm_331) (fun _ h9 => h9) rfl d_Resolver_giveSides_92 ?_
          refine lv_aload_n hx hb d_Resolver_giveSides_95 rfl (lv_at hl 0 rfl) ?_
          refine va_get (D := (dC, dI)) (ci := 7) (v := .int (nI (n_operands - 1))) (C := R_Resolver) (T := F_Resolver) (N := 11) hx hb hz zu_Resolver hown hK hP 0 rfl rfl 6 (by decide) (hz (.fieldLink R_Resolver 43 "LayoutFront$Resolver" "operands" "I") zm_343) (fun _ h9 => h9) rfl d_Resolver_giveSides_96 ?_
          refine xr_iald (v := (f_lasts (n_operands - 1))) hx hb hK hP 4 3 rfl rfl (vp_in_nI (by omega) (by omega)) (congrArg f_lasts (nI_clamp (by omega))) d_Resolver_giveSides_99 ?_
          refine va_iast hx hb hK hP hD hS 4 3 rfl rfl (vp_in_nI (by omega) (by omega)) d_Resolver_giveSides_100 (fun H locs hP hD hS => ?_)
          rw [show ((nI ((n_operands - 1) - 1)) : Int32).toNatClampNeg = ((n_operands - 1) - 1) from nI_clamp (by omega)] at hP hD
          have hP : va_P (dC, dI) vcl [(a_t, .inr (7, [.ref a_pairFirsts, .ref a_pairLasts, .int (nI n_pairs), .int (nI n_pairsBefore), .ref a_firsts, .ref a_lasts, .int (nI (n_operands - 1)), .ref a_levels, .ref a_sides, .ref a_minusPlaces, .int (nI (n_waiting - 1))])), (a_pairFirsts, .inl (ka_pairFirsts, 90, .inl f_pairFirsts)), (a_pairLasts, .inl (ka_pairLasts, 90, .inl f_pairLasts)), (a_firsts, .inl (ka_firsts, 90, .inl f_firsts)), (a_lasts, .inl (ka_lasts, 90, .inl (upd f_lasts ((n_operands - 1) - 1) (f_lasts (n_operands - 1))))), (a_minusPlaces, .inl (ka_minusPlaces, 90, .inl f_minusPlaces))] H := hP
          have hD : va_D A [(a_t, .inr (7, [.ref a_pairFirsts, .ref a_pairLasts, .int (nI n_pairs), .int (nI n_pairsBefore), .ref a_firsts, .ref a_lasts, .int (nI (n_operands - 1)), .ref a_levels, .ref a_sides, .ref a_minusPlaces, .int (nI (n_waiting - 1))])), (a_pairFirsts, .inl (ka_pairFirsts, 90, .inl f_pairFirsts)), (a_pairLasts, .inl (ka_pairLasts, 90, .inl f_pairLasts)), (a_firsts, .inl (ka_firsts, 90, .inl f_firsts)), (a_lasts, .inl (ka_lasts, 90, .inl (upd f_lasts ((n_operands - 1) - 1) (f_lasts (n_operands - 1))))), (a_minusPlaces, .inl (ka_minusPlaces, 90, .inl f_minusPlaces))] := hD
          refine lv_aload_n hx hb d_Resolver_giveSides_101 rfl (lv_at hl 0 rfl) ?_
          refine va_get (D := (dC, dI)) (ci := 7) (v := .int (nI n_pairs)) (C := R_Resolver) (T := F_Resolver) (N := 11) hx hb hz zu_Resolver hown hK hP 0 rfl rfl 2 (by decide) (hz (.fieldLink R_Resolver 33 "LayoutFront$Resolver" "pairs" "I") zm_336) (fun _ h9 => h9) rfl d_Resolver_giveSides_102 ?_
          refine lv_bipush (v := 90) hx hb d_Resolver_giveSides_105 (by decide) ?_
          refine lv_icmp_ge (tgt := 160) hx hb d_Resolver_giveSides_107 (by decide) (fun h13 => ?_) (fun h13 => ?_)
          · have h13 : 90 ≤ n_pairs := (nI_leI (a := 90) (b := n_pairs) (by omega) (by omega)).mp h13
            (exfalso; omega)
          · have h13 : ¬ 90 ≤ n_pairs := fun q => h13 ((nI_leI (a := 90) (b := n_pairs) (by omega) (by omega)).mpr q)
            refine lv_aload_n hx hb d_Resolver_giveSides_110 rfl (lv_at hl 0 rfl) ?_
            refine va_get (D := (dC, dI)) (ci := 7) (v := .ref a_pairFirsts) (C := R_Resolver) (T := F_Resolver) (N := 11) hx hb hz zu_Resolver hown hK hP 0 rfl rfl 0 (by decide) (hz (.fieldLink R_Resolver 9 "LayoutFront$Resolver" "pairFirsts" "[I") zm_328) (fun _ h9 => h9) rfl d_Resolver_giveSides_111 ?_
            refine lv_aload_n hx hb d_Resolver_giveSides_114 rfl (lv_at hl 0 rfl) ?_
            refine va_get (D := (dC, dI)) (ci := 7) (v := .int (nI n_pairs)) (C := R_Resolver) (T := F_Resolver) (N := 11) hx hb hz zu_Resolver hown hK hP 0 rfl rfl 2 (by decide) (hz (.fieldLink R_Resolver 33 "LayoutFront$Resolver" "pairs" "I") zm_336) (fun _ h9 => h9) rfl d_Resolver_giveSides_115 ?_
            refine lv_aload_n hx hb d_Resolver_giveSides_118 rfl (lv_at hl 0 rfl) ?_
            refine va_get (D := (dC, dI)) (ci := 7) (v := .ref a_firsts) (C := R_Resolver) (T := F_Resolver) (N := 11) hx hb hz zu_Resolver hown hK hP 0 rfl rfl 4 (by decide) (hz (.fieldLink R_Resolver 18 "LayoutFront$Resolver" "firsts" "[I") zm_330) (fun _ h9 => h9) rfl d_Resolver_giveSides_119 ?_
            refine lv_aload_n hx hb d_Resolver_giveSides_122 rfl (lv_at hl 0 rfl) ?_
            refine va_get (D := (dC, dI)) (ci := 7) (v := .int (nI (n_operands - 1))) (C := R_Resolver) (T := F_Resolver) (N := 11) hx hb hz zu_Resolver hown hK hP 0 rfl rfl 6 (by decide) (hz (.fieldLink R_Resolver 43 "LayoutFront$Resolver" "operands" "I") zm_343) (fun _ h9 => h9) rfl d_Resolver_giveSides_123 ?_
            refine lv_iconst (v := 1) hx hb d_Resolver_giveSides_126 (by decide) ?_
            refine xr_isub (v := (nI ((n_operands - 1) - 1))) hx hb d_Resolver_giveSides_127 (pk_sub (a := (n_operands - 1)) (b := 1) (by omega)) ?_
            refine xr_iald (v := (f_firsts ((n_operands - 1) - 1))) hx hb hK hP 3 2 rfl rfl (vp_in_nI (by omega) (by omega)) (congrArg f_firsts (nI_clamp (by omega))) d_Resolver_giveSides_128 ?_
            refine va_iast hx hb hK hP hD hS 1 0 rfl rfl (vp_in_nI (by omega) (by omega)) d_Resolver_giveSides_129 (fun H locs hP hD hS => ?_)
            rw [show ((nI n_pairs) : Int32).toNatClampNeg = n_pairs from nI_clamp (by omega)] at hP hD
            have hP : va_P (dC, dI) vcl [(a_t, .inr (7, [.ref a_pairFirsts, .ref a_pairLasts, .int (nI n_pairs), .int (nI n_pairsBefore), .ref a_firsts, .ref a_lasts, .int (nI (n_operands - 1)), .ref a_levels, .ref a_sides, .ref a_minusPlaces, .int (nI (n_waiting - 1))])), (a_pairFirsts, .inl (ka_pairFirsts, 90, .inl (upd f_pairFirsts n_pairs (f_firsts ((n_operands - 1) - 1))))), (a_pairLasts, .inl (ka_pairLasts, 90, .inl f_pairLasts)), (a_firsts, .inl (ka_firsts, 90, .inl f_firsts)), (a_lasts, .inl (ka_lasts, 90, .inl (upd f_lasts ((n_operands - 1) - 1) (f_lasts (n_operands - 1))))), (a_minusPlaces, .inl (ka_minusPlaces, 90, .inl f_minusPlaces))] H := hP
            have hD : va_D A [(a_t, .inr (7, [.ref a_pairFirsts, .ref a_pairLasts, .int (nI n_pairs), .int (nI n_pairsBefore), .ref a_firsts, .ref a_lasts, .int (nI (n_operands - 1)), .ref a_levels, .ref a_sides, .ref a_minusPlaces, .int (nI (n_waiting - 1))])), (a_pairFirsts, .inl (ka_pairFirsts, 90, .inl (upd f_pairFirsts n_pairs (f_firsts ((n_operands - 1) - 1))))), (a_pairLasts, .inl (ka_pairLasts, 90, .inl f_pairLasts)), (a_firsts, .inl (ka_firsts, 90, .inl f_firsts)), (a_lasts, .inl (ka_lasts, 90, .inl (upd f_lasts ((n_operands - 1) - 1) (f_lasts (n_operands - 1))))), (a_minusPlaces, .inl (ka_minusPlaces, 90, .inl f_minusPlaces))] := hD
            refine lv_aload_n hx hb d_Resolver_giveSides_130 rfl (lv_at hl 0 rfl) ?_
            refine va_get (D := (dC, dI)) (ci := 7) (v := .ref a_pairLasts) (C := R_Resolver) (T := F_Resolver) (N := 11) hx hb hz zu_Resolver hown hK hP 0 rfl rfl 1 (by decide) (hz (.fieldLink R_Resolver 15 "LayoutFront$Resolver" "pairLasts" "[I") zm_329) (fun _ h9 => h9) rfl d_Resolver_giveSides_131 ?_
            refine lv_aload_n hx hb d_Resolver_giveSides_134 rfl (lv_at hl 0 rfl) ?_
            refine va_get (D := (dC, dI)) (ci := 7) (v := .int (nI n_pairs)) (C := R_Resolver) (T := F_Resolver) (N := 11) hx hb hz zu_Resolver hown hK hP 0 rfl rfl 2 (by decide) (hz (.fieldLink R_Resolver 33 "LayoutFront$Resolver" "pairs" "I") zm_336) (fun _ h9 => h9) rfl d_Resolver_giveSides_135 ?_
            refine lv_aload_n hx hb d_Resolver_giveSides_138 rfl (lv_at hl 0 rfl) ?_
            refine va_get (D := (dC, dI)) (ci := 7) (v := .ref a_lasts) (C := R_Resolver) (T := F_Resolver) (N := 11) hx hb hz zu_Resolver hown hK hP 0 rfl rfl 5 (by decide) (hz (.fieldLink R_Resolver 21 "LayoutFront$Resolver" "lasts" "[I") zm_331) (fun _ h9 => h9) rfl d_Resolver_giveSides_139 ?_
            refine lv_aload_n hx hb d_Resolver_giveSides_142 rfl (lv_at hl 0 rfl) ?_
            refine va_get (D := (dC, dI)) (ci := 7) (v := .int (nI (n_operands - 1))) (C := R_Resolver) (T := F_Resolver) (N := 11) hx hb hz zu_Resolver hown hK hP 0 rfl rfl 6 (by decide) (hz (.fieldLink R_Resolver 43 "LayoutFront$Resolver" "operands" "I") zm_343) (fun _ h9 => h9) rfl d_Resolver_giveSides_143 ?_
            refine lv_iconst (v := 1) hx hb d_Resolver_giveSides_146 (by decide) ?_
            refine xr_isub (v := (nI ((n_operands - 1) - 1))) hx hb d_Resolver_giveSides_147 (pk_sub (a := (n_operands - 1)) (b := 1) (by omega)) ?_
            refine xr_iald (v := ((upd f_lasts ((n_operands - 1) - 1) (f_lasts (n_operands - 1))) ((n_operands - 1) - 1))) hx hb hK hP 4 3 rfl rfl (vp_in_nI (by omega) (by omega)) (congrArg (upd f_lasts ((n_operands - 1) - 1) (f_lasts (n_operands - 1))) (nI_clamp (by omega))) d_Resolver_giveSides_148 ?_
            refine va_iast hx hb hK hP hD hS 2 1 rfl rfl (vp_in_nI (by omega) (by omega)) d_Resolver_giveSides_149 (fun H locs hP hD hS => ?_)
            rw [show ((nI n_pairs) : Int32).toNatClampNeg = n_pairs from nI_clamp (by omega)] at hP hD
            have hP : va_P (dC, dI) vcl [(a_t, .inr (7, [.ref a_pairFirsts, .ref a_pairLasts, .int (nI n_pairs), .int (nI n_pairsBefore), .ref a_firsts, .ref a_lasts, .int (nI (n_operands - 1)), .ref a_levels, .ref a_sides, .ref a_minusPlaces, .int (nI (n_waiting - 1))])), (a_pairFirsts, .inl (ka_pairFirsts, 90, .inl (upd f_pairFirsts n_pairs (f_firsts ((n_operands - 1) - 1))))), (a_pairLasts, .inl (ka_pairLasts, 90, .inl (upd f_pairLasts n_pairs ((upd f_lasts ((n_operands - 1) - 1) (f_lasts (n_operands - 1))) ((n_operands - 1) - 1))))), (a_firsts, .inl (ka_firsts, 90, .inl f_firsts)), (a_lasts, .inl (ka_lasts, 90, .inl (upd f_lasts ((n_operands - 1) - 1) (f_lasts (n_operands - 1))))), (a_minusPlaces, .inl (ka_minusPlaces, 90, .inl f_minusPlaces))] H := hP
            have hD : va_D A [(a_t, .inr (7, [.ref a_pairFirsts, .ref a_pairLasts, .int (nI n_pairs), .int (nI n_pairsBefore), .ref a_firsts, .ref a_lasts, .int (nI (n_operands - 1)), .ref a_levels, .ref a_sides, .ref a_minusPlaces, .int (nI (n_waiting - 1))])), (a_pairFirsts, .inl (ka_pairFirsts, 90, .inl (upd f_pairFirsts n_pairs (f_firsts ((n_operands - 1) - 1))))), (a_pairLasts, .inl (ka_pairLasts, 90, .inl (upd f_pairLasts n_pairs ((upd f_lasts ((n_operands - 1) - 1) (f_lasts (n_operands - 1))) ((n_operands - 1) - 1))))), (a_firsts, .inl (ka_firsts, 90, .inl f_firsts)), (a_lasts, .inl (ka_lasts, 90, .inl (upd f_lasts ((n_operands - 1) - 1) (f_lasts (n_operands - 1))))), (a_minusPlaces, .inl (ka_minusPlaces, 90, .inl f_minusPlaces))] := hD
            refine lv_aload_n hx hb d_Resolver_giveSides_150 rfl (lv_at hl 0 rfl) ?_
            refine lv_dup hx hb d_Resolver_giveSides_151 rfl ?_
            refine va_get (D := (dC, dI)) (ci := 7) (v := .int (nI n_pairs)) (C := R_Resolver) (T := F_Resolver) (N := 11) hx hb hz zu_Resolver hown hK hP 0 rfl rfl 2 (by decide) (hz (.fieldLink R_Resolver 33 "LayoutFront$Resolver" "pairs" "I") zm_336) (fun _ h9 => h9) rfl d_Resolver_giveSides_152 ?_
            refine lv_iconst (v := 1) hx hb d_Resolver_giveSides_155 (by decide) ?_
            refine xr_iadd (v := (nI (n_pairs + 1))) hx hb d_Resolver_giveSides_156 (nI_add n_pairs 1) ?_
            refine va_put (D := (dC, dI)) (ci := 7) (v := .int (nI (n_pairs + 1))) (ty := .int) (C := R_Resolver) (T := F_Resolver) (N := 11) hx hb hz zu_Resolver t_Resolver t_Resolver_ok n_Resolver hown hK hP hD hS 0 rfl rfl 2 (by decide) (hz (.fieldLink R_Resolver 33 "LayoutFront$Resolver" "pairs" "I") zm_336) (fun _ h9 => h9) rfl (by decide +kernel) rfl rfl (Nat.le_of_ble_eq_true rfl) d_Resolver_giveSides_157 (fun H locs hP hD hS => ?_)
            have hP : va_P (dC, dI) vcl [(a_t, .inr (7, [.ref a_pairFirsts, .ref a_pairLasts, .int (nI (n_pairs + 1)), .int (nI n_pairsBefore), .ref a_firsts, .ref a_lasts, .int (nI (n_operands - 1)), .ref a_levels, .ref a_sides, .ref a_minusPlaces, .int (nI (n_waiting - 1))])), (a_pairFirsts, .inl (ka_pairFirsts, 90, .inl (upd f_pairFirsts n_pairs (f_firsts ((n_operands - 1) - 1))))), (a_pairLasts, .inl (ka_pairLasts, 90, .inl (upd f_pairLasts n_pairs ((upd f_lasts ((n_operands - 1) - 1) (f_lasts (n_operands - 1))) ((n_operands - 1) - 1))))), (a_firsts, .inl (ka_firsts, 90, .inl f_firsts)), (a_lasts, .inl (ka_lasts, 90, .inl (upd f_lasts ((n_operands - 1) - 1) (f_lasts (n_operands - 1))))), (a_minusPlaces, .inl (ka_minusPlaces, 90, .inl f_minusPlaces))] H := hP
            have hD : va_D A [(a_t, .inr (7, [.ref a_pairFirsts, .ref a_pairLasts, .int (nI (n_pairs + 1)), .int (nI n_pairsBefore), .ref a_firsts, .ref a_lasts, .int (nI (n_operands - 1)), .ref a_levels, .ref a_sides, .ref a_minusPlaces, .int (nI (n_waiting - 1))])), (a_pairFirsts, .inl (ka_pairFirsts, 90, .inl (upd f_pairFirsts n_pairs (f_firsts ((n_operands - 1) - 1))))), (a_pairLasts, .inl (ka_pairLasts, 90, .inl (upd f_pairLasts n_pairs ((upd f_lasts ((n_operands - 1) - 1) (f_lasts (n_operands - 1))) ((n_operands - 1) - 1))))), (a_firsts, .inl (ka_firsts, 90, .inl f_firsts)), (a_lasts, .inl (ka_lasts, 90, .inl (upd f_lasts ((n_operands - 1) - 1) (f_lasts (n_operands - 1))))), (a_minusPlaces, .inl (ka_minusPlaces, 90, .inl f_minusPlaces))] := hD
            have hP9 := hP.sub (ws' := [(a_t, .inr (7, [.ref a_pairFirsts, .ref a_pairLasts, .int (nI (n_pairs + 1)), .int (nI n_pairsBefore), .ref a_firsts, .ref a_lasts, .int (nI (n_operands - 1)), .ref a_levels, .ref a_sides, .ref a_minusPlaces, .int (nI (n_waiting - 1))])), (a_pairFirsts, .inl (ka_pairFirsts, 90, .inl (upd f_pairFirsts n_pairs (f_firsts ((n_operands - 1) - 1))))), (a_pairLasts, .inl (ka_pairLasts, 90, .inl (upd f_pairLasts n_pairs ((upd f_lasts ((n_operands - 1) - 1) (f_lasts (n_operands - 1))) ((n_operands - 1) - 1))))), (a_firsts, .inl (ka_firsts, 90, .inl f_firsts)), (a_lasts, .inl (ka_lasts, 90, .inl (upd f_lasts ((n_operands - 1) - 1) (f_lasts (n_operands - 1))))), (a_minusPlaces, .inl (ka_minusPlaces, 90, .inl f_minusPlaces))]) [0, 1, 2, 3, 4, 5] rfl
            have hD9 := hD.sub (ws' := [(a_t, .inr (7, [.ref a_pairFirsts, .ref a_pairLasts, .int (nI (n_pairs + 1)), .int (nI n_pairsBefore), .ref a_firsts, .ref a_lasts, .int (nI (n_operands - 1)), .ref a_levels, .ref a_sides, .ref a_minusPlaces, .int (nI (n_waiting - 1))])), (a_pairFirsts, .inl (ka_pairFirsts, 90, .inl (upd f_pairFirsts n_pairs (f_firsts ((n_operands - 1) - 1))))), (a_pairLasts, .inl (ka_pairLasts, 90, .inl (upd f_pairLasts n_pairs ((upd f_lasts ((n_operands - 1) - 1) (f_lasts (n_operands - 1))) ((n_operands - 1) - 1))))), (a_firsts, .inl (ka_firsts, 90, .inl f_firsts)), (a_lasts, .inl (ka_lasts, 90, .inl (upd f_lasts ((n_operands - 1) - 1) (f_lasts (n_operands - 1))))), (a_minusPlaces, .inl (ka_minusPlaces, 90, .inl f_minusPlaces))]) [0, 1, 2, 3, 4, 5] (by decide) rfl
            exact W.vret hx hb hr (fun t ht hW => ⟨⟨(), rfl, trivial, ((n_pairs + 1)), ((n_operands - 1)), ((n_waiting - 1)), ((upd f_pairFirsts n_pairs (f_firsts ((n_operands - 1) - 1)))), ((upd f_pairLasts n_pairs ((upd f_lasts ((n_operands - 1) - 1) (f_lasts (n_operands - 1))) ((n_operands - 1) - 1)))), f_firsts, ((upd f_lasts ((n_operands - 1) - 1) (f_lasts (n_operands - 1)))), by first | rfl | omega | assumption, by first | rfl | omega | assumption, by first | rfl | omega | assumption, by first | rfl | omega | assumption, by first | rfl | omega | assumption, by exact gs_b hp0 (by omega) e37, by first | rfl | omega | assumption, by first | rfl | omega | assumption, by exact fun j hj => pf_u hj, by rw [ht]; exact hP9, va_K.moved hW.alike hK, hD9⟩, hS.F ht⟩) hS.2.2 d_Resolver_giveSides_160
      · have e37 := h4
        refine lv_aload_n hx hb d_Resolver_giveSides_40 rfl (lv_at hl 0 rfl) ?_
        refine va_get (D := (dC, dI)) (ci := 7) (v := .ref a_firsts) (C := R_Resolver) (T := F_Resolver) (N := 11) hx hb hz zu_Resolver hown hK hP 0 rfl rfl 4 (by decide) (hz (.fieldLink R_Resolver 18 "LayoutFront$Resolver" "firsts" "[I") zm_330) (fun _ h9 => h9) rfl d_Resolver_giveSides_41 ?_
        refine lv_aload_n hx hb d_Resolver_giveSides_44 rfl (lv_at hl 0 rfl) ?_
        refine va_get (D := (dC, dI)) (ci := 7) (v := .int (nI n_operands)) (C := R_Resolver) (T := F_Resolver) (N := 11) hx hb hz zu_Resolver hown hK hP 0 rfl rfl 6 (by decide) (hz (.fieldLink R_Resolver 43 "LayoutFront$Resolver" "operands" "I") zm_343) (fun _ h9 => h9) rfl d_Resolver_giveSides_45 ?_
        refine lv_iconst (v := 1) hx hb d_Resolver_giveSides_48 (by decide) ?_
        refine xr_isub (v := (nI (n_operands - 1))) hx hb d_Resolver_giveSides_49 (pk_sub (a := n_operands) (b := 1) (by omega)) ?_
        refine lv_aload_n hx hb d_Resolver_giveSides_50 rfl (lv_at hl 0 rfl) ?_
        refine va_get (D := (dC, dI)) (ci := 7) (v := .ref a_minusPlaces) (C := R_Resolver) (T := F_Resolver) (N := 11) hx hb hz zu_Resolver hown hK hP 0 rfl rfl 9 (by decide) (hz (.fieldLink R_Resolver 30 "LayoutFront$Resolver" "minusPlaces" "[I") zm_334) (fun _ h9 => h9) rfl d_Resolver_giveSides_51 ?_
        refine lv_aload_n hx hb d_Resolver_giveSides_54 rfl (lv_at hl 0 rfl) ?_
        refine va_get (D := (dC, dI)) (ci := 7) (v := .int (nI (n_waiting - 1))) (C := R_Resolver) (T := F_Resolver) (N := 11) hx hb hz zu_Resolver hown hK hP 0 rfl rfl 10 (by decide) (hz (.fieldLink R_Resolver 46 "LayoutFront$Resolver" "waiting" "I") zm_344) (fun _ h9 => h9) rfl d_Resolver_giveSides_55 ?_
        refine xr_iald (v := (f_minusPlaces (n_waiting - 1))) hx hb hK hP 5 4 rfl rfl (vp_in_nI (by omega) (by omega)) (congrArg f_minusPlaces (nI_clamp (by omega))) d_Resolver_giveSides_58 ?_
        refine va_iast hx hb hK hP hD hS 3 2 rfl rfl (vp_in_nI (by omega) (by omega)) d_Resolver_giveSides_59 (fun H locs hP hD hS => ?_)
        rw [show ((nI (n_operands - 1)) : Int32).toNatClampNeg = (n_operands - 1) from nI_clamp (by omega)] at hP hD
        have hP : va_P (dC, dI) vcl [(a_t, .inr (7, [.ref a_pairFirsts, .ref a_pairLasts, .int (nI n_pairs), .int (nI n_pairsBefore), .ref a_firsts, .ref a_lasts, .int (nI n_operands), .ref a_levels, .ref a_sides, .ref a_minusPlaces, .int (nI (n_waiting - 1))])), (a_pairFirsts, .inl (ka_pairFirsts, 90, .inl f_pairFirsts)), (a_pairLasts, .inl (ka_pairLasts, 90, .inl f_pairLasts)), (a_firsts, .inl (ka_firsts, 90, .inl (upd f_firsts (n_operands - 1) (f_minusPlaces (n_waiting - 1))))), (a_lasts, .inl (ka_lasts, 90, .inl f_lasts)), (a_minusPlaces, .inl (ka_minusPlaces, 90, .inl f_minusPlaces))] H := hP
        have hD : va_D A [(a_t, .inr (7, [.ref a_pairFirsts, .ref a_pairLasts, .int (nI n_pairs), .int (nI n_pairsBefore), .ref a_firsts, .ref a_lasts, .int (nI n_operands), .ref a_levels, .ref a_sides, .ref a_minusPlaces, .int (nI (n_waiting - 1))])), (a_pairFirsts, .inl (ka_pairFirsts, 90, .inl f_pairFirsts)), (a_pairLasts, .inl (ka_pairLasts, 90, .inl f_pairLasts)), (a_firsts, .inl (ka_firsts, 90, .inl (upd f_firsts (n_operands - 1) (f_minusPlaces (n_waiting - 1))))), (a_lasts, .inl (ka_lasts, 90, .inl f_lasts)), (a_minusPlaces, .inl (ka_minusPlaces, 90, .inl f_minusPlaces))] := hD
        refine lv_goto (tgt := 101) hx hb d_Resolver_giveSides_60 (by decide) ?_
        refine lv_aload_n hx hb d_Resolver_giveSides_101 rfl (lv_at hl 0 rfl) ?_
        refine va_get (D := (dC, dI)) (ci := 7) (v := .int (nI n_pairs)) (C := R_Resolver) (T := F_Resolver) (N := 11) hx hb hz zu_Resolver hown hK hP 0 rfl rfl 2 (by decide) (hz (.fieldLink R_Resolver 33 "LayoutFront$Resolver" "pairs" "I") zm_336) (fun _ h9 => h9) rfl d_Resolver_giveSides_102 ?_
        refine lv_bipush (v := 90) hx hb d_Resolver_giveSides_105 (by decide) ?_
        refine lv_icmp_ge (tgt := 160) hx hb d_Resolver_giveSides_107 (by decide) (fun h20 => ?_) (fun h20 => ?_)
        · have h20 : 90 ≤ n_pairs := (nI_leI (a := 90) (b := n_pairs) (by omega) (by omega)).mp h20
          (exfalso; omega)
        · have h20 : ¬ 90 ≤ n_pairs := fun q => h20 ((nI_leI (a := 90) (b := n_pairs) (by omega) (by omega)).mpr q)
          refine lv_aload_n hx hb d_Resolver_giveSides_110 rfl (lv_at hl 0 rfl) ?_
          refine va_get (D := (dC, dI)) (ci := 7) (v := .ref a_pairFirsts) (C := R_Resolver) (T := F_Resolver) (N := 11) hx hb hz zu_Resolver hown hK hP 0 rfl rfl 0 (by decide) (hz (.fieldLink R_Resolver 9 "LayoutFront$Resolver" "pairFirsts" "[I") zm_328) (fun _ h9 => h9) rfl d_Resolver_giveSides_111 ?_
          refine lv_aload_n hx hb d_Resolver_giveSides_114 rfl (lv_at hl 0 rfl) ?_
          refine va_get (D := (dC, dI)) (ci := 7) (v := .int (nI n_pairs)) (C := R_Resolver) (T := F_Resolver) (N := 11) hx hb hz zu_Resolver hown hK hP 0 rfl rfl 2 (by decide) (hz (.fieldLink R_Resolver 33 "LayoutFront$Resolver" "pairs" "I") zm_336) (fun _ h9 => h9) rfl d_Resolver_giveSides_115 ?_
          refine lv_aload_n hx hb d_Resolver_giveSides_118 rfl (lv_at hl 0 rfl) ?_
          refine va_get (D := (dC, dI)) (ci := 7) (v := .ref a_firsts) (C := R_Resolver) (T := F_Resolver) (N := 11) hx hb hz zu_Resolver hown hK hP 0 rfl rfl 4 (by decide) (hz (.fieldLink R_Resolver 18 "LayoutFront$Resolver" "firsts" "[I") zm_330) (fun _ h9 => h9) rfl d_Resolver_giveSides_119 ?_
          refine lv_aload_n hx hb d_Resolver_giveSides_122 rfl (lv_at hl 0 rfl) ?_
          refine va_get (D := (dC, dI)) (ci := 7) (v := .int (nI n_operands)) (C := R_Resolver) (T := F_Resolver) (N := 11) hx hb hz zu_Resolver hown hK hP 0 rfl rfl 6 (by decide) (hz (.fieldLink R_Resolver 43 "LayoutFront$Resolver" "operands" "I") zm_343) (fun _ h9 => h9) rfl d_Resolver_giveSides_123 ?_
          refine lv_iconst (v := 1) hx hb d_Resolver_giveSides_126 (by decide) ?_
          refine xr_isub (v := (nI (n_operands - 1))) hx hb d_Resolver_giveSides_127 (pk_sub (a := n_operands) (b := 1) (by omega)) ?_
          refine xr_iald (v := ((upd f_firsts (n_operands - 1) (f_minusPlaces (n_waiting - 1))) (n_operands - 1))) hx hb hK hP 3 2 rfl rfl (vp_in_nI (by omega) (by omega)) (congrArg (upd f_firsts (n_operands - 1) (f_minusPlaces (n_waiting - 1))) (nI_clamp (by omega))) d_Resolver_giveSides_128 ?_
          refine va_iast hx hb hK hP hD hS 1 0 rfl rfl (vp_in_nI (by omega) (by omega)) d_Resolver_giveSides_129 (fun H locs hP hD hS => ?_)
          rw [show ((nI n_pairs) : Int32).toNatClampNeg = n_pairs from nI_clamp (by omega)] at hP hD
          have hP : va_P (dC, dI) vcl [(a_t, .inr (7, [.ref a_pairFirsts, .ref a_pairLasts, .int (nI n_pairs), .int (nI n_pairsBefore), .ref a_firsts, .ref a_lasts, .int (nI n_operands), .ref a_levels, .ref a_sides, .ref a_minusPlaces, .int (nI (n_waiting - 1))])), (a_pairFirsts, .inl (ka_pairFirsts, 90, .inl (upd f_pairFirsts n_pairs ((upd f_firsts (n_operands - 1) (f_minusPlaces (n_waiting - 1))) (n_operands - 1))))), (a_pairLasts, .inl (ka_pairLasts, 90, .inl f_pairLasts)), (a_firsts, .inl (ka_firsts, 90, .inl (upd f_firsts (n_operands - 1) (f_minusPlaces (n_waiting - 1))))), (a_lasts, .inl (ka_lasts, 90, .inl f_lasts)), (a_minusPlaces, .inl (ka_minusPlaces, 90, .inl f_minusPlaces))] H := hP
          have hD : va_D A [(a_t, .inr (7, [.ref a_pairFirsts, .ref a_pairLasts, .int (nI n_pairs), .int (nI n_pairsBefore), .ref a_firsts, .ref a_lasts, .int (nI n_operands), .ref a_levels, .ref a_sides, .ref a_minusPlaces, .int (nI (n_waiting - 1))])), (a_pairFirsts, .inl (ka_pairFirsts, 90, .inl (upd f_pairFirsts n_pairs ((upd f_firsts (n_operands - 1) (f_minusPlaces (n_waiting - 1))) (n_operands - 1))))), (a_pairLasts, .inl (ka_pairLasts, 90, .inl f_pairLasts)), (a_firsts, .inl (ka_firsts, 90, .inl (upd f_firsts (n_operands - 1) (f_minusPlaces (n_waiting - 1))))), (a_lasts, .inl (ka_lasts, 90, .inl f_lasts)), (a_minusPlaces, .inl (ka_minusPlaces, 90, .inl f_minusPlaces))] := hD
          refine lv_aload_n hx hb d_Resolver_giveSides_130 rfl (lv_at hl 0 rfl) ?_
          refine va_get (D := (dC, dI)) (ci := 7) (v := .ref a_pairLasts) (C := R_Resolver) (T := F_Resolver) (N := 11) hx hb hz zu_Resolver hown hK hP 0 rfl rfl 1 (by decide) (hz (.fieldLink R_Resolver 15 "LayoutFront$Resolver" "pairLasts" "[I") zm_329) (fun _ h9 => h9) rfl d_Resolver_giveSides_131 ?_
          refine lv_aload_n hx hb d_Resolver_giveSides_134 rfl (lv_at hl 0 rfl) ?_
          refine va_get (D := (dC, dI)) (ci := 7) (v := .int (nI n_pairs)) (C := R_Resolver) (T := F_Resolver) (N := 11) hx hb hz zu_Resolver hown hK hP 0 rfl rfl 2 (by decide) (hz (.fieldLink R_Resolver 33 "LayoutFront$Resolver" "pairs" "I") zm_336) (fun _ h9 => h9) rfl d_Resolver_giveSides_135 ?_
          refine lv_aload_n hx hb d_Resolver_giveSides_138 rfl (lv_at hl 0 rfl) ?_
          refine va_get (D := (dC, dI)) (ci := 7) (v := .ref a_lasts) (C := R_Resolver) (T := F_Resolver) (N := 11) hx hb hz zu_Resolver hown hK hP 0 rfl rfl 5 (by decide) (hz (.fieldLink R_Resolver 21 "LayoutFront$Resolver" "lasts" "[I") zm_331) (fun _ h9 => h9) rfl d_Resolver_giveSides_139 ?_
          refine lv_aload_n hx hb d_Resolver_giveSides_142 rfl (lv_at hl 0 rfl) ?_
          refine va_get (D := (dC, dI)) (ci := 7) (v := .int (nI n_operands)) (C := R_Resolver) (T := F_Resolver) (N := 11) hx hb hz zu_Resolver hown hK hP 0 rfl rfl 6 (by decide) (hz (.fieldLink R_Resolver 43 "LayoutFront$Resolver" "operands" "I") zm_343) (fun _ h9 => h9) rfl d_Resolver_giveSides_143 ?_
          refine lv_iconst (v := 1) hx hb d_Resolver_giveSides_146 (by decide) ?_
          refine xr_isub (v := (nI (n_operands - 1))) hx hb d_Resolver_giveSides_147 (pk_sub (a := n_operands) (b := 1) (by omega)) ?_
          refine xr_iald (v := (f_lasts (n_operands - 1))) hx hb hK hP 4 3 rfl rfl (vp_in_nI (by omega) (by omega)) (congrArg f_lasts (nI_clamp (by omega))) d_Resolver_giveSides_148 ?_
          refine va_iast hx hb hK hP hD hS 2 1 rfl rfl (vp_in_nI (by omega) (by omega)) d_Resolver_giveSides_149 (fun H locs hP hD hS => ?_)
          rw [show ((nI n_pairs) : Int32).toNatClampNeg = n_pairs from nI_clamp (by omega)] at hP hD
          have hP : va_P (dC, dI) vcl [(a_t, .inr (7, [.ref a_pairFirsts, .ref a_pairLasts, .int (nI n_pairs), .int (nI n_pairsBefore), .ref a_firsts, .ref a_lasts, .int (nI n_operands), .ref a_levels, .ref a_sides, .ref a_minusPlaces, .int (nI (n_waiting - 1))])), (a_pairFirsts, .inl (ka_pairFirsts, 90, .inl (upd f_pairFirsts n_pairs ((upd f_firsts (n_operands - 1) (f_minusPlaces (n_waiting - 1))) (n_operands - 1))))), (a_pairLasts, .inl (ka_pairLasts, 90, .inl (upd f_pairLasts n_pairs (f_lasts (n_operands - 1))))), (a_firsts, .inl (ka_firsts, 90, .inl (upd f_firsts (n_operands - 1) (f_minusPlaces (n_waiting - 1))))), (a_lasts, .inl (ka_lasts, 90, .inl f_lasts)), (a_minusPlaces, .inl (ka_minusPlaces, 90, .inl f_minusPlaces))] H := hP
          have hD : va_D A [(a_t, .inr (7, [.ref a_pairFirsts, .ref a_pairLasts, .int (nI n_pairs), .int (nI n_pairsBefore), .ref a_firsts, .ref a_lasts, .int (nI n_operands), .ref a_levels, .ref a_sides, .ref a_minusPlaces, .int (nI (n_waiting - 1))])), (a_pairFirsts, .inl (ka_pairFirsts, 90, .inl (upd f_pairFirsts n_pairs ((upd f_firsts (n_operands - 1) (f_minusPlaces (n_waiting - 1))) (n_operands - 1))))), (a_pairLasts, .inl (ka_pairLasts, 90, .inl (upd f_pairLasts n_pairs (f_lasts (n_operands - 1))))), (a_firsts, .inl (ka_firsts, 90, .inl (upd f_firsts (n_operands - 1) (f_minusPlaces (n_waiting - 1))))), (a_lasts, .inl (ka_lasts, 90, .inl f_lasts)), (a_minusPlaces, .inl (ka_minusPlaces, 90, .inl f_minusPlaces))] := hD
          refine lv_aload_n hx hb d_Resolver_giveSides_150 rfl (lv_at hl 0 rfl) ?_
          refine lv_dup hx hb d_Resolver_giveSides_151 rfl ?_
          refine va_get (D := (dC, dI)) (ci := 7) (v := .int (nI n_pairs)) (C := R_Resolver) (T := F_Resolver) (N := 11) hx hb hz zu_Resolver hown hK hP 0 rfl rfl 2 (by decide) (hz (.fieldLink R_Resolver 33 "LayoutFront$Resolver" "pairs" "I") zm_336) (fun _ h9 => h9) rfl d_Resolver_giveSides_152 ?_
          refine lv_iconst (v := 1) hx hb d_Resolver_giveSides_155 (by decide) ?_
          refine xr_iadd (v := (nI (n_pairs + 1))) hx hb d_Resolver_giveSides_156 (nI_add n_pairs 1) ?_
          refine va_put (D := (dC, dI)) (ci := 7) (v := .int (nI (n_pairs + 1))) (ty := .int) (C := R_Resolver) (T := F_Resolver) (N := 11) hx hb hz zu_Resolver t_Resolver t_Resolver_ok n_Resolver hown hK hP hD hS 0 rfl rfl 2 (by decide) (hz (.fieldLink R_Resolver 33 "LayoutFront$Resolver" "pairs" "I") zm_336) (fun _ h9 => h9) rfl (by decide +kernel) rfl rfl (Nat.le_of_ble_eq_true rfl) d_Resolver_giveSides_157 (fun H locs hP hD hS => ?_)
          have hP : va_P (dC, dI) vcl [(a_t, .inr (7, [.ref a_pairFirsts, .ref a_pairLasts, .int (nI (n_pairs + 1)), .int (nI n_pairsBefore), .ref a_firsts, .ref a_lasts, .int (nI n_operands), .ref a_levels, .ref a_sides, .ref a_minusPlaces, .int (nI (n_waiting - 1))])), (a_pairFirsts, .inl (ka_pairFirsts, 90, .inl (upd f_pairFirsts n_pairs ((upd f_firsts (n_operands - 1) (f_minusPlaces (n_waiting - 1))) (n_operands - 1))))), (a_pairLasts, .inl (ka_pairLasts, 90, .inl (upd f_pairLasts n_pairs (f_lasts (n_operands - 1))))), (a_firsts, .inl (ka_firsts, 90, .inl (upd f_firsts (n_operands - 1) (f_minusPlaces (n_waiting - 1))))), (a_lasts, .inl (ka_lasts, 90, .inl f_lasts)), (a_minusPlaces, .inl (ka_minusPlaces, 90, .inl f_minusPlaces))] H := hP
          have hD : va_D A [(a_t, .inr (7, [.ref a_pairFirsts, .ref a_pairLasts, .int (nI (n_pairs + 1)), .int (nI n_pairsBefore), .ref a_firsts, .ref a_lasts, .int (nI n_operands), .ref a_levels, .ref a_sides, .ref a_minusPlaces, .int (nI (n_waiting - 1))])), (a_pairFirsts, .inl (ka_pairFirsts, 90, .inl (upd f_pairFirsts n_pairs ((upd f_firsts (n_operands - 1) (f_minusPlaces (n_waiting - 1))) (n_operands - 1))))), (a_pairLasts, .inl (ka_pairLasts, 90, .inl (upd f_pairLasts n_pairs (f_lasts (n_operands - 1))))), (a_firsts, .inl (ka_firsts, 90, .inl (upd f_firsts (n_operands - 1) (f_minusPlaces (n_waiting - 1))))), (a_lasts, .inl (ka_lasts, 90, .inl f_lasts)), (a_minusPlaces, .inl (ka_minusPlaces, 90, .inl f_minusPlaces))] := hD
          have hP9 := hP.sub (ws' := [(a_t, .inr (7, [.ref a_pairFirsts, .ref a_pairLasts, .int (nI (n_pairs + 1)), .int (nI n_pairsBefore), .ref a_firsts, .ref a_lasts, .int (nI n_operands), .ref a_levels, .ref a_sides, .ref a_minusPlaces, .int (nI (n_waiting - 1))])), (a_pairFirsts, .inl (ka_pairFirsts, 90, .inl (upd f_pairFirsts n_pairs ((upd f_firsts (n_operands - 1) (f_minusPlaces (n_waiting - 1))) (n_operands - 1))))), (a_pairLasts, .inl (ka_pairLasts, 90, .inl (upd f_pairLasts n_pairs (f_lasts (n_operands - 1))))), (a_firsts, .inl (ka_firsts, 90, .inl (upd f_firsts (n_operands - 1) (f_minusPlaces (n_waiting - 1))))), (a_lasts, .inl (ka_lasts, 90, .inl f_lasts)), (a_minusPlaces, .inl (ka_minusPlaces, 90, .inl f_minusPlaces))]) [0, 1, 2, 3, 4, 5] rfl
          have hD9 := hD.sub (ws' := [(a_t, .inr (7, [.ref a_pairFirsts, .ref a_pairLasts, .int (nI (n_pairs + 1)), .int (nI n_pairsBefore), .ref a_firsts, .ref a_lasts, .int (nI n_operands), .ref a_levels, .ref a_sides, .ref a_minusPlaces, .int (nI (n_waiting - 1))])), (a_pairFirsts, .inl (ka_pairFirsts, 90, .inl (upd f_pairFirsts n_pairs ((upd f_firsts (n_operands - 1) (f_minusPlaces (n_waiting - 1))) (n_operands - 1))))), (a_pairLasts, .inl (ka_pairLasts, 90, .inl (upd f_pairLasts n_pairs (f_lasts (n_operands - 1))))), (a_firsts, .inl (ka_firsts, 90, .inl (upd f_firsts (n_operands - 1) (f_minusPlaces (n_waiting - 1))))), (a_lasts, .inl (ka_lasts, 90, .inl f_lasts)), (a_minusPlaces, .inl (ka_minusPlaces, 90, .inl f_minusPlaces))]) [0, 1, 2, 3, 4, 5] (by decide) rfl
          exact W.vret hx hb hr (fun t ht hW => ⟨⟨(), rfl, trivial, ((n_pairs + 1)), n_operands, ((n_waiting - 1)), ((upd f_pairFirsts n_pairs ((upd f_firsts (n_operands - 1) (f_minusPlaces (n_waiting - 1))) (n_operands - 1)))), ((upd f_pairLasts n_pairs (f_lasts (n_operands - 1)))), ((upd f_firsts (n_operands - 1) (f_minusPlaces (n_waiting - 1)))), f_lasts, by first | rfl | omega | assumption, by first | rfl | omega | assumption, by first | rfl | omega | assumption, by first | rfl | omega | assumption, by first | rfl | omega | assumption, by exact gs_m hp0 hp1 e37, by first | rfl | omega | assumption, by first | rfl | omega | assumption, by exact fun j hj => pf_u hj, by rw [ht]; exact hP9, va_K.moved hW.alike hK, hD9⟩, hS.F ht⟩) hS.2.2 d_Resolver_giveSides_160
    · have h2 : ¬ 1 ≤ n_operands := fun q => h2 ((nI_leI (a := 1) (b := n_operands) (by omega) (by omega)).mpr q)
      (exfalso; omega)
set_option maxHeartbeats 4000000 in
set_option maxRecDepth 100000 in
theorem s_Resolver_takeMinus7 (l : Launch) (dC : Nat → ClassId) (dI : Nat → Nat → Nat) (sz : Nat) (a_t : Nat) (a_pairFirsts : Nat) (f_pairFirsts : Nat → Int32) (a_pairLasts : Nat) (f_pairLasts : Nat → Int32) (n_pairs : Nat) (n_pairsBefore : Nat) (a_firsts : Nat) (f_firsts : Nat → Int32) (a_lasts : Nat) (f_lasts : Nat → Int32) (n_operands : Nat) (a_levels : Nat) (f_levels : Nat → Int32) (a_sides : Nat) (f_sides : Nat → Int32) (a_minusPlaces : Nat) (f_minusPlaces : Nat → Int32) (n_waiting : Nat) (y0 : Int32) (ka_levels : ClassId) (ka_sides : ClassId) (ka_minusPlaces : ClassId) (b_pairs : n_pairs ≤ 90) (b_pairsBefore : n_pairsBefore ≤ 90) (b_operands : n_operands ≤ 90) (b_waiting : n_waiting ≤ 90) (hp0 : n_waiting < 90) : Met l y_Resolver_takeMinus w_Resolver_takeMinus ({ frames := 1, cells := 0, slots := 0, locals := 23 }) (va_Pc [.ref a_t, .int y0] (fun U => U.heap.size = sz ∧ va_P (dC, dI) vcl [(a_t, .inr (7, [.ref a_pairFirsts, .ref a_pairLasts, .int (nI n_pairs), .int (nI n_pairsBefore), .ref a_firsts, .ref a_lasts, .int (nI n_operands), .ref a_levels, .ref a_sides, .ref a_minusPlaces, .int (nI n_waiting)])), (a_levels, .inl (ka_levels, 90, .inl f_levels)), (a_sides, .inl (ka_sides, 90, .inl f_sides)), (a_minusPlaces, .inl (ka_minusPlaces, 90, .inl f_minusPlaces))] U.heap ∧ va_K (dC, dI) vcl [(ka_levels, .int), (ka_sides, .int), (ka_minusPlaces, .int)] U ∧ va_D (fun _ => True) [(a_t, .inr (7, [.ref a_pairFirsts, .ref a_pairLasts, .int (nI n_pairs), .int (nI n_pairsBefore), .ref a_firsts, .ref a_lasts, .int (nI n_operands), .ref a_levels, .ref a_sides, .ref a_minusPlaces, .int (nI n_waiting)])), (a_levels, .inl (ka_levels, 90, .inl f_levels)), (a_sides, .inl (ka_sides, 90, .inl f_sides)), (a_minusPlaces, .inl (ka_minusPlaces, 90, .inl f_minusPlaces))])) (va_Qi (fun (r : Int32) (_ : Unit) => (r = 0 ∨ r = 1) ∧ (r = b01 (mn7 y0 (z3 f_levels f_sides f_minusPlaces n_waiting, z2 f_firsts f_lasts n_operands, z2 f_pairFirsts f_pairLasts n_pairs)).isSome)) (fun _ t => ∃ (w_n_waiting : Nat) (w_f_levels : Nat → Int32) (w_f_sides : Nat → Int32) (w_f_minusPlaces : Nat → Int32), (w_n_waiting ≤ 90) ∧ (∀ x9, mn7 y0 (z3 f_levels f_sides f_minusPlaces n_waiting, z2 f_firsts f_lasts n_operands, z2 f_pairFirsts f_pairLasts n_pairs) = some x9 → (z3 w_f_levels w_f_sides w_f_minusPlaces w_n_waiting, z2 f_firsts f_lasts n_operands, z2 f_pairFirsts f_pairLasts n_pairs) = x9) ∧ (w_n_waiting ≤ n_waiting + 1) ∧ va_P (dC, dI) vcl [(a_t, .inr (7, [.ref a_pairFirsts, .ref a_pairLasts, .int (nI n_pairs), .int (nI n_pairsBefore), .ref a_firsts, .ref a_lasts, .int (nI n_operands), .ref a_levels, .ref a_sides, .ref a_minusPlaces, .int (nI w_n_waiting)])), (a_levels, .inl (ka_levels, 90, .inl w_f_levels)), (a_sides, .inl (ka_sides, 90, .inl w_f_sides)), (a_minusPlaces, .inl (ka_minusPlaces, 90, .inl w_f_minusPlaces))] t.heap ∧ va_K (dC, dI) vcl [(ka_levels, .int), (ka_sides, .int), (ka_minusPlaces, .int)] t ∧ va_D (va_A [(a_t, .inr (7, [.ref a_pairFirsts, .ref a_pairLasts, .int (nI n_pairs), .int (nI n_pairsBefore), .ref a_firsts, .ref a_lasts, .int (nI n_operands), .ref a_levels, .ref a_sides, .ref a_minusPlaces, .int (nI n_waiting)])), (a_levels, .inl (ka_levels, 90, .inl f_levels)), (a_sides, .inl (ka_sides, 90, .inl f_sides)), (a_minusPlaces, .inl (ka_minusPlaces, 90, .inl f_minusPlaces))] sz) [(a_t, .inr (7, [.ref a_pairFirsts, .ref a_pairLasts, .int (nI n_pairs), .int (nI n_pairsBefore), .ref a_firsts, .ref a_lasts, .int (nI n_operands), .ref a_levels, .ref a_sides, .ref a_minusPlaces, .int (nI w_n_waiting)])), (a_levels, .inl (ka_levels, 90, .inl w_f_levels)), (a_sides, .inl (ka_sides, 90, .inl w_f_sides)), (a_minusPlaces, .inl (ka_minusPlaces, 90, .inl w_f_minusPlaces))]) (va_A [(a_t, .inr (7, [.ref a_pairFirsts, .ref a_pairLasts, .int (nI n_pairs), .int (nI n_pairsBefore), .ref a_firsts, .ref a_lasts, .int (nI n_operands), .ref a_levels, .ref a_sides, .ref a_minusPlaces, .int (nI n_waiting)])), (a_levels, .inl (ka_levels, 90, .inl f_levels)), (a_sides, .inl (ka_sides, 90, .inl f_sides)), (a_minusPlaces, .inl (ka_minusPlaces, 90, .inl f_minusPlaces))] sz)) 0 0 (va_A [(a_t, .inr (7, [.ref a_pairFirsts, .ref a_pairLasts, .int (nI n_pairs), .int (nI n_pairsBefore), .ref a_firsts, .ref a_lasts, .int (nI n_operands), .ref a_levels, .ref a_sides, .ref a_minusPlaces, .int (nI n_waiting)])), (a_levels, .inl (ka_levels, 90, .inl f_levels)), (a_sides, .inl (ka_sides, 90, .inl f_sides)), (a_minusPlaces, .inl (ka_minusPlaces, 90, .inl f_minusPlaces))] sz) := by
  refine Met.ofW (cc := b_Resolver_takeMinus) (maxL := 2) (ret := (some .boolean)) (by decide) rfl ?_
  intro p e s m args below meth c s₁ B hml hv
  obtain ⟨rfl, hsz, hP, hK, hD0⟩ := hv
  have hx := B.exec
  have hb := B.bytes
  have hr := B.returns
  have hts := atoms_spec (ws := w_Resolver_takeMinus) B.pre
  have hz : ∀ w ∈ wz, w.before _ s = true := fun w h => hts w (List.mem_cons_of_mem _ h)
  have hown : s.vm.findClass R_Resolver = some m.cls := findClass_of_methodNamed B.named
  have hlocks := B.notSynchronized
  subst hsz
  have hD := hD0.self (sz := s.heap.size)
  generalize hAe : va_A [(a_t, .inr (7, [.ref a_pairFirsts, .ref a_pairLasts, .int (nI n_pairs), .int (nI n_pairsBefore), .ref a_firsts, .ref a_lasts, .int (nI n_operands), .ref a_levels, .ref a_sides, .ref a_minusPlaces, .int (nI n_waiting)])), (a_levels, .inl (ka_levels, 90, .inl f_levels)), (a_sides, .inl (ka_sides, 90, .inl f_sides)), (a_minusPlaces, .inl (ka_minusPlaces, 90, .inl f_minusPlaces))] s.heap.size = A at hD ⊢
  have hA : ∀ q : Nat, s.heap.size ≤ q → A q := fun q h => by rw [← hAe]; exact Or.inr h
  have hS : va_S A s.heap s.heap [] := va_S.rf
  have hP : va_P (dC, dI) vcl [(a_t, .inr (7, [.ref a_pairFirsts, .ref a_pairLasts, .int (nI n_pairs), .int (nI n_pairsBefore), .ref a_firsts, .ref a_lasts, .int (nI n_operands), .ref a_levels, .ref a_sides, .ref a_minusPlaces, .int (nI n_waiting)])), (a_levels, .inl (ka_levels, 90, .inl f_levels)), (a_sides, .inl (ka_sides, 90, .inl f_sides)), (a_minusPlaces, .inl (ka_minusPlaces, 90, .inl f_minusPlaces))] s.heap := hP
  have hl := lv_entry ([.ref a_t, .int y0]) (n := 2) (Nat.le_of_ble_eq_true rfl)
  rw [lg_entry_eq]
  generalize (lg_sl ([.ref a_t, .int y0]) ++ List.replicate (2 - (lg_sl ([.ref a_t, .int y0])).length) Slot.unset).toArray = ls at hl ⊢
  have hl : lv_has ls 2 [(0, .ref a_t), (1, .int y0)] := hl
  refine lv_aload_n hx hb d_Resolver_takeMinus_0 rfl (lv_at hl 0 rfl) ?_
  refine va_get (D := (dC, dI)) (ci := 7) (v := .int (nI n_waiting)) (C := R_Resolver) (T := F_Resolver) (N := 11) hx hb hz zu_Resolver hown hK hP 0 rfl rfl 10 (by decide) (hz (.fieldLink R_Resolver 46 "LayoutFront$Resolver" "waiting" "I") zm_344) (fun _ h9 => h9) rfl d_Resolver_takeMinus_1 ?_
  refine lv_if_le (tgt := 25) hx hb d_Resolver_takeMinus_4 (by decide) (fun h1 => ?_) (fun h1 => ?_)
  · have h1 : n_waiting ≤ 0 := (nI_leI (a := n_waiting) (b := 0) (by omega) (by omega)).mp h1
    refine lv_aload_n hx hb d_Resolver_takeMinus_25 rfl (lv_at hl 0 rfl) ?_
    refine lv_bipush (v := 6) hx hb d_Resolver_takeMinus_26 (by decide) ?_
    refine lv_iconst (v := 0) hx hb d_Resolver_takeMinus_28 (by decide) ?_
    refine lv_iload_n hx hb d_Resolver_takeMinus_29 rfl (lv_at hl 1 rfl) ?_
    have hPc := hP.sub (ws' := [(a_t, .inr (7, [.ref a_pairFirsts, .ref a_pairLasts, .int (nI n_pairs), .int (nI n_pairsBefore), .ref a_firsts, .ref a_lasts, .int (nI n_operands), .ref a_levels, .ref a_sides, .ref a_minusPlaces, .int (nI n_waiting)])), (a_levels, .inl (ka_levels, 90, .inl f_levels)), (a_sides, .inl (ka_sides, 90, .inl f_sides)), (a_minusPlaces, .inl (ka_minusPlaces, 90, .inl f_minusPlaces))]) [0, 1, 2, 3] rfl
    have hDc := hD.sub (ws' := [(a_t, .inr (7, [.ref a_pairFirsts, .ref a_pairLasts, .int (nI n_pairs), .int (nI n_pairsBefore), .ref a_firsts, .ref a_lasts, .int (nI n_operands), .ref a_levels, .ref a_sides, .ref a_minusPlaces, .int (nI n_waiting)])), (a_levels, .inl (ka_levels, 90, .inl f_levels)), (a_sides, .inl (ka_sides, 90, .inl f_sides)), (a_minusPlaces, .inl (ka_minusPlaces, 90, .inl f_minusPlaces))]) [0, 1, 2, 3] (by decide) rfl
    have hKc := hK.sub (tys' := [(ka_levels, .int), (ka_sides, .int), (ka_minusPlaces, .int)]) [0, 1, 2] rfl
    have hFc := va_free (wc := [(a_t, .inr (7, [.ref a_pairFirsts, .ref a_pairLasts, .int (nI n_pairs), .int (nI n_pairsBefore), .ref a_firsts, .ref a_lasts, .int (nI n_operands), .ref a_levels, .ref a_sides, .ref a_minusPlaces, .int (nI n_waiting)])), (a_levels, .inl (ka_levels, 90, .inl f_levels)), (a_sides, .inl (ka_sides, 90, .inl f_sides)), (a_minusPlaces, .inl (ka_minusPlaces, 90, .inl f_minusPlaces))]) hD hS hA [0, 1, 2, 3] rfl
    refine va_callv (va_runV (As := [.int 6, .int 0, .int y0]) (rest := []) ⟨hx, hb, hml, hown, hz⟩ (s_Resolver_letWait7 l dC dI s.heap.size a_t a_pairFirsts a_pairLasts n_pairs n_pairsBefore a_firsts a_lasts n_operands a_levels f_levels a_sides f_sides a_minusPlaces f_minusPlaces n_waiting 6 0 y0 ka_levels ka_sides ka_minusPlaces (by first | omega | assumption | exact Or.inl rfl | exact Or.inr rfl | decide) (by first | omega | assumption | exact Or.inl rfl | exact Or.inr rfl | decide) (by first | omega | assumption | exact Or.inl rfl | exact Or.inr rfl | decide) (by first | omega | assumption | exact Or.inl rfl | exact Or.inr rfl | decide) (by first | omega | assumption | exact Or.inl rfl | exact Or.inr rfl | decide)) (cwV 3 hz (zV zm_349 zm_350 zm_351 zm_340 zm_352) rfl rfl rfl (by decide +kernel) ⟨Nat.le_of_ble_eq_true rfl, Nat.le_of_ble_eq_true rfl⟩) ⟨fun a U g mk q => by obtain ⟨q0, q1, qP, qK, qD⟩ := q; exact ⟨q0, q1, qP, va_K.moved (u := U) (U := U.calling g mk a) (Vm.Alike.refl U.vm) qK, qD⟩, va_recv (q := (R_Resolver, F_Resolver, 11)) (q0 := 0) (ci := 7) hK hP rfl rfl, fun U hU hW => ⟨rfl, by rw [hU], by rw [hU]; exact hPc, va_K.moved hW.alike hKc, hDc.weaken (fun _ _ _ _ => trivial)⟩⟩ rfl rfl hl.1 rfl (lv_room (Nat.le_of_ble_eq_true rfl)) d_Resolver_takeMinus_30 ⟨Nat.zero_le _, Nat.zero_le _⟩) hS (fun q _ h => hFc q h) hFc (fun u t H1 locs ht hvm hw hB hz1 hk1 hS => ?_)
    obtain ⟨g2, g3, g4, g5, hb_g2, hq0_30, hq1_30, hq2_30, hq3_30, hP1, hK1, hD1⟩ := hB
    subst g2
    subst g3
    subst g4
    subst g5
    rw [ht] at hP1
    obtain ⟨hP, hD⟩ := va_join (wr := []) (w1 := [(a_t, .inr (7, [.ref a_pairFirsts, .ref a_pairLasts, .int (nI n_pairs), .int (nI n_pairsBefore), .ref a_firsts, .ref a_lasts, .int (nI n_operands), .ref a_levels, .ref a_sides, .ref a_minusPlaces, .int (nI (n_waiting + 1))])), (a_levels, .inl (ka_levels, 90, .inl (upd f_levels n_waiting 6))), (a_sides, .inl (ka_sides, 90, .inl (upd f_sides n_waiting 0))), (a_minusPlaces, .inl (ka_minusPlaces, 90, .inl (upd f_minusPlaces n_waiting y0)))]) hP hD [0, 1, 2, 3] [] rfl rfl (by decide) (by decide) hk1 hFc hP1 hD1
    generalize H1 = H at hP hS ⊢
    have hP : va_P (dC, dI) vcl [(a_t, .inr (7, [.ref a_pairFirsts, .ref a_pairLasts, .int (nI n_pairs), .int (nI n_pairsBefore), .ref a_firsts, .ref a_lasts, .int (nI n_operands), .ref a_levels, .ref a_sides, .ref a_minusPlaces, .int (nI (n_waiting + 1))])), (a_levels, .inl (ka_levels, 90, .inl (upd f_levels n_waiting 6))), (a_sides, .inl (ka_sides, 90, .inl (upd f_sides n_waiting 0))), (a_minusPlaces, .inl (ka_minusPlaces, 90, .inl (upd f_minusPlaces n_waiting y0)))] H := hP
    have hD : va_D A [(a_t, .inr (7, [.ref a_pairFirsts, .ref a_pairLasts, .int (nI n_pairs), .int (nI n_pairsBefore), .ref a_firsts, .ref a_lasts, .int (nI n_operands), .ref a_levels, .ref a_sides, .ref a_minusPlaces, .int (nI (n_waiting + 1))])), (a_levels, .inl (ka_levels, 90, .inl (upd f_levels n_waiting 6))), (a_sides, .inl (ka_sides, 90, .inl (upd f_sides n_waiting 0))), (a_minusPlaces, .inl (ka_minusPlaces, 90, .inl (upd f_minusPlaces n_waiting y0)))] := hD
    refine lv_iconst (v := 1) hx hb d_Resolver_takeMinus_33 (by decide) ?_
    have hP9 := hP.sub (ws' := [(a_t, .inr (7, [.ref a_pairFirsts, .ref a_pairLasts, .int (nI n_pairs), .int (nI n_pairsBefore), .ref a_firsts, .ref a_lasts, .int (nI n_operands), .ref a_levels, .ref a_sides, .ref a_minusPlaces, .int (nI (n_waiting + 1))])), (a_levels, .inl (ka_levels, 90, .inl (upd f_levels n_waiting 6))), (a_sides, .inl (ka_sides, 90, .inl (upd f_sides n_waiting 0))), (a_minusPlaces, .inl (ka_minusPlaces, 90, .inl (upd f_minusPlaces n_waiting y0)))]) [0, 1, 2, 3] rfl
    have hD9 := hD.sub (ws' := [(a_t, .inr (7, [.ref a_pairFirsts, .ref a_pairLasts, .int (nI n_pairs), .int (nI n_pairsBefore), .ref a_firsts, .ref a_lasts, .int (nI n_operands), .ref a_levels, .ref a_sides, .ref a_minusPlaces, .int (nI (n_waiting + 1))])), (a_levels, .inl (ka_levels, 90, .inl (upd f_levels n_waiting 6))), (a_sides, .inl (ka_sides, 90, .inl (upd f_sides n_waiting 0))), (a_minusPlaces, .inl (ka_minusPlaces, 90, .inl (upd f_minusPlaces n_waiting y0)))]) [0, 1, 2, 3] (by decide) rfl
    exact W.zret (v := 1) hx hb hr (by decide +kernel) (fun t ht hW => ⟨⟨1, (), rfl, ⟨(by first | assumption | exact Or.inl rfl | exact Or.inr rfl), (by exact so_1 (mn_0 (by omega)))⟩, ((n_waiting + 1)), ((upd f_levels n_waiting 6)), ((upd f_sides n_waiting 0)), ((upd f_minusPlaces n_waiting y0)), by first | omega | assumption | exact Or.inl rfl | exact Or.inr rfl | decide, by (intro x9 hh; rw [(mn_0 (by omega))] at hh; cases hh; exact ps_z), by first | omega | assumption | exact Or.inl rfl | exact Or.inr rfl | decide, by rw [ht]; exact hP9, va_K.moved hW.alike hK, hD9⟩, hS.F ht⟩) hS.2.2 d_Resolver_takeMinus_34
  · have h1 : ¬ n_waiting ≤ 0 := fun q => h1 ((nI_leI (a := n_waiting) (b := 0) (by omega) (by omega)).mpr q)
    refine lv_aload_n hx hb d_Resolver_takeMinus_7 rfl (lv_at hl 0 rfl) ?_
    refine va_get (D := (dC, dI)) (ci := 7) (v := .ref a_levels) (C := R_Resolver) (T := F_Resolver) (N := 11) hx hb hz zu_Resolver hown hK hP 0 rfl rfl 7 (by decide) (hz (.fieldLink R_Resolver 24 "LayoutFront$Resolver" "levels" "[I") zm_332) (fun _ h9 => h9) rfl d_Resolver_takeMinus_8 ?_
    refine lv_aload_n hx hb d_Resolver_takeMinus_11 rfl (lv_at hl 0 rfl) ?_
    refine va_get (D := (dC, dI)) (ci := 7) (v := .int (nI n_waiting)) (C := R_Resolver) (T := F_Resolver) (N := 11) hx hb hz zu_Resolver hown hK hP 0 rfl rfl 10 (by decide) (hz (.fieldLink R_Resolver 46 "LayoutFront$Resolver" "waiting" "I") zm_344) (fun _ h9 => h9) rfl d_Resolver_takeMinus_12 ?_
    refine lv_iconst (v := 1) hx hb d_Resolver_takeMinus_15 (by decide) ?_
    refine xr_isub (v := (nI (n_waiting - 1))) hx hb d_Resolver_takeMinus_16 (pk_sub (a := n_waiting) (b := 1) (by omega)) ?_
    refine xr_iald (v := (f_levels (n_waiting - 1))) hx hb hK hP 1 0 rfl rfl (vp_in_nI (by omega) (by omega)) (congrArg f_levels (nI_clamp (by omega))) d_Resolver_takeMinus_17 ?_
    refine lv_bipush (v := 6) hx hb d_Resolver_takeMinus_18 (by decide) ?_
    refine lv_icmp_lt (tgt := 25) hx hb d_Resolver_takeMinus_20 (by decide) (fun h7 => ?_) (fun h7 => ?_)
    · have e20 := h7
      refine lv_aload_n hx hb d_Resolver_takeMinus_25 rfl (lv_at hl 0 rfl) ?_
      refine lv_bipush (v := 6) hx hb d_Resolver_takeMinus_26 (by decide) ?_
      refine lv_iconst (v := 0) hx hb d_Resolver_takeMinus_28 (by decide) ?_
      refine lv_iload_n hx hb d_Resolver_takeMinus_29 rfl (lv_at hl 1 rfl) ?_
      have hPc := hP.sub (ws' := [(a_t, .inr (7, [.ref a_pairFirsts, .ref a_pairLasts, .int (nI n_pairs), .int (nI n_pairsBefore), .ref a_firsts, .ref a_lasts, .int (nI n_operands), .ref a_levels, .ref a_sides, .ref a_minusPlaces, .int (nI n_waiting)])), (a_levels, .inl (ka_levels, 90, .inl f_levels)), (a_sides, .inl (ka_sides, 90, .inl f_sides)), (a_minusPlaces, .inl (ka_minusPlaces, 90, .inl f_minusPlaces))]) [0, 1, 2, 3] rfl
      have hDc := hD.sub (ws' := [(a_t, .inr (7, [.ref a_pairFirsts, .ref a_pairLasts, .int (nI n_pairs), .int (nI n_pairsBefore), .ref a_firsts, .ref a_lasts, .int (nI n_operands), .ref a_levels, .ref a_sides, .ref a_minusPlaces, .int (nI n_waiting)])), (a_levels, .inl (ka_levels, 90, .inl f_levels)), (a_sides, .inl (ka_sides, 90, .inl f_sides)), (a_minusPlaces, .inl (ka_minusPlaces, 90, .inl f_minusPlaces))]) [0, 1, 2, 3] (by decide) rfl
      have hKc := hK.sub (tys' := [(ka_levels, .int), (ka_sides, .int), (ka_minusPlaces, .int)]) [0, 1, 2] rfl
      have hFc := va_free (wc := [(a_t, .inr (7, [.ref a_pairFirsts, .ref a_pairLasts, .int (nI n_pairs), .int (nI n_pairsBefore), .ref a_firsts, .ref a_lasts, .int (nI n_operands), .ref a_levels, .ref a_sides, .ref a_minusPlaces, .int (nI n_waiting)])), (a_levels, .inl (ka_levels, 90, .inl f_levels)), (a_sides, .inl (ka_sides, 90, .inl f_sides)), (a_minusPlaces, .inl (ka_minusPlaces, 90, .inl f_minusPlaces))]) hD hS hA [0, 1, 2, 3] rfl
      refine va_callv (va_runV (As := [.int 6, .int 0, .int y0]) (rest := []) ⟨hx, hb, hml, hown, hz⟩ (s_Resolver_letWait7 l dC dI s.heap.size a_t a_pairFirsts a_pairLasts n_pairs n_pairsBefore a_firsts a_lasts n_operands a_levels f_levels a_sides f_sides a_minusPlaces f_minusPlaces n_waiting 6 0 y0 ka_levels ka_sides ka_minusPlaces (by first | omega | assumption | exact Or.inl rfl | exact Or.inr rfl | decide) (by first | omega | assumption | exact Or.inl rfl | exact Or.inr rfl | decide) (by first | omega | assumption | exact Or.inl rfl | exact Or.inr rfl | decide) (by first | omega | assumption | exact Or.inl rfl | exact Or.inr rfl | decide) (by first | omega | assumption | exact Or.inl rfl | exact Or.inr rfl | decide)) (cwV 3 hz (zV zm_349 zm_350 zm_351 zm_340 zm_352) rfl rfl rfl (by decide +kernel) ⟨Nat.le_of_ble_eq_true rfl, Nat.le_of_ble_eq_true rfl⟩) ⟨fun a U g mk q => by obtain ⟨q0, q1, qP, qK, qD⟩ := q; exact ⟨q0, q1, qP, va_K.moved (u := U) (U := U.calling g mk a) (Vm.Alike.refl U.vm) qK, qD⟩, va_recv (q := (R_Resolver, F_Resolver, 11)) (q0 := 0) (ci := 7) hK hP rfl rfl, fun U hU hW => ⟨rfl, by rw [hU], by rw [hU]; exact hPc, va_K.moved hW.alike hKc, hDc.weaken (fun _ _ _ _ => trivial)⟩⟩ rfl rfl hl.1 rfl (lv_room (Nat.le_of_ble_eq_true rfl)) d_Resolver_takeMinus_30 ⟨Nat.zero_le _, Nat.zero_le _⟩) hS (fun q _ h => hFc q h) hFc (fun u t H1 locs ht hvm hw hB hz1 hk1 hS => ?_)
      obtain ⟨g8, g9, g10, g11, hb_g8, hq0_30, hq1_30, hq2_30, hq3_30, hP1, hK1, hD1⟩ := hB
      subst g8
      subst g9
      subst g10
      subst g11
      rw [ht] at hP1
      obtain ⟨hP, hD⟩ := va_join (wr := []) (w1 := [(a_t, .inr (7, [.ref a_pairFirsts, .ref a_pairLasts, .int (nI n_pairs), .int (nI n_pairsBefore), .ref a_firsts, .ref a_lasts, .int (nI n_operands), .ref a_levels, .ref a_sides, .ref a_minusPlaces, .int (nI (n_waiting + 1))])), (a_levels, .inl (ka_levels, 90, .inl (upd f_levels n_waiting 6))), (a_sides, .inl (ka_sides, 90, .inl (upd f_sides n_waiting 0))), (a_minusPlaces, .inl (ka_minusPlaces, 90, .inl (upd f_minusPlaces n_waiting y0)))]) hP hD [0, 1, 2, 3] [] rfl rfl (by decide) (by decide) hk1 hFc hP1 hD1
      generalize H1 = H at hP hS ⊢
      have hP : va_P (dC, dI) vcl [(a_t, .inr (7, [.ref a_pairFirsts, .ref a_pairLasts, .int (nI n_pairs), .int (nI n_pairsBefore), .ref a_firsts, .ref a_lasts, .int (nI n_operands), .ref a_levels, .ref a_sides, .ref a_minusPlaces, .int (nI (n_waiting + 1))])), (a_levels, .inl (ka_levels, 90, .inl (upd f_levels n_waiting 6))), (a_sides, .inl (ka_sides, 90, .inl (upd f_sides n_waiting 0))), (a_minusPlaces, .inl (ka_minusPlaces, 90, .inl (upd f_minusPlaces n_waiting y0)))] H := hP
      have hD : va_D A [(a_t, .inr (7, [.ref a_pairFirsts, .ref a_pairLasts, .int (nI n_pairs), .int (nI n_pairsBefore), .ref a_firsts, .ref a_lasts, .int (nI n_operands), .ref a_levels, .ref a_sides, .ref a_minusPlaces, .int (nI (n_waiting + 1))])), (a_levels, .inl (ka_levels, 90, .inl (upd f_levels n_waiting 6))), (a_sides, .inl (ka_sides, 90, .inl (upd f_sides n_waiting 0))), (a_minusPlaces, .inl (ka_minusPlaces, 90, .inl (upd f_minusPlaces n_waiting y0)))] := hD
      refine lv_iconst (v := 1) hx hb d_Resolver_takeMinus_33 (by decide) ?_
      have hP9 := hP.sub (ws' := [(a_t, .inr (7, [.ref a_pairFirsts, .ref a_pairLasts, .int (nI n_pairs), .int (nI n_pairsBefore), .ref a_firsts, .ref a_lasts, .int (nI n_operands), .ref a_levels, .ref a_sides, .ref a_minusPlaces, .int (nI (n_waiting + 1))])), (a_levels, .inl (ka_levels, 90, .inl (upd f_levels n_waiting 6))), (a_sides, .inl (ka_sides, 90, .inl (upd f_sides n_waiting 0))), (a_minusPlaces, .inl (ka_minusPlaces, 90, .inl (upd f_minusPlaces n_waiting y0)))]) [0, 1, 2, 3] rfl
      have hD9 := hD.sub (ws' := [(a_t, .inr (7, [.ref a_pairFirsts, .ref a_pairLasts, .int (nI n_pairs), .int (nI n_pairsBefore), .ref a_firsts, .ref a_lasts, .int (nI n_operands), .ref a_levels, .ref a_sides, .ref a_minusPlaces, .int (nI (n_waiting + 1))])), (a_levels, .inl (ka_levels, 90, .inl (upd f_levels n_waiting 6))), (a_sides, .inl (ka_sides, 90, .inl (upd f_sides n_waiting 0))), (a_minusPlaces, .inl (ka_minusPlaces, 90, .inl (upd f_minusPlaces n_waiting y0)))]) [0, 1, 2, 3] (by decide) rfl
      exact W.zret (v := 1) hx hb hr (by decide +kernel) (fun t ht hW => ⟨⟨1, (), rfl, ⟨(by first | assumption | exact Or.inl rfl | exact Or.inr rfl), (by exact so_1 (mn_1 (by omega) e20))⟩, ((n_waiting + 1)), ((upd f_levels n_waiting 6)), ((upd f_sides n_waiting 0)), ((upd f_minusPlaces n_waiting y0)), by first | omega | assumption | exact Or.inl rfl | exact Or.inr rfl | decide, by (intro x9 hh; rw [(mn_1 (by omega) e20)] at hh; cases hh; exact ps_z), by first | omega | assumption | exact Or.inl rfl | exact Or.inr rfl | decide, by rw [ht]; exact hP9, va_K.moved hW.alike hK, hD9⟩, hS.F ht⟩) hS.2.2 d_Resolver_takeMinus_34
    · have e20 := h7
      refine lv_iconst (v := 0) hx hb d_Resolver_takeMinus_23 (by decide) ?_
      have hP9 := hP.sub (ws' := [(a_t, .inr (7, [.ref a_pairFirsts, .ref a_pairLasts, .int (nI n_pairs), .int (nI n_pairsBefore), .ref a_firsts, .ref a_lasts, .int (nI n_operands), .ref a_levels, .ref a_sides, .ref a_minusPlaces, .int (nI n_waiting)])), (a_levels, .inl (ka_levels, 90, .inl f_levels)), (a_sides, .inl (ka_sides, 90, .inl f_sides)), (a_minusPlaces, .inl (ka_minusPlaces, 90, .inl f_minusPlaces))]) [0, 1, 2, 3] rfl
      have hD9 := hD.sub (ws' := [(a_t, .inr (7, [.ref a_pairFirsts, .ref a_pairLasts, .int (nI n_pairs), .int (nI n_pairsBefore), .ref a_firsts, .ref a_lasts, .int (nI n_operands), .ref a_levels, .ref a_sides, .ref a_minusPlaces, .int (nI n_waiting)])), (a_levels, .inl (ka_levels, 90, .inl f_levels)), (a_sides, .inl (ka_sides, 90, .inl f_sides)), (a_minusPlaces, .inl (ka_minusPlaces, 90, .inl f_minusPlaces))]) [0, 1, 2, 3] (by decide) rfl
      exact W.zret (v := 0) hx hb hr (by decide +kernel) (fun t ht hW => ⟨⟨0, (), rfl, ⟨(by first | assumption | exact Or.inl rfl | exact Or.inr rfl), (by exact so_0 (mn_2 (by omega) e20))⟩, n_waiting, f_levels, f_sides, f_minusPlaces, by first | omega | assumption | exact Or.inl rfl | exact Or.inr rfl | decide, by (intro x9 hh; rw [(mn_2 (by omega) e20)] at hh; cases hh), by first | omega | assumption | exact Or.inl rfl | exact Or.inr rfl | decide, by rw [ht]; exact hP9, va_K.moved hW.alike hK, hD9⟩, hS.F ht⟩) hS.2.2 d_Resolver_takeMinus_24
/-! what comes meets what waits -/
section RWE
variable {lv sd mp fi la pf pl : Nat → Int32} {nw no np k : Nat} {l t : Int32} {R' V X : Rs} {O R : List Sp}
theorem to_0 (hk : nw = k) (h : k = 0) : tkE l t (z3 lv sd mp nw, O, R) = some (ps7 l t (-1) (z3 lv sd mp nw, O, R)) := by
  rw [hk, h]; exact tkE_n rfl
theorem to_c (hk : nw = k) (h1 : 1 ≤ k) (ho : 1 ≤ no) : tkE l t (z3 lv sd mp nw, z2 fi la no, R) = if lv (k - 1) = l ∧ (¬ sd (k - 1) = t ∨ t = 2) then none else if lv (k - 1) < l ∨ (lv (k - 1) = l ∧ ¬ t = 0) then some (ps7 l t (-1) (z3 lv sd mp nw, z2 fi la no, R)) else tkE l t (gv7 (z3 lv sd mp nw, z2 fi la no, R)) := by
  subst hk
  exact tkE_c (x := (z3 lv sd mp nw, z2 fi la no, R)) (z3_pop h1) (by show 1 ≤ (z2 fi la no).length; rw [z2_len]; exact ho)
theorem to_n (hk : nw = k) (h1 : 1 ≤ k) (ho : 1 ≤ no) (e : lv (k - 1) = l) (q : ¬ sd (k - 1) = t ∨ t = 2) : tkE l t (z3 lv sd mp nw, z2 fi la no, R) = none := by
  rw [to_c hk h1 ho, if_pos ⟨e, q⟩]
theorem to_w (hk : nw = k) (h1 : 1 ≤ k) (ho : 1 ≤ no) (c : ¬ (lv (k - 1) = l ∧ (¬ sd (k - 1) = t ∨ t = 2))) (q : lv (k - 1) < l ∨ (lv (k - 1) = l ∧ ¬ t = 0)) : tkE l t (z3 lv sd mp nw, z2 fi la no, R) = some (ps7 l t (-1) (z3 lv sd mp nw, z2 fi la no, R)) := by
  rw [to_c hk h1 ho, if_neg c, if_pos q]
theorem to_g (hk : nw = k) (h1 : 1 ≤ k) (ho : 1 ≤ no) (c : ¬ (lv (k - 1) = l ∧ (¬ sd (k - 1) = t ∨ t = 2))) (q : ¬ (lv (k - 1) < l ∨ (lv (k - 1) = l ∧ ¬ t = 0))) (e : R' = gv7 (z3 lv sd mp nw, z2 fi la no, R)) : tkE l t R' = tkE l t (z3 lv sd mp nw, z2 fi la no, R) := by
  rw [to_c hk h1 ho, if_neg c, if_neg q, e]
theorem fin_e : fi7 nw (z3 lv sd mp nw, O, R) = fin7 (z3 lv sd mp nw, O, R) := by
  unfold fin7
  show _ = fi7 (z3 lv sd mp nw).length _
  rw [z3_len]
theorem fi_s (h : 1 ≤ k) (e : R' = gv7 V) : fi7 (k - 1) R' = fi7 k V := by
  obtain ⟨m, rfl⟩ : ∃ m, k = m + 1 := ⟨k - 1, by omega⟩
  rw [show m + 1 - 1 = m by omega, e, fi7]
theorem fi_0 (h : k = 0) (e : fi7 k V = X) : V = X := by
  subst h; exact e
theorem pf_t {pf' pl' pf'' pl'' : Nat → Int32} {m : Nat} (h1 : ∀ j, j < np → pf' j = pf j ∧ pl' j = pl j) (h2 : ∀ j, j < m → pf'' j = pf' j ∧ pl'' j = pl' j) (h : np ≤ m) : ∀ j, j < np → pf'' j = pf j ∧ pl'' j = pl j := fun j hj => ⟨(h2 j (by omega)).1.trans (h1 j hj).1, (h2 j (by omega)).2.trans (h1 j hj).2⟩
end RWE
