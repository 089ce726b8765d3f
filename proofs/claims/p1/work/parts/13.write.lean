set_option maxHeartbeats 4000000 in
set_option maxRecDepth 100000 in
theorem c_byte (l : Launch) (v : Int64) (i : Nat) (hi : i < 8) : Met l y_Text_byteOf w_Text_byteOf ({ frames := 0, cells := 0, slots := 0, locals := 0 }) (va_Pc [.long v, .int (nI i)] (fun _ => True)) (va_Qi (fun (r : Int32) (_ : Unit) => r = nI (by_ v i)) (fun _ _ => True) (fun _ => False)) 0 0 (fun _ => False) := by
  refine Met.ofW (cc := b_Text_byteOf) (maxL := 3) (ret := (some .int)) (by decide) rfl ?_
  intro p e s m args below meth c s₁ B hml hv
  obtain ⟨rfl, -⟩ := hv
  have hx := B.exec
  have hb := B.bytes
  have hr := B.returns
  have hts := atoms_spec (ws := w_Text_byteOf) B.pre
  have hz : ∀ w ∈ wz, w.before _ s = true := fun w h => hts w (List.mem_cons_of_mem _ h)
  have hown : s.vm.findClass R_Text = some m.cls := findClass_of_methodNamed B.named
  have hlocks := B.notSynchronized
  have hl := lv_entry ([.long v, .int (nI i)]) (n := 3) (Nat.le_of_ble_eq_true rfl)
  rw [lg_entry_eq]
  generalize (lg_sl ([.long v, .int (nI i)]) ++ List.replicate (3 - (lg_sl ([.long v, .int (nI i)])).length) Slot.unset).toArray = ls at hl ⊢
  have hl : lv_has ls 3 [(0, .long v), (2, .int (nI i))] := hl
  refine lv_lload_n hx hb d_Text_byteOf_0 rfl (lv_at hl 0 rfl) ?_
  refine lv_bipush (v := 8) hx hb d_Text_byteOf_1 (by decide) ?_
  refine lv_iload_n hx hb d_Text_byteOf_3 rfl (lv_at hl 1 rfl) ?_
  refine xr_imul (v := nI (8 * i)) hx hb d_Text_byteOf_4 (pk_mul 8 i) ?_
  refine lv_lushr (v := (v.toUInt64 >>> ((nI (8 * i)).toInt64.toUInt64 &&& Int64.toUInt64 63)).toInt64) hx hb d_Text_byteOf_5 rfl ?_
  refine lv_l2i (v := (v.toUInt64 >>> ((nI (8 * i)).toInt64.toUInt64 &&& Int64.toUInt64 63)).toInt64.toInt32) hx hb d_Text_byteOf_6 rfl ?_
  refine lv_sipush (v := 255) hx hb d_Text_byteOf_7 (by decide) ?_
  refine xr_iand (v := nI (by_ v i)) hx hb d_Text_byteOf_10 (by_c v hi) ?_
  exact W.iret (v := nI (by_ v i)) hx hb hr (fun t ht hW => ⟨⟨_, (), rfl, rfl, trivial⟩, ⟨by rw [ht]; exact Nat.le_refl _, fun q _ _ => by rw [ht]⟩⟩) (fun _ h => nomatch h) d_Text_byteOf_11
set_option maxHeartbeats 4000000 in
set_option maxRecDepth 100000 in
theorem lp_chars {p : Program} {l : Launch} {e : Env} {R : Room} {s : State} {m : MethodId} {below : List Frame} {meth : Method} {c : Code} {v : Int64} {N : Nat} (hN : N ≤ 8) (hR1 : 1 ≤ R.frames) (hR2 : 22 ≤ R.locals) (hx : p.tables.exec = Jvm.exec) (hb : c.code = b_Text_areCharacters) (hz : ∀ w ∈ wz, w.before ([.long v, .int (nI N)] : List Value).toArray s = true) (hown : s.vm.findClass R_Text = some m.cls) (hml : c.maxLocals = 5) (hr : meth.sig.returnType = some .boolean) (hlocks : meth.locks = false) :
    ∀ (n i : Nat), n + i = N → gd_ v i = true → ∀ (H : Heap) (locs : List Loc) (ls : Array Slot), lv_has ls 5 [(3, .int (nI i)), (0, .long v), (2, .int (nI N))] → va_S (fun _ => False) s.heap H locs → W p l e R s m ([.long v, .int (nI N)] : List Value).toArray below meth c H locs 0 0 (MQ below (va_Qi (fun (r : Int32) (_ : Unit) => r = if gd_ v N then 1 else 0) (fun _ _ => True) (fun _ => False)) ([.long v, .int (nI N)] : List Value).toArray s 0 0 (fun _ => False)) (F0 m 2 ls []) := by
  intro n
  induction n with
  | zero =>
    intro i hi hg H locs ls hl hS
    obtain rfl : i = N := by omega
    refine lv_iload_n hx hb d_Text_areCharacters_2 rfl (lv_at hl 0 rfl) ?_
    refine lv_iload_n hx hb d_Text_areCharacters_3 rfl (lv_at hl 2 rfl) ?_
    refine lv_icmp_ge (tgt := 43) hx hb d_Text_areCharacters_4 (by decide) (fun _ => ?_) (fun h => (h (Int32.le_refl _)).elim)
    refine lv_iconst (v := 1) hx hb d_Text_areCharacters_43 (by decide) ?_
    exact W.zret (v := 1) hx hb hr (by decide +kernel) (fun t ht hW => ⟨⟨1, (), rfl, by rw [hg]; rfl, trivial⟩, hS.F ht⟩) hS.2.2 d_Text_areCharacters_44 hlocks
  | succ n ih =>
    intro i hi hg H locs ls hl hS
    have hi8 : i < 8 := by omega
    refine lv_iload_n hx hb d_Text_areCharacters_2 rfl (lv_at hl 0 rfl) ?_
    refine lv_iload_n hx hb d_Text_areCharacters_3 rfl (lv_at hl 2 rfl) ?_
    refine lv_icmp_ge (tgt := 43) hx hb d_Text_areCharacters_4 (by decide) (fun h => absurd h (nI_ge (by omega) (by omega))) (fun _ => ?_)
    refine lv_lload_n hx hb d_Text_areCharacters_7 rfl (lv_at hl 1 rfl) ?_
    refine lv_iload_n hx hb d_Text_areCharacters_8 rfl (lv_at hl 0 rfl) ?_
    refine va_calli (va_runS (As := [.long v, .int (nI i)]) (rest := []) ⟨hx, hb, hml, hown, hz⟩ (c_byte l v i hi8) (cwS 2 hz (zS zm_514 zm_515 zm_78 zm_516) rfl rfl rfl (by decide +kernel) ⟨hR1, hR2⟩) ⟨fun a U g mk q => q, fun U hU hW => ⟨rfl, trivial⟩⟩ rfl rfl hl.1 rfl (lv_room (Nat.le_of_ble_eq_true rfl)) d_Text_areCharacters_9 ⟨Nat.zero_le _, Nat.zero_le _⟩) hS (fun _ _ h => h.elim) (fun _ h => h.elim) (fun r u t H1 locs ht hvm hw hB hz1 hk1 hS => ?_)
    subst r
    refine lv_istore hx hb d_Text_areCharacters_12 hl (by decide) rfl (fun ls hl => ?_)
    have hl : lv_has ls 5 [(4, .int (nI (by_ v i))), (3, .int (nI i)), (0, .long v), (2, .int (nI N))] := hl
    have hb8 := by_lt v i
    refine lv_iload hx hb d_Text_areCharacters_14 (lv_at hl 0 rfl) ?_
    refine lv_bipush (v := 10) hx hb d_Text_areCharacters_16 (by decide) ?_
    refine lv_icmp_eq (tgt := 37) hx hb d_Text_areCharacters_18 (by decide) (fun h1 => ?_) (fun h1 => ?_)
    · have h1 : by_ v i = 10 := (nI_eq (b := 10) (by omega) (by decide)).mp h1
      refine lv_iinc (k := 1) (v := nI (i + 1)) hx hb d_Text_areCharacters_37 hl rfl (nI_1 i) (by decide) rfl (fun ls hl => ?_)
      have hl : lv_has ls 5 [(3, .int (nI (i + 1))), (4, .int (nI (by_ v i))), (0, .long v), (2, .int (nI N))] := hl
      refine lv_goto (tgt := 2) hx hb d_Text_areCharacters_40 (by decide) ?_
      exact ih (i + 1) (by omega) (by rw [gd_, hg, show ok_ (by_ v i) = true by rw [h1]; rfl]; rfl) H1 locs ls (lv_sub hl [0, 2, 3] rfl) hS
    · have h1 : ¬ by_ v i = 10 := fun h => h1 (by rw [h]; rfl)
      refine lv_iload hx hb d_Text_areCharacters_21 (lv_at hl 0 rfl) ?_
      refine lv_bipush (v := 32) hx hb d_Text_areCharacters_23 (by decide) ?_
      refine lv_icmp_lt (tgt := 35) hx hb d_Text_areCharacters_25 (by decide) (fun h2 => ?_) (fun h2 => ?_)
      · have h2 : by_ v i < 32 := (nI_ltI (b := 32) (by omega) (by decide)).mp h2
        refine lv_iconst (v := 0) hx hb d_Text_areCharacters_35 (by decide) ?_
        exact W.zret (v := 0) hx hb hr (by decide +kernel) (fun t ht hW => ⟨⟨0, (), rfl, by rw [gd_not (show ok_ (by_ v i) = false by simp [ok_]; omega) N (by omega)]; rfl, trivial⟩, hS.F ht⟩) hS.2.2 d_Text_areCharacters_36 hlocks
      · have h2 : ¬ by_ v i < 32 := fun h => h2 ((nI_ltI (b := 32) (by omega) (by decide)).mpr h)
        refine lv_iload hx hb d_Text_areCharacters_28 (lv_at hl 0 rfl) ?_
        refine lv_bipush (v := 126) hx hb d_Text_areCharacters_30 (by decide) ?_
        refine lv_icmp_le (tgt := 37) hx hb d_Text_areCharacters_32 (by decide) (fun h3 => ?_) (fun h3 => ?_)
        · have h3 : by_ v i ≤ 126 := (nI_leI (b := 126) (by omega) (by decide)).mp h3
          refine lv_iinc (k := 1) (v := nI (i + 1)) hx hb d_Text_areCharacters_37 hl rfl (nI_1 i) (by decide) rfl (fun ls hl => ?_)
          have hl : lv_has ls 5 [(3, .int (nI (i + 1))), (4, .int (nI (by_ v i))), (0, .long v), (2, .int (nI N))] := hl
          refine lv_goto (tgt := 2) hx hb d_Text_areCharacters_40 (by decide) ?_
          exact ih (i + 1) (by omega) (by rw [gd_, hg, show ok_ (by_ v i) = true by simp [ok_]; omega]; rfl) H1 locs ls (lv_sub hl [0, 2, 3] rfl) hS
        · have h3 : ¬ by_ v i ≤ 126 := fun h => h3 ((nI_leI (b := 126) (by omega) (by decide)).mpr h)
          refine lv_iconst (v := 0) hx hb d_Text_areCharacters_35 (by decide) ?_
          exact W.zret (v := 0) hx hb hr (by decide +kernel) (fun t ht hW => ⟨⟨0, (), rfl, by rw [gd_not (show ok_ (by_ v i) = false by simp [ok_]; omega) N (by omega)]; rfl, trivial⟩, hS.F ht⟩) hS.2.2 d_Text_areCharacters_36 hlocks
set_option maxHeartbeats 4000000 in
set_option maxRecDepth 100000 in
theorem c_chars (l : Launch) (v : Int64) (N : Nat) (hN : N ≤ 8) : Met l y_Text_areCharacters w_Text_areCharacters ({ frames := 1, cells := 0, slots := 0, locals := 22 }) (va_Pc [.long v, .int (nI N)] (fun _ => True)) (va_Qi (fun (r : Int32) (_ : Unit) => r = if gd_ v N then 1 else 0) (fun _ _ => True) (fun _ => False)) 0 0 (fun _ => False) := by
  refine Met.ofW (cc := b_Text_areCharacters) (maxL := 5) (ret := (some .boolean)) (by decide) rfl ?_
  intro p e s m args below meth c s₁ B hml hv
  obtain ⟨rfl, -⟩ := hv
  have hx := B.exec
  have hb := B.bytes
  have hr := B.returns
  have hts := atoms_spec (ws := w_Text_areCharacters) B.pre
  have hz : ∀ w ∈ wz, w.before _ s = true := fun w h => hts w (List.mem_cons_of_mem _ h)
  have hown : s.vm.findClass R_Text = some m.cls := findClass_of_methodNamed B.named
  have hlocks := B.notSynchronized
  have hl := lv_entry ([.long v, .int (nI N)]) (n := 5) (Nat.le_of_ble_eq_true rfl)
  rw [lg_entry_eq]
  generalize (lg_sl ([.long v, .int (nI N)]) ++ List.replicate (5 - (lg_sl ([.long v, .int (nI N)])).length) Slot.unset).toArray = ls at hl ⊢
  have hl : lv_has ls 5 [(0, .long v), (2, .int (nI N))] := hl
  refine lv_iconst (v := 0) hx hb d_Text_areCharacters_0 (by decide) ?_
  refine lv_istore_n hx hb d_Text_areCharacters_1 rfl hl (by decide) rfl (fun ls hl => ?_)
  exact lp_chars hN (Nat.le_of_ble_eq_true rfl) (Nat.le_of_ble_eq_true rfl) hx hb hz hown hml hr hlocks N 0 rfl rfl _ _ ls hl va_S.rf
set_option maxHeartbeats 4000000 in
set_option maxRecDepth 100000 in
theorem lp_append {p : Program} {l : Launch} {e : Env} {R : Room} {s : State} {m : MethodId} {below : List Frame} {meth : Method} {c : Code} {dC : Nat → ClassId} {dI : Nat → Nat → Nat} {A : Nat → Prop} {a0 a1 : Nat} {k0 : ClassId} {v : Int64} {N : Nat} (hN : N ≤ 8) (hR1 : 1 ≤ R.frames) (hR2 : 22 ≤ R.locals) (hx : p.tables.exec = Jvm.exec) (hb : c.code = b_Text_append) (hz : ∀ w ∈ wz, w.before ([.ref a0, .long v, .int (nI N)] : List Value).toArray s = true) (hown : s.vm.findClass R_Text = some m.cls) (hml : c.maxLocals = 5) (hr : meth.sig.returnType = none) (hlocks : meth.locks = false) (hK : va_K (dC, dI) vcl [(k0, .char)] s) :
    ∀ (n i : Nat), n + i = N → ∀ (f : Nat → Int32) (H : Heap) (locs : List Loc) (ls : Array Slot), lv_has ls 5 [(4, .int (nI i)), (0, .ref a0), (1, .long v), (3, .int (nI N))] → va_P (dC, dI) vcl [(a0, .inr (10, [.ref a1, .int (nI i)])), (a1, .inl (k0, 240, .inl f))] H → va_D A [(a0, .inr (10, [.ref a1, .int (nI i)])), (a1, .inl (k0, 240, .inl f))] → va_S A s.heap H locs → W p l e R s m ([.ref a0, .long v, .int (nI N)] : List Value).toArray below meth c H locs 0 0 (MQ below (va_Qv (fun (_ : Unit) => True) (fun _ t => ∃ f : Nat → Int32, va_P (dC, dI) vcl [(a0, .inr (10, [.ref a1, .int (nI N)])), (a1, .inl (k0, 240, .inl f))] t.heap ∧ va_K (dC, dI) vcl [(k0, .char)] t ∧ va_D A [(a0, .inr (10, [.ref a1, .int (nI N)])), (a1, .inl (k0, 240, .inl f))]) A) ([.ref a0, .long v, .int (nI N)] : List Value).toArray s 0 0 A) (F0 m 3 ls []) := by
  intro n
  induction n with
  | zero =>
    intro i hi f H locs ls hl hP hD hS
    obtain rfl : i = N := by omega
    refine lv_iload hx hb d_Text_append_3 (lv_at hl 0 rfl) ?_
    refine lv_iload_n hx hb d_Text_append_5 rfl (lv_at hl 3 rfl) ?_
    refine lv_icmp_ge (tgt := 51) hx hb d_Text_append_6 (by decide) (fun _ => ?_) (fun h => (h (Int32.le_refl _)).elim)
    exact W.vret hx hb hr (fun t ht hW => ⟨⟨(), rfl, trivial, f, by rw [ht]; exact hP, va_K.moved hW.alike hK, hD⟩, hS.F ht⟩) hS.2.2 d_Text_append_51 hlocks
  | succ n ih =>
    intro i hi f H locs ls hl hP hD hS
    have hi8 : i < 8 := by omega
    refine lv_iload hx hb d_Text_append_3 (lv_at hl 0 rfl) ?_
    refine lv_iload_n hx hb d_Text_append_5 rfl (lv_at hl 3 rfl) ?_
    refine lv_icmp_ge (tgt := 51) hx hb d_Text_append_6 (by decide) (fun h => absurd h (nI_ge (by omega) (by omega))) (fun _ => ?_)
    refine lv_aload_n hx hb d_Text_append_9 rfl (lv_at hl 1 rfl) ?_
    refine va_get (D := (dC, dI)) (ci := 10) (v := .int (nI i)) (C := R_Text) (T := F_Text) (N := 2) hx hb hz zu_Text hown hK hP 0 rfl rfl 1 (by decide) (hz (.fieldLink R_Text 19 "LayoutFront$Text" "length" "I") zm_116) (fun _ h9 => h9) rfl d_Text_append_10 ?_
    refine lv_sipush (v := 240) hx hb d_Text_append_13 (by decide) ?_
    refine lv_icmp_ge (tgt := 51) hx hb d_Text_append_16 (by decide) (fun h => absurd h (nI_ge (a := i) (b := 240) (by omega) (by decide))) (fun _ => ?_)
    refine lv_aload_n hx hb d_Text_append_19 rfl (lv_at hl 1 rfl) ?_
    refine va_get (D := (dC, dI)) (ci := 10) (v := .ref a1) (C := R_Text) (T := F_Text) (N := 2) hx hb hz zu_Text hown hK hP 0 rfl rfl 0 (by decide) (hz (.fieldLink R_Text 9 "LayoutFront$Text" "characters" "[C") zm_4) (fun _ h9 => h9) rfl d_Text_append_20 ?_
    refine lv_aload_n hx hb d_Text_append_23 rfl (lv_at hl 1 rfl) ?_
    refine va_get (D := (dC, dI)) (ci := 10) (v := .int (nI i)) (C := R_Text) (T := F_Text) (N := 2) hx hb hz zu_Text hown hK hP 0 rfl rfl 1 (by decide) (hz (.fieldLink R_Text 19 "LayoutFront$Text" "length" "I") zm_116) (fun _ h9 => h9) rfl d_Text_append_24 ?_
    refine lv_lload_n hx hb d_Text_append_27 rfl (lv_at hl 2 rfl) ?_
    refine lv_iload hx hb d_Text_append_28 (lv_at hl 0 rfl) ?_
    have hHb := hP
    refine va_calli (va_runS (As := [.long v, .int (nI i)]) (rest := [.int (nI i), .ref a1]) ⟨hx, hb, hml, hown, hz⟩ (c_byte l v i hi8) (cwS 2 hz (zS zm_514 zm_515 zm_78 zm_516) rfl rfl rfl (by decide +kernel) ⟨hR1, hR2⟩) ⟨fun a U g mk q => q, fun U hU hW => ⟨rfl, trivial⟩⟩ rfl rfl hl.1 rfl (lv_room (Nat.le_of_ble_eq_true rfl)) d_Text_append_30 ⟨Nat.zero_le _, Nat.zero_le _⟩) hS (fun _ _ h => h.elim) (fun _ h => h.elim) (fun r u t H1 locs ht hvm hw hB hz1 hk1 hS => ?_)
    subst r
    have hP : va_P (dC, dI) vcl [(a0, .inr (10, [.ref a1, .int (nI i)])), (a1, .inl (k0, 240, .inl f))] H1 := hP.kept (fun k q hk => hk1 q.1 ((hP k q hk).lt) (fun h => h))
    refine lv_i2c (v := ((nI (by_ v i)).toUInt32 % 65536).toInt32) hx hb d_Text_append_33 rfl ?_
    refine xr_cast (j := i) hx hb hK hP hD hS 1 0 rfl rfl (vp_in_nI (by omega) (by decide)) (nI_clamp (by omega)) d_Text_append_34 (fun H locs hP hD hS => ?_)
    generalize upd f i (vp_nar .char ((nI (by_ v i)).toUInt32 % 65536).toInt32) = f2 at hP hD
    have hP : va_P (dC, dI) vcl [(a0, .inr (10, [.ref a1, .int (nI i)])), (a1, .inl (k0, 240, .inl f2))] H := hP
    have hD : va_D A [(a0, .inr (10, [.ref a1, .int (nI i)])), (a1, .inl (k0, 240, .inl f2))] := hD
    refine lv_aload_n hx hb d_Text_append_35 rfl (lv_at hl 1 rfl) ?_
    refine lv_dup hx hb d_Text_append_36 rfl ?_
    refine va_get (D := (dC, dI)) (ci := 10) (v := .int (nI i)) (C := R_Text) (T := F_Text) (N := 2) hx hb hz zu_Text hown hK hP 0 rfl rfl 1 (by decide) (hz (.fieldLink R_Text 19 "LayoutFront$Text" "length" "I") zm_116) (fun _ h9 => h9) rfl d_Text_append_37 ?_
    refine lv_iconst (v := 1) hx hb d_Text_append_40 (by decide) ?_
    refine xr_iadd (v := nI (i + 1)) hx hb d_Text_append_41 (nI_1 i) ?_
    refine va_put (D := (dC, dI)) (ci := 10) (v := .int (nI (i + 1))) (ty := .int) (C := R_Text) (T := F_Text) (N := 2) hx hb hz zu_Text t_Text t_Text_ok n_Text hown hK hP hD hS 0 rfl rfl 1 (by decide) (hz (.fieldLink R_Text 19 "LayoutFront$Text" "length" "I") zm_116) (fun _ h9 => h9) rfl (by decide +kernel) (xr_nar _) (xr_fit _) (Nat.le_of_ble_eq_true rfl) d_Text_append_42 (fun H locs hP hD hS => ?_)
    have hP : va_P (dC, dI) vcl [(a0, .inr (10, [.ref a1, .int (nI (i + 1))])), (a1, .inl (k0, 240, .inl f2))] H := hP
    have hD : va_D A [(a0, .inr (10, [.ref a1, .int (nI (i + 1))])), (a1, .inl (k0, 240, .inl f2))] := hD
    refine lv_iinc (k := 0) (v := nI (i + 1)) hx hb d_Text_append_45 hl rfl (nI_1 i) (by decide) rfl (fun ls hl => ?_)
    have hl : lv_has ls 5 [(4, .int (nI (i + 1))), (0, .ref a0), (1, .long v), (3, .int (nI N))] := hl
    refine lv_goto (tgt := 3) hx hb d_Text_append_48 (by decide) ?_
    exact ih (i + 1) (by omega) f2 H locs ls hl hP hD hS
set_option maxHeartbeats 4000000 in
set_option maxRecDepth 100000 in
theorem c_append (l : Launch) (dC : Nat → ClassId) (dI : Nat → Nat → Nat) (sz : Nat) (a0 a1 : Nat) (k0 : ClassId) (v : Int64) (N : Nat) (hN : N ≤ 8) : Met l y_Text_append w_Text_append ({ frames := 1, cells := 0, slots := 0, locals := 22 }) (va_Pc [.ref a0, .long v, .int (nI N)] (fun U => U.heap.size = sz ∧ va_P (dC, dI) vcl [(a0, .inr (10, [.ref a1, .int 0])), (a1, .inl (k0, 240, .inl (fun _ => 0)))] U.heap ∧ va_K (dC, dI) vcl [(k0, .char)] U ∧ va_D (fun _ => True) [(a0, .inr (10, [.ref a1, .int 0])), (a1, .inl (k0, 240, .inl (fun _ => 0)))])) (va_Qv (fun (_ : Unit) => True) (fun _ t => ∃ f : Nat → Int32, va_P (dC, dI) vcl [(a0, .inr (10, [.ref a1, .int (nI N)])), (a1, .inl (k0, 240, .inl f))] t.heap ∧ va_K (dC, dI) vcl [(k0, .char)] t ∧ va_D (va_A [(a0, .inr (10, [.ref a1, .int 0])), (a1, .inl (k0, 240, .inl (fun _ => 0)))] sz) [(a0, .inr (10, [.ref a1, .int (nI N)])), (a1, .inl (k0, 240, .inl f))]) (va_A [(a0, .inr (10, [.ref a1, .int 0])), (a1, .inl (k0, 240, .inl (fun _ => 0)))] sz)) 0 0 (va_A [(a0, .inr (10, [.ref a1, .int 0])), (a1, .inl (k0, 240, .inl (fun _ => 0)))] sz) := by
  refine Met.ofW (cc := b_Text_append) (maxL := 5) (ret := none) (by decide) rfl ?_
  intro p e s m args below meth c s₁ B hml hv
  obtain ⟨rfl, hsz, hP, hK, hD0⟩ := hv
  have hx := B.exec
  have hb := B.bytes
  have hr := B.returns
  have hts := atoms_spec (ws := w_Text_append) B.pre
  have hz : ∀ w ∈ wz, w.before _ s = true := fun w h => hts w (List.mem_cons_of_mem _ h)
  have hown : s.vm.findClass R_Text = some m.cls := findClass_of_methodNamed B.named
  have hlocks := B.notSynchronized
  have hl := lv_entry ([.ref a0, .long v, .int (nI N)]) (n := 5) (Nat.le_of_ble_eq_true rfl)
  rw [lg_entry_eq]
  generalize (lg_sl ([.ref a0, .long v, .int (nI N)]) ++ List.replicate (5 - (lg_sl ([.ref a0, .long v, .int (nI N)])).length) Slot.unset).toArray = ls at hl ⊢
  have hl : lv_has ls 5 [(0, .ref a0), (1, .long v), (3, .int (nI N))] := hl
  subst hsz
  have hD := hD0.self (sz := s.heap.size)
  generalize hAe : va_A [(a0, .inr (10, [.ref a1, .int 0])), (a1, .inl (k0, 240, .inl (fun _ => 0)))] s.heap.size = A at hD ⊢
  refine lv_iconst (v := 0) hx hb d_Text_append_0 (by decide) ?_
  refine lv_istore hx hb d_Text_append_1 hl (by decide) rfl (fun ls hl => ?_)
  exact lp_append hN (Nat.le_of_ble_eq_true rfl) (Nat.le_of_ble_eq_true rfl) hx hb hz hown hml hr hlocks hK N 0 rfl _ _ _ ls hl hP hD va_S.rf
