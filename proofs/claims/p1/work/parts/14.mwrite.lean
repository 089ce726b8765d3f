set_option maxHeartbeats 4000000 in
set_option maxRecDepth 100000 in
theorem c_within (l : Launch) (x y z : Int32) : Met l y_Model_within w_Model_within ({ frames := 0, cells := 0, slots := 0, locals := 0 }) (va_Pc [.int x, .int y, .int z] (fun _ => True)) (va_Qi (fun (r : Int32) (_ : Unit) => r = if x < y then 0 else if z < x then 0 else 1) (fun _ _ => True) (fun _ => False)) 0 0 (fun _ => False) := by
  refine Met.ofW (cc := b_Model_within) (maxL := 3) (ret := (some .boolean)) (by decide) rfl ?_
  intro p e s m args below meth c s₁ B hml hv
  obtain ⟨rfl, -⟩ := hv
  have hx := B.exec
  have hb := B.bytes
  have hr := B.returns
  have hlocks := B.notSynchronized
  have hl := lv_entry ([.int x, .int y, .int z]) (n := 3) (Nat.le_of_ble_eq_true rfl)
  rw [lg_entry_eq]
  generalize (lg_sl ([.int x, .int y, .int z]) ++ List.replicate (3 - (lg_sl ([.int x, .int y, .int z])).length) Slot.unset).toArray = ls at hl ⊢
  have hl : lv_has ls 3 [(0, .int x), (1, .int y), (2, .int z)] := hl
  refine lv_iload_n hx hb d_Model_within_0 rfl (lv_at hl 0 rfl) ?_
  refine lv_iload_n hx hb d_Model_within_1 rfl (lv_at hl 1 rfl) ?_
  refine lv_icmp_lt (tgt := 14) hx hb d_Model_within_2 (by decide) (fun h1 => ?_) (fun h1 => ?_)
  · have hq := h1
    refine lv_iconst (v := 0) hx hb d_Model_within_14 (by decide) ?_
    exact W.zret (v := 0) hx hb hr (by decide +kernel) (fun t ht hW => ⟨⟨0, (), rfl, by rw [if_pos hq], trivial⟩, ⟨by rw [ht]; exact Nat.le_refl _, fun q _ _ => by rw [ht]⟩⟩) (fun _ h => nomatch h) d_Model_within_15
  · refine lv_iload_n hx hb d_Model_within_5 rfl (lv_at hl 0 rfl) ?_
    refine lv_iload_n hx hb d_Model_within_6 rfl (lv_at hl 2 rfl) ?_
    refine lv_icmp_gt (tgt := 14) hx hb d_Model_within_7 (by decide) (fun h2 => ?_) (fun h2 => ?_)
    · have hq := h2
      refine lv_iconst (v := 0) hx hb d_Model_within_14 (by decide) ?_
      exact W.zret (v := 0) hx hb hr (by decide +kernel) (fun t ht hW => ⟨⟨0, (), rfl, by rw [if_neg h1, if_pos hq], trivial⟩, ⟨by rw [ht]; exact Nat.le_refl _, fun q _ _ => by rw [ht]⟩⟩) (fun _ h => nomatch h) d_Model_within_15
    · have hq := h2
      refine lv_iconst (v := 1) hx hb d_Model_within_10 (by decide) ?_
      refine lv_goto (tgt := 15) hx hb d_Model_within_11 (by decide) ?_
      exact W.zret (v := 1) hx hb hr (by decide +kernel) (fun t ht hW => ⟨⟨1, (), rfl, by rw [if_neg h1, if_neg hq], trivial⟩, ⟨by rw [ht]; exact Nat.le_refl _, fun q _ _ => by rw [ht]⟩⟩) (fun _ h => nomatch h) d_Model_within_15
set_option maxHeartbeats 4000000 in
set_option maxRecDepth 100000 in
theorem lp_mw1 {p : Program} {l : Launch} {e : Env} {R : Room} {s : State} {m : MethodId} {args : Array Value} {below : List Frame} {meth : Method} {c : Code} {cells slots : Nat} {Q : State → Prop} {A : Nat → Prop} {D : va_G} {cl : List vw_C} {ws : va_W} {a0 : Nat} {v : Int64} {N : Nat} (hN : N ≤ 8) (hR1 : 1 ≤ R.frames) (hR2 : 22 ≤ R.locals) (hRc : cells ≤ R.cells) (hRs : slots ≤ R.slots) (hx : p.tables.exec = Jvm.exec) (hb : c.code = b_Model_write) (hz : ∀ w ∈ wz, w.before args s = true) (hown : s.vm.findClass R_Model = some m.cls) (hml : c.maxLocals = 7)
    (kk : ∀ (H : Heap) (locs : List Loc) (ls : Array Slot), lv_has ls 7 [(5, .int (nI N)), (4, .int (if gd_ v N then 1 else 0)), (0, .ref a0), (1, .long v), (3, .int (nI N))] → va_P D cl ws H → va_S A s.heap H locs → W p l e R s m args below meth c H locs cells slots Q (F0 m 84 ls [])) :
    ∀ (n i : Nat), n + i = N → ∀ (H : Heap) (locs : List Loc) (ls : Array Slot), lv_has ls 7 [(5, .int (nI i)), (4, .int (if gd_ v i then 1 else 0)), (0, .ref a0), (1, .long v), (3, .int (nI N))] → va_P D cl ws H → va_S A s.heap H locs → W p l e R s m args below meth c H locs cells slots Q (F0 m 27 ls []) := by
  intro n
  induction n with
  | zero =>
    intro i hi H locs ls hl hP hS
    obtain rfl : i = N := by omega
    refine lv_iload hx hb d_Model_write_27 (lv_at hl 0 rfl) ?_
    refine lv_iload_n hx hb d_Model_write_29 rfl (lv_at hl 4 rfl) ?_
    refine lv_icmp_ge (tgt := 84) hx hb d_Model_write_30 (by decide) (fun _ => ?_) (fun h => (h (Int32.le_refl _)).elim)
    exact kk H locs ls hl hP hS
  | succ n ih =>
    intro i hi H locs ls hl hP hS
    have hi8 : i < 8 := by omega
    have hb8 := by_lt v i
    refine lv_iload hx hb d_Model_write_27 (lv_at hl 0 rfl) ?_
    refine lv_iload_n hx hb d_Model_write_29 rfl (lv_at hl 4 rfl) ?_
    refine lv_icmp_ge (tgt := 84) hx hb d_Model_write_30 (by decide) (fun h => absurd h (nI_ge (by omega) (by omega))) (fun _ => ?_)
    refine lv_lload_n hx hb d_Model_write_33 rfl (lv_at hl 3 rfl) ?_
    refine lv_bipush (v := 8) hx hb d_Model_write_34 (by decide) ?_
    refine lv_iload hx hb d_Model_write_36 (lv_at hl 0 rfl) ?_
    refine xr_imul (v := nI (8 * i)) hx hb d_Model_write_38 (pk_mul 8 i) ?_
    refine lv_lshr (v := v >>> ((nI (8 * i)).toInt64 &&& 63)) hx hb d_Model_write_39 rfl ?_
    refine lv_ldc2 (v := 255) hx hb hown (hz (.constantLong R_Model 108 255) zm_517) d_Model_write_40 ?_
    refine xr_land (v := (v >>> ((nI (8 * i)).toInt64 &&& 63)) &&& 255) hx hb d_Model_write_43 rfl ?_
    refine lv_l2i (v := nI (by_ v i)) hx hb d_Model_write_44 (by_m v hi8) ?_
    refine lv_istore hx hb d_Model_write_45 hl (by decide) rfl (fun ls hl => ?_)
    have hl : lv_has ls 7 [(6, .int (nI (by_ v i))), (5, .int (nI i)), (4, .int (if gd_ v i then 1 else 0)), (0, .ref a0), (1, .long v), (3, .int (nI N))] := hl
    refine lv_iload hx hb d_Model_write_47 (lv_at hl 2 rfl) ?_
    cases hgi : gd_ v i with
    | false =>
      rw [hgi] at hl
      refine lv_if_eq (tgt := 75) hx hb d_Model_write_49 (by decide) (fun _ => ?_) (fun h => (h (by decide +kernel)).elim)
      refine lv_iconst (v := 0) hx hb d_Model_write_75 (by decide) ?_
      refine lv_istore hx hb d_Model_write_76 hl (by decide) rfl (fun ls hl => ?_)
      have hl : lv_has ls 7 [(4, .int 0), (6, .int (nI (by_ v i))), (5, .int (nI i)), (0, .ref a0), (1, .long v), (3, .int (nI N))] := hl
      refine lv_iinc (k := 2) (v := nI (i + 1)) hx hb d_Model_write_78 hl rfl (nI_1 i) (by decide) rfl (fun ls hl => ?_)
      have hl : lv_has ls 7 [(5, .int (nI (i + 1))), (4, .int 0), (6, .int (nI (by_ v i))), (0, .ref a0), (1, .long v), (3, .int (nI N))] := hl
      refine lv_goto (tgt := 27) hx hb d_Model_write_81 (by decide) ?_
      have hv : (0 : Int32) = if gd_ v (i + 1) then 1 else 0 := by rw [gd_, hgi]; rfl
      rw [hv] at hl
      exact ih (i + 1) (by omega) H locs ls (lv_sub hl [0, 1, 3, 4, 5] rfl) hP hS
    | true =>
      rw [hgi] at hl
      refine lv_if_eq (tgt := 75) hx hb d_Model_write_49 (by decide) (fun h => absurd h (by decide +kernel)) (fun _ => ?_)
      refine lv_iload hx hb d_Model_write_52 (lv_at hl 0 rfl) ?_
      refine lv_bipush (v := 10) hx hb d_Model_write_54 (by decide) ?_
      refine lv_icmp_eq (tgt := 71) hx hb d_Model_write_56 (by decide) (fun h1 => ?_) (fun h1 => ?_)
      · have h1 : by_ v i = 10 := (nI_eq (b := 10) (by omega) (by decide)).mp h1
        refine lv_iconst (v := 1) hx hb d_Model_write_71 (by decide) ?_
        refine lv_goto (tgt := 76) hx hb d_Model_write_72 (by decide) ?_
        refine lv_istore hx hb d_Model_write_76 hl (by decide) rfl (fun ls hl => ?_)
        have hl : lv_has ls 7 [(4, .int 1), (6, .int (nI (by_ v i))), (5, .int (nI i)), (0, .ref a0), (1, .long v), (3, .int (nI N))] := hl
        refine lv_iinc (k := 2) (v := nI (i + 1)) hx hb d_Model_write_78 hl rfl (nI_1 i) (by decide) rfl (fun ls hl => ?_)
        have hl : lv_has ls 7 [(5, .int (nI (i + 1))), (4, .int 1), (6, .int (nI (by_ v i))), (0, .ref a0), (1, .long v), (3, .int (nI N))] := hl
        refine lv_goto (tgt := 27) hx hb d_Model_write_81 (by decide) ?_
        have hv : (1 : Int32) = if gd_ v (i + 1) then 1 else 0 := by rw [gd_, hgi, h1]; rfl
        rw [hv] at hl
        exact ih (i + 1) (by omega) H locs ls (lv_sub hl [0, 1, 3, 4, 5] rfl) hP hS
      · have h1 : ¬ by_ v i = 10 := fun h => h1 (by rw [h]; rfl)
        refine lv_iload hx hb d_Model_write_59 (lv_at hl 0 rfl) ?_
        refine lv_bipush (v := 32) hx hb d_Model_write_61 (by decide) ?_
        refine lv_bipush (v := 126) hx hb d_Model_write_63 (by decide) ?_
        refine va_calli (va_runS (As := [.int (nI (by_ v i)), .int 32, .int 126]) (rest := []) ⟨hx, hb, hml, hown, hz⟩ (c_within l (nI (by_ v i)) 32 126) (cwS 3 hz (zS zm_449 zm_450 zm_374 zm_451) rfl rfl rfl (by decide +kernel) ⟨hR1, hR2⟩) ⟨fun a U g mk q => q, fun U hU hW => ⟨rfl, trivial⟩⟩ rfl rfl hl.1 rfl (lv_room (Nat.le_of_ble_eq_true rfl)) d_Model_write_65 ⟨hRc, hRs⟩) hS (fun _ _ h => h.elim) (fun _ h => h.elim) (fun r u t H1 locs ht hvm hw hB hz1 hk1 hS => ?_)
        have hP : va_P D cl ws H1 := hP.kept (fun k q hk => hk1 q.1 ((hP k q hk).lt) (fun h => h))
        by_cases h2 : by_ v i < 32
        · have hw : r = 0 := hw.trans (if_pos ((nI_ltI (b := 32) (by omega) (by decide)).mpr h2))
          subst hw
          refine lv_if_eq (tgt := 75) hx hb d_Model_write_68 (by decide) (fun _ => ?_) (fun h => (h (by decide +kernel)).elim)
          refine lv_iconst (v := 0) hx hb d_Model_write_75 (by decide) ?_
          refine lv_istore hx hb d_Model_write_76 hl (by decide) rfl (fun ls hl => ?_)
          have hl : lv_has ls 7 [(4, .int 0), (6, .int (nI (by_ v i))), (5, .int (nI i)), (0, .ref a0), (1, .long v), (3, .int (nI N))] := hl
          refine lv_iinc (k := 2) (v := nI (i + 1)) hx hb d_Model_write_78 hl rfl (nI_1 i) (by decide) rfl (fun ls hl => ?_)
          have hl : lv_has ls 7 [(5, .int (nI (i + 1))), (4, .int 0), (6, .int (nI (by_ v i))), (0, .ref a0), (1, .long v), (3, .int (nI N))] := hl
          refine lv_goto (tgt := 27) hx hb d_Model_write_81 (by decide) ?_
          have hv : (0 : Int32) = if gd_ v (i + 1) then 1 else 0 := by rw [gd_, hgi, show ok_ (by_ v i) = false by simp [ok_]; omega]; rfl
          rw [hv] at hl
          exact ih (i + 1) (by omega) H1 locs ls (lv_sub hl [0, 1, 3, 4, 5] rfl) hP hS
        · by_cases h3 : 126 < by_ v i
          · have hw : r = 0 := hw.trans ((if_neg (fun h => h2 ((nI_ltI (b := 32) (by omega) (by decide)).mp h))).trans (if_pos ((nI_ltI (a := 126) (by decide) (by omega)).mpr h3)))
            subst hw
            refine lv_if_eq (tgt := 75) hx hb d_Model_write_68 (by decide) (fun _ => ?_) (fun h => (h (by decide +kernel)).elim)
            refine lv_iconst (v := 0) hx hb d_Model_write_75 (by decide) ?_
            refine lv_istore hx hb d_Model_write_76 hl (by decide) rfl (fun ls hl => ?_)
            have hl : lv_has ls 7 [(4, .int 0), (6, .int (nI (by_ v i))), (5, .int (nI i)), (0, .ref a0), (1, .long v), (3, .int (nI N))] := hl
            refine lv_iinc (k := 2) (v := nI (i + 1)) hx hb d_Model_write_78 hl rfl (nI_1 i) (by decide) rfl (fun ls hl => ?_)
            have hl : lv_has ls 7 [(5, .int (nI (i + 1))), (4, .int 0), (6, .int (nI (by_ v i))), (0, .ref a0), (1, .long v), (3, .int (nI N))] := hl
            refine lv_goto (tgt := 27) hx hb d_Model_write_81 (by decide) ?_
            have hv : (0 : Int32) = if gd_ v (i + 1) then 1 else 0 := by rw [gd_, hgi, show ok_ (by_ v i) = false by simp [ok_]; omega]; rfl
            rw [hv] at hl
            exact ih (i + 1) (by omega) H1 locs ls (lv_sub hl [0, 1, 3, 4, 5] rfl) hP hS
          · have hw : r = 1 := hw.trans ((if_neg (fun h => h2 ((nI_ltI (b := 32) (by omega) (by decide)).mp h))).trans (if_neg (fun h => h3 ((nI_ltI (a := 126) (by decide) (by omega)).mp h))))
            subst hw
            refine lv_if_eq (tgt := 75) hx hb d_Model_write_68 (by decide) (fun h => absurd h (by decide +kernel)) (fun _ => ?_)
            refine lv_iconst (v := 1) hx hb d_Model_write_71 (by decide) ?_
            refine lv_goto (tgt := 76) hx hb d_Model_write_72 (by decide) ?_
            refine lv_istore hx hb d_Model_write_76 hl (by decide) rfl (fun ls hl => ?_)
            have hl : lv_has ls 7 [(4, .int 1), (6, .int (nI (by_ v i))), (5, .int (nI i)), (0, .ref a0), (1, .long v), (3, .int (nI N))] := hl
            refine lv_iinc (k := 2) (v := nI (i + 1)) hx hb d_Model_write_78 hl rfl (nI_1 i) (by decide) rfl (fun ls hl => ?_)
            have hl : lv_has ls 7 [(5, .int (nI (i + 1))), (4, .int 1), (6, .int (nI (by_ v i))), (0, .ref a0), (1, .long v), (3, .int (nI N))] := hl
            refine lv_goto (tgt := 27) hx hb d_Model_write_81 (by decide) ?_
            have hv : (1 : Int32) = if gd_ v (i + 1) then 1 else 0 := by rw [gd_, hgi, show ok_ (by_ v i) = true by simp [ok_]; omega]; rfl
            rw [hv] at hl
            exact ih (i + 1) (by omega) H1 locs ls (lv_sub hl [0, 1, 3, 4, 5] rfl) hP hS
set_option maxHeartbeats 4000000 in
set_option maxRecDepth 100000 in
theorem lp_mw2 {p : Program} {l : Launch} {e : Env} {R : Room} {s : State} {m : MethodId} {args : Array Value} {below : List Frame} {meth : Method} {c : Code} {cells slots : Nat} {Q : State → Prop} {A : Nat → Prop} {dC : Nat → ClassId} {dI : Nat → Nat → Nat} {fs : List Value} {a0 a1 : Nat} {k0 : ClassId} {v : Int64} {N : Nat} (hN : N ≤ 8) (hx : p.tables.exec = Jvm.exec) (hb : c.code = b_Model_write) (hz : ∀ w ∈ wz, w.before args s = true) (hown : s.vm.findClass R_Model = some m.cls) (hK : va_K (dC, dI) vcl [(k0, .int)] s) (hft : fs[2]? = some (.ref a1)) (hfl : fs[1]? = some (.int 0)) {g4 : Int32}
    (kk : ∀ (f : Nat → Int32) (H : Heap) (locs : List Loc) (ls : Array Slot), lv_has ls 7 [(5, .int (nI N)), (4, .int g4), (0, .ref a0), (1, .long v), (3, .int (nI N))] → va_P (dC, dI) vcl [(a0, .inr (1, fs)), (a1, .inl (k0, 240, .inl f))] H → va_D A [(a0, .inr (1, fs)), (a1, .inl (k0, 240, .inl f))] → va_S A s.heap H locs → W p l e R s m args below meth c H locs cells slots Q (F0 m 152 ls [])) :
    ∀ (n i : Nat), n + i = N → ∀ (f : Nat → Int32) (H : Heap) (locs : List Loc) (ls : Array Slot), lv_has ls 7 [(5, .int (nI i)), (4, .int g4), (0, .ref a0), (1, .long v), (3, .int (nI N))] → va_P (dC, dI) vcl [(a0, .inr (1, fs)), (a1, .inl (k0, 240, .inl f))] H → va_D A [(a0, .inr (1, fs)), (a1, .inl (k0, 240, .inl f))] → va_S A s.heap H locs → W p l e R s m args below meth c H locs cells slots Q (F0 m 116 ls []) := by
  intro n
  induction n with
  | zero =>
    intro i hi f H locs ls hl hP hD hS
    obtain rfl : i = N := by omega
    refine lv_iload hx hb d_Model_write_116 (lv_at hl 0 rfl) ?_
    refine lv_iload_n hx hb d_Model_write_118 rfl (lv_at hl 4 rfl) ?_
    refine lv_icmp_ge (tgt := 152) hx hb d_Model_write_119 (by decide) (fun _ => ?_) (fun h => (h (Int32.le_refl _)).elim)
    exact kk f H locs ls hl hP hD hS
  | succ n ih =>
    intro i hi f H locs ls hl hP hD hS
    have hi8 : i < 8 := by omega
    refine lv_iload hx hb d_Model_write_116 (lv_at hl 0 rfl) ?_
    refine lv_iload_n hx hb d_Model_write_118 rfl (lv_at hl 4 rfl) ?_
    refine lv_icmp_ge (tgt := 152) hx hb d_Model_write_119 (by decide) (fun h => absurd h (nI_ge (by omega) (by omega))) (fun _ => ?_)
    refine lv_aload_n hx hb d_Model_write_122 rfl (lv_at hl 2 rfl) ?_
    refine va_get (D := (dC, dI)) (ci := 1) (v := .ref a1) (C := R_Model) (T := F_Model) (N := 50) hx hb hz zu_Model hown hK hP 0 rfl rfl 2 (by decide) (hz (.fieldLink R_Model 7 "LayoutFrontModel" "text" "[I") zm_337) (fun _ h9 => h9) hft d_Model_write_123 ?_
    refine lv_aload_n hx hb d_Model_write_126 rfl (lv_at hl 2 rfl) ?_
    refine va_get (D := (dC, dI)) (ci := 1) (v := .int 0) (C := R_Model) (T := F_Model) (N := 50) hx hb hz zu_Model hown hK hP 0 rfl rfl 1 (by decide) (hz (.fieldLink R_Model 110 "LayoutFrontModel" "length" "I") zm_367) (fun _ h9 => h9) hfl d_Model_write_127 ?_
    refine lv_iload hx hb d_Model_write_130 (lv_at hl 0 rfl) ?_
    refine xr_iadd (v := nI i) hx hb d_Model_write_132 (xr_0add _) ?_
    refine lv_lload_n hx hb d_Model_write_133 rfl (lv_at hl 3 rfl) ?_
    refine lv_bipush (v := 8) hx hb d_Model_write_134 (by decide) ?_
    refine lv_iload hx hb d_Model_write_136 (lv_at hl 0 rfl) ?_
    refine xr_imul (v := nI (8 * i)) hx hb d_Model_write_138 (pk_mul 8 i) ?_
    refine lv_lshr (v := v >>> ((nI (8 * i)).toInt64 &&& 63)) hx hb d_Model_write_139 rfl ?_
    refine lv_ldc2 (v := 255) hx hb hown (hz (.constantLong R_Model 108 255) zm_517) d_Model_write_140 ?_
    refine xr_land (v := (v >>> ((nI (8 * i)).toInt64 &&& 63)) &&& 255) hx hb d_Model_write_143 rfl ?_
    refine lv_l2i (v := nI (by_ v i)) hx hb d_Model_write_144 (by_m v hi8) ?_
    refine xr_iast (j := i) hx hb hK hP hD hS 1 0 rfl rfl (vp_in_nI (by omega) (by decide)) (nI_clamp (by omega)) d_Model_write_145 (fun H locs hP hD hS => ?_)
    generalize upd f i (nI (by_ v i)) = f2 at hP hD
    have hP : va_P (dC, dI) vcl [(a0, .inr (1, fs)), (a1, .inl (k0, 240, .inl f2))] H := hP
    have hD : va_D A [(a0, .inr (1, fs)), (a1, .inl (k0, 240, .inl f2))] := hD
    refine lv_iinc (k := 0) (v := nI (i + 1)) hx hb d_Model_write_146 hl rfl (nI_1 i) (by decide) rfl (fun ls hl => ?_)
    have hl : lv_has ls 7 [(5, .int (nI (i + 1))), (4, .int g4), (0, .ref a0), (1, .long v), (3, .int (nI N))] := hl
    refine lv_goto (tgt := 116) hx hb d_Model_write_149 (by decide) ?_
    exact ih (i + 1) (by omega) f2 H locs ls hl hP hD hS
