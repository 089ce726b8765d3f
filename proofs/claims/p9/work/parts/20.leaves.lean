theorem xr_inr {i : Int32} {n cap : Nat} (h0 : 0 ≤ i) (h1 : i < nI n) (hn : n ≤ cap) (hc : cap < 2 ^ 31) : vp_in i cap := by
  rw [vp_in_iff]
  have a1 := Int32.le_iff_toInt_le.mp h0
  have a2 := Int32.lt_iff_toInt_lt.mp h1
  rw [nI_toInt (by omega)] at a2
  have a3 : (0 : Int32).toInt = 0 := by decide
  omega
theorem xr_upc {f : Nat → Int32} {i : Nat} {x : Int32} (h : ∀ j, narrow .char (.int (f j)) = .int (f j)) : ∀ j, narrow .char (.int (upd f i (vp_nar .char x) j)) = .int (upd f i (vp_nar .char x) j) := by
  intro j
  unfold upd
  split
  · simp [vp_nar, narrow]
    exact congrArg UInt32.toInt32 (UInt32.toNat_inj.mp (by rw [UInt32.toNat_mod, UInt32.toNat_mod]; exact Nat.mod_mod _ _))
  · exact h j
theorem xr_nb {r : Int32} (h : r = 0 ∨ r = 1) : narrow .boolean (.int r) = .int r := by
  rcases h with rfl | rfl <;> decide
theorem xr_mu {x y : Int32} (h : ¬ y ≤ x) : (2147483647 - (x + 1).toInt).toNat < (2147483647 - x.toInt).toNat := by
  have h1 := Int32.lt_iff_toInt_lt.mp (Int32.not_le.mp h)
  have h2 := Int32.toInt_lt y
  have h3 := Int32.le_toInt x
  have h4 : (x + 1).toInt = x.toInt + 1 := by
    rw [Int32.toInt_add]
    have h5 : (1 : Int32).toInt = 1 := by decide
    rw [h5]
    exact Int.bmod_eq_of_le (by omega) (by omega)
  omega
theorem xr_upn {f : Nat → Int32} {i : Nat} {x c : Int32} (h : ∀ j, ¬ f j = c) (hx : ¬ x = c) : ∀ j, ¬ upd f i x j = c := by
  intro j
  unfold upd
  split
  · exact hx
  · exact h j
theorem xr_upr {f : Nat → Int32} {b i q : Nat} (h : ∀ j, ∃ q, q < b ∧ f j = nI q) (hq : q < b) : ∀ j, ∃ q', q' < b ∧ upd f i (nI q) j = nI q' := by
  intro j
  unfold upd
  split
  · exact ⟨q, hq, rfl⟩
  · exact h j
theorem xr_min {p : Program} {l : Launch} {e : Env} {R : Room} {s : State} {m : MethodId} {args : Array Value} {below : List Frame} {meth : Method} {c : Code} {H : Heap} {locs : List Loc} {cells slots : Nat} {Q : State → Prop} {cc : ByteArray} {pc : Nat} {ls : Array Slot} {rest : List Value} (hx : p.tables.exec = Jvm.exec) (hb : c.code = cc) (hml : c.maxLocals = ls.size) {own : String} {index : Nat} (hown : s.vm.findClass own = some m.cls) (hlink : (Cond.methodLink own index Lib.Math.min.name).before args s = true) (hstat : (Cond.static Lib.Math.min.name).before args s = true) (hini : (Cond.initialized "java/lang/Math").before args s = true) (hcode : (Cond.code Lib.Math.min.name Lib.Math.min.code 2 (some .int)).before args s = true)
    (hframes : 1 ≤ R.frames) (hlocals : (rest.map fun v => v.category).sum + 13 ≤ R.locals) (hc : cells ≤ R.cells) (hs : slots ≤ R.slots) {x y v : Int32} (hdg : decode cc pc = .ok (.invokestatic index, 3)) (hv : (if y < x then y else x) = v)
    (kk : W p l e R s m args below meth c H locs cells slots Q (F0 m (pc + 3) ls (.int v :: rest))) : W p l e R s m args below meth c H locs cells slots Q (F0 m pc ls (.int y :: .int x :: rest)) := by
  subst hv; exact va_mmin hx hb hml hown hlink hstat hini hcode hframes hlocals hc hs hdg kk
theorem xr_minn {a b : Nat} (ha : a ≤ 2147483647) (hb : b ≤ 2147483647) : (if nI b < nI a then nI b else nI a) = nI (min a b) := by
  split
  · rename_i h
    have h := (nI_ltI (a := b) (b := a) (by omega) (by omega)).mp h
    rw [Nat.min_eq_right (by omega)]
  · rename_i h
    have h : ¬ b < a := fun q => h ((nI_ltI (a := b) (b := a) (by omega) (by omega)).mpr q)
    rw [Nat.min_eq_left (by omega)]
set_option maxHeartbeats 4000000 in
set_option maxRecDepth 100000 in
theorem s_Tokens_clear (l : Launch) (dC : Nat → ClassId) (dI : Nat → Nat → Nat) (sz : Nat) (cap : Nat) (a_t : Nat) (a_kinds : Nat) (a_values : Nat) (n_size : Nat) (bcap : cap ≤ 600) (b_size : n_size ≤ cap) : Met l y_Tokens_clear w_Tokens_clear ({ frames := 0, cells := 0, slots := 0, locals := 0 }) (va_Pc [.ref a_t] (fun U => U.heap.size = sz ∧ va_P (dC, dI) vcl [(a_t, .inr (11, [.ref a_kinds, .ref a_values, .int (nI n_size)]))] U.heap ∧ va_K (dC, dI) vcl [] U ∧ va_D (fun _ => True) [(a_t, .inr (11, [.ref a_kinds, .ref a_values, .int (nI n_size)]))])) (va_Qv (fun (_ : Unit) => True) (fun _ t => ∃ (w_n_size : Nat), (w_n_size ≤ cap) ∧ va_P (dC, dI) vcl [(a_t, .inr (11, [.ref a_kinds, .ref a_values, .int (nI w_n_size)]))] t.heap ∧ va_K (dC, dI) vcl [] t ∧ va_D (va_A [(a_t, .inr (11, [.ref a_kinds, .ref a_values, .int (nI n_size)]))] sz) [(a_t, .inr (11, [.ref a_kinds, .ref a_values, .int (nI w_n_size)]))]) (va_A [(a_t, .inr (11, [.ref a_kinds, .ref a_values, .int (nI n_size)]))] sz)) 0 0 (va_A [(a_t, .inr (11, [.ref a_kinds, .ref a_values, .int (nI n_size)]))] sz) := by
  refine Met.ofW (cc := b_Tokens_clear) (maxL := 1) (ret := none) (by decide) rfl ?_
  intro p e s m args below meth c s₁ B hml hv
  obtain ⟨rfl, hsz, hP, hK, hD0⟩ := hv
  have hx := B.exec
  have hb := B.bytes
  have hr := B.returns
  have hts := atoms_spec (ws := w_Tokens_clear) B.pre
  have hz : ∀ w ∈ wz, w.before _ s = true := fun w h => hts w (List.mem_cons_of_mem _ h)
  have hown : s.vm.findClass R_Tokens = some m.cls := findClass_of_methodNamed B.named
  have hlocks := B.notSynchronized
  subst hsz
  have hD := hD0.self (sz := s.heap.size)
  generalize hAe : va_A [(a_t, .inr (11, [.ref a_kinds, .ref a_values, .int (nI n_size)]))] s.heap.size = A at hD ⊢
  have hA : ∀ q : Nat, s.heap.size ≤ q → A q := fun q h => by rw [← hAe]; exact Or.inr h
  have hS : va_S A s.heap s.heap [] := va_S.rf
  have hP : va_P (dC, dI) vcl [(a_t, .inr (11, [.ref a_kinds, .ref a_values, .int (nI n_size)]))] s.heap := hP
  have hl := lv_entry ([.ref a_t]) (n := 1) (Nat.le_of_ble_eq_true rfl)
  rw [lg_entry_eq]
  generalize (lg_sl ([.ref a_t]) ++ List.replicate (1 - (lg_sl ([.ref a_t])).length) Slot.unset).toArray = ls at hl ⊢
  have hl : lv_has ls 1 [(0, .ref a_t)] := hl
  refine lv_aload_n hx hb d_Tokens_clear_0 rfl (lv_at hl 0 rfl) ?_
  refine lv_iconst (v := 0) hx hb d_Tokens_clear_1 (by decide) ?_
  refine va_put (D := (dC, dI)) (ci := 11) (v := .int 0) (ty := .int) (C := R_Tokens) (T := F_Tokens) (N := 3) hx hb hz zu_Tokens t_Tokens t_Tokens_ok n_Tokens hown hK hP hD hS 0 rfl rfl 2 (by decide) (hz (.fieldLink R_Tokens 19 "LayoutFront$Tokens" "size" "I") zm_31) (fun _ h9 => h9) rfl (by decide +kernel) (by decide +kernel) rfl (Nat.le_of_ble_eq_true rfl) d_Tokens_clear_2 (fun H locs hP hD hS => ?_)
  have hP : va_P (dC, dI) vcl [(a_t, .inr (11, [.ref a_kinds, .ref a_values, .int 0]))] H := hP
  have hD : va_D A [(a_t, .inr (11, [.ref a_kinds, .ref a_values, .int 0]))] := hD
  have hP9 := hP.sub (ws' := [(a_t, .inr (11, [.ref a_kinds, .ref a_values, .int 0]))]) [0] rfl
  have hD9 := hD.sub (ws' := [(a_t, .inr (11, [.ref a_kinds, .ref a_values, .int 0]))]) [0] (by decide) rfl
  exact W.vret hx hb hr (fun t ht hW => ⟨⟨(), rfl, trivial, 0, by first | omega | assumption | exact Or.inl rfl | exact Or.inr rfl, by rw [ht]; exact hP9, va_K.moved hW.alike hK, hD9⟩, hS.F ht⟩) hS.2.2 d_Tokens_clear_5
set_option maxHeartbeats 4000000 in
set_option maxRecDepth 100000 in
theorem s_Tokens_size (l : Launch) (dC : Nat → ClassId) (dI : Nat → Nat → Nat) (sz : Nat) (a_t : Nat) (a_kinds : Nat) (a_values : Nat) (n_size : Nat) : Met l y_Tokens_size w_Tokens_size ({ frames := 0, cells := 0, slots := 0, locals := 0 }) (va_Pc [.ref a_t] (fun U => U.heap.size = sz ∧ va_P (dC, dI) vcl [(a_t, .inr (11, [.ref a_kinds, .ref a_values, .int (nI n_size)]))] U.heap ∧ va_K (dC, dI) vcl [] U ∧ va_D (fun _ => True) [(a_t, .inr (11, [.ref a_kinds, .ref a_values, .int (nI n_size)]))])) (va_Qi (fun (r : Int32) (_ : Unit) => r = (nI n_size)) (fun _ t => va_P (dC, dI) vcl [(a_t, .inr (11, [.ref a_kinds, .ref a_values, .int (nI n_size)]))] t.heap ∧ va_K (dC, dI) vcl [] t ∧ va_D (va_A [(a_t, .inr (11, [.ref a_kinds, .ref a_values, .int (nI n_size)]))] sz) [(a_t, .inr (11, [.ref a_kinds, .ref a_values, .int (nI n_size)]))]) (va_A [(a_t, .inr (11, [.ref a_kinds, .ref a_values, .int (nI n_size)]))] sz)) 0 0 (va_A [(a_t, .inr (11, [.ref a_kinds, .ref a_values, .int (nI n_size)]))] sz) := by
  refine Met.ofW (cc := b_Tokens_size) (maxL := 1) (ret := (some .int)) (by decide) rfl ?_
  intro p e s m args below meth c s₁ B hml hv
  obtain ⟨rfl, hsz, hP, hK, hD0⟩ := hv
  have hx := B.exec
  have hb := B.bytes
  have hr := B.returns
  have hts := atoms_spec (ws := w_Tokens_size) B.pre
  have hz : ∀ w ∈ wz, w.before _ s = true := fun w h => hts w (List.mem_cons_of_mem _ h)
  have hown : s.vm.findClass R_Tokens = some m.cls := findClass_of_methodNamed B.named
  have hlocks := B.notSynchronized
  subst hsz
  have hD := hD0.self (sz := s.heap.size)
  generalize hAe : va_A [(a_t, .inr (11, [.ref a_kinds, .ref a_values, .int (nI n_size)]))] s.heap.size = A at hD ⊢
  have hA : ∀ q : Nat, s.heap.size ≤ q → A q := fun q h => by rw [← hAe]; exact Or.inr h
  have hS : va_S A s.heap s.heap [] := va_S.rf
  have hP : va_P (dC, dI) vcl [(a_t, .inr (11, [.ref a_kinds, .ref a_values, .int (nI n_size)]))] s.heap := hP
  have hl := lv_entry ([.ref a_t]) (n := 1) (Nat.le_of_ble_eq_true rfl)
  rw [lg_entry_eq]
  generalize (lg_sl ([.ref a_t]) ++ List.replicate (1 - (lg_sl ([.ref a_t])).length) Slot.unset).toArray = ls at hl ⊢
  have hl : lv_has ls 1 [(0, .ref a_t)] := hl
  refine lv_aload_n hx hb d_Tokens_size_0 rfl (lv_at hl 0 rfl) ?_
  refine va_get (D := (dC, dI)) (ci := 11) (v := .int (nI n_size)) (C := R_Tokens) (T := F_Tokens) (N := 3) hx hb hz zu_Tokens hown hK hP 0 rfl rfl 2 (by decide) (hz (.fieldLink R_Tokens 19 "LayoutFront$Tokens" "size" "I") zm_31) (fun _ h9 => h9) rfl d_Tokens_size_1 ?_
  have hP9 := hP.sub (ws' := [(a_t, .inr (11, [.ref a_kinds, .ref a_values, .int (nI n_size)]))]) [0] rfl
  have hD9 := hD.sub (ws' := [(a_t, .inr (11, [.ref a_kinds, .ref a_values, .int (nI n_size)]))]) [0] (by decide) rfl
  exact W.iret (v := (nI n_size)) hx hb hr (fun t ht hW => ⟨⟨(nI n_size), (), rfl, rfl, by rw [ht]; exact hP9, va_K.moved hW.alike hK, hD9⟩, hS.F ht⟩) hS.2.2 d_Tokens_size_4
set_option maxHeartbeats 4000000 in
set_option maxRecDepth 100000 in
theorem s_Tokens_add (l : Launch) (dC : Nat → ClassId) (dI : Nat → Nat → Nat) (sz : Nat) (cap : Nat) (a_t : Nat) (a_kinds : Nat) (f_kinds : Nat → Int32) (a_values : Nat) (f_values : Nat → Int64) (n_size : Nat) (y0 : Int32) (y1 : Int64) (ka_kinds : ClassId) (ka_values : ClassId) (bcap : cap ≤ 600) (b_size : n_size ≤ cap) : Met l y_Tokens_add w_Tokens_add ({ frames := 0, cells := 0, slots := 0, locals := 0 }) (va_Pc [.ref a_t, .int y0, .long y1] (fun U => U.heap.size = sz ∧ va_P (dC, dI) vcl [(a_t, .inr (11, [.ref a_kinds, .ref a_values, .int (nI n_size)])), (a_kinds, .inl (ka_kinds, cap, .inl f_kinds)), (a_values, .inl (ka_values, cap, .inr (.inl f_values)))] U.heap ∧ va_K (dC, dI) vcl [(ka_kinds, .int), (ka_values, .long)] U ∧ va_D (fun _ => True) [(a_t, .inr (11, [.ref a_kinds, .ref a_values, .int (nI n_size)])), (a_kinds, .inl (ka_kinds, cap, .inl f_kinds)), (a_values, .inl (ka_values, cap, .inr (.inl f_values)))])) (va_Qv (fun (_ : Unit) => True) (fun _ t => ∃ (w_n_size : Nat) (w_f_kinds : Nat → Int32) (w_f_values : Nat → Int64), (w_n_size ≤ cap) ∧ va_P (dC, dI) vcl [(a_t, .inr (11, [.ref a_kinds, .ref a_values, .int (nI w_n_size)])), (a_kinds, .inl (ka_kinds, cap, .inl w_f_kinds)), (a_values, .inl (ka_values, cap, .inr (.inl w_f_values)))] t.heap ∧ va_K (dC, dI) vcl [(ka_kinds, .int), (ka_values, .long)] t ∧ va_D (va_A [(a_t, .inr (11, [.ref a_kinds, .ref a_values, .int (nI n_size)])), (a_kinds, .inl (ka_kinds, cap, .inl f_kinds)), (a_values, .inl (ka_values, cap, .inr (.inl f_values)))] sz) [(a_t, .inr (11, [.ref a_kinds, .ref a_values, .int (nI w_n_size)])), (a_kinds, .inl (ka_kinds, cap, .inl w_f_kinds)), (a_values, .inl (ka_values, cap, .inr (.inl w_f_values)))]) (va_A [(a_t, .inr (11, [.ref a_kinds, .ref a_values, .int (nI n_size)])), (a_kinds, .inl (ka_kinds, cap, .inl f_kinds)), (a_values, .inl (ka_values, cap, .inr (.inl f_values)))] sz)) 0 0 (va_A [(a_t, .inr (11, [.ref a_kinds, .ref a_values, .int (nI n_size)])), (a_kinds, .inl (ka_kinds, cap, .inl f_kinds)), (a_values, .inl (ka_values, cap, .inr (.inl f_values)))] sz) := by
  refine Met.ofW (cc := b_Tokens_add) (maxL := 4) (ret := none) (by decide) rfl ?_
  intro p e s m args below meth c s₁ B hml hv
  obtain ⟨rfl, hsz, hP, hK, hD0⟩ := hv
  have hx := B.exec
  have hb := B.bytes
  have hr := B.returns
  have hts := atoms_spec (ws := w_Tokens_add) B.pre
  have hz : ∀ w ∈ wz, w.before _ s = true := fun w h => hts w (List.mem_cons_of_mem _ h)
  have hown : s.vm.findClass R_Tokens = some m.cls := findClass_of_methodNamed B.named
  have hlocks := B.notSynchronized
  subst hsz
  have hD := hD0.self (sz := s.heap.size)
  generalize hAe : va_A [(a_t, .inr (11, [.ref a_kinds, .ref a_values, .int (nI n_size)])), (a_kinds, .inl (ka_kinds, cap, .inl f_kinds)), (a_values, .inl (ka_values, cap, .inr (.inl f_values)))] s.heap.size = A at hD ⊢
  have hA : ∀ q : Nat, s.heap.size ≤ q → A q := fun q h => by rw [← hAe]; exact Or.inr h
  have hS : va_S A s.heap s.heap [] := va_S.rf
  have hP : va_P (dC, dI) vcl [(a_t, .inr (11, [.ref a_kinds, .ref a_values, .int (nI n_size)])), (a_kinds, .inl (ka_kinds, cap, .inl f_kinds)), (a_values, .inl (ka_values, cap, .inr (.inl f_values)))] s.heap := hP
  have hl := lv_entry ([.ref a_t, .int y0, .long y1]) (n := 4) (Nat.le_of_ble_eq_true rfl)
  rw [lg_entry_eq]
  generalize (lg_sl ([.ref a_t, .int y0, .long y1]) ++ List.replicate (4 - (lg_sl ([.ref a_t, .int y0, .long y1])).length) Slot.unset).toArray = ls at hl ⊢
  have hl : lv_has ls 4 [(0, .ref a_t), (1, .int y0), (2, .long y1)] := hl
  refine lv_aload_n hx hb d_Tokens_add_0 rfl (lv_at hl 0 rfl) ?_
  refine va_get (D := (dC, dI)) (ci := 11) (v := .int (nI n_size)) (C := R_Tokens) (T := F_Tokens) (N := 3) hx hb hz zu_Tokens hown hK hP 0 rfl rfl 2 (by decide) (hz (.fieldLink R_Tokens 19 "LayoutFront$Tokens" "size" "I") zm_31) (fun _ h9 => h9) rfl d_Tokens_add_1 ?_
  refine lv_aload_n hx hb d_Tokens_add_4 rfl (lv_at hl 0 rfl) ?_
  refine va_get (D := (dC, dI)) (ci := 11) (v := .ref a_kinds) (C := R_Tokens) (T := F_Tokens) (N := 3) hx hb hz zu_Tokens hown hK hP 0 rfl rfl 0 (by decide) (hz (.fieldLink R_Tokens 9 "LayoutFront$Tokens" "kinds" "[I") zm_28) (fun _ h9 => h9) rfl d_Tokens_add_5 ?_
  refine va_alen (v := (nI cap)) hx hb hK hP 1 0 rfl rfl rfl d_Tokens_add_8 ?_
  refine lv_icmp_ge (tgt := 42) hx hb d_Tokens_add_9 (by decide) (fun h1 => ?_) (fun h1 => ?_)
  · have h1 : cap ≤ n_size := (nI_leI (a := cap) (b := n_size) (by omega) (by omega)).mp h1
    have hP9 := hP.sub (ws' := [(a_t, .inr (11, [.ref a_kinds, .ref a_values, .int (nI n_size)])), (a_kinds, .inl (ka_kinds, cap, .inl f_kinds)), (a_values, .inl (ka_values, cap, .inr (.inl f_values)))]) [0, 1, 2] rfl
    have hD9 := hD.sub (ws' := [(a_t, .inr (11, [.ref a_kinds, .ref a_values, .int (nI n_size)])), (a_kinds, .inl (ka_kinds, cap, .inl f_kinds)), (a_values, .inl (ka_values, cap, .inr (.inl f_values)))]) [0, 1, 2] (by decide) rfl
    exact W.vret hx hb hr (fun t ht hW => ⟨⟨(), rfl, trivial, n_size, f_kinds, f_values, by first | omega | assumption | exact Or.inl rfl | exact Or.inr rfl, by rw [ht]; exact hP9, va_K.moved hW.alike hK, hD9⟩, hS.F ht⟩) hS.2.2 d_Tokens_add_42
  · have h1 : ¬ cap ≤ n_size := fun q => h1 ((nI_leI (a := cap) (b := n_size) (by omega) (by omega)).mpr q)
    refine lv_aload_n hx hb d_Tokens_add_12 rfl (lv_at hl 0 rfl) ?_
    refine va_get (D := (dC, dI)) (ci := 11) (v := .ref a_kinds) (C := R_Tokens) (T := F_Tokens) (N := 3) hx hb hz zu_Tokens hown hK hP 0 rfl rfl 0 (by decide) (hz (.fieldLink R_Tokens 9 "LayoutFront$Tokens" "kinds" "[I") zm_28) (fun _ h9 => h9) rfl d_Tokens_add_13 ?_
    refine lv_aload_n hx hb d_Tokens_add_16 rfl (lv_at hl 0 rfl) ?_
    refine va_get (D := (dC, dI)) (ci := 11) (v := .int (nI n_size)) (C := R_Tokens) (T := F_Tokens) (N := 3) hx hb hz zu_Tokens hown hK hP 0 rfl rfl 2 (by decide) (hz (.fieldLink R_Tokens 19 "LayoutFront$Tokens" "size" "I") zm_31) (fun _ h9 => h9) rfl d_Tokens_add_17 ?_
    refine lv_iload_n hx hb d_Tokens_add_20 rfl (lv_at hl 1 rfl) ?_
    refine va_iast hx hb hK hP hD hS 1 0 rfl rfl (vp_in_nI (by omega) (by omega)) d_Tokens_add_21 (fun H locs hP hD hS => ?_)
    generalize upd f_kinds ((nI n_size) : Int32).toNatClampNeg y0 = f2 at hP hD
    have hP : va_P (dC, dI) vcl [(a_t, .inr (11, [.ref a_kinds, .ref a_values, .int (nI n_size)])), (a_kinds, .inl (ka_kinds, cap, .inl f2)), (a_values, .inl (ka_values, cap, .inr (.inl f_values)))] H := hP
    have hD : va_D A [(a_t, .inr (11, [.ref a_kinds, .ref a_values, .int (nI n_size)])), (a_kinds, .inl (ka_kinds, cap, .inl f2)), (a_values, .inl (ka_values, cap, .inr (.inl f_values)))] := hD
    refine lv_aload_n hx hb d_Tokens_add_22 rfl (lv_at hl 0 rfl) ?_
    refine va_get (D := (dC, dI)) (ci := 11) (v := .ref a_values) (C := R_Tokens) (T := F_Tokens) (N := 3) hx hb hz zu_Tokens hown hK hP 0 rfl rfl 1 (by decide) (hz (.fieldLink R_Tokens 15 "LayoutFront$Tokens" "values" "[J") zm_29) (fun _ h9 => h9) rfl d_Tokens_add_23 ?_
    refine lv_aload_n hx hb d_Tokens_add_26 rfl (lv_at hl 0 rfl) ?_
    refine va_get (D := (dC, dI)) (ci := 11) (v := .int (nI n_size)) (C := R_Tokens) (T := F_Tokens) (N := 3) hx hb hz zu_Tokens hown hK hP 0 rfl rfl 2 (by decide) (hz (.fieldLink R_Tokens 19 "LayoutFront$Tokens" "size" "I") zm_31) (fun _ h9 => h9) rfl d_Tokens_add_27 ?_
    refine lv_lload_n hx hb d_Tokens_add_30 rfl (lv_at hl 2 rfl) ?_
    refine va_last hx hb hK hP hD hS 2 1 rfl rfl (vp_in_nI (by omega) (by omega)) d_Tokens_add_31 (fun H locs hP hD hS => ?_)
    generalize vp_updL f_values ((nI n_size) : Int32).toNatClampNeg y1 = f3 at hP hD
    have hP : va_P (dC, dI) vcl [(a_t, .inr (11, [.ref a_kinds, .ref a_values, .int (nI n_size)])), (a_kinds, .inl (ka_kinds, cap, .inl f2)), (a_values, .inl (ka_values, cap, .inr (.inl f3)))] H := hP
    have hD : va_D A [(a_t, .inr (11, [.ref a_kinds, .ref a_values, .int (nI n_size)])), (a_kinds, .inl (ka_kinds, cap, .inl f2)), (a_values, .inl (ka_values, cap, .inr (.inl f3)))] := hD
    refine lv_aload_n hx hb d_Tokens_add_32 rfl (lv_at hl 0 rfl) ?_
    refine lv_dup hx hb d_Tokens_add_33 rfl ?_
    refine va_get (D := (dC, dI)) (ci := 11) (v := .int (nI n_size)) (C := R_Tokens) (T := F_Tokens) (N := 3) hx hb hz zu_Tokens hown hK hP 0 rfl rfl 2 (by decide) (hz (.fieldLink R_Tokens 19 "LayoutFront$Tokens" "size" "I") zm_31) (fun _ h9 => h9) rfl d_Tokens_add_34 ?_
    refine lv_iconst (v := 1) hx hb d_Tokens_add_37 (by decide) ?_
    refine xr_iadd (v := (nI (n_size + 1))) hx hb d_Tokens_add_38 (nI_add n_size 1) ?_
    refine va_put (D := (dC, dI)) (ci := 11) (v := .int (nI (n_size + 1))) (ty := .int) (C := R_Tokens) (T := F_Tokens) (N := 3) hx hb hz zu_Tokens t_Tokens t_Tokens_ok n_Tokens hown hK hP hD hS 0 rfl rfl 2 (by decide) (hz (.fieldLink R_Tokens 19 "LayoutFront$Tokens" "size" "I") zm_31) (fun _ h9 => h9) rfl (by decide +kernel) rfl rfl (Nat.le_of_ble_eq_true rfl) d_Tokens_add_39 (fun H locs hP hD hS => ?_)
    have hP : va_P (dC, dI) vcl [(a_t, .inr (11, [.ref a_kinds, .ref a_values, .int (nI (n_size + 1))])), (a_kinds, .inl (ka_kinds, cap, .inl f2)), (a_values, .inl (ka_values, cap, .inr (.inl f3)))] H := hP
    have hD : va_D A [(a_t, .inr (11, [.ref a_kinds, .ref a_values, .int (nI (n_size + 1))])), (a_kinds, .inl (ka_kinds, cap, .inl f2)), (a_values, .inl (ka_values, cap, .inr (.inl f3)))] := hD
    have hP9 := hP.sub (ws' := [(a_t, .inr (11, [.ref a_kinds, .ref a_values, .int (nI (n_size + 1))])), (a_kinds, .inl (ka_kinds, cap, .inl f2)), (a_values, .inl (ka_values, cap, .inr (.inl f3)))]) [0, 1, 2] rfl
    have hD9 := hD.sub (ws' := [(a_t, .inr (11, [.ref a_kinds, .ref a_values, .int (nI (n_size + 1))])), (a_kinds, .inl (ka_kinds, cap, .inl f2)), (a_values, .inl (ka_values, cap, .inr (.inl f3)))]) [0, 1, 2] (by decide) rfl
    exact W.vret hx hb hr (fun t ht hW => ⟨⟨(), rfl, trivial, ((n_size + 1)), f2, f3, by first | omega | assumption | exact Or.inl rfl | exact Or.inr rfl, by rw [ht]; exact hP9, va_K.moved hW.alike hK, hD9⟩, hS.F ht⟩) hS.2.2 d_Tokens_add_42
set_option maxHeartbeats 4000000 in
set_option maxRecDepth 100000 in
theorem s_Tokens_has (l : Launch) (dC : Nat → ClassId) (dI : Nat → Nat → Nat) (sz : Nat) (a_t : Nat) (a_kinds : Nat) (a_values : Nat) (n_size : Nat) (y0 : Int32) : Met l y_Tokens_has w_Tokens_has ({ frames := 0, cells := 0, slots := 0, locals := 0 }) (va_Pc [.ref a_t, .int y0] (fun U => U.heap.size = sz ∧ va_P (dC, dI) vcl [(a_t, .inr (11, [.ref a_kinds, .ref a_values, .int (nI n_size)]))] U.heap ∧ va_K (dC, dI) vcl [] U ∧ va_D (fun _ => True) [(a_t, .inr (11, [.ref a_kinds, .ref a_values, .int (nI n_size)]))])) (va_Qi (fun (r : Int32) (_ : Unit) => (r = 0 ∨ r = 1) ∧ (¬ r = 0 → 0 ≤ y0 ∧ y0 < (nI n_size))) (fun _ t => va_P (dC, dI) vcl [(a_t, .inr (11, [.ref a_kinds, .ref a_values, .int (nI n_size)]))] t.heap ∧ va_K (dC, dI) vcl [] t ∧ va_D (va_A [(a_t, .inr (11, [.ref a_kinds, .ref a_values, .int (nI n_size)]))] sz) [(a_t, .inr (11, [.ref a_kinds, .ref a_values, .int (nI n_size)]))]) (va_A [(a_t, .inr (11, [.ref a_kinds, .ref a_values, .int (nI n_size)]))] sz)) 0 0 (va_A [(a_t, .inr (11, [.ref a_kinds, .ref a_values, .int (nI n_size)]))] sz) := by
  refine Met.ofW (cc := b_Tokens_has) (maxL := 2) (ret := (some .boolean)) (by decide) rfl ?_
  intro p e s m args below meth c s₁ B hml hv
  obtain ⟨rfl, hsz, hP, hK, hD0⟩ := hv
  have hx := B.exec
  have hb := B.bytes
  have hr := B.returns
  have hts := atoms_spec (ws := w_Tokens_has) B.pre
  have hz : ∀ w ∈ wz, w.before _ s = true := fun w h => hts w (List.mem_cons_of_mem _ h)
  have hown : s.vm.findClass R_Tokens = some m.cls := findClass_of_methodNamed B.named
  have hlocks := B.notSynchronized
  subst hsz
  have hD := hD0.self (sz := s.heap.size)
  generalize hAe : va_A [(a_t, .inr (11, [.ref a_kinds, .ref a_values, .int (nI n_size)]))] s.heap.size = A at hD ⊢
  have hA : ∀ q : Nat, s.heap.size ≤ q → A q := fun q h => by rw [← hAe]; exact Or.inr h
  have hS : va_S A s.heap s.heap [] := va_S.rf
  have hP : va_P (dC, dI) vcl [(a_t, .inr (11, [.ref a_kinds, .ref a_values, .int (nI n_size)]))] s.heap := hP
  have hl := lv_entry ([.ref a_t, .int y0]) (n := 2) (Nat.le_of_ble_eq_true rfl)
  rw [lg_entry_eq]
  generalize (lg_sl ([.ref a_t, .int y0]) ++ List.replicate (2 - (lg_sl ([.ref a_t, .int y0])).length) Slot.unset).toArray = ls at hl ⊢
  have hl : lv_has ls 2 [(0, .ref a_t), (1, .int y0)] := hl
  refine lv_iload_n hx hb d_Tokens_has_0 rfl (lv_at hl 1 rfl) ?_
  refine lv_if_lt (tgt := 16) hx hb d_Tokens_has_1 (by decide) (fun h1 => ?_) (fun h1 => ?_)
  · refine lv_iconst (v := 0) hx hb d_Tokens_has_16 (by decide) ?_
    have hP9 := hP.sub (ws' := [(a_t, .inr (11, [.ref a_kinds, .ref a_values, .int (nI n_size)]))]) [0] rfl
    have hD9 := hD.sub (ws' := [(a_t, .inr (11, [.ref a_kinds, .ref a_values, .int (nI n_size)]))]) [0] (by decide) rfl
    exact W.zret (v := 0) hx hb hr (by decide +kernel) (fun t ht hW => ⟨⟨0, (), rfl, ⟨(by first | assumption | exact Or.inl rfl | exact Or.inr rfl), fun h => absurd rfl h⟩, by rw [ht]; exact hP9, va_K.moved hW.alike hK, hD9⟩, hS.F ht⟩) hS.2.2 d_Tokens_has_17
  · refine lv_iload_n hx hb d_Tokens_has_4 rfl (lv_at hl 1 rfl) ?_
    refine lv_aload_n hx hb d_Tokens_has_5 rfl (lv_at hl 0 rfl) ?_
    refine va_get (D := (dC, dI)) (ci := 11) (v := .int (nI n_size)) (C := R_Tokens) (T := F_Tokens) (N := 3) hx hb hz zu_Tokens hown hK hP 0 rfl rfl 2 (by decide) (hz (.fieldLink R_Tokens 19 "LayoutFront$Tokens" "size" "I") zm_31) (fun _ h9 => h9) rfl d_Tokens_has_6 ?_
    refine lv_icmp_ge (tgt := 16) hx hb d_Tokens_has_9 (by decide) (fun h2 => ?_) (fun h2 => ?_)
    · refine lv_iconst (v := 0) hx hb d_Tokens_has_16 (by decide) ?_
      have hP9 := hP.sub (ws' := [(a_t, .inr (11, [.ref a_kinds, .ref a_values, .int (nI n_size)]))]) [0] rfl
      have hD9 := hD.sub (ws' := [(a_t, .inr (11, [.ref a_kinds, .ref a_values, .int (nI n_size)]))]) [0] (by decide) rfl
      exact W.zret (v := 0) hx hb hr (by decide +kernel) (fun t ht hW => ⟨⟨0, (), rfl, ⟨(by first | assumption | exact Or.inl rfl | exact Or.inr rfl), fun h => absurd rfl h⟩, by rw [ht]; exact hP9, va_K.moved hW.alike hK, hD9⟩, hS.F ht⟩) hS.2.2 d_Tokens_has_17
    · refine lv_iconst (v := 1) hx hb d_Tokens_has_12 (by decide) ?_
      refine lv_goto (tgt := 17) hx hb d_Tokens_has_13 (by decide) ?_
      have hP9 := hP.sub (ws' := [(a_t, .inr (11, [.ref a_kinds, .ref a_values, .int (nI n_size)]))]) [0] rfl
      have hD9 := hD.sub (ws' := [(a_t, .inr (11, [.ref a_kinds, .ref a_values, .int (nI n_size)]))]) [0] (by decide) rfl
      exact W.zret (v := 1) hx hb hr (by decide +kernel) (fun t ht hW => ⟨⟨1, (), rfl, ⟨(by first | assumption | exact Or.inl rfl | exact Or.inr rfl), fun _ => ⟨(xr_ge0 h1), (Int32.not_le.mp h2)⟩⟩, by rw [ht]; exact hP9, va_K.moved hW.alike hK, hD9⟩, hS.F ht⟩) hS.2.2 d_Tokens_has_17
set_option maxHeartbeats 4000000 in
set_option maxRecDepth 100000 in
theorem s_Tokens_kindAt (l : Launch) (dC : Nat → ClassId) (dI : Nat → Nat → Nat) (sz : Nat) (cap : Nat) (a_t : Nat) (a_kinds : Nat) (f_kinds : Nat → Int32) (a_values : Nat) (n_size : Nat) (y0 : Int32) (ka_kinds : ClassId) (bcap : cap ≤ 600) (b_size : n_size ≤ cap) : Met l y_Tokens_kindAt w_Tokens_kindAt ({ frames := 1, cells := 0, slots := 0, locals := 21 }) (va_Pc [.ref a_t, .int y0] (fun U => U.heap.size = sz ∧ va_P (dC, dI) vcl [(a_t, .inr (11, [.ref a_kinds, .ref a_values, .int (nI n_size)])), (a_kinds, .inl (ka_kinds, cap, .inl f_kinds))] U.heap ∧ va_K (dC, dI) vcl [(ka_kinds, .int)] U ∧ va_D (fun _ => True) [(a_t, .inr (11, [.ref a_kinds, .ref a_values, .int (nI n_size)])), (a_kinds, .inl (ka_kinds, cap, .inl f_kinds))])) (va_Qi (fun (r : Int32) (_ : Unit) => True) (fun _ t => va_P (dC, dI) vcl [(a_t, .inr (11, [.ref a_kinds, .ref a_values, .int (nI n_size)])), (a_kinds, .inl (ka_kinds, cap, .inl f_kinds))] t.heap ∧ va_K (dC, dI) vcl [(ka_kinds, .int)] t ∧ va_D (va_A [(a_t, .inr (11, [.ref a_kinds, .ref a_values, .int (nI n_size)])), (a_kinds, .inl (ka_kinds, cap, .inl f_kinds))] sz) [(a_t, .inr (11, [.ref a_kinds, .ref a_values, .int (nI n_size)])), (a_kinds, .inl (ka_kinds, cap, .inl f_kinds))]) (va_A [(a_t, .inr (11, [.ref a_kinds, .ref a_values, .int (nI n_size)])), (a_kinds, .inl (ka_kinds, cap, .inl f_kinds))] sz)) 0 0 (va_A [(a_t, .inr (11, [.ref a_kinds, .ref a_values, .int (nI n_size)])), (a_kinds, .inl (ka_kinds, cap, .inl f_kinds))] sz) := by
  refine Met.ofW (cc := b_Tokens_kindAt) (maxL := 2) (ret := (some .int)) (by decide) rfl ?_
  intro p e s m args below meth c s₁ B hml hv
  obtain ⟨rfl, hsz, hP, hK, hD0⟩ := hv
  have hx := B.exec
  have hb := B.bytes
  have hr := B.returns
  have hts := atoms_spec (ws := w_Tokens_kindAt) B.pre
  have hz : ∀ w ∈ wz, w.before _ s = true := fun w h => hts w (List.mem_cons_of_mem _ h)
  have hown : s.vm.findClass R_Tokens = some m.cls := findClass_of_methodNamed B.named
  have hlocks := B.notSynchronized
  subst hsz
  have hD := hD0.self (sz := s.heap.size)
  generalize hAe : va_A [(a_t, .inr (11, [.ref a_kinds, .ref a_values, .int (nI n_size)])), (a_kinds, .inl (ka_kinds, cap, .inl f_kinds))] s.heap.size = A at hD ⊢
  have hA : ∀ q : Nat, s.heap.size ≤ q → A q := fun q h => by rw [← hAe]; exact Or.inr h
  have hS : va_S A s.heap s.heap [] := va_S.rf
  have hP : va_P (dC, dI) vcl [(a_t, .inr (11, [.ref a_kinds, .ref a_values, .int (nI n_size)])), (a_kinds, .inl (ka_kinds, cap, .inl f_kinds))] s.heap := hP
  have hl := lv_entry ([.ref a_t, .int y0]) (n := 2) (Nat.le_of_ble_eq_true rfl)
  rw [lg_entry_eq]
  generalize (lg_sl ([.ref a_t, .int y0]) ++ List.replicate (2 - (lg_sl ([.ref a_t, .int y0])).length) Slot.unset).toArray = ls at hl ⊢
  have hl : lv_has ls 2 [(0, .ref a_t), (1, .int y0)] := hl
  refine lv_aload_n hx hb d_Tokens_kindAt_0 rfl (lv_at hl 0 rfl) ?_
  refine lv_iload_n hx hb d_Tokens_kindAt_1 rfl (lv_at hl 1 rfl) ?_
  have hPc := hP.sub (ws' := [(a_t, .inr (11, [.ref a_kinds, .ref a_values, .int (nI n_size)]))]) [0] rfl
  have hDc := hD.sub (ws' := [(a_t, .inr (11, [.ref a_kinds, .ref a_values, .int (nI n_size)]))]) [0] (by decide) rfl
  have hKc := hK.sub (tys' := []) [] rfl
  have hFc := va_free (wc := [(a_t, .inr (11, [.ref a_kinds, .ref a_values, .int (nI n_size)]))]) hD hS hA [0] rfl
  refine va_calli (va_runV (As := [.int y0]) (rest := []) ⟨hx, hb, hml, hown, hz⟩ (s_Tokens_has l dC dI s.heap.size a_t a_kinds a_values n_size y0) (cwV 1 hz (zV zm_37 zm_38 zm_39 zm_35 zm_40) rfl rfl rfl (by decide +kernel) ⟨Nat.le_of_ble_eq_true rfl, Nat.le_of_ble_eq_true rfl⟩) ⟨fun a U g mk q => by obtain ⟨q0, q1, qP, qK, qD⟩ := q; exact ⟨q0, q1, qP, va_K.moved (u := U) (U := U.calling g mk a) (Vm.Alike.refl U.vm) qK, qD⟩, va_recv (q := (R_Tokens, F_Tokens, 3)) (q0 := 0) (ci := 11) hK hP rfl rfl, fun U hU hW => ⟨rfl, by rw [hU], by rw [hU]; exact hPc, va_K.moved hW.alike hKc, hDc.weaken (fun _ _ _ _ => trivial)⟩⟩ rfl rfl hl.1 rfl (lv_room (Nat.le_of_ble_eq_true rfl)) d_Tokens_kindAt_2 ⟨Nat.zero_le _, Nat.zero_le _⟩) hS (fun q _ h => hFc q h) hFc (fun x1 u t H1 locs ht hvm hw_x1 hB hz1 hk1 hS => ?_)
  obtain ⟨hP1, hK1, hD1⟩ := hB
  have hb_x1 := hw_x1.1
  rw [ht] at hP1
  obtain ⟨hP, hD⟩ := va_join (wr := [(a_kinds, .inl (ka_kinds, cap, .inl f_kinds))]) (w1 := [(a_t, .inr (11, [.ref a_kinds, .ref a_values, .int (nI n_size)]))]) hP hD [0] [1] rfl rfl (by decide) (by decide) hk1 hFc hP1 hD1
  generalize H1 = H at hP hS ⊢
  have hP : va_P (dC, dI) vcl [(a_kinds, .inl (ka_kinds, cap, .inl f_kinds)), (a_t, .inr (11, [.ref a_kinds, .ref a_values, .int (nI n_size)]))] H := hP
  have hD : va_D A [(a_kinds, .inl (ka_kinds, cap, .inl f_kinds)), (a_t, .inr (11, [.ref a_kinds, .ref a_values, .int (nI n_size)]))] := hD
  refine lv_if_eq (tgt := 17) hx hb d_Tokens_kindAt_5 (by decide) (fun h2 => ?_) (fun h2 => ?_)
  · refine lv_iconst (v := (-1)) hx hb d_Tokens_kindAt_17 (by decide) ?_
    have hP9 := hP.sub (ws' := [(a_t, .inr (11, [.ref a_kinds, .ref a_values, .int (nI n_size)])), (a_kinds, .inl (ka_kinds, cap, .inl f_kinds))]) [1, 0] rfl
    have hD9 := hD.sub (ws' := [(a_t, .inr (11, [.ref a_kinds, .ref a_values, .int (nI n_size)])), (a_kinds, .inl (ka_kinds, cap, .inl f_kinds))]) [1, 0] (by decide) rfl
    exact W.iret (v := (-1)) hx hb hr (fun t ht hW => ⟨⟨(-1), (), rfl, trivial, by rw [ht]; exact hP9, va_K.moved hW.alike hK, hD9⟩, hS.F ht⟩) hS.2.2 d_Tokens_kindAt_18
  · refine lv_aload_n hx hb d_Tokens_kindAt_8 rfl (lv_at hl 0 rfl) ?_
    refine va_get (D := (dC, dI)) (ci := 11) (v := .ref a_kinds) (C := R_Tokens) (T := F_Tokens) (N := 3) hx hb hz zu_Tokens hown hK hP 1 rfl rfl 0 (by decide) (hz (.fieldLink R_Tokens 9 "LayoutFront$Tokens" "kinds" "[I") zm_28) (fun _ h9 => h9) rfl d_Tokens_kindAt_9 ?_
    refine lv_iload_n hx hb d_Tokens_kindAt_12 rfl (lv_at hl 1 rfl) ?_
    refine va_iald hx hb hK hP 0 0 rfl rfl (xr_inr (hw_x1.2 h2).1 (hw_x1.2 h2).2 (by omega) (by omega)) d_Tokens_kindAt_13 ?_
    refine lv_topi (fun x3 e_x3 => ?_)
    refine lv_goto (tgt := 18) hx hb d_Tokens_kindAt_14 (by decide) ?_
    have hP9 := hP.sub (ws' := [(a_t, .inr (11, [.ref a_kinds, .ref a_values, .int (nI n_size)])), (a_kinds, .inl (ka_kinds, cap, .inl f_kinds))]) [1, 0] rfl
    have hD9 := hD.sub (ws' := [(a_t, .inr (11, [.ref a_kinds, .ref a_values, .int (nI n_size)])), (a_kinds, .inl (ka_kinds, cap, .inl f_kinds))]) [1, 0] (by decide) rfl
    exact W.iret (v := x3) hx hb hr (fun t ht hW => ⟨⟨x3, (), rfl, trivial, by rw [ht]; exact hP9, va_K.moved hW.alike hK, hD9⟩, hS.F ht⟩) hS.2.2 d_Tokens_kindAt_18
set_option maxHeartbeats 4000000 in
set_option maxRecDepth 100000 in
theorem s_Tokens_valueAt (l : Launch) (dC : Nat → ClassId) (dI : Nat → Nat → Nat) (sz : Nat) (cap : Nat) (a_t : Nat) (a_kinds : Nat) (a_values : Nat) (f_values : Nat → Int64) (n_size : Nat) (y0 : Int32) (ka_values : ClassId) (bcap : cap ≤ 600) (b_size : n_size ≤ cap) : Met l y_Tokens_valueAt w_Tokens_valueAt ({ frames := 1, cells := 0, slots := 0, locals := 21 }) (va_Pc [.ref a_t, .int y0] (fun U => U.heap.size = sz ∧ va_P (dC, dI) vcl [(a_t, .inr (11, [.ref a_kinds, .ref a_values, .int (nI n_size)])), (a_values, .inl (ka_values, cap, .inr (.inl f_values)))] U.heap ∧ va_K (dC, dI) vcl [(ka_values, .long)] U ∧ va_D (fun _ => True) [(a_t, .inr (11, [.ref a_kinds, .ref a_values, .int (nI n_size)])), (a_values, .inl (ka_values, cap, .inr (.inl f_values)))])) (va_Ql (fun (r : Int64) (_ : Unit) => True) (fun _ t => va_P (dC, dI) vcl [(a_t, .inr (11, [.ref a_kinds, .ref a_values, .int (nI n_size)])), (a_values, .inl (ka_values, cap, .inr (.inl f_values)))] t.heap ∧ va_K (dC, dI) vcl [(ka_values, .long)] t ∧ va_D (va_A [(a_t, .inr (11, [.ref a_kinds, .ref a_values, .int (nI n_size)])), (a_values, .inl (ka_values, cap, .inr (.inl f_values)))] sz) [(a_t, .inr (11, [.ref a_kinds, .ref a_values, .int (nI n_size)])), (a_values, .inl (ka_values, cap, .inr (.inl f_values)))]) (va_A [(a_t, .inr (11, [.ref a_kinds, .ref a_values, .int (nI n_size)])), (a_values, .inl (ka_values, cap, .inr (.inl f_values)))] sz)) 0 0 (va_A [(a_t, .inr (11, [.ref a_kinds, .ref a_values, .int (nI n_size)])), (a_values, .inl (ka_values, cap, .inr (.inl f_values)))] sz) := by
  refine Met.ofW (cc := b_Tokens_valueAt) (maxL := 2) (ret := (some .long)) (by decide) rfl ?_
  intro p e s m args below meth c s₁ B hml hv
  obtain ⟨rfl, hsz, hP, hK, hD0⟩ := hv
  have hx := B.exec
  have hb := B.bytes
  have hr := B.returns
  have hts := atoms_spec (ws := w_Tokens_valueAt) B.pre
  have hz : ∀ w ∈ wz, w.before _ s = true := fun w h => hts w (List.mem_cons_of_mem _ h)
  have hown : s.vm.findClass R_Tokens = some m.cls := findClass_of_methodNamed B.named
  have hlocks := B.notSynchronized
  subst hsz
  have hD := hD0.self (sz := s.heap.size)
  generalize hAe : va_A [(a_t, .inr (11, [.ref a_kinds, .ref a_values, .int (nI n_size)])), (a_values, .inl (ka_values, cap, .inr (.inl f_values)))] s.heap.size = A at hD ⊢
  have hA : ∀ q : Nat, s.heap.size ≤ q → A q := fun q h => by rw [← hAe]; exact Or.inr h
  have hS : va_S A s.heap s.heap [] := va_S.rf
  have hP : va_P (dC, dI) vcl [(a_t, .inr (11, [.ref a_kinds, .ref a_values, .int (nI n_size)])), (a_values, .inl (ka_values, cap, .inr (.inl f_values)))] s.heap := hP
  have hl := lv_entry ([.ref a_t, .int y0]) (n := 2) (Nat.le_of_ble_eq_true rfl)
  rw [lg_entry_eq]
  generalize (lg_sl ([.ref a_t, .int y0]) ++ List.replicate (2 - (lg_sl ([.ref a_t, .int y0])).length) Slot.unset).toArray = ls at hl ⊢
  have hl : lv_has ls 2 [(0, .ref a_t), (1, .int y0)] := hl
  refine lv_aload_n hx hb d_Tokens_valueAt_0 rfl (lv_at hl 0 rfl) ?_
  refine lv_iload_n hx hb d_Tokens_valueAt_1 rfl (lv_at hl 1 rfl) ?_
  have hPc := hP.sub (ws' := [(a_t, .inr (11, [.ref a_kinds, .ref a_values, .int (nI n_size)]))]) [0] rfl
  have hDc := hD.sub (ws' := [(a_t, .inr (11, [.ref a_kinds, .ref a_values, .int (nI n_size)]))]) [0] (by decide) rfl
  have hKc := hK.sub (tys' := []) [] rfl
  have hFc := va_free (wc := [(a_t, .inr (11, [.ref a_kinds, .ref a_values, .int (nI n_size)]))]) hD hS hA [0] rfl
  refine va_calli (va_runV (As := [.int y0]) (rest := []) ⟨hx, hb, hml, hown, hz⟩ (s_Tokens_has l dC dI s.heap.size a_t a_kinds a_values n_size y0) (cwV 1 hz (zV zm_37 zm_38 zm_39 zm_35 zm_40) rfl rfl rfl (by decide +kernel) ⟨Nat.le_of_ble_eq_true rfl, Nat.le_of_ble_eq_true rfl⟩) ⟨fun a U g mk q => by obtain ⟨q0, q1, qP, qK, qD⟩ := q; exact ⟨q0, q1, qP, va_K.moved (u := U) (U := U.calling g mk a) (Vm.Alike.refl U.vm) qK, qD⟩, va_recv (q := (R_Tokens, F_Tokens, 3)) (q0 := 0) (ci := 11) hK hP rfl rfl, fun U hU hW => ⟨rfl, by rw [hU], by rw [hU]; exact hPc, va_K.moved hW.alike hKc, hDc.weaken (fun _ _ _ _ => trivial)⟩⟩ rfl rfl hl.1 rfl (lv_room (Nat.le_of_ble_eq_true rfl)) d_Tokens_valueAt_2 ⟨Nat.zero_le _, Nat.zero_le _⟩) hS (fun q _ h => hFc q h) hFc (fun x1 u t H1 locs ht hvm hw_x1 hB hz1 hk1 hS => ?_)
  obtain ⟨hP1, hK1, hD1⟩ := hB
  have hb_x1 := hw_x1.1
  rw [ht] at hP1
  obtain ⟨hP, hD⟩ := va_join (wr := [(a_values, .inl (ka_values, cap, .inr (.inl f_values)))]) (w1 := [(a_t, .inr (11, [.ref a_kinds, .ref a_values, .int (nI n_size)]))]) hP hD [0] [1] rfl rfl (by decide) (by decide) hk1 hFc hP1 hD1
  generalize H1 = H at hP hS ⊢
  have hP : va_P (dC, dI) vcl [(a_values, .inl (ka_values, cap, .inr (.inl f_values))), (a_t, .inr (11, [.ref a_kinds, .ref a_values, .int (nI n_size)]))] H := hP
  have hD : va_D A [(a_values, .inl (ka_values, cap, .inr (.inl f_values))), (a_t, .inr (11, [.ref a_kinds, .ref a_values, .int (nI n_size)]))] := hD
  refine lv_if_eq (tgt := 17) hx hb d_Tokens_valueAt_5 (by decide) (fun h2 => ?_) (fun h2 => ?_)
  · refine lv_lconst (v := 0) hx hb d_Tokens_valueAt_17 (by decide) ?_
    have hP9 := hP.sub (ws' := [(a_t, .inr (11, [.ref a_kinds, .ref a_values, .int (nI n_size)])), (a_values, .inl (ka_values, cap, .inr (.inl f_values)))]) [1, 0] rfl
    have hD9 := hD.sub (ws' := [(a_t, .inr (11, [.ref a_kinds, .ref a_values, .int (nI n_size)])), (a_values, .inl (ka_values, cap, .inr (.inl f_values)))]) [1, 0] (by decide) rfl
    exact W.lret (v := 0) hx hb hr (fun t ht hW => ⟨⟨0, (), rfl, trivial, by rw [ht]; exact hP9, va_K.moved hW.alike hK, hD9⟩, hS.F ht⟩) hS.2.2 d_Tokens_valueAt_18
  · refine lv_aload_n hx hb d_Tokens_valueAt_8 rfl (lv_at hl 0 rfl) ?_
    refine va_get (D := (dC, dI)) (ci := 11) (v := .ref a_values) (C := R_Tokens) (T := F_Tokens) (N := 3) hx hb hz zu_Tokens hown hK hP 1 rfl rfl 1 (by decide) (hz (.fieldLink R_Tokens 15 "LayoutFront$Tokens" "values" "[J") zm_29) (fun _ h9 => h9) rfl d_Tokens_valueAt_9 ?_
    refine lv_iload_n hx hb d_Tokens_valueAt_12 rfl (lv_at hl 1 rfl) ?_
    refine va_lald hx hb hK hP 0 0 rfl rfl (xr_inr (hw_x1.2 h2).1 (hw_x1.2 h2).2 (by omega) (by omega)) d_Tokens_valueAt_13 ?_
    refine lv_topl (fun x3 e_x3 => ?_)
    refine lv_goto (tgt := 18) hx hb d_Tokens_valueAt_14 (by decide) ?_
    have hP9 := hP.sub (ws' := [(a_t, .inr (11, [.ref a_kinds, .ref a_values, .int (nI n_size)])), (a_values, .inl (ka_values, cap, .inr (.inl f_values)))]) [1, 0] rfl
    have hD9 := hD.sub (ws' := [(a_t, .inr (11, [.ref a_kinds, .ref a_values, .int (nI n_size)])), (a_values, .inl (ka_values, cap, .inr (.inl f_values)))]) [1, 0] (by decide) rfl
    exact W.lret (v := x3) hx hb hr (fun t ht hW => ⟨⟨x3, (), rfl, trivial, by rw [ht]; exact hP9, va_K.moved hW.alike hK, hD9⟩, hS.F ht⟩) hS.2.2 d_Tokens_valueAt_18
set_option maxHeartbeats 4000000 in
set_option maxRecDepth 100000 in
theorem s_Tokens_isSign (l : Launch) (dC : Nat → ClassId) (dI : Nat → Nat → Nat) (sz : Nat) (cap : Nat) (a_t : Nat) (a_kinds : Nat) (f_kinds : Nat → Int32) (a_values : Nat) (f_values : Nat → Int64) (n_size : Nat) (y0 : Int32) (y1 : Int32) (ka_kinds : ClassId) (ka_values : ClassId) (bcap : cap ≤ 600) (b_size : n_size ≤ cap) : Met l y_Tokens_isSign w_Tokens_isSign ({ frames := 0, cells := 0, slots := 0, locals := 0 }) (va_Pc [.ref a_t, .int y0, .int y1] (fun U => U.heap.size = sz ∧ va_P (dC, dI) vcl [(a_t, .inr (11, [.ref a_kinds, .ref a_values, .int (nI n_size)])), (a_kinds, .inl (ka_kinds, cap, .inl f_kinds)), (a_values, .inl (ka_values, cap, .inr (.inl f_values)))] U.heap ∧ va_K (dC, dI) vcl [(ka_kinds, .int), (ka_values, .long)] U ∧ va_D (fun _ => True) [(a_t, .inr (11, [.ref a_kinds, .ref a_values, .int (nI n_size)])), (a_kinds, .inl (ka_kinds, cap, .inl f_kinds)), (a_values, .inl (ka_values, cap, .inr (.inl f_values)))])) (va_Qi (fun (r : Int32) (_ : Unit) => r = 0 ∨ r = 1) (fun _ t => va_P (dC, dI) vcl [(a_t, .inr (11, [.ref a_kinds, .ref a_values, .int (nI n_size)])), (a_kinds, .inl (ka_kinds, cap, .inl f_kinds)), (a_values, .inl (ka_values, cap, .inr (.inl f_values)))] t.heap ∧ va_K (dC, dI) vcl [(ka_kinds, .int), (ka_values, .long)] t ∧ va_D (va_A [(a_t, .inr (11, [.ref a_kinds, .ref a_values, .int (nI n_size)])), (a_kinds, .inl (ka_kinds, cap, .inl f_kinds)), (a_values, .inl (ka_values, cap, .inr (.inl f_values)))] sz) [(a_t, .inr (11, [.ref a_kinds, .ref a_values, .int (nI n_size)])), (a_kinds, .inl (ka_kinds, cap, .inl f_kinds)), (a_values, .inl (ka_values, cap, .inr (.inl f_values)))]) (va_A [(a_t, .inr (11, [.ref a_kinds, .ref a_values, .int (nI n_size)])), (a_kinds, .inl (ka_kinds, cap, .inl f_kinds)), (a_values, .inl (ka_values, cap, .inr (.inl f_values)))] sz)) 0 0 (va_A [(a_t, .inr (11, [.ref a_kinds, .ref a_values, .int (nI n_size)])), (a_kinds, .inl (ka_kinds, cap, .inl f_kinds)), (a_values, .inl (ka_values, cap, .inr (.inl f_values)))] sz) := by
  refine Met.ofW (cc := b_Tokens_isSign) (maxL := 3) (ret := (some .boolean)) (by decide) rfl ?_
  intro p e s m args below meth c s₁ B hml hv
  obtain ⟨rfl, hsz, hP, hK, hD0⟩ := hv
  have hx := B.exec
  have hb := B.bytes
  have hr := B.returns
  have hts := atoms_spec (ws := w_Tokens_isSign) B.pre
  have hz : ∀ w ∈ wz, w.before _ s = true := fun w h => hts w (List.mem_cons_of_mem _ h)
  have hown : s.vm.findClass R_Tokens = some m.cls := findClass_of_methodNamed B.named
  have hlocks := B.notSynchronized
  subst hsz
  have hD := hD0.self (sz := s.heap.size)
  generalize hAe : va_A [(a_t, .inr (11, [.ref a_kinds, .ref a_values, .int (nI n_size)])), (a_kinds, .inl (ka_kinds, cap, .inl f_kinds)), (a_values, .inl (ka_values, cap, .inr (.inl f_values)))] s.heap.size = A at hD ⊢
  have hA : ∀ q : Nat, s.heap.size ≤ q → A q := fun q h => by rw [← hAe]; exact Or.inr h
  have hS : va_S A s.heap s.heap [] := va_S.rf
  have hP : va_P (dC, dI) vcl [(a_t, .inr (11, [.ref a_kinds, .ref a_values, .int (nI n_size)])), (a_kinds, .inl (ka_kinds, cap, .inl f_kinds)), (a_values, .inl (ka_values, cap, .inr (.inl f_values)))] s.heap := hP
  have hl := lv_entry ([.ref a_t, .int y0, .int y1]) (n := 3) (Nat.le_of_ble_eq_true rfl)
  rw [lg_entry_eq]
  generalize (lg_sl ([.ref a_t, .int y0, .int y1]) ++ List.replicate (3 - (lg_sl ([.ref a_t, .int y0, .int y1])).length) Slot.unset).toArray = ls at hl ⊢
  have hl : lv_has ls 3 [(0, .ref a_t), (1, .int y0), (2, .int y1)] := hl
  refine lv_iload_n hx hb d_Tokens_isSign_0 rfl (lv_at hl 1 rfl) ?_
  refine lv_if_lt (tgt := 38) hx hb d_Tokens_isSign_1 (by decide) (fun h1 => ?_) (fun h1 => ?_)
  · refine lv_iconst (v := 0) hx hb d_Tokens_isSign_38 (by decide) ?_
    have hP9 := hP.sub (ws' := [(a_t, .inr (11, [.ref a_kinds, .ref a_values, .int (nI n_size)])), (a_kinds, .inl (ka_kinds, cap, .inl f_kinds)), (a_values, .inl (ka_values, cap, .inr (.inl f_values)))]) [0, 1, 2] rfl
    have hD9 := hD.sub (ws' := [(a_t, .inr (11, [.ref a_kinds, .ref a_values, .int (nI n_size)])), (a_kinds, .inl (ka_kinds, cap, .inl f_kinds)), (a_values, .inl (ka_values, cap, .inr (.inl f_values)))]) [0, 1, 2] (by decide) rfl
    exact W.zret (v := 0) hx hb hr (by decide +kernel) (fun t ht hW => ⟨⟨0, (), rfl, (by first | assumption | exact Or.inl rfl | exact Or.inr rfl), by rw [ht]; exact hP9, va_K.moved hW.alike hK, hD9⟩, hS.F ht⟩) hS.2.2 d_Tokens_isSign_39
  · refine lv_iload_n hx hb d_Tokens_isSign_4 rfl (lv_at hl 1 rfl) ?_
    refine lv_aload_n hx hb d_Tokens_isSign_5 rfl (lv_at hl 0 rfl) ?_
    refine va_get (D := (dC, dI)) (ci := 11) (v := .int (nI n_size)) (C := R_Tokens) (T := F_Tokens) (N := 3) hx hb hz zu_Tokens hown hK hP 0 rfl rfl 2 (by decide) (hz (.fieldLink R_Tokens 19 "LayoutFront$Tokens" "size" "I") zm_31) (fun _ h9 => h9) rfl d_Tokens_isSign_6 ?_
    refine lv_icmp_ge (tgt := 38) hx hb d_Tokens_isSign_9 (by decide) (fun h2 => ?_) (fun h2 => ?_)
    · refine lv_iconst (v := 0) hx hb d_Tokens_isSign_38 (by decide) ?_
      have hP9 := hP.sub (ws' := [(a_t, .inr (11, [.ref a_kinds, .ref a_values, .int (nI n_size)])), (a_kinds, .inl (ka_kinds, cap, .inl f_kinds)), (a_values, .inl (ka_values, cap, .inr (.inl f_values)))]) [0, 1, 2] rfl
      have hD9 := hD.sub (ws' := [(a_t, .inr (11, [.ref a_kinds, .ref a_values, .int (nI n_size)])), (a_kinds, .inl (ka_kinds, cap, .inl f_kinds)), (a_values, .inl (ka_values, cap, .inr (.inl f_values)))]) [0, 1, 2] (by decide) rfl
      exact W.zret (v := 0) hx hb hr (by decide +kernel) (fun t ht hW => ⟨⟨0, (), rfl, (by first | assumption | exact Or.inl rfl | exact Or.inr rfl), by rw [ht]; exact hP9, va_K.moved hW.alike hK, hD9⟩, hS.F ht⟩) hS.2.2 d_Tokens_isSign_39
    · refine lv_aload_n hx hb d_Tokens_isSign_12 rfl (lv_at hl 0 rfl) ?_
      refine va_get (D := (dC, dI)) (ci := 11) (v := .ref a_kinds) (C := R_Tokens) (T := F_Tokens) (N := 3) hx hb hz zu_Tokens hown hK hP 0 rfl rfl 0 (by decide) (hz (.fieldLink R_Tokens 9 "LayoutFront$Tokens" "kinds" "[I") zm_28) (fun _ h9 => h9) rfl d_Tokens_isSign_13 ?_
      refine lv_iload_n hx hb d_Tokens_isSign_16 rfl (lv_at hl 1 rfl) ?_
      refine va_iald hx hb hK hP 1 0 rfl rfl (xr_inr (xr_ge0 h1) (Int32.not_le.mp h2) (by omega) (by omega)) d_Tokens_isSign_17 ?_
      refine lv_topi (fun x3 e_x3 => ?_)
      refine lv_iconst (v := 3) hx hb d_Tokens_isSign_18 (by decide) ?_
      refine lv_icmp_ne (tgt := 38) hx hb d_Tokens_isSign_19 (by decide) (fun h4 => ?_) (fun h4 => ?_)
      · refine lv_iconst (v := 0) hx hb d_Tokens_isSign_38 (by decide) ?_
        have hP9 := hP.sub (ws' := [(a_t, .inr (11, [.ref a_kinds, .ref a_values, .int (nI n_size)])), (a_kinds, .inl (ka_kinds, cap, .inl f_kinds)), (a_values, .inl (ka_values, cap, .inr (.inl f_values)))]) [0, 1, 2] rfl
        have hD9 := hD.sub (ws' := [(a_t, .inr (11, [.ref a_kinds, .ref a_values, .int (nI n_size)])), (a_kinds, .inl (ka_kinds, cap, .inl f_kinds)), (a_values, .inl (ka_values, cap, .inr (.inl f_values)))]) [0, 1, 2] (by decide) rfl
        exact W.zret (v := 0) hx hb hr (by decide +kernel) (fun t ht hW => ⟨⟨0, (), rfl, (by first | assumption | exact Or.inl rfl | exact Or.inr rfl), by rw [ht]; exact hP9, va_K.moved hW.alike hK, hD9⟩, hS.F ht⟩) hS.2.2 d_Tokens_isSign_39
      · refine lv_aload_n hx hb d_Tokens_isSign_22 rfl (lv_at hl 0 rfl) ?_
        refine va_get (D := (dC, dI)) (ci := 11) (v := .ref a_values) (C := R_Tokens) (T := F_Tokens) (N := 3) hx hb hz zu_Tokens hown hK hP 0 rfl rfl 1 (by decide) (hz (.fieldLink R_Tokens 15 "LayoutFront$Tokens" "values" "[J") zm_29) (fun _ h9 => h9) rfl d_Tokens_isSign_23 ?_
        refine lv_iload_n hx hb d_Tokens_isSign_26 rfl (lv_at hl 1 rfl) ?_
        refine va_lald hx hb hK hP 2 1 rfl rfl (xr_inr (xr_ge0 h1) (Int32.not_le.mp h2) (by omega) (by omega)) d_Tokens_isSign_27 ?_
        refine lv_topl (fun x5 e_x5 => ?_)
        refine lv_iload_n hx hb d_Tokens_isSign_28 rfl (lv_at hl 2 rfl) ?_
        refine lv_i2l (v := y1.toInt64) hx hb d_Tokens_isSign_29 rfl ?_
        refine W.lcmp hx hb d_Tokens_isSign_30 ?_
        refine lv_if_ne (tgt := 38) hx hb d_Tokens_isSign_31 (by decide) (fun h6 => ?_) (fun h6 => ?_)
        · refine lv_iconst (v := 0) hx hb d_Tokens_isSign_38 (by decide) ?_
          have hP9 := hP.sub (ws' := [(a_t, .inr (11, [.ref a_kinds, .ref a_values, .int (nI n_size)])), (a_kinds, .inl (ka_kinds, cap, .inl f_kinds)), (a_values, .inl (ka_values, cap, .inr (.inl f_values)))]) [0, 1, 2] rfl
          have hD9 := hD.sub (ws' := [(a_t, .inr (11, [.ref a_kinds, .ref a_values, .int (nI n_size)])), (a_kinds, .inl (ka_kinds, cap, .inl f_kinds)), (a_values, .inl (ka_values, cap, .inr (.inl f_values)))]) [0, 1, 2] (by decide) rfl
          exact W.zret (v := 0) hx hb hr (by decide +kernel) (fun t ht hW => ⟨⟨0, (), rfl, (by first | assumption | exact Or.inl rfl | exact Or.inr rfl), by rw [ht]; exact hP9, va_K.moved hW.alike hK, hD9⟩, hS.F ht⟩) hS.2.2 d_Tokens_isSign_39
        · refine lv_iconst (v := 1) hx hb d_Tokens_isSign_34 (by decide) ?_
          refine lv_goto (tgt := 39) hx hb d_Tokens_isSign_35 (by decide) ?_
          have hP9 := hP.sub (ws' := [(a_t, .inr (11, [.ref a_kinds, .ref a_values, .int (nI n_size)])), (a_kinds, .inl (ka_kinds, cap, .inl f_kinds)), (a_values, .inl (ka_values, cap, .inr (.inl f_values)))]) [0, 1, 2] rfl
          have hD9 := hD.sub (ws' := [(a_t, .inr (11, [.ref a_kinds, .ref a_values, .int (nI n_size)])), (a_kinds, .inl (ka_kinds, cap, .inl f_kinds)), (a_values, .inl (ka_values, cap, .inr (.inl f_values)))]) [0, 1, 2] (by decide) rfl
          exact W.zret (v := 1) hx hb hr (by decide +kernel) (fun t ht hW => ⟨⟨1, (), rfl, (by first | assumption | exact Or.inl rfl | exact Or.inr rfl), by rw [ht]; exact hP9, va_K.moved hW.alike hK, hD9⟩, hS.F ht⟩) hS.2.2 d_Tokens_isSign_39
set_option maxHeartbeats 4000000 in
set_option maxRecDepth 100000 in
theorem s_Tokens_opensBracket (l : Launch) (dC : Nat → ClassId) (dI : Nat → Nat → Nat) (sz : Nat) (cap : Nat) (a_t : Nat) (a_kinds : Nat) (f_kinds : Nat → Int32) (a_values : Nat) (f_values : Nat → Int64) (n_size : Nat) (y0 : Int32) (ka_kinds : ClassId) (ka_values : ClassId) (bcap : cap ≤ 600) (b_size : n_size ≤ cap) : Met l y_Tokens_opensBracket w_Tokens_opensBracket ({ frames := 1, cells := 0, slots := 0, locals := 22 }) (va_Pc [.ref a_t, .int y0] (fun U => U.heap.size = sz ∧ va_P (dC, dI) vcl [(a_t, .inr (11, [.ref a_kinds, .ref a_values, .int (nI n_size)])), (a_kinds, .inl (ka_kinds, cap, .inl f_kinds)), (a_values, .inl (ka_values, cap, .inr (.inl f_values)))] U.heap ∧ va_K (dC, dI) vcl [(ka_kinds, .int), (ka_values, .long)] U ∧ va_D (fun _ => True) [(a_t, .inr (11, [.ref a_kinds, .ref a_values, .int (nI n_size)])), (a_kinds, .inl (ka_kinds, cap, .inl f_kinds)), (a_values, .inl (ka_values, cap, .inr (.inl f_values)))])) (va_Qi (fun (r : Int32) (_ : Unit) => r = 0 ∨ r = 1) (fun _ t => va_P (dC, dI) vcl [(a_t, .inr (11, [.ref a_kinds, .ref a_values, .int (nI n_size)])), (a_kinds, .inl (ka_kinds, cap, .inl f_kinds)), (a_values, .inl (ka_values, cap, .inr (.inl f_values)))] t.heap ∧ va_K (dC, dI) vcl [(ka_kinds, .int), (ka_values, .long)] t ∧ va_D (va_A [(a_t, .inr (11, [.ref a_kinds, .ref a_values, .int (nI n_size)])), (a_kinds, .inl (ka_kinds, cap, .inl f_kinds)), (a_values, .inl (ka_values, cap, .inr (.inl f_values)))] sz) [(a_t, .inr (11, [.ref a_kinds, .ref a_values, .int (nI n_size)])), (a_kinds, .inl (ka_kinds, cap, .inl f_kinds)), (a_values, .inl (ka_values, cap, .inr (.inl f_values)))]) (va_A [(a_t, .inr (11, [.ref a_kinds, .ref a_values, .int (nI n_size)])), (a_kinds, .inl (ka_kinds, cap, .inl f_kinds)), (a_values, .inl (ka_values, cap, .inr (.inl f_values)))] sz)) 0 0 (va_A [(a_t, .inr (11, [.ref a_kinds, .ref a_values, .int (nI n_size)])), (a_kinds, .inl (ka_kinds, cap, .inl f_kinds)), (a_values, .inl (ka_values, cap, .inr (.inl f_values)))] sz) := by
  refine Met.ofW (cc := b_Tokens_opensBracket) (maxL := 2) (ret := (some .boolean)) (by decide) rfl ?_
  intro p e s m args below meth c s₁ B hml hv
  obtain ⟨rfl, hsz, hP, hK, hD0⟩ := hv
  have hx := B.exec
  have hb := B.bytes
  have hr := B.returns
  have hts := atoms_spec (ws := w_Tokens_opensBracket) B.pre
  have hz : ∀ w ∈ wz, w.before _ s = true := fun w h => hts w (List.mem_cons_of_mem _ h)
  have hown : s.vm.findClass R_Tokens = some m.cls := findClass_of_methodNamed B.named
  have hlocks := B.notSynchronized
  subst hsz
  have hD := hD0.self (sz := s.heap.size)
  generalize hAe : va_A [(a_t, .inr (11, [.ref a_kinds, .ref a_values, .int (nI n_size)])), (a_kinds, .inl (ka_kinds, cap, .inl f_kinds)), (a_values, .inl (ka_values, cap, .inr (.inl f_values)))] s.heap.size = A at hD ⊢
  have hA : ∀ q : Nat, s.heap.size ≤ q → A q := fun q h => by rw [← hAe]; exact Or.inr h
  have hS : va_S A s.heap s.heap [] := va_S.rf
  have hP : va_P (dC, dI) vcl [(a_t, .inr (11, [.ref a_kinds, .ref a_values, .int (nI n_size)])), (a_kinds, .inl (ka_kinds, cap, .inl f_kinds)), (a_values, .inl (ka_values, cap, .inr (.inl f_values)))] s.heap := hP
  have hl := lv_entry ([.ref a_t, .int y0]) (n := 2) (Nat.le_of_ble_eq_true rfl)
  rw [lg_entry_eq]
  generalize (lg_sl ([.ref a_t, .int y0]) ++ List.replicate (2 - (lg_sl ([.ref a_t, .int y0])).length) Slot.unset).toArray = ls at hl ⊢
  have hl : lv_has ls 2 [(0, .ref a_t), (1, .int y0)] := hl
  refine lv_aload_n hx hb d_Tokens_opensBracket_0 rfl (lv_at hl 0 rfl) ?_
  refine lv_iload_n hx hb d_Tokens_opensBracket_1 rfl (lv_at hl 1 rfl) ?_
  refine lv_bipush (v := 40) hx hb d_Tokens_opensBracket_2 (by decide) ?_
  have hPc := hP.sub (ws' := [(a_t, .inr (11, [.ref a_kinds, .ref a_values, .int (nI n_size)])), (a_kinds, .inl (ka_kinds, cap, .inl f_kinds)), (a_values, .inl (ka_values, cap, .inr (.inl f_values)))]) [0, 1, 2] rfl
  have hDc := hD.sub (ws' := [(a_t, .inr (11, [.ref a_kinds, .ref a_values, .int (nI n_size)])), (a_kinds, .inl (ka_kinds, cap, .inl f_kinds)), (a_values, .inl (ka_values, cap, .inr (.inl f_values)))]) [0, 1, 2] (by decide) rfl
  have hKc := hK.sub (tys' := [(ka_kinds, .int), (ka_values, .long)]) [0, 1] rfl
  have hFc := va_free (wc := [(a_t, .inr (11, [.ref a_kinds, .ref a_values, .int (nI n_size)])), (a_kinds, .inl (ka_kinds, cap, .inl f_kinds)), (a_values, .inl (ka_values, cap, .inr (.inl f_values)))]) hD hS hA [0, 1, 2] rfl
  refine va_calli (va_runV (As := [.int y0, .int 40]) (rest := []) ⟨hx, hb, hml, hown, hz⟩ (s_Tokens_isSign l dC dI s.heap.size cap a_t a_kinds f_kinds a_values f_values n_size y0 40 ka_kinds ka_values (by first | omega | assumption | exact Or.inl rfl | exact Or.inr rfl) (by first | omega | assumption | exact Or.inl rfl | exact Or.inr rfl)) (cwV 2 hz (zV zm_41 zm_42 zm_43 zm_35 zm_44) rfl rfl rfl (by decide +kernel) ⟨Nat.le_of_ble_eq_true rfl, Nat.le_of_ble_eq_true rfl⟩) ⟨fun a U g mk q => by obtain ⟨q0, q1, qP, qK, qD⟩ := q; exact ⟨q0, q1, qP, va_K.moved (u := U) (U := U.calling g mk a) (Vm.Alike.refl U.vm) qK, qD⟩, va_recv (q := (R_Tokens, F_Tokens, 3)) (q0 := 0) (ci := 11) hK hP rfl rfl, fun U hU hW => ⟨rfl, by rw [hU], by rw [hU]; exact hPc, va_K.moved hW.alike hKc, hDc.weaken (fun _ _ _ _ => trivial)⟩⟩ rfl rfl hl.1 rfl (lv_room (Nat.le_of_ble_eq_true rfl)) d_Tokens_opensBracket_4 ⟨Nat.zero_le _, Nat.zero_le _⟩) hS (fun q _ h => hFc q h) hFc (fun x1 u t H1 locs ht hvm hw_x1 hB hz1 hk1 hS => ?_)
  obtain ⟨hP1, hK1, hD1⟩ := hB
  rw [ht] at hP1
  obtain ⟨hP, hD⟩ := va_join (wr := []) (w1 := [(a_t, .inr (11, [.ref a_kinds, .ref a_values, .int (nI n_size)])), (a_kinds, .inl (ka_kinds, cap, .inl f_kinds)), (a_values, .inl (ka_values, cap, .inr (.inl f_values)))]) hP hD [0, 1, 2] [] rfl rfl (by decide) (by decide) hk1 hFc hP1 hD1
  generalize H1 = H at hP hS ⊢
  have hP : va_P (dC, dI) vcl [(a_t, .inr (11, [.ref a_kinds, .ref a_values, .int (nI n_size)])), (a_kinds, .inl (ka_kinds, cap, .inl f_kinds)), (a_values, .inl (ka_values, cap, .inr (.inl f_values)))] H := hP
  have hD : va_D A [(a_t, .inr (11, [.ref a_kinds, .ref a_values, .int (nI n_size)])), (a_kinds, .inl (ka_kinds, cap, .inl f_kinds)), (a_values, .inl (ka_values, cap, .inr (.inl f_values)))] := hD
  refine lv_if_ne (tgt := 20) hx hb d_Tokens_opensBracket_7 (by decide) (fun h2 => ?_) (fun h2 => ?_)
  · refine lv_iconst (v := 1) hx hb d_Tokens_opensBracket_20 (by decide) ?_
    refine lv_goto (tgt := 25) hx hb d_Tokens_opensBracket_21 (by decide) ?_
    have hP9 := hP.sub (ws' := [(a_t, .inr (11, [.ref a_kinds, .ref a_values, .int (nI n_size)])), (a_kinds, .inl (ka_kinds, cap, .inl f_kinds)), (a_values, .inl (ka_values, cap, .inr (.inl f_values)))]) [0, 1, 2] rfl
    have hD9 := hD.sub (ws' := [(a_t, .inr (11, [.ref a_kinds, .ref a_values, .int (nI n_size)])), (a_kinds, .inl (ka_kinds, cap, .inl f_kinds)), (a_values, .inl (ka_values, cap, .inr (.inl f_values)))]) [0, 1, 2] (by decide) rfl
    exact W.zret (v := 1) hx hb hr (by decide +kernel) (fun t ht hW => ⟨⟨1, (), rfl, (by first | assumption | exact Or.inl rfl | exact Or.inr rfl), by rw [ht]; exact hP9, va_K.moved hW.alike hK, hD9⟩, hS.F ht⟩) hS.2.2 d_Tokens_opensBracket_25
  · refine lv_aload_n hx hb d_Tokens_opensBracket_10 rfl (lv_at hl 0 rfl) ?_
    refine lv_iload_n hx hb d_Tokens_opensBracket_11 rfl (lv_at hl 1 rfl) ?_
    refine lv_bipush (v := 91) hx hb d_Tokens_opensBracket_12 (by decide) ?_
    have hPc := hP.sub (ws' := [(a_t, .inr (11, [.ref a_kinds, .ref a_values, .int (nI n_size)])), (a_kinds, .inl (ka_kinds, cap, .inl f_kinds)), (a_values, .inl (ka_values, cap, .inr (.inl f_values)))]) [0, 1, 2] rfl
    have hDc := hD.sub (ws' := [(a_t, .inr (11, [.ref a_kinds, .ref a_values, .int (nI n_size)])), (a_kinds, .inl (ka_kinds, cap, .inl f_kinds)), (a_values, .inl (ka_values, cap, .inr (.inl f_values)))]) [0, 1, 2] (by decide) rfl
    have hKc := hK.sub (tys' := [(ka_kinds, .int), (ka_values, .long)]) [0, 1] rfl
    have hFc := va_free (wc := [(a_t, .inr (11, [.ref a_kinds, .ref a_values, .int (nI n_size)])), (a_kinds, .inl (ka_kinds, cap, .inl f_kinds)), (a_values, .inl (ka_values, cap, .inr (.inl f_values)))]) hD hS hA [0, 1, 2] rfl
    refine va_calli (va_runV (As := [.int y0, .int 91]) (rest := []) ⟨hx, hb, hml, hown, hz⟩ (s_Tokens_isSign l dC dI H.size cap a_t a_kinds f_kinds a_values f_values n_size y0 91 ka_kinds ka_values (by first | omega | assumption | exact Or.inl rfl | exact Or.inr rfl) (by first | omega | assumption | exact Or.inl rfl | exact Or.inr rfl)) (cwV 2 hz (zV zm_41 zm_42 zm_43 zm_35 zm_44) rfl rfl rfl (by decide +kernel) ⟨Nat.le_of_ble_eq_true rfl, Nat.le_of_ble_eq_true rfl⟩) ⟨fun a U g mk q => by obtain ⟨q0, q1, qP, qK, qD⟩ := q; exact ⟨q0, q1, qP, va_K.moved (u := U) (U := U.calling g mk a) (Vm.Alike.refl U.vm) qK, qD⟩, va_recv (q := (R_Tokens, F_Tokens, 3)) (q0 := 0) (ci := 11) hK hP rfl rfl, fun U hU hW => ⟨rfl, by rw [hU], by rw [hU]; exact hPc, va_K.moved hW.alike hKc, hDc.weaken (fun _ _ _ _ => trivial)⟩⟩ rfl rfl hl.1 rfl (lv_room (Nat.le_of_ble_eq_true rfl)) d_Tokens_opensBracket_14 ⟨Nat.zero_le _, Nat.zero_le _⟩) hS (fun q _ h => hFc q h) hFc (fun x3 u t H1 locs ht hvm hw_x3 hB hz1 hk1 hS => ?_)
    obtain ⟨hP1, hK1, hD1⟩ := hB
    rw [ht] at hP1
    obtain ⟨hP, hD⟩ := va_join (wr := []) (w1 := [(a_t, .inr (11, [.ref a_kinds, .ref a_values, .int (nI n_size)])), (a_kinds, .inl (ka_kinds, cap, .inl f_kinds)), (a_values, .inl (ka_values, cap, .inr (.inl f_values)))]) hP hD [0, 1, 2] [] rfl rfl (by decide) (by decide) hk1 hFc hP1 hD1
    generalize H1 = H at hP hS ⊢
    have hP : va_P (dC, dI) vcl [(a_t, .inr (11, [.ref a_kinds, .ref a_values, .int (nI n_size)])), (a_kinds, .inl (ka_kinds, cap, .inl f_kinds)), (a_values, .inl (ka_values, cap, .inr (.inl f_values)))] H := hP
    have hD : va_D A [(a_t, .inr (11, [.ref a_kinds, .ref a_values, .int (nI n_size)])), (a_kinds, .inl (ka_kinds, cap, .inl f_kinds)), (a_values, .inl (ka_values, cap, .inr (.inl f_values)))] := hD
    refine lv_if_eq (tgt := 24) hx hb d_Tokens_opensBracket_17 (by decide) (fun h4 => ?_) (fun h4 => ?_)
    · refine lv_iconst (v := 0) hx hb d_Tokens_opensBracket_24 (by decide) ?_
      have hP9 := hP.sub (ws' := [(a_t, .inr (11, [.ref a_kinds, .ref a_values, .int (nI n_size)])), (a_kinds, .inl (ka_kinds, cap, .inl f_kinds)), (a_values, .inl (ka_values, cap, .inr (.inl f_values)))]) [0, 1, 2] rfl
      have hD9 := hD.sub (ws' := [(a_t, .inr (11, [.ref a_kinds, .ref a_values, .int (nI n_size)])), (a_kinds, .inl (ka_kinds, cap, .inl f_kinds)), (a_values, .inl (ka_values, cap, .inr (.inl f_values)))]) [0, 1, 2] (by decide) rfl
      exact W.zret (v := 0) hx hb hr (by decide +kernel) (fun t ht hW => ⟨⟨0, (), rfl, (by first | assumption | exact Or.inl rfl | exact Or.inr rfl), by rw [ht]; exact hP9, va_K.moved hW.alike hK, hD9⟩, hS.F ht⟩) hS.2.2 d_Tokens_opensBracket_25
    · refine lv_iconst (v := 1) hx hb d_Tokens_opensBracket_20 (by decide) ?_
      refine lv_goto (tgt := 25) hx hb d_Tokens_opensBracket_21 (by decide) ?_
      have hP9 := hP.sub (ws' := [(a_t, .inr (11, [.ref a_kinds, .ref a_values, .int (nI n_size)])), (a_kinds, .inl (ka_kinds, cap, .inl f_kinds)), (a_values, .inl (ka_values, cap, .inr (.inl f_values)))]) [0, 1, 2] rfl
      have hD9 := hD.sub (ws' := [(a_t, .inr (11, [.ref a_kinds, .ref a_values, .int (nI n_size)])), (a_kinds, .inl (ka_kinds, cap, .inl f_kinds)), (a_values, .inl (ka_values, cap, .inr (.inl f_values)))]) [0, 1, 2] (by decide) rfl
      exact W.zret (v := 1) hx hb hr (by decide +kernel) (fun t ht hW => ⟨⟨1, (), rfl, (by first | assumption | exact Or.inl rfl | exact Or.inr rfl), by rw [ht]; exact hP9, va_K.moved hW.alike hK, hD9⟩, hS.F ht⟩) hS.2.2 d_Tokens_opensBracket_25
set_option maxHeartbeats 4000000 in
set_option maxRecDepth 100000 in
theorem s_Tokens_closesBracket (l : Launch) (dC : Nat → ClassId) (dI : Nat → Nat → Nat) (sz : Nat) (cap : Nat) (a_t : Nat) (a_kinds : Nat) (f_kinds : Nat → Int32) (a_values : Nat) (f_values : Nat → Int64) (n_size : Nat) (y0 : Int32) (ka_kinds : ClassId) (ka_values : ClassId) (bcap : cap ≤ 600) (b_size : n_size ≤ cap) : Met l y_Tokens_closesBracket w_Tokens_closesBracket ({ frames := 1, cells := 0, slots := 0, locals := 22 }) (va_Pc [.ref a_t, .int y0] (fun U => U.heap.size = sz ∧ va_P (dC, dI) vcl [(a_t, .inr (11, [.ref a_kinds, .ref a_values, .int (nI n_size)])), (a_kinds, .inl (ka_kinds, cap, .inl f_kinds)), (a_values, .inl (ka_values, cap, .inr (.inl f_values)))] U.heap ∧ va_K (dC, dI) vcl [(ka_kinds, .int), (ka_values, .long)] U ∧ va_D (fun _ => True) [(a_t, .inr (11, [.ref a_kinds, .ref a_values, .int (nI n_size)])), (a_kinds, .inl (ka_kinds, cap, .inl f_kinds)), (a_values, .inl (ka_values, cap, .inr (.inl f_values)))])) (va_Qi (fun (r : Int32) (_ : Unit) => r = 0 ∨ r = 1) (fun _ t => va_P (dC, dI) vcl [(a_t, .inr (11, [.ref a_kinds, .ref a_values, .int (nI n_size)])), (a_kinds, .inl (ka_kinds, cap, .inl f_kinds)), (a_values, .inl (ka_values, cap, .inr (.inl f_values)))] t.heap ∧ va_K (dC, dI) vcl [(ka_kinds, .int), (ka_values, .long)] t ∧ va_D (va_A [(a_t, .inr (11, [.ref a_kinds, .ref a_values, .int (nI n_size)])), (a_kinds, .inl (ka_kinds, cap, .inl f_kinds)), (a_values, .inl (ka_values, cap, .inr (.inl f_values)))] sz) [(a_t, .inr (11, [.ref a_kinds, .ref a_values, .int (nI n_size)])), (a_kinds, .inl (ka_kinds, cap, .inl f_kinds)), (a_values, .inl (ka_values, cap, .inr (.inl f_values)))]) (va_A [(a_t, .inr (11, [.ref a_kinds, .ref a_values, .int (nI n_size)])), (a_kinds, .inl (ka_kinds, cap, .inl f_kinds)), (a_values, .inl (ka_values, cap, .inr (.inl f_values)))] sz)) 0 0 (va_A [(a_t, .inr (11, [.ref a_kinds, .ref a_values, .int (nI n_size)])), (a_kinds, .inl (ka_kinds, cap, .inl f_kinds)), (a_values, .inl (ka_values, cap, .inr (.inl f_values)))] sz) := by
  refine Met.ofW (cc := b_Tokens_closesBracket) (maxL := 2) (ret := (some .boolean)) (by decide) rfl ?_
  intro p e s m args below meth c s₁ B hml hv
  obtain ⟨rfl, hsz, hP, hK, hD0⟩ := hv
  have hx := B.exec
  have hb := B.bytes
  have hr := B.returns
  have hts := atoms_spec (ws := w_Tokens_closesBracket) B.pre
  have hz : ∀ w ∈ wz, w.before _ s = true := fun w h => hts w (List.mem_cons_of_mem _ h)
  have hown : s.vm.findClass R_Tokens = some m.cls := findClass_of_methodNamed B.named
  have hlocks := B.notSynchronized
  subst hsz
  have hD := hD0.self (sz := s.heap.size)
  generalize hAe : va_A [(a_t, .inr (11, [.ref a_kinds, .ref a_values, .int (nI n_size)])), (a_kinds, .inl (ka_kinds, cap, .inl f_kinds)), (a_values, .inl (ka_values, cap, .inr (.inl f_values)))] s.heap.size = A at hD ⊢
  have hA : ∀ q : Nat, s.heap.size ≤ q → A q := fun q h => by rw [← hAe]; exact Or.inr h
  have hS : va_S A s.heap s.heap [] := va_S.rf
  have hP : va_P (dC, dI) vcl [(a_t, .inr (11, [.ref a_kinds, .ref a_values, .int (nI n_size)])), (a_kinds, .inl (ka_kinds, cap, .inl f_kinds)), (a_values, .inl (ka_values, cap, .inr (.inl f_values)))] s.heap := hP
  have hl := lv_entry ([.ref a_t, .int y0]) (n := 2) (Nat.le_of_ble_eq_true rfl)
  rw [lg_entry_eq]
  generalize (lg_sl ([.ref a_t, .int y0]) ++ List.replicate (2 - (lg_sl ([.ref a_t, .int y0])).length) Slot.unset).toArray = ls at hl ⊢
  have hl : lv_has ls 2 [(0, .ref a_t), (1, .int y0)] := hl
  refine lv_aload_n hx hb d_Tokens_closesBracket_0 rfl (lv_at hl 0 rfl) ?_
  refine lv_iload_n hx hb d_Tokens_closesBracket_1 rfl (lv_at hl 1 rfl) ?_
  refine lv_bipush (v := 41) hx hb d_Tokens_closesBracket_2 (by decide) ?_
  have hPc := hP.sub (ws' := [(a_t, .inr (11, [.ref a_kinds, .ref a_values, .int (nI n_size)])), (a_kinds, .inl (ka_kinds, cap, .inl f_kinds)), (a_values, .inl (ka_values, cap, .inr (.inl f_values)))]) [0, 1, 2] rfl
  have hDc := hD.sub (ws' := [(a_t, .inr (11, [.ref a_kinds, .ref a_values, .int (nI n_size)])), (a_kinds, .inl (ka_kinds, cap, .inl f_kinds)), (a_values, .inl (ka_values, cap, .inr (.inl f_values)))]) [0, 1, 2] (by decide) rfl
  have hKc := hK.sub (tys' := [(ka_kinds, .int), (ka_values, .long)]) [0, 1] rfl
  have hFc := va_free (wc := [(a_t, .inr (11, [.ref a_kinds, .ref a_values, .int (nI n_size)])), (a_kinds, .inl (ka_kinds, cap, .inl f_kinds)), (a_values, .inl (ka_values, cap, .inr (.inl f_values)))]) hD hS hA [0, 1, 2] rfl
  refine va_calli (va_runV (As := [.int y0, .int 41]) (rest := []) ⟨hx, hb, hml, hown, hz⟩ (s_Tokens_isSign l dC dI s.heap.size cap a_t a_kinds f_kinds a_values f_values n_size y0 41 ka_kinds ka_values (by first | omega | assumption | exact Or.inl rfl | exact Or.inr rfl) (by first | omega | assumption | exact Or.inl rfl | exact Or.inr rfl)) (cwV 2 hz (zV zm_41 zm_42 zm_43 zm_35 zm_44) rfl rfl rfl (by decide +kernel) ⟨Nat.le_of_ble_eq_true rfl, Nat.le_of_ble_eq_true rfl⟩) ⟨fun a U g mk q => by obtain ⟨q0, q1, qP, qK, qD⟩ := q; exact ⟨q0, q1, qP, va_K.moved (u := U) (U := U.calling g mk a) (Vm.Alike.refl U.vm) qK, qD⟩, va_recv (q := (R_Tokens, F_Tokens, 3)) (q0 := 0) (ci := 11) hK hP rfl rfl, fun U hU hW => ⟨rfl, by rw [hU], by rw [hU]; exact hPc, va_K.moved hW.alike hKc, hDc.weaken (fun _ _ _ _ => trivial)⟩⟩ rfl rfl hl.1 rfl (lv_room (Nat.le_of_ble_eq_true rfl)) d_Tokens_closesBracket_4 ⟨Nat.zero_le _, Nat.zero_le _⟩) hS (fun q _ h => hFc q h) hFc (fun x1 u t H1 locs ht hvm hw_x1 hB hz1 hk1 hS => ?_)
  obtain ⟨hP1, hK1, hD1⟩ := hB
  rw [ht] at hP1
  obtain ⟨hP, hD⟩ := va_join (wr := []) (w1 := [(a_t, .inr (11, [.ref a_kinds, .ref a_values, .int (nI n_size)])), (a_kinds, .inl (ka_kinds, cap, .inl f_kinds)), (a_values, .inl (ka_values, cap, .inr (.inl f_values)))]) hP hD [0, 1, 2] [] rfl rfl (by decide) (by decide) hk1 hFc hP1 hD1
  generalize H1 = H at hP hS ⊢
  have hP : va_P (dC, dI) vcl [(a_t, .inr (11, [.ref a_kinds, .ref a_values, .int (nI n_size)])), (a_kinds, .inl (ka_kinds, cap, .inl f_kinds)), (a_values, .inl (ka_values, cap, .inr (.inl f_values)))] H := hP
  have hD : va_D A [(a_t, .inr (11, [.ref a_kinds, .ref a_values, .int (nI n_size)])), (a_kinds, .inl (ka_kinds, cap, .inl f_kinds)), (a_values, .inl (ka_values, cap, .inr (.inl f_values)))] := hD
  refine lv_if_ne (tgt := 20) hx hb d_Tokens_closesBracket_7 (by decide) (fun h2 => ?_) (fun h2 => ?_)
  · refine lv_iconst (v := 1) hx hb d_Tokens_closesBracket_20 (by decide) ?_
    refine lv_goto (tgt := 25) hx hb d_Tokens_closesBracket_21 (by decide) ?_
    have hP9 := hP.sub (ws' := [(a_t, .inr (11, [.ref a_kinds, .ref a_values, .int (nI n_size)])), (a_kinds, .inl (ka_kinds, cap, .inl f_kinds)), (a_values, .inl (ka_values, cap, .inr (.inl f_values)))]) [0, 1, 2] rfl
    have hD9 := hD.sub (ws' := [(a_t, .inr (11, [.ref a_kinds, .ref a_values, .int (nI n_size)])), (a_kinds, .inl (ka_kinds, cap, .inl f_kinds)), (a_values, .inl (ka_values, cap, .inr (.inl f_values)))]) [0, 1, 2] (by decide) rfl
    exact W.zret (v := 1) hx hb hr (by decide +kernel) (fun t ht hW => ⟨⟨1, (), rfl, (by first | assumption | exact Or.inl rfl | exact Or.inr rfl), by rw [ht]; exact hP9, va_K.moved hW.alike hK, hD9⟩, hS.F ht⟩) hS.2.2 d_Tokens_closesBracket_25
  · refine lv_aload_n hx hb d_Tokens_closesBracket_10 rfl (lv_at hl 0 rfl) ?_
    refine lv_iload_n hx hb d_Tokens_closesBracket_11 rfl (lv_at hl 1 rfl) ?_
    refine lv_bipush (v := 93) hx hb d_Tokens_closesBracket_12 (by decide) ?_
    have hPc := hP.sub (ws' := [(a_t, .inr (11, [.ref a_kinds, .ref a_values, .int (nI n_size)])), (a_kinds, .inl (ka_kinds, cap, .inl f_kinds)), (a_values, .inl (ka_values, cap, .inr (.inl f_values)))]) [0, 1, 2] rfl
    have hDc := hD.sub (ws' := [(a_t, .inr (11, [.ref a_kinds, .ref a_values, .int (nI n_size)])), (a_kinds, .inl (ka_kinds, cap, .inl f_kinds)), (a_values, .inl (ka_values, cap, .inr (.inl f_values)))]) [0, 1, 2] (by decide) rfl
    have hKc := hK.sub (tys' := [(ka_kinds, .int), (ka_values, .long)]) [0, 1] rfl
    have hFc := va_free (wc := [(a_t, .inr (11, [.ref a_kinds, .ref a_values, .int (nI n_size)])), (a_kinds, .inl (ka_kinds, cap, .inl f_kinds)), (a_values, .inl (ka_values, cap, .inr (.inl f_values)))]) hD hS hA [0, 1, 2] rfl
    refine va_calli (va_runV (As := [.int y0, .int 93]) (rest := []) ⟨hx, hb, hml, hown, hz⟩ (s_Tokens_isSign l dC dI H.size cap a_t a_kinds f_kinds a_values f_values n_size y0 93 ka_kinds ka_values (by first | omega | assumption | exact Or.inl rfl | exact Or.inr rfl) (by first | omega | assumption | exact Or.inl rfl | exact Or.inr rfl)) (cwV 2 hz (zV zm_41 zm_42 zm_43 zm_35 zm_44) rfl rfl rfl (by decide +kernel) ⟨Nat.le_of_ble_eq_true rfl, Nat.le_of_ble_eq_true rfl⟩) ⟨fun a U g mk q => by obtain ⟨q0, q1, qP, qK, qD⟩ := q; exact ⟨q0, q1, qP, va_K.moved (u := U) (U := U.calling g mk a) (Vm.Alike.refl U.vm) qK, qD⟩, va_recv (q := (R_Tokens, F_Tokens, 3)) (q0 := 0) (ci := 11) hK hP rfl rfl, fun U hU hW => ⟨rfl, by rw [hU], by rw [hU]; exact hPc, va_K.moved hW.alike hKc, hDc.weaken (fun _ _ _ _ => trivial)⟩⟩ rfl rfl hl.1 rfl (lv_room (Nat.le_of_ble_eq_true rfl)) d_Tokens_closesBracket_14 ⟨Nat.zero_le _, Nat.zero_le _⟩) hS (fun q _ h => hFc q h) hFc (fun x3 u t H1 locs ht hvm hw_x3 hB hz1 hk1 hS => ?_)
    obtain ⟨hP1, hK1, hD1⟩ := hB
    rw [ht] at hP1
    obtain ⟨hP, hD⟩ := va_join (wr := []) (w1 := [(a_t, .inr (11, [.ref a_kinds, .ref a_values, .int (nI n_size)])), (a_kinds, .inl (ka_kinds, cap, .inl f_kinds)), (a_values, .inl (ka_values, cap, .inr (.inl f_values)))]) hP hD [0, 1, 2] [] rfl rfl (by decide) (by decide) hk1 hFc hP1 hD1
    generalize H1 = H at hP hS ⊢
    have hP : va_P (dC, dI) vcl [(a_t, .inr (11, [.ref a_kinds, .ref a_values, .int (nI n_size)])), (a_kinds, .inl (ka_kinds, cap, .inl f_kinds)), (a_values, .inl (ka_values, cap, .inr (.inl f_values)))] H := hP
    have hD : va_D A [(a_t, .inr (11, [.ref a_kinds, .ref a_values, .int (nI n_size)])), (a_kinds, .inl (ka_kinds, cap, .inl f_kinds)), (a_values, .inl (ka_values, cap, .inr (.inl f_values)))] := hD
    refine lv_if_eq (tgt := 24) hx hb d_Tokens_closesBracket_17 (by decide) (fun h4 => ?_) (fun h4 => ?_)
    · refine lv_iconst (v := 0) hx hb d_Tokens_closesBracket_24 (by decide) ?_
      have hP9 := hP.sub (ws' := [(a_t, .inr (11, [.ref a_kinds, .ref a_values, .int (nI n_size)])), (a_kinds, .inl (ka_kinds, cap, .inl f_kinds)), (a_values, .inl (ka_values, cap, .inr (.inl f_values)))]) [0, 1, 2] rfl
      have hD9 := hD.sub (ws' := [(a_t, .inr (11, [.ref a_kinds, .ref a_values, .int (nI n_size)])), (a_kinds, .inl (ka_kinds, cap, .inl f_kinds)), (a_values, .inl (ka_values, cap, .inr (.inl f_values)))]) [0, 1, 2] (by decide) rfl
      exact W.zret (v := 0) hx hb hr (by decide +kernel) (fun t ht hW => ⟨⟨0, (), rfl, (by first | assumption | exact Or.inl rfl | exact Or.inr rfl), by rw [ht]; exact hP9, va_K.moved hW.alike hK, hD9⟩, hS.F ht⟩) hS.2.2 d_Tokens_closesBracket_25
    · refine lv_iconst (v := 1) hx hb d_Tokens_closesBracket_20 (by decide) ?_
      refine lv_goto (tgt := 25) hx hb d_Tokens_closesBracket_21 (by decide) ?_
      have hP9 := hP.sub (ws' := [(a_t, .inr (11, [.ref a_kinds, .ref a_values, .int (nI n_size)])), (a_kinds, .inl (ka_kinds, cap, .inl f_kinds)), (a_values, .inl (ka_values, cap, .inr (.inl f_values)))]) [0, 1, 2] rfl
      have hD9 := hD.sub (ws' := [(a_t, .inr (11, [.ref a_kinds, .ref a_values, .int (nI n_size)])), (a_kinds, .inl (ka_kinds, cap, .inl f_kinds)), (a_values, .inl (ka_values, cap, .inr (.inl f_values)))]) [0, 1, 2] (by decide) rfl
      exact W.zret (v := 1) hx hb hr (by decide +kernel) (fun t ht hW => ⟨⟨1, (), rfl, (by first | assumption | exact Or.inl rfl | exact Or.inr rfl), by rw [ht]; exact hP9, va_K.moved hW.alike hK, hD9⟩, hS.F ht⟩) hS.2.2 d_Tokens_closesBracket_25
set_option maxHeartbeats 4000000 in
set_option maxRecDepth 100000 in
theorem s_Open_clear (l : Launch) (dC : Nat → ClassId) (dI : Nat → Nat → Nat) (sz : Nat) (a_t : Nat) (a_things : Nat) (n_size : Nat) (z_most : Int32) (b_size : n_size ≤ 181) : Met l y_Open_clear w_Open_clear ({ frames := 0, cells := 0, slots := 0, locals := 0 }) (va_Pc [.ref a_t] (fun U => U.heap.size = sz ∧ va_P (dC, dI) vcl [(a_t, .inr (6, [.ref a_things, .int (nI n_size), .int z_most]))] U.heap ∧ va_K (dC, dI) vcl [] U ∧ va_D (fun _ => True) [(a_t, .inr (6, [.ref a_things, .int (nI n_size), .int z_most]))])) (va_Qv (fun (_ : Unit) => True) (fun _ t => ∃ (w_n_size : Nat) (w_z_most : Int32), (w_n_size ≤ 181) ∧ va_P (dC, dI) vcl [(a_t, .inr (6, [.ref a_things, .int (nI w_n_size), .int w_z_most]))] t.heap ∧ va_K (dC, dI) vcl [] t ∧ va_D (va_A [(a_t, .inr (6, [.ref a_things, .int (nI n_size), .int z_most]))] sz) [(a_t, .inr (6, [.ref a_things, .int (nI w_n_size), .int w_z_most]))]) (va_A [(a_t, .inr (6, [.ref a_things, .int (nI n_size), .int z_most]))] sz)) 0 0 (va_A [(a_t, .inr (6, [.ref a_things, .int (nI n_size), .int z_most]))] sz) := by
  refine Met.ofW (cc := b_Open_clear) (maxL := 1) (ret := none) (by decide) rfl ?_
  intro p e s m args below meth c s₁ B hml hv
  obtain ⟨rfl, hsz, hP, hK, hD0⟩ := hv
  have hx := B.exec
  have hb := B.bytes
  have hr := B.returns
  have hts := atoms_spec (ws := w_Open_clear) B.pre
  have hz : ∀ w ∈ wz, w.before _ s = true := fun w h => hts w (List.mem_cons_of_mem _ h)
  have hown : s.vm.findClass R_Open = some m.cls := findClass_of_methodNamed B.named
  have hlocks := B.notSynchronized
  subst hsz
  have hD := hD0.self (sz := s.heap.size)
  generalize hAe : va_A [(a_t, .inr (6, [.ref a_things, .int (nI n_size), .int z_most]))] s.heap.size = A at hD ⊢
  have hA : ∀ q : Nat, s.heap.size ≤ q → A q := fun q h => by rw [← hAe]; exact Or.inr h
  have hS : va_S A s.heap s.heap [] := va_S.rf
  have hP : va_P (dC, dI) vcl [(a_t, .inr (6, [.ref a_things, .int (nI n_size), .int z_most]))] s.heap := hP
  have hl := lv_entry ([.ref a_t]) (n := 1) (Nat.le_of_ble_eq_true rfl)
  rw [lg_entry_eq]
  generalize (lg_sl ([.ref a_t]) ++ List.replicate (1 - (lg_sl ([.ref a_t])).length) Slot.unset).toArray = ls at hl ⊢
  have hl : lv_has ls 1 [(0, .ref a_t)] := hl
  refine lv_aload_n hx hb d_Open_clear_0 rfl (lv_at hl 0 rfl) ?_
  refine lv_iconst (v := 0) hx hb d_Open_clear_1 (by decide) ?_
  refine va_put (D := (dC, dI)) (ci := 6) (v := .int 0) (ty := .int) (C := R_Open) (T := F_Open) (N := 3) hx hb hz zu_Open t_Open t_Open_ok n_Open hown hK hP hD hS 0 rfl rfl 1 (by decide) (hz (.fieldLink R_Open 15 "LayoutFront$Open" "size" "I") zm_171) (fun _ h9 => h9) rfl (by decide +kernel) (by decide +kernel) rfl (Nat.le_of_ble_eq_true rfl) d_Open_clear_2 (fun H locs hP hD hS => ?_)
  have hP : va_P (dC, dI) vcl [(a_t, .inr (6, [.ref a_things, .int 0, .int z_most]))] H := hP
  have hD : va_D A [(a_t, .inr (6, [.ref a_things, .int 0, .int z_most]))] := hD
  refine lv_aload_n hx hb d_Open_clear_5 rfl (lv_at hl 0 rfl) ?_
  refine lv_iconst (v := 0) hx hb d_Open_clear_6 (by decide) ?_
  refine va_put (D := (dC, dI)) (ci := 6) (v := .int 0) (ty := .int) (C := R_Open) (T := F_Open) (N := 3) hx hb hz zu_Open t_Open t_Open_ok n_Open hown hK hP hD hS 0 rfl rfl 2 (by decide) (hz (.fieldLink R_Open 19 "LayoutFront$Open" "most" "I") zm_172) (fun _ h9 => h9) rfl (by decide +kernel) (by decide +kernel) rfl (Nat.le_of_ble_eq_true rfl) d_Open_clear_7 (fun H locs hP hD hS => ?_)
  have hP : va_P (dC, dI) vcl [(a_t, .inr (6, [.ref a_things, .int 0, .int 0]))] H := hP
  have hD : va_D A [(a_t, .inr (6, [.ref a_things, .int 0, .int 0]))] := hD
  have hP9 := hP.sub (ws' := [(a_t, .inr (6, [.ref a_things, .int 0, .int 0]))]) [0] rfl
  have hD9 := hD.sub (ws' := [(a_t, .inr (6, [.ref a_things, .int 0, .int 0]))]) [0] (by decide) rfl
  exact W.vret hx hb hr (fun t ht hW => ⟨⟨(), rfl, trivial, 0, 0, by first | omega | assumption | exact Or.inl rfl | exact Or.inr rfl, by rw [ht]; exact hP9, va_K.moved hW.alike hK, hD9⟩, hS.F ht⟩) hS.2.2 d_Open_clear_10
set_option maxHeartbeats 4000000 in
set_option maxRecDepth 100000 in
theorem s_Open_size (l : Launch) (dC : Nat → ClassId) (dI : Nat → Nat → Nat) (sz : Nat) (a_t : Nat) (a_things : Nat) (n_size : Nat) (z_most : Int32) (b_size : n_size ≤ 181) : Met l y_Open_size w_Open_size ({ frames := 0, cells := 0, slots := 0, locals := 0 }) (va_Pc [.ref a_t] (fun U => U.heap.size = sz ∧ va_P (dC, dI) vcl [(a_t, .inr (6, [.ref a_things, .int (nI n_size), .int z_most]))] U.heap ∧ va_K (dC, dI) vcl [] U ∧ va_D (fun _ => True) [(a_t, .inr (6, [.ref a_things, .int (nI n_size), .int z_most]))])) (va_Qi (fun (r : Int32) (_ : Unit) => r = (nI n_size)) (fun _ t => va_P (dC, dI) vcl [(a_t, .inr (6, [.ref a_things, .int (nI n_size), .int z_most]))] t.heap ∧ va_K (dC, dI) vcl [] t ∧ va_D (va_A [(a_t, .inr (6, [.ref a_things, .int (nI n_size), .int z_most]))] sz) [(a_t, .inr (6, [.ref a_things, .int (nI n_size), .int z_most]))]) (va_A [(a_t, .inr (6, [.ref a_things, .int (nI n_size), .int z_most]))] sz)) 0 0 (va_A [(a_t, .inr (6, [.ref a_things, .int (nI n_size), .int z_most]))] sz) := by
  refine Met.ofW (cc := b_Open_size) (maxL := 1) (ret := (some .int)) (by decide) rfl ?_
  intro p e s m args below meth c s₁ B hml hv
  obtain ⟨rfl, hsz, hP, hK, hD0⟩ := hv
  have hx := B.exec
  have hb := B.bytes
  have hr := B.returns
  have hts := atoms_spec (ws := w_Open_size) B.pre
  have hz : ∀ w ∈ wz, w.before _ s = true := fun w h => hts w (List.mem_cons_of_mem _ h)
  have hown : s.vm.findClass R_Open = some m.cls := findClass_of_methodNamed B.named
  have hlocks := B.notSynchronized
  subst hsz
  have hD := hD0.self (sz := s.heap.size)
  generalize hAe : va_A [(a_t, .inr (6, [.ref a_things, .int (nI n_size), .int z_most]))] s.heap.size = A at hD ⊢
  have hA : ∀ q : Nat, s.heap.size ≤ q → A q := fun q h => by rw [← hAe]; exact Or.inr h
  have hS : va_S A s.heap s.heap [] := va_S.rf
  have hP : va_P (dC, dI) vcl [(a_t, .inr (6, [.ref a_things, .int (nI n_size), .int z_most]))] s.heap := hP
  have hl := lv_entry ([.ref a_t]) (n := 1) (Nat.le_of_ble_eq_true rfl)
  rw [lg_entry_eq]
  generalize (lg_sl ([.ref a_t]) ++ List.replicate (1 - (lg_sl ([.ref a_t])).length) Slot.unset).toArray = ls at hl ⊢
  have hl : lv_has ls 1 [(0, .ref a_t)] := hl
  refine lv_aload_n hx hb d_Open_size_0 rfl (lv_at hl 0 rfl) ?_
  refine va_get (D := (dC, dI)) (ci := 6) (v := .int (nI n_size)) (C := R_Open) (T := F_Open) (N := 3) hx hb hz zu_Open hown hK hP 0 rfl rfl 1 (by decide) (hz (.fieldLink R_Open 15 "LayoutFront$Open" "size" "I") zm_171) (fun _ h9 => h9) rfl d_Open_size_1 ?_
  have hP9 := hP.sub (ws' := [(a_t, .inr (6, [.ref a_things, .int (nI n_size), .int z_most]))]) [0] rfl
  have hD9 := hD.sub (ws' := [(a_t, .inr (6, [.ref a_things, .int (nI n_size), .int z_most]))]) [0] (by decide) rfl
  exact W.iret (v := (nI n_size)) hx hb hr (fun t ht hW => ⟨⟨(nI n_size), (), rfl, rfl, by rw [ht]; exact hP9, va_K.moved hW.alike hK, hD9⟩, hS.F ht⟩) hS.2.2 d_Open_size_4
set_option maxHeartbeats 4000000 in
set_option maxRecDepth 100000 in
theorem s_Open_most (l : Launch) (dC : Nat → ClassId) (dI : Nat → Nat → Nat) (sz : Nat) (a_t : Nat) (a_things : Nat) (n_size : Nat) (z_most : Int32) (b_size : n_size ≤ 181) : Met l y_Open_most w_Open_most ({ frames := 0, cells := 0, slots := 0, locals := 0 }) (va_Pc [.ref a_t] (fun U => U.heap.size = sz ∧ va_P (dC, dI) vcl [(a_t, .inr (6, [.ref a_things, .int (nI n_size), .int z_most]))] U.heap ∧ va_K (dC, dI) vcl [] U ∧ va_D (fun _ => True) [(a_t, .inr (6, [.ref a_things, .int (nI n_size), .int z_most]))])) (va_Qi (fun (r : Int32) (_ : Unit) => True) (fun _ t => va_P (dC, dI) vcl [(a_t, .inr (6, [.ref a_things, .int (nI n_size), .int z_most]))] t.heap ∧ va_K (dC, dI) vcl [] t ∧ va_D (va_A [(a_t, .inr (6, [.ref a_things, .int (nI n_size), .int z_most]))] sz) [(a_t, .inr (6, [.ref a_things, .int (nI n_size), .int z_most]))]) (va_A [(a_t, .inr (6, [.ref a_things, .int (nI n_size), .int z_most]))] sz)) 0 0 (va_A [(a_t, .inr (6, [.ref a_things, .int (nI n_size), .int z_most]))] sz) := by
  refine Met.ofW (cc := b_Open_most) (maxL := 1) (ret := (some .int)) (by decide) rfl ?_
  intro p e s m args below meth c s₁ B hml hv
  obtain ⟨rfl, hsz, hP, hK, hD0⟩ := hv
  have hx := B.exec
  have hb := B.bytes
  have hr := B.returns
  have hts := atoms_spec (ws := w_Open_most) B.pre
  have hz : ∀ w ∈ wz, w.before _ s = true := fun w h => hts w (List.mem_cons_of_mem _ h)
  have hown : s.vm.findClass R_Open = some m.cls := findClass_of_methodNamed B.named
  have hlocks := B.notSynchronized
  subst hsz
  have hD := hD0.self (sz := s.heap.size)
  generalize hAe : va_A [(a_t, .inr (6, [.ref a_things, .int (nI n_size), .int z_most]))] s.heap.size = A at hD ⊢
  have hA : ∀ q : Nat, s.heap.size ≤ q → A q := fun q h => by rw [← hAe]; exact Or.inr h
  have hS : va_S A s.heap s.heap [] := va_S.rf
  have hP : va_P (dC, dI) vcl [(a_t, .inr (6, [.ref a_things, .int (nI n_size), .int z_most]))] s.heap := hP
  have hl := lv_entry ([.ref a_t]) (n := 1) (Nat.le_of_ble_eq_true rfl)
  rw [lg_entry_eq]
  generalize (lg_sl ([.ref a_t]) ++ List.replicate (1 - (lg_sl ([.ref a_t])).length) Slot.unset).toArray = ls at hl ⊢
  have hl : lv_has ls 1 [(0, .ref a_t)] := hl
  refine lv_aload_n hx hb d_Open_most_0 rfl (lv_at hl 0 rfl) ?_
  refine va_get (D := (dC, dI)) (ci := 6) (v := .int z_most) (C := R_Open) (T := F_Open) (N := 3) hx hb hz zu_Open hown hK hP 0 rfl rfl 2 (by decide) (hz (.fieldLink R_Open 19 "LayoutFront$Open" "most" "I") zm_172) (fun _ h9 => h9) rfl d_Open_most_1 ?_
  have hP9 := hP.sub (ws' := [(a_t, .inr (6, [.ref a_things, .int (nI n_size), .int z_most]))]) [0] rfl
  have hD9 := hD.sub (ws' := [(a_t, .inr (6, [.ref a_things, .int (nI n_size), .int z_most]))]) [0] (by decide) rfl
  exact W.iret (v := z_most) hx hb hr (fun t ht hW => ⟨⟨z_most, (), rfl, trivial, by rw [ht]; exact hP9, va_K.moved hW.alike hK, hD9⟩, hS.F ht⟩) hS.2.2 d_Open_most_4
set_option maxHeartbeats 4000000 in
set_option maxRecDepth 100000 in
theorem s_Open_push (l : Launch) (dC : Nat → ClassId) (dI : Nat → Nat → Nat) (sz : Nat) (a_t : Nat) (a_things : Nat) (f_things : Nat → Int32) (n_size : Nat) (z_most : Int32) (y0 : Int32) (ka_things : ClassId) (b_size : n_size ≤ 181) : Met l y_Open_push w_Open_push ({ frames := 1, cells := 0, slots := 0, locals := 40 }) (va_Pc [.ref a_t, .int y0] (fun U => U.heap.size = sz ∧ va_P (dC, dI) vcl [(a_t, .inr (6, [.ref a_things, .int (nI n_size), .int z_most])), (a_things, .inl (ka_things, 181, .inl f_things))] U.heap ∧ va_K (dC, dI) vcl [(ka_things, .int)] U ∧ va_D (fun _ => True) [(a_t, .inr (6, [.ref a_things, .int (nI n_size), .int z_most])), (a_things, .inl (ka_things, 181, .inl f_things))])) (va_Qv (fun (_ : Unit) => True) (fun _ t => ∃ (w_n_size : Nat) (w_z_most : Int32) (w_f_things : Nat → Int32), (w_n_size ≤ 181) ∧ va_P (dC, dI) vcl [(a_t, .inr (6, [.ref a_things, .int (nI w_n_size), .int w_z_most])), (a_things, .inl (ka_things, 181, .inl w_f_things))] t.heap ∧ va_K (dC, dI) vcl [(ka_things, .int)] t ∧ va_D (va_A [(a_t, .inr (6, [.ref a_things, .int (nI n_size), .int z_most])), (a_things, .inl (ka_things, 181, .inl f_things))] sz) [(a_t, .inr (6, [.ref a_things, .int (nI w_n_size), .int w_z_most])), (a_things, .inl (ka_things, 181, .inl w_f_things))]) (va_A [(a_t, .inr (6, [.ref a_things, .int (nI n_size), .int z_most])), (a_things, .inl (ka_things, 181, .inl f_things))] sz)) 0 0 (va_A [(a_t, .inr (6, [.ref a_things, .int (nI n_size), .int z_most])), (a_things, .inl (ka_things, 181, .inl f_things))] sz) := by
  refine Met.ofW (cc := b_Open_push) (maxL := 2) (ret := none) (by decide) rfl ?_
  intro p e s m args below meth c s₁ B hml hv
  obtain ⟨rfl, hsz, hP, hK, hD0⟩ := hv
  have hx := B.exec
  have hb := B.bytes
  have hr := B.returns
  have hts := atoms_spec (ws := w_Open_push) B.pre
  have hz : ∀ w ∈ wz, w.before _ s = true := fun w h => hts w (List.mem_cons_of_mem _ h)
  have hown : s.vm.findClass R_Open = some m.cls := findClass_of_methodNamed B.named
  have hlocks := B.notSynchronized
  subst hsz
  have hD := hD0.self (sz := s.heap.size)
  generalize hAe : va_A [(a_t, .inr (6, [.ref a_things, .int (nI n_size), .int z_most])), (a_things, .inl (ka_things, 181, .inl f_things))] s.heap.size = A at hD ⊢
  have hA : ∀ q : Nat, s.heap.size ≤ q → A q := fun q h => by rw [← hAe]; exact Or.inr h
  have hS : va_S A s.heap s.heap [] := va_S.rf
  have hP : va_P (dC, dI) vcl [(a_t, .inr (6, [.ref a_things, .int (nI n_size), .int z_most])), (a_things, .inl (ka_things, 181, .inl f_things))] s.heap := hP
  have hl := lv_entry ([.ref a_t, .int y0]) (n := 2) (Nat.le_of_ble_eq_true rfl)
  rw [lg_entry_eq]
  generalize (lg_sl ([.ref a_t, .int y0]) ++ List.replicate (2 - (lg_sl ([.ref a_t, .int y0])).length) Slot.unset).toArray = ls at hl ⊢
  have hl : lv_has ls 2 [(0, .ref a_t), (1, .int y0)] := hl
  refine lv_aload_n hx hb d_Open_push_0 rfl (lv_at hl 0 rfl) ?_
  refine va_get (D := (dC, dI)) (ci := 6) (v := .int (nI n_size)) (C := R_Open) (T := F_Open) (N := 3) hx hb hz zu_Open hown hK hP 0 rfl rfl 1 (by decide) (hz (.fieldLink R_Open 15 "LayoutFront$Open" "size" "I") zm_171) (fun _ h9 => h9) rfl d_Open_push_1 ?_
  refine lv_sipush (v := 181) hx hb d_Open_push_4 (by decide) ?_
  refine lv_icmp_ge (tgt := 45) hx hb d_Open_push_7 (by decide) (fun h1 => ?_) (fun h1 => ?_)
  · have h1 : 181 ≤ n_size := (nI_leI (a := 181) (b := n_size) (by omega) (by omega)).mp h1
    have hP9 := hP.sub (ws' := [(a_t, .inr (6, [.ref a_things, .int (nI n_size), .int z_most])), (a_things, .inl (ka_things, 181, .inl f_things))]) [0, 1] rfl
    have hD9 := hD.sub (ws' := [(a_t, .inr (6, [.ref a_things, .int (nI n_size), .int z_most])), (a_things, .inl (ka_things, 181, .inl f_things))]) [0, 1] (by decide) rfl
    exact W.vret hx hb hr (fun t ht hW => ⟨⟨(), rfl, trivial, n_size, z_most, f_things, by first | omega | assumption | exact Or.inl rfl | exact Or.inr rfl, by rw [ht]; exact hP9, va_K.moved hW.alike hK, hD9⟩, hS.F ht⟩) hS.2.2 d_Open_push_45
  · have h1 : ¬ 181 ≤ n_size := fun q => h1 ((nI_leI (a := 181) (b := n_size) (by omega) (by omega)).mpr q)
    refine lv_aload_n hx hb d_Open_push_10 rfl (lv_at hl 0 rfl) ?_
    refine va_get (D := (dC, dI)) (ci := 6) (v := .ref a_things) (C := R_Open) (T := F_Open) (N := 3) hx hb hz zu_Open hown hK hP 0 rfl rfl 0 (by decide) (hz (.fieldLink R_Open 9 "LayoutFront$Open" "things" "[I") zm_169) (fun _ h9 => h9) rfl d_Open_push_11 ?_
    refine lv_aload_n hx hb d_Open_push_14 rfl (lv_at hl 0 rfl) ?_
    refine va_get (D := (dC, dI)) (ci := 6) (v := .int (nI n_size)) (C := R_Open) (T := F_Open) (N := 3) hx hb hz zu_Open hown hK hP 0 rfl rfl 1 (by decide) (hz (.fieldLink R_Open 15 "LayoutFront$Open" "size" "I") zm_171) (fun _ h9 => h9) rfl d_Open_push_15 ?_
    refine lv_iload_n hx hb d_Open_push_18 rfl (lv_at hl 1 rfl) ?_
    refine va_iast hx hb hK hP hD hS 1 0 rfl rfl (vp_in_nI (by omega) (by omega)) d_Open_push_19 (fun H locs hP hD hS => ?_)
    generalize upd f_things ((nI n_size) : Int32).toNatClampNeg y0 = f2 at hP hD
    have hP : va_P (dC, dI) vcl [(a_t, .inr (6, [.ref a_things, .int (nI n_size), .int z_most])), (a_things, .inl (ka_things, 181, .inl f2))] H := hP
    have hD : va_D A [(a_t, .inr (6, [.ref a_things, .int (nI n_size), .int z_most])), (a_things, .inl (ka_things, 181, .inl f2))] := hD
    refine lv_aload_n hx hb d_Open_push_20 rfl (lv_at hl 0 rfl) ?_
    refine lv_dup hx hb d_Open_push_21 rfl ?_
    refine va_get (D := (dC, dI)) (ci := 6) (v := .int (nI n_size)) (C := R_Open) (T := F_Open) (N := 3) hx hb hz zu_Open hown hK hP 0 rfl rfl 1 (by decide) (hz (.fieldLink R_Open 15 "LayoutFront$Open" "size" "I") zm_171) (fun _ h9 => h9) rfl d_Open_push_22 ?_
    refine lv_iconst (v := 1) hx hb d_Open_push_25 (by decide) ?_
    refine xr_iadd (v := (nI (n_size + 1))) hx hb d_Open_push_26 (nI_add n_size 1) ?_
    refine va_put (D := (dC, dI)) (ci := 6) (v := .int (nI (n_size + 1))) (ty := .int) (C := R_Open) (T := F_Open) (N := 3) hx hb hz zu_Open t_Open t_Open_ok n_Open hown hK hP hD hS 0 rfl rfl 1 (by decide) (hz (.fieldLink R_Open 15 "LayoutFront$Open" "size" "I") zm_171) (fun _ h9 => h9) rfl (by decide +kernel) rfl rfl (Nat.le_of_ble_eq_true rfl) d_Open_push_27 (fun H locs hP hD hS => ?_)
    have hP : va_P (dC, dI) vcl [(a_t, .inr (6, [.ref a_things, .int (nI (n_size + 1)), .int z_most])), (a_things, .inl (ka_things, 181, .inl f2))] H := hP
    have hD : va_D A [(a_t, .inr (6, [.ref a_things, .int (nI (n_size + 1)), .int z_most])), (a_things, .inl (ka_things, 181, .inl f2))] := hD
    refine lv_aload_n hx hb d_Open_push_30 rfl (lv_at hl 0 rfl) ?_
    refine lv_aload_n hx hb d_Open_push_31 rfl (lv_at hl 0 rfl) ?_
    refine va_get (D := (dC, dI)) (ci := 6) (v := .int z_most) (C := R_Open) (T := F_Open) (N := 3) hx hb hz zu_Open hown hK hP 0 rfl rfl 2 (by decide) (hz (.fieldLink R_Open 19 "LayoutFront$Open" "most" "I") zm_172) (fun _ h9 => h9) rfl d_Open_push_32 ?_
    refine lv_aload_n hx hb d_Open_push_35 rfl (lv_at hl 0 rfl) ?_
    refine va_get (D := (dC, dI)) (ci := 6) (v := .int (nI (n_size + 1))) (C := R_Open) (T := F_Open) (N := 3) hx hb hz zu_Open hown hK hP 0 rfl rfl 1 (by decide) (hz (.fieldLink R_Open 15 "LayoutFront$Open" "size" "I") zm_171) (fun _ h9 => h9) rfl d_Open_push_36 ?_
    refine xr_max (v := _) hx hb (hml.trans hl.1.symm) hown (hz (.methodLink R_Open 22 Lib.Math.max.name) zm_173) (hz (.static Lib.Math.max.name) zm_1023) (hz (.initialized "java/lang/Math") zm_1024) (hz (.code Lib.Math.max.name Lib.Math.max.code 2 (some .int)) zm_1025) (Nat.le_of_ble_eq_true rfl) (Nat.le_of_ble_eq_true rfl) (Nat.le_of_ble_eq_true rfl) (Nat.le_of_ble_eq_true rfl) d_Open_push_39 rfl ?_
    refine lv_topi (fun x3 _ => ?_)
    refine va_put (D := (dC, dI)) (ci := 6) (v := .int x3) (ty := .int) (C := R_Open) (T := F_Open) (N := 3) hx hb hz zu_Open t_Open t_Open_ok n_Open hown hK hP hD hS 0 rfl rfl 2 (by decide) (hz (.fieldLink R_Open 19 "LayoutFront$Open" "most" "I") zm_172) (fun _ h9 => h9) rfl (by decide +kernel) rfl rfl (Nat.le_of_ble_eq_true rfl) d_Open_push_42 (fun H locs hP hD hS => ?_)
    have hP : va_P (dC, dI) vcl [(a_t, .inr (6, [.ref a_things, .int (nI (n_size + 1)), .int x3])), (a_things, .inl (ka_things, 181, .inl f2))] H := hP
    have hD : va_D A [(a_t, .inr (6, [.ref a_things, .int (nI (n_size + 1)), .int x3])), (a_things, .inl (ka_things, 181, .inl f2))] := hD
    have hP9 := hP.sub (ws' := [(a_t, .inr (6, [.ref a_things, .int (nI (n_size + 1)), .int x3])), (a_things, .inl (ka_things, 181, .inl f2))]) [0, 1] rfl
    have hD9 := hD.sub (ws' := [(a_t, .inr (6, [.ref a_things, .int (nI (n_size + 1)), .int x3])), (a_things, .inl (ka_things, 181, .inl f2))]) [0, 1] (by decide) rfl
    exact W.vret hx hb hr (fun t ht hW => ⟨⟨(), rfl, trivial, ((n_size + 1)), x3, f2, by first | omega | assumption | exact Or.inl rfl | exact Or.inr rfl, by rw [ht]; exact hP9, va_K.moved hW.alike hK, hD9⟩, hS.F ht⟩) hS.2.2 d_Open_push_45
set_option maxHeartbeats 4000000 in
set_option maxRecDepth 100000 in
theorem s_Open_pop (l : Launch) (dC : Nat → ClassId) (dI : Nat → Nat → Nat) (sz : Nat) (a_t : Nat) (a_things : Nat) (n_size : Nat) (z_most : Int32) (b_size : n_size ≤ 181) : Met l y_Open_pop w_Open_pop ({ frames := 0, cells := 0, slots := 0, locals := 0 }) (va_Pc [.ref a_t] (fun U => U.heap.size = sz ∧ va_P (dC, dI) vcl [(a_t, .inr (6, [.ref a_things, .int (nI n_size), .int z_most]))] U.heap ∧ va_K (dC, dI) vcl [] U ∧ va_D (fun _ => True) [(a_t, .inr (6, [.ref a_things, .int (nI n_size), .int z_most]))])) (va_Qv (fun (_ : Unit) => True) (fun _ t => ∃ (w_n_size : Nat), (w_n_size ≤ 181) ∧ va_P (dC, dI) vcl [(a_t, .inr (6, [.ref a_things, .int (nI w_n_size), .int z_most]))] t.heap ∧ va_K (dC, dI) vcl [] t ∧ va_D (va_A [(a_t, .inr (6, [.ref a_things, .int (nI n_size), .int z_most]))] sz) [(a_t, .inr (6, [.ref a_things, .int (nI w_n_size), .int z_most]))]) (va_A [(a_t, .inr (6, [.ref a_things, .int (nI n_size), .int z_most]))] sz)) 0 0 (va_A [(a_t, .inr (6, [.ref a_things, .int (nI n_size), .int z_most]))] sz) := by
  refine Met.ofW (cc := b_Open_pop) (maxL := 1) (ret := none) (by decide) rfl ?_
  intro p e s m args below meth c s₁ B hml hv
  obtain ⟨rfl, hsz, hP, hK, hD0⟩ := hv
  have hx := B.exec
  have hb := B.bytes
  have hr := B.returns
  have hts := atoms_spec (ws := w_Open_pop) B.pre
  have hz : ∀ w ∈ wz, w.before _ s = true := fun w h => hts w (List.mem_cons_of_mem _ h)
  have hown : s.vm.findClass R_Open = some m.cls := findClass_of_methodNamed B.named
  have hlocks := B.notSynchronized
  subst hsz
  have hD := hD0.self (sz := s.heap.size)
  generalize hAe : va_A [(a_t, .inr (6, [.ref a_things, .int (nI n_size), .int z_most]))] s.heap.size = A at hD ⊢
  have hA : ∀ q : Nat, s.heap.size ≤ q → A q := fun q h => by rw [← hAe]; exact Or.inr h
  have hS : va_S A s.heap s.heap [] := va_S.rf
  have hP : va_P (dC, dI) vcl [(a_t, .inr (6, [.ref a_things, .int (nI n_size), .int z_most]))] s.heap := hP
  have hl := lv_entry ([.ref a_t]) (n := 1) (Nat.le_of_ble_eq_true rfl)
  rw [lg_entry_eq]
  generalize (lg_sl ([.ref a_t]) ++ List.replicate (1 - (lg_sl ([.ref a_t])).length) Slot.unset).toArray = ls at hl ⊢
  have hl : lv_has ls 1 [(0, .ref a_t)] := hl
  refine lv_aload_n hx hb d_Open_pop_0 rfl (lv_at hl 0 rfl) ?_
  refine va_get (D := (dC, dI)) (ci := 6) (v := .int (nI n_size)) (C := R_Open) (T := F_Open) (N := 3) hx hb hz zu_Open hown hK hP 0 rfl rfl 1 (by decide) (hz (.fieldLink R_Open 15 "LayoutFront$Open" "size" "I") zm_171) (fun _ h9 => h9) rfl d_Open_pop_1 ?_
  refine lv_if_le (tgt := 17) hx hb d_Open_pop_4 (by decide) (fun h1 => ?_) (fun h1 => ?_)
  · have h1 : n_size ≤ 0 := (nI_leI (a := n_size) (b := 0) (by omega) (by omega)).mp h1
    have hP9 := hP.sub (ws' := [(a_t, .inr (6, [.ref a_things, .int (nI n_size), .int z_most]))]) [0] rfl
    have hD9 := hD.sub (ws' := [(a_t, .inr (6, [.ref a_things, .int (nI n_size), .int z_most]))]) [0] (by decide) rfl
    exact W.vret hx hb hr (fun t ht hW => ⟨⟨(), rfl, trivial, n_size, by first | omega | assumption | exact Or.inl rfl | exact Or.inr rfl, by rw [ht]; exact hP9, va_K.moved hW.alike hK, hD9⟩, hS.F ht⟩) hS.2.2 d_Open_pop_17
  · have h1 : ¬ n_size ≤ 0 := fun q => h1 ((nI_leI (a := n_size) (b := 0) (by omega) (by omega)).mpr q)
    refine lv_aload_n hx hb d_Open_pop_7 rfl (lv_at hl 0 rfl) ?_
    refine lv_dup hx hb d_Open_pop_8 rfl ?_
    refine va_get (D := (dC, dI)) (ci := 6) (v := .int (nI n_size)) (C := R_Open) (T := F_Open) (N := 3) hx hb hz zu_Open hown hK hP 0 rfl rfl 1 (by decide) (hz (.fieldLink R_Open 15 "LayoutFront$Open" "size" "I") zm_171) (fun _ h9 => h9) rfl d_Open_pop_9 ?_
    refine lv_iconst (v := 1) hx hb d_Open_pop_12 (by decide) ?_
    refine xr_isub (v := (nI (n_size - 1))) hx hb d_Open_pop_13 (pk_sub (a := n_size) (b := 1) (by omega)) ?_
    refine va_put (D := (dC, dI)) (ci := 6) (v := .int (nI (n_size - 1))) (ty := .int) (C := R_Open) (T := F_Open) (N := 3) hx hb hz zu_Open t_Open t_Open_ok n_Open hown hK hP hD hS 0 rfl rfl 1 (by decide) (hz (.fieldLink R_Open 15 "LayoutFront$Open" "size" "I") zm_171) (fun _ h9 => h9) rfl (by decide +kernel) rfl rfl (Nat.le_of_ble_eq_true rfl) d_Open_pop_14 (fun H locs hP hD hS => ?_)
    have hP : va_P (dC, dI) vcl [(a_t, .inr (6, [.ref a_things, .int (nI (n_size - 1)), .int z_most]))] H := hP
    have hD : va_D A [(a_t, .inr (6, [.ref a_things, .int (nI (n_size - 1)), .int z_most]))] := hD
    have hP9 := hP.sub (ws' := [(a_t, .inr (6, [.ref a_things, .int (nI (n_size - 1)), .int z_most]))]) [0] rfl
    have hD9 := hD.sub (ws' := [(a_t, .inr (6, [.ref a_things, .int (nI (n_size - 1)), .int z_most]))]) [0] (by decide) rfl
    exact W.vret hx hb hr (fun t ht hW => ⟨⟨(), rfl, trivial, ((n_size - 1)), by first | omega | assumption | exact Or.inl rfl | exact Or.inr rfl, by rw [ht]; exact hP9, va_K.moved hW.alike hK, hD9⟩, hS.F ht⟩) hS.2.2 d_Open_pop_17
set_option maxHeartbeats 4000000 in
set_option maxRecDepth 100000 in
theorem s_Open_at (l : Launch) (dC : Nat → ClassId) (dI : Nat → Nat → Nat) (sz : Nat) (a_t : Nat) (a_things : Nat) (f_things : Nat → Int32) (n_size : Nat) (z_most : Int32) (y0 : Int32) (ka_things : ClassId) (b_size : n_size ≤ 181) : Met l y_Open_at w_Open_at ({ frames := 0, cells := 0, slots := 0, locals := 0 }) (va_Pc [.ref a_t, .int y0] (fun U => U.heap.size = sz ∧ va_P (dC, dI) vcl [(a_t, .inr (6, [.ref a_things, .int (nI n_size), .int z_most])), (a_things, .inl (ka_things, 181, .inl f_things))] U.heap ∧ va_K (dC, dI) vcl [(ka_things, .int)] U ∧ va_D (fun _ => True) [(a_t, .inr (6, [.ref a_things, .int (nI n_size), .int z_most])), (a_things, .inl (ka_things, 181, .inl f_things))])) (va_Qi (fun (r : Int32) (_ : Unit) => True) (fun _ t => va_P (dC, dI) vcl [(a_t, .inr (6, [.ref a_things, .int (nI n_size), .int z_most])), (a_things, .inl (ka_things, 181, .inl f_things))] t.heap ∧ va_K (dC, dI) vcl [(ka_things, .int)] t ∧ va_D (va_A [(a_t, .inr (6, [.ref a_things, .int (nI n_size), .int z_most])), (a_things, .inl (ka_things, 181, .inl f_things))] sz) [(a_t, .inr (6, [.ref a_things, .int (nI n_size), .int z_most])), (a_things, .inl (ka_things, 181, .inl f_things))]) (va_A [(a_t, .inr (6, [.ref a_things, .int (nI n_size), .int z_most])), (a_things, .inl (ka_things, 181, .inl f_things))] sz)) 0 0 (va_A [(a_t, .inr (6, [.ref a_things, .int (nI n_size), .int z_most])), (a_things, .inl (ka_things, 181, .inl f_things))] sz) := by
  refine Met.ofW (cc := b_Open_at) (maxL := 2) (ret := (some .int)) (by decide) rfl ?_
  intro p e s m args below meth c s₁ B hml hv
  obtain ⟨rfl, hsz, hP, hK, hD0⟩ := hv
  have hx := B.exec
  have hb := B.bytes
  have hr := B.returns
  have hts := atoms_spec (ws := w_Open_at) B.pre
  have hz : ∀ w ∈ wz, w.before _ s = true := fun w h => hts w (List.mem_cons_of_mem _ h)
  have hown : s.vm.findClass R_Open = some m.cls := findClass_of_methodNamed B.named
  have hlocks := B.notSynchronized
  subst hsz
  have hD := hD0.self (sz := s.heap.size)
  generalize hAe : va_A [(a_t, .inr (6, [.ref a_things, .int (nI n_size), .int z_most])), (a_things, .inl (ka_things, 181, .inl f_things))] s.heap.size = A at hD ⊢
  have hA : ∀ q : Nat, s.heap.size ≤ q → A q := fun q h => by rw [← hAe]; exact Or.inr h
  have hS : va_S A s.heap s.heap [] := va_S.rf
  have hP : va_P (dC, dI) vcl [(a_t, .inr (6, [.ref a_things, .int (nI n_size), .int z_most])), (a_things, .inl (ka_things, 181, .inl f_things))] s.heap := hP
  have hl := lv_entry ([.ref a_t, .int y0]) (n := 2) (Nat.le_of_ble_eq_true rfl)
  rw [lg_entry_eq]
  generalize (lg_sl ([.ref a_t, .int y0]) ++ List.replicate (2 - (lg_sl ([.ref a_t, .int y0])).length) Slot.unset).toArray = ls at hl ⊢
  have hl : lv_has ls 2 [(0, .ref a_t), (1, .int y0)] := hl
  refine lv_iload_n hx hb d_Open_at_0 rfl (lv_at hl 1 rfl) ?_
  refine lv_if_lt (tgt := 21) hx hb d_Open_at_1 (by decide) (fun h1 => ?_) (fun h1 => ?_)
  · refine lv_bipush (v := (-7)) hx hb d_Open_at_21 (by decide) ?_
    have hP9 := hP.sub (ws' := [(a_t, .inr (6, [.ref a_things, .int (nI n_size), .int z_most])), (a_things, .inl (ka_things, 181, .inl f_things))]) [0, 1] rfl
    have hD9 := hD.sub (ws' := [(a_t, .inr (6, [.ref a_things, .int (nI n_size), .int z_most])), (a_things, .inl (ka_things, 181, .inl f_things))]) [0, 1] (by decide) rfl
    exact W.iret (v := (-7)) hx hb hr (fun t ht hW => ⟨⟨(-7), (), rfl, trivial, by rw [ht]; exact hP9, va_K.moved hW.alike hK, hD9⟩, hS.F ht⟩) hS.2.2 d_Open_at_23
  · refine lv_iload_n hx hb d_Open_at_4 rfl (lv_at hl 1 rfl) ?_
    refine lv_aload_n hx hb d_Open_at_5 rfl (lv_at hl 0 rfl) ?_
    refine va_get (D := (dC, dI)) (ci := 6) (v := .int (nI n_size)) (C := R_Open) (T := F_Open) (N := 3) hx hb hz zu_Open hown hK hP 0 rfl rfl 1 (by decide) (hz (.fieldLink R_Open 15 "LayoutFront$Open" "size" "I") zm_171) (fun _ h9 => h9) rfl d_Open_at_6 ?_
    refine lv_icmp_ge (tgt := 21) hx hb d_Open_at_9 (by decide) (fun h2 => ?_) (fun h2 => ?_)
    · refine lv_bipush (v := (-7)) hx hb d_Open_at_21 (by decide) ?_
      have hP9 := hP.sub (ws' := [(a_t, .inr (6, [.ref a_things, .int (nI n_size), .int z_most])), (a_things, .inl (ka_things, 181, .inl f_things))]) [0, 1] rfl
      have hD9 := hD.sub (ws' := [(a_t, .inr (6, [.ref a_things, .int (nI n_size), .int z_most])), (a_things, .inl (ka_things, 181, .inl f_things))]) [0, 1] (by decide) rfl
      exact W.iret (v := (-7)) hx hb hr (fun t ht hW => ⟨⟨(-7), (), rfl, trivial, by rw [ht]; exact hP9, va_K.moved hW.alike hK, hD9⟩, hS.F ht⟩) hS.2.2 d_Open_at_23
    · refine lv_aload_n hx hb d_Open_at_12 rfl (lv_at hl 0 rfl) ?_
      refine va_get (D := (dC, dI)) (ci := 6) (v := .ref a_things) (C := R_Open) (T := F_Open) (N := 3) hx hb hz zu_Open hown hK hP 0 rfl rfl 0 (by decide) (hz (.fieldLink R_Open 9 "LayoutFront$Open" "things" "[I") zm_169) (fun _ h9 => h9) rfl d_Open_at_13 ?_
      refine lv_iload_n hx hb d_Open_at_16 rfl (lv_at hl 1 rfl) ?_
      refine va_iald hx hb hK hP 1 0 rfl rfl (xr_inr (xr_ge0 h1) (Int32.not_le.mp h2) (by omega) (by omega)) d_Open_at_17 ?_
      refine lv_topi (fun x3 e_x3 => ?_)
      refine lv_goto (tgt := 23) hx hb d_Open_at_18 (by decide) ?_
      have hP9 := hP.sub (ws' := [(a_t, .inr (6, [.ref a_things, .int (nI n_size), .int z_most])), (a_things, .inl (ka_things, 181, .inl f_things))]) [0, 1] rfl
      have hD9 := hD.sub (ws' := [(a_t, .inr (6, [.ref a_things, .int (nI n_size), .int z_most])), (a_things, .inl (ka_things, 181, .inl f_things))]) [0, 1] (by decide) rfl
      exact W.iret (v := x3) hx hb hr (fun t ht hW => ⟨⟨x3, (), rfl, trivial, by rw [ht]; exact hP9, va_K.moved hW.alike hK, hD9⟩, hS.F ht⟩) hS.2.2 d_Open_at_23
set_option maxHeartbeats 4000000 in
set_option maxRecDepth 100000 in
theorem s_Open_top (l : Launch) (dC : Nat → ClassId) (dI : Nat → Nat → Nat) (sz : Nat) (a_t : Nat) (a_things : Nat) (f_things : Nat → Int32) (n_size : Nat) (z_most : Int32) (ka_things : ClassId) (b_size : n_size ≤ 181) : Met l y_Open_top w_Open_top ({ frames := 1, cells := 0, slots := 0, locals := 21 }) (va_Pc [.ref a_t] (fun U => U.heap.size = sz ∧ va_P (dC, dI) vcl [(a_t, .inr (6, [.ref a_things, .int (nI n_size), .int z_most])), (a_things, .inl (ka_things, 181, .inl f_things))] U.heap ∧ va_K (dC, dI) vcl [(ka_things, .int)] U ∧ va_D (fun _ => True) [(a_t, .inr (6, [.ref a_things, .int (nI n_size), .int z_most])), (a_things, .inl (ka_things, 181, .inl f_things))])) (va_Qi (fun (r : Int32) (_ : Unit) => True) (fun _ t => va_P (dC, dI) vcl [(a_t, .inr (6, [.ref a_things, .int (nI n_size), .int z_most])), (a_things, .inl (ka_things, 181, .inl f_things))] t.heap ∧ va_K (dC, dI) vcl [(ka_things, .int)] t ∧ va_D (va_A [(a_t, .inr (6, [.ref a_things, .int (nI n_size), .int z_most])), (a_things, .inl (ka_things, 181, .inl f_things))] sz) [(a_t, .inr (6, [.ref a_things, .int (nI n_size), .int z_most])), (a_things, .inl (ka_things, 181, .inl f_things))]) (va_A [(a_t, .inr (6, [.ref a_things, .int (nI n_size), .int z_most])), (a_things, .inl (ka_things, 181, .inl f_things))] sz)) 0 0 (va_A [(a_t, .inr (6, [.ref a_things, .int (nI n_size), .int z_most])), (a_things, .inl (ka_things, 181, .inl f_things))] sz) := by
  refine Met.ofW (cc := b_Open_top) (maxL := 1) (ret := (some .int)) (by decide) rfl ?_
  intro p e s m args below meth c s₁ B hml hv
  obtain ⟨rfl, hsz, hP, hK, hD0⟩ := hv
  have hx := B.exec
  have hb := B.bytes
  have hr := B.returns
  have hts := atoms_spec (ws := w_Open_top) B.pre
  have hz : ∀ w ∈ wz, w.before _ s = true := fun w h => hts w (List.mem_cons_of_mem _ h)
  have hown : s.vm.findClass R_Open = some m.cls := findClass_of_methodNamed B.named
  have hlocks := B.notSynchronized
  subst hsz
  have hD := hD0.self (sz := s.heap.size)
  generalize hAe : va_A [(a_t, .inr (6, [.ref a_things, .int (nI n_size), .int z_most])), (a_things, .inl (ka_things, 181, .inl f_things))] s.heap.size = A at hD ⊢
  have hA : ∀ q : Nat, s.heap.size ≤ q → A q := fun q h => by rw [← hAe]; exact Or.inr h
  have hS : va_S A s.heap s.heap [] := va_S.rf
  have hP : va_P (dC, dI) vcl [(a_t, .inr (6, [.ref a_things, .int (nI n_size), .int z_most])), (a_things, .inl (ka_things, 181, .inl f_things))] s.heap := hP
  have hl := lv_entry ([.ref a_t]) (n := 1) (Nat.le_of_ble_eq_true rfl)
  rw [lg_entry_eq]
  generalize (lg_sl ([.ref a_t]) ++ List.replicate (1 - (lg_sl ([.ref a_t])).length) Slot.unset).toArray = ls at hl ⊢
  have hl : lv_has ls 1 [(0, .ref a_t)] := hl
  refine lv_aload_n hx hb d_Open_top_0 rfl (lv_at hl 0 rfl) ?_
  refine lv_aload_n hx hb d_Open_top_1 rfl (lv_at hl 0 rfl) ?_
  refine va_get (D := (dC, dI)) (ci := 6) (v := .int (nI n_size)) (C := R_Open) (T := F_Open) (N := 3) hx hb hz zu_Open hown hK hP 0 rfl rfl 1 (by decide) (hz (.fieldLink R_Open 15 "LayoutFront$Open" "size" "I") zm_171) (fun _ h9 => h9) rfl d_Open_top_2 ?_
  refine lv_iconst (v := 1) hx hb d_Open_top_5 (by decide) ?_
  refine xr_isub (v := (nI n_size - 1)) hx hb d_Open_top_6 rfl ?_
  have hPc := hP.sub (ws' := [(a_t, .inr (6, [.ref a_things, .int (nI n_size), .int z_most])), (a_things, .inl (ka_things, 181, .inl f_things))]) [0, 1] rfl
  have hDc := hD.sub (ws' := [(a_t, .inr (6, [.ref a_things, .int (nI n_size), .int z_most])), (a_things, .inl (ka_things, 181, .inl f_things))]) [0, 1] (by decide) rfl
  have hKc := hK.sub (tys' := [(ka_things, .int)]) [0] rfl
  have hFc := va_free (wc := [(a_t, .inr (6, [.ref a_things, .int (nI n_size), .int z_most])), (a_things, .inl (ka_things, 181, .inl f_things))]) hD hS hA [0, 1] rfl
  refine va_calli (va_runV (As := [.int (nI n_size - 1)]) (rest := []) ⟨hx, hb, hml, hown, hz⟩ (s_Open_at l dC dI s.heap.size a_t a_things f_things n_size z_most ((nI n_size - 1)) ka_things (by first | omega | assumption | exact Or.inl rfl | exact Or.inr rfl)) (cwV 1 hz (zV zm_174 zm_175 zm_176 zm_177 zm_178) rfl rfl rfl (by decide +kernel) ⟨Nat.le_of_ble_eq_true rfl, Nat.le_of_ble_eq_true rfl⟩) ⟨fun a U g mk q => by obtain ⟨q0, q1, qP, qK, qD⟩ := q; exact ⟨q0, q1, qP, va_K.moved (u := U) (U := U.calling g mk a) (Vm.Alike.refl U.vm) qK, qD⟩, va_recv (q := (R_Open, F_Open, 3)) (q0 := 0) (ci := 6) hK hP rfl rfl, fun U hU hW => ⟨rfl, by rw [hU], by rw [hU]; exact hPc, va_K.moved hW.alike hKc, hDc.weaken (fun _ _ _ _ => trivial)⟩⟩ rfl rfl hl.1 rfl (lv_room (Nat.le_of_ble_eq_true rfl)) d_Open_top_7 ⟨Nat.zero_le _, Nat.zero_le _⟩) hS (fun q _ h => hFc q h) hFc (fun x1 u t H1 locs ht hvm hw hB hz1 hk1 hS => ?_)
  obtain ⟨hP1, hK1, hD1⟩ := hB
  rw [ht] at hP1
  obtain ⟨hP, hD⟩ := va_join (wr := []) (w1 := [(a_t, .inr (6, [.ref a_things, .int (nI n_size), .int z_most])), (a_things, .inl (ka_things, 181, .inl f_things))]) hP hD [0, 1] [] rfl rfl (by decide) (by decide) hk1 hFc hP1 hD1
  generalize H1 = H at hP hS ⊢
  have hP : va_P (dC, dI) vcl [(a_t, .inr (6, [.ref a_things, .int (nI n_size), .int z_most])), (a_things, .inl (ka_things, 181, .inl f_things))] H := hP
  have hD : va_D A [(a_t, .inr (6, [.ref a_things, .int (nI n_size), .int z_most])), (a_things, .inl (ka_things, 181, .inl f_things))] := hD
  have hP9 := hP.sub (ws' := [(a_t, .inr (6, [.ref a_things, .int (nI n_size), .int z_most])), (a_things, .inl (ka_things, 181, .inl f_things))]) [0, 1] rfl
  have hD9 := hD.sub (ws' := [(a_t, .inr (6, [.ref a_things, .int (nI n_size), .int z_most])), (a_things, .inl (ka_things, 181, .inl f_things))]) [0, 1] (by decide) rfl
  exact W.iret (v := x1) hx hb hr (fun t ht hW => ⟨⟨x1, (), rfl, trivial, by rw [ht]; exact hP9, va_K.moved hW.alike hK, hD9⟩, hS.F ht⟩) hS.2.2 d_Open_top_10
set_option maxHeartbeats 4000000 in
set_option maxRecDepth 100000 in
theorem s_Row_clear (l : Launch) (dC : Nat → ClassId) (dI : Nat → Nat → Nat) (sz : Nat) (a_t : Nat) (a_parts : Nat) (a_firsts : Nat) (a_lasts : Nat) (n_size : Nat) (z_operates : Int32) (z_lacksOperand : Int32) (b_size : n_size ≤ 90) : Met l y_Row_clear w_Row_clear ({ frames := 0, cells := 0, slots := 0, locals := 0 }) (va_Pc [.ref a_t] (fun U => U.heap.size = sz ∧ va_P (dC, dI) vcl [(a_t, .inr (8, [.ref a_parts, .ref a_firsts, .ref a_lasts, .int (nI n_size), .int z_operates, .int z_lacksOperand]))] U.heap ∧ va_K (dC, dI) vcl [] U ∧ va_D (fun _ => True) [(a_t, .inr (8, [.ref a_parts, .ref a_firsts, .ref a_lasts, .int (nI n_size), .int z_operates, .int z_lacksOperand]))])) (va_Qv (fun (_ : Unit) => True) (fun _ t => ∃ (w_n_size : Nat) (w_z_operates : Int32) (w_z_lacksOperand : Int32), (w_n_size ≤ 90) ∧ va_P (dC, dI) vcl [(a_t, .inr (8, [.ref a_parts, .ref a_firsts, .ref a_lasts, .int (nI w_n_size), .int w_z_operates, .int w_z_lacksOperand]))] t.heap ∧ va_K (dC, dI) vcl [] t ∧ va_D (va_A [(a_t, .inr (8, [.ref a_parts, .ref a_firsts, .ref a_lasts, .int (nI n_size), .int z_operates, .int z_lacksOperand]))] sz) [(a_t, .inr (8, [.ref a_parts, .ref a_firsts, .ref a_lasts, .int (nI w_n_size), .int w_z_operates, .int w_z_lacksOperand]))]) (va_A [(a_t, .inr (8, [.ref a_parts, .ref a_firsts, .ref a_lasts, .int (nI n_size), .int z_operates, .int z_lacksOperand]))] sz)) 0 0 (va_A [(a_t, .inr (8, [.ref a_parts, .ref a_firsts, .ref a_lasts, .int (nI n_size), .int z_operates, .int z_lacksOperand]))] sz) := by
  refine Met.ofW (cc := b_Row_clear) (maxL := 1) (ret := none) (by decide) rfl ?_
  intro p e s m args below meth c s₁ B hml hv
  obtain ⟨rfl, hsz, hP, hK, hD0⟩ := hv
  have hx := B.exec
  have hb := B.bytes
  have hr := B.returns
  have hts := atoms_spec (ws := w_Row_clear) B.pre
  have hz : ∀ w ∈ wz, w.before _ s = true := fun w h => hts w (List.mem_cons_of_mem _ h)
  have hown : s.vm.findClass R_Row = some m.cls := findClass_of_methodNamed B.named
  have hlocks := B.notSynchronized
  subst hsz
  have hD := hD0.self (sz := s.heap.size)
  generalize hAe : va_A [(a_t, .inr (8, [.ref a_parts, .ref a_firsts, .ref a_lasts, .int (nI n_size), .int z_operates, .int z_lacksOperand]))] s.heap.size = A at hD ⊢
  have hA : ∀ q : Nat, s.heap.size ≤ q → A q := fun q h => by rw [← hAe]; exact Or.inr h
  have hS : va_S A s.heap s.heap [] := va_S.rf
  have hP : va_P (dC, dI) vcl [(a_t, .inr (8, [.ref a_parts, .ref a_firsts, .ref a_lasts, .int (nI n_size), .int z_operates, .int z_lacksOperand]))] s.heap := hP
  have hl := lv_entry ([.ref a_t]) (n := 1) (Nat.le_of_ble_eq_true rfl)
  rw [lg_entry_eq]
  generalize (lg_sl ([.ref a_t]) ++ List.replicate (1 - (lg_sl ([.ref a_t])).length) Slot.unset).toArray = ls at hl ⊢
  have hl : lv_has ls 1 [(0, .ref a_t)] := hl
  refine lv_aload_n hx hb d_Row_clear_0 rfl (lv_at hl 0 rfl) ?_
  refine lv_iconst (v := 0) hx hb d_Row_clear_1 (by decide) ?_
  refine va_put (D := (dC, dI)) (ci := 8) (v := .int 0) (ty := .int) (C := R_Row) (T := F_Row) (N := 6) hx hb hz zu_Row t_Row t_Row_ok n_Row hown hK hP hD hS 0 rfl rfl 3 (by decide) (hz (.fieldLink R_Row 21 "LayoutFront$Row" "size" "I") zm_312) (fun _ h9 => h9) rfl (by decide +kernel) (by decide +kernel) rfl (Nat.le_of_ble_eq_true rfl) d_Row_clear_2 (fun H locs hP hD hS => ?_)
  have hP : va_P (dC, dI) vcl [(a_t, .inr (8, [.ref a_parts, .ref a_firsts, .ref a_lasts, .int 0, .int z_operates, .int z_lacksOperand]))] H := hP
  have hD : va_D A [(a_t, .inr (8, [.ref a_parts, .ref a_firsts, .ref a_lasts, .int 0, .int z_operates, .int z_lacksOperand]))] := hD
  refine lv_aload_n hx hb d_Row_clear_5 rfl (lv_at hl 0 rfl) ?_
  refine lv_iconst (v := 0) hx hb d_Row_clear_6 (by decide) ?_
  refine va_put (D := (dC, dI)) (ci := 8) (v := .int 0) (ty := .boolean) (C := R_Row) (T := F_Row) (N := 6) hx hb hz zu_Row t_Row t_Row_ok n_Row hown hK hP hD hS 0 rfl rfl 4 (by decide) (hz (.fieldLink R_Row 25 "LayoutFront$Row" "operates" "Z") zm_313) (fun _ h9 => h9) rfl (by decide +kernel) (by decide +kernel) rfl (Nat.le_of_ble_eq_true rfl) d_Row_clear_7 (fun H locs hP hD hS => ?_)
  have hP : va_P (dC, dI) vcl [(a_t, .inr (8, [.ref a_parts, .ref a_firsts, .ref a_lasts, .int 0, .int 0, .int z_lacksOperand]))] H := hP
  have hD : va_D A [(a_t, .inr (8, [.ref a_parts, .ref a_firsts, .ref a_lasts, .int 0, .int 0, .int z_lacksOperand]))] := hD
  refine lv_aload_n hx hb d_Row_clear_10 rfl (lv_at hl 0 rfl) ?_
  refine lv_iconst (v := 0) hx hb d_Row_clear_11 (by decide) ?_
  refine va_put (D := (dC, dI)) (ci := 8) (v := .int 0) (ty := .boolean) (C := R_Row) (T := F_Row) (N := 6) hx hb hz zu_Row t_Row t_Row_ok n_Row hown hK hP hD hS 0 rfl rfl 5 (by decide) (hz (.fieldLink R_Row 29 "LayoutFront$Row" "lacksOperand" "Z") zm_314) (fun _ h9 => h9) rfl (by decide +kernel) (by decide +kernel) rfl (Nat.le_of_ble_eq_true rfl) d_Row_clear_12 (fun H locs hP hD hS => ?_)
  have hP : va_P (dC, dI) vcl [(a_t, .inr (8, [.ref a_parts, .ref a_firsts, .ref a_lasts, .int 0, .int 0, .int 0]))] H := hP
  have hD : va_D A [(a_t, .inr (8, [.ref a_parts, .ref a_firsts, .ref a_lasts, .int 0, .int 0, .int 0]))] := hD
  have hP9 := hP.sub (ws' := [(a_t, .inr (8, [.ref a_parts, .ref a_firsts, .ref a_lasts, .int 0, .int 0, .int 0]))]) [0] rfl
  have hD9 := hD.sub (ws' := [(a_t, .inr (8, [.ref a_parts, .ref a_firsts, .ref a_lasts, .int 0, .int 0, .int 0]))]) [0] (by decide) rfl
  exact W.vret hx hb hr (fun t ht hW => ⟨⟨(), rfl, trivial, 0, 0, 0, by first | omega | assumption | exact Or.inl rfl | exact Or.inr rfl, by rw [ht]; exact hP9, va_K.moved hW.alike hK, hD9⟩, hS.F ht⟩) hS.2.2 d_Row_clear_15
set_option maxHeartbeats 4000000 in
set_option maxRecDepth 100000 in
theorem s_Row_size (l : Launch) (dC : Nat → ClassId) (dI : Nat → Nat → Nat) (sz : Nat) (a_t : Nat) (a_parts : Nat) (a_firsts : Nat) (a_lasts : Nat) (n_size : Nat) (z_operates : Int32) (z_lacksOperand : Int32) (b_size : n_size ≤ 90) : Met l y_Row_size w_Row_size ({ frames := 0, cells := 0, slots := 0, locals := 0 }) (va_Pc [.ref a_t] (fun U => U.heap.size = sz ∧ va_P (dC, dI) vcl [(a_t, .inr (8, [.ref a_parts, .ref a_firsts, .ref a_lasts, .int (nI n_size), .int z_operates, .int z_lacksOperand]))] U.heap ∧ va_K (dC, dI) vcl [] U ∧ va_D (fun _ => True) [(a_t, .inr (8, [.ref a_parts, .ref a_firsts, .ref a_lasts, .int (nI n_size), .int z_operates, .int z_lacksOperand]))])) (va_Qi (fun (r : Int32) (_ : Unit) => r = (nI n_size)) (fun _ t => va_P (dC, dI) vcl [(a_t, .inr (8, [.ref a_parts, .ref a_firsts, .ref a_lasts, .int (nI n_size), .int z_operates, .int z_lacksOperand]))] t.heap ∧ va_K (dC, dI) vcl [] t ∧ va_D (va_A [(a_t, .inr (8, [.ref a_parts, .ref a_firsts, .ref a_lasts, .int (nI n_size), .int z_operates, .int z_lacksOperand]))] sz) [(a_t, .inr (8, [.ref a_parts, .ref a_firsts, .ref a_lasts, .int (nI n_size), .int z_operates, .int z_lacksOperand]))]) (va_A [(a_t, .inr (8, [.ref a_parts, .ref a_firsts, .ref a_lasts, .int (nI n_size), .int z_operates, .int z_lacksOperand]))] sz)) 0 0 (va_A [(a_t, .inr (8, [.ref a_parts, .ref a_firsts, .ref a_lasts, .int (nI n_size), .int z_operates, .int z_lacksOperand]))] sz) := by
  refine Met.ofW (cc := b_Row_size) (maxL := 1) (ret := (some .int)) (by decide) rfl ?_
  intro p e s m args below meth c s₁ B hml hv
  obtain ⟨rfl, hsz, hP, hK, hD0⟩ := hv
  have hx := B.exec
  have hb := B.bytes
  have hr := B.returns
  have hts := atoms_spec (ws := w_Row_size) B.pre
  have hz : ∀ w ∈ wz, w.before _ s = true := fun w h => hts w (List.mem_cons_of_mem _ h)
  have hown : s.vm.findClass R_Row = some m.cls := findClass_of_methodNamed B.named
  have hlocks := B.notSynchronized
  subst hsz
  have hD := hD0.self (sz := s.heap.size)
  generalize hAe : va_A [(a_t, .inr (8, [.ref a_parts, .ref a_firsts, .ref a_lasts, .int (nI n_size), .int z_operates, .int z_lacksOperand]))] s.heap.size = A at hD ⊢
  have hA : ∀ q : Nat, s.heap.size ≤ q → A q := fun q h => by rw [← hAe]; exact Or.inr h
  have hS : va_S A s.heap s.heap [] := va_S.rf
  have hP : va_P (dC, dI) vcl [(a_t, .inr (8, [.ref a_parts, .ref a_firsts, .ref a_lasts, .int (nI n_size), .int z_operates, .int z_lacksOperand]))] s.heap := hP
  have hl := lv_entry ([.ref a_t]) (n := 1) (Nat.le_of_ble_eq_true rfl)
  rw [lg_entry_eq]
  generalize (lg_sl ([.ref a_t]) ++ List.replicate (1 - (lg_sl ([.ref a_t])).length) Slot.unset).toArray = ls at hl ⊢
  have hl : lv_has ls 1 [(0, .ref a_t)] := hl
  refine lv_aload_n hx hb d_Row_size_0 rfl (lv_at hl 0 rfl) ?_
  refine va_get (D := (dC, dI)) (ci := 8) (v := .int (nI n_size)) (C := R_Row) (T := F_Row) (N := 6) hx hb hz zu_Row hown hK hP 0 rfl rfl 3 (by decide) (hz (.fieldLink R_Row 21 "LayoutFront$Row" "size" "I") zm_312) (fun _ h9 => h9) rfl d_Row_size_1 ?_
  have hP9 := hP.sub (ws' := [(a_t, .inr (8, [.ref a_parts, .ref a_firsts, .ref a_lasts, .int (nI n_size), .int z_operates, .int z_lacksOperand]))]) [0] rfl
  have hD9 := hD.sub (ws' := [(a_t, .inr (8, [.ref a_parts, .ref a_firsts, .ref a_lasts, .int (nI n_size), .int z_operates, .int z_lacksOperand]))]) [0] (by decide) rfl
  exact W.iret (v := (nI n_size)) hx hb hr (fun t ht hW => ⟨⟨(nI n_size), (), rfl, rfl, by rw [ht]; exact hP9, va_K.moved hW.alike hK, hD9⟩, hS.F ht⟩) hS.2.2 d_Row_size_4
set_option maxHeartbeats 4000000 in
set_option maxRecDepth 100000 in
theorem s_Row_has (l : Launch) (dC : Nat → ClassId) (dI : Nat → Nat → Nat) (sz : Nat) (a_t : Nat) (a_parts : Nat) (a_firsts : Nat) (a_lasts : Nat) (n_size : Nat) (z_operates : Int32) (z_lacksOperand : Int32) (y0 : Int32) (b_size : n_size ≤ 90) : Met l y_Row_has w_Row_has ({ frames := 0, cells := 0, slots := 0, locals := 0 }) (va_Pc [.ref a_t, .int y0] (fun U => U.heap.size = sz ∧ va_P (dC, dI) vcl [(a_t, .inr (8, [.ref a_parts, .ref a_firsts, .ref a_lasts, .int (nI n_size), .int z_operates, .int z_lacksOperand]))] U.heap ∧ va_K (dC, dI) vcl [] U ∧ va_D (fun _ => True) [(a_t, .inr (8, [.ref a_parts, .ref a_firsts, .ref a_lasts, .int (nI n_size), .int z_operates, .int z_lacksOperand]))])) (va_Qi (fun (r : Int32) (_ : Unit) => (r = 0 ∨ r = 1) ∧ (¬ r = 0 → 0 ≤ y0 ∧ y0 < (nI n_size))) (fun _ t => va_P (dC, dI) vcl [(a_t, .inr (8, [.ref a_parts, .ref a_firsts, .ref a_lasts, .int (nI n_size), .int z_operates, .int z_lacksOperand]))] t.heap ∧ va_K (dC, dI) vcl [] t ∧ va_D (va_A [(a_t, .inr (8, [.ref a_parts, .ref a_firsts, .ref a_lasts, .int (nI n_size), .int z_operates, .int z_lacksOperand]))] sz) [(a_t, .inr (8, [.ref a_parts, .ref a_firsts, .ref a_lasts, .int (nI n_size), .int z_operates, .int z_lacksOperand]))]) (va_A [(a_t, .inr (8, [.ref a_parts, .ref a_firsts, .ref a_lasts, .int (nI n_size), .int z_operates, .int z_lacksOperand]))] sz)) 0 0 (va_A [(a_t, .inr (8, [.ref a_parts, .ref a_firsts, .ref a_lasts, .int (nI n_size), .int z_operates, .int z_lacksOperand]))] sz) := by
  refine Met.ofW (cc := b_Row_has) (maxL := 2) (ret := (some .boolean)) (by decide) rfl ?_
  intro p e s m args below meth c s₁ B hml hv
  obtain ⟨rfl, hsz, hP, hK, hD0⟩ := hv
  have hx := B.exec
  have hb := B.bytes
  have hr := B.returns
  have hts := atoms_spec (ws := w_Row_has) B.pre
  have hz : ∀ w ∈ wz, w.before _ s = true := fun w h => hts w (List.mem_cons_of_mem _ h)
  have hown : s.vm.findClass R_Row = some m.cls := findClass_of_methodNamed B.named
  have hlocks := B.notSynchronized
  subst hsz
  have hD := hD0.self (sz := s.heap.size)
  generalize hAe : va_A [(a_t, .inr (8, [.ref a_parts, .ref a_firsts, .ref a_lasts, .int (nI n_size), .int z_operates, .int z_lacksOperand]))] s.heap.size = A at hD ⊢
  have hA : ∀ q : Nat, s.heap.size ≤ q → A q := fun q h => by rw [← hAe]; exact Or.inr h
  have hS : va_S A s.heap s.heap [] := va_S.rf
  have hP : va_P (dC, dI) vcl [(a_t, .inr (8, [.ref a_parts, .ref a_firsts, .ref a_lasts, .int (nI n_size), .int z_operates, .int z_lacksOperand]))] s.heap := hP
  have hl := lv_entry ([.ref a_t, .int y0]) (n := 2) (Nat.le_of_ble_eq_true rfl)
  rw [lg_entry_eq]
  generalize (lg_sl ([.ref a_t, .int y0]) ++ List.replicate (2 - (lg_sl ([.ref a_t, .int y0])).length) Slot.unset).toArray = ls at hl ⊢
  have hl : lv_has ls 2 [(0, .ref a_t), (1, .int y0)] := hl
  refine lv_iload_n hx hb d_Row_has_0 rfl (lv_at hl 1 rfl) ?_
  refine lv_if_lt (tgt := 16) hx hb d_Row_has_1 (by decide) (fun h1 => ?_) (fun h1 => ?_)
  · refine lv_iconst (v := 0) hx hb d_Row_has_16 (by decide) ?_
    have hP9 := hP.sub (ws' := [(a_t, .inr (8, [.ref a_parts, .ref a_firsts, .ref a_lasts, .int (nI n_size), .int z_operates, .int z_lacksOperand]))]) [0] rfl
    have hD9 := hD.sub (ws' := [(a_t, .inr (8, [.ref a_parts, .ref a_firsts, .ref a_lasts, .int (nI n_size), .int z_operates, .int z_lacksOperand]))]) [0] (by decide) rfl
    exact W.zret (v := 0) hx hb hr (by decide +kernel) (fun t ht hW => ⟨⟨0, (), rfl, ⟨(by first | assumption | exact Or.inl rfl | exact Or.inr rfl), fun h => absurd rfl h⟩, by rw [ht]; exact hP9, va_K.moved hW.alike hK, hD9⟩, hS.F ht⟩) hS.2.2 d_Row_has_17
  · refine lv_iload_n hx hb d_Row_has_4 rfl (lv_at hl 1 rfl) ?_
    refine lv_aload_n hx hb d_Row_has_5 rfl (lv_at hl 0 rfl) ?_
    refine va_get (D := (dC, dI)) (ci := 8) (v := .int (nI n_size)) (C := R_Row) (T := F_Row) (N := 6) hx hb hz zu_Row hown hK hP 0 rfl rfl 3 (by decide) (hz (.fieldLink R_Row 21 "LayoutFront$Row" "size" "I") zm_312) (fun _ h9 => h9) rfl d_Row_has_6 ?_
    refine lv_icmp_ge (tgt := 16) hx hb d_Row_has_9 (by decide) (fun h2 => ?_) (fun h2 => ?_)
    · refine lv_iconst (v := 0) hx hb d_Row_has_16 (by decide) ?_
      have hP9 := hP.sub (ws' := [(a_t, .inr (8, [.ref a_parts, .ref a_firsts, .ref a_lasts, .int (nI n_size), .int z_operates, .int z_lacksOperand]))]) [0] rfl
      have hD9 := hD.sub (ws' := [(a_t, .inr (8, [.ref a_parts, .ref a_firsts, .ref a_lasts, .int (nI n_size), .int z_operates, .int z_lacksOperand]))]) [0] (by decide) rfl
      exact W.zret (v := 0) hx hb hr (by decide +kernel) (fun t ht hW => ⟨⟨0, (), rfl, ⟨(by first | assumption | exact Or.inl rfl | exact Or.inr rfl), fun h => absurd rfl h⟩, by rw [ht]; exact hP9, va_K.moved hW.alike hK, hD9⟩, hS.F ht⟩) hS.2.2 d_Row_has_17
    · refine lv_iconst (v := 1) hx hb d_Row_has_12 (by decide) ?_
      refine lv_goto (tgt := 17) hx hb d_Row_has_13 (by decide) ?_
      have hP9 := hP.sub (ws' := [(a_t, .inr (8, [.ref a_parts, .ref a_firsts, .ref a_lasts, .int (nI n_size), .int z_operates, .int z_lacksOperand]))]) [0] rfl
      have hD9 := hD.sub (ws' := [(a_t, .inr (8, [.ref a_parts, .ref a_firsts, .ref a_lasts, .int (nI n_size), .int z_operates, .int z_lacksOperand]))]) [0] (by decide) rfl
      exact W.zret (v := 1) hx hb hr (by decide +kernel) (fun t ht hW => ⟨⟨1, (), rfl, ⟨(by first | assumption | exact Or.inl rfl | exact Or.inr rfl), fun _ => ⟨(xr_ge0 h1), (Int32.not_le.mp h2)⟩⟩, by rw [ht]; exact hP9, va_K.moved hW.alike hK, hD9⟩, hS.F ht⟩) hS.2.2 d_Row_has_17
set_option maxHeartbeats 4000000 in
set_option maxRecDepth 100000 in
theorem s_Row_partAt (l : Launch) (dC : Nat → ClassId) (dI : Nat → Nat → Nat) (sz : Nat) (a_t : Nat) (a_parts : Nat) (f_parts : Nat → Int32) (a_firsts : Nat) (a_lasts : Nat) (n_size : Nat) (z_operates : Int32) (z_lacksOperand : Int32) (y0 : Int32) (ka_parts : ClassId) (b_size : n_size ≤ 90) : Met l y_Row_partAt w_Row_partAt ({ frames := 1, cells := 0, slots := 0, locals := 21 }) (va_Pc [.ref a_t, .int y0] (fun U => U.heap.size = sz ∧ va_P (dC, dI) vcl [(a_t, .inr (8, [.ref a_parts, .ref a_firsts, .ref a_lasts, .int (nI n_size), .int z_operates, .int z_lacksOperand])), (a_parts, .inl (ka_parts, 90, .inl f_parts))] U.heap ∧ va_K (dC, dI) vcl [(ka_parts, .int)] U ∧ va_D (fun _ => True) [(a_t, .inr (8, [.ref a_parts, .ref a_firsts, .ref a_lasts, .int (nI n_size), .int z_operates, .int z_lacksOperand])), (a_parts, .inl (ka_parts, 90, .inl f_parts))])) (va_Qi (fun (r : Int32) (_ : Unit) => True) (fun _ t => va_P (dC, dI) vcl [(a_t, .inr (8, [.ref a_parts, .ref a_firsts, .ref a_lasts, .int (nI n_size), .int z_operates, .int z_lacksOperand])), (a_parts, .inl (ka_parts, 90, .inl f_parts))] t.heap ∧ va_K (dC, dI) vcl [(ka_parts, .int)] t ∧ va_D (va_A [(a_t, .inr (8, [.ref a_parts, .ref a_firsts, .ref a_lasts, .int (nI n_size), .int z_operates, .int z_lacksOperand])), (a_parts, .inl (ka_parts, 90, .inl f_parts))] sz) [(a_t, .inr (8, [.ref a_parts, .ref a_firsts, .ref a_lasts, .int (nI n_size), .int z_operates, .int z_lacksOperand])), (a_parts, .inl (ka_parts, 90, .inl f_parts))]) (va_A [(a_t, .inr (8, [.ref a_parts, .ref a_firsts, .ref a_lasts, .int (nI n_size), .int z_operates, .int z_lacksOperand])), (a_parts, .inl (ka_parts, 90, .inl f_parts))] sz)) 0 0 (va_A [(a_t, .inr (8, [.ref a_parts, .ref a_firsts, .ref a_lasts, .int (nI n_size), .int z_operates, .int z_lacksOperand])), (a_parts, .inl (ka_parts, 90, .inl f_parts))] sz) := by
  refine Met.ofW (cc := b_Row_partAt) (maxL := 2) (ret := (some .int)) (by decide) rfl ?_
  intro p e s m args below meth c s₁ B hml hv
  obtain ⟨rfl, hsz, hP, hK, hD0⟩ := hv
  have hx := B.exec
  have hb := B.bytes
  have hr := B.returns
  have hts := atoms_spec (ws := w_Row_partAt) B.pre
  have hz : ∀ w ∈ wz, w.before _ s = true := fun w h => hts w (List.mem_cons_of_mem _ h)
  have hown : s.vm.findClass R_Row = some m.cls := findClass_of_methodNamed B.named
  have hlocks := B.notSynchronized
  subst hsz
  have hD := hD0.self (sz := s.heap.size)
  generalize hAe : va_A [(a_t, .inr (8, [.ref a_parts, .ref a_firsts, .ref a_lasts, .int (nI n_size), .int z_operates, .int z_lacksOperand])), (a_parts, .inl (ka_parts, 90, .inl f_parts))] s.heap.size = A at hD ⊢
  have hA : ∀ q : Nat, s.heap.size ≤ q → A q := fun q h => by rw [← hAe]; exact Or.inr h
  have hS : va_S A s.heap s.heap [] := va_S.rf
  have hP : va_P (dC, dI) vcl [(a_t, .inr (8, [.ref a_parts, .ref a_firsts, .ref a_lasts, .int (nI n_size), .int z_operates, .int z_lacksOperand])), (a_parts, .inl (ka_parts, 90, .inl f_parts))] s.heap := hP
  have hl := lv_entry ([.ref a_t, .int y0]) (n := 2) (Nat.le_of_ble_eq_true rfl)
  rw [lg_entry_eq]
  generalize (lg_sl ([.ref a_t, .int y0]) ++ List.replicate (2 - (lg_sl ([.ref a_t, .int y0])).length) Slot.unset).toArray = ls at hl ⊢
  have hl : lv_has ls 2 [(0, .ref a_t), (1, .int y0)] := hl
  refine lv_aload_n hx hb d_Row_partAt_0 rfl (lv_at hl 0 rfl) ?_
  refine lv_iload_n hx hb d_Row_partAt_1 rfl (lv_at hl 1 rfl) ?_
  have hPc := hP.sub (ws' := [(a_t, .inr (8, [.ref a_parts, .ref a_firsts, .ref a_lasts, .int (nI n_size), .int z_operates, .int z_lacksOperand]))]) [0] rfl
  have hDc := hD.sub (ws' := [(a_t, .inr (8, [.ref a_parts, .ref a_firsts, .ref a_lasts, .int (nI n_size), .int z_operates, .int z_lacksOperand]))]) [0] (by decide) rfl
  have hKc := hK.sub (tys' := []) [] rfl
  have hFc := va_free (wc := [(a_t, .inr (8, [.ref a_parts, .ref a_firsts, .ref a_lasts, .int (nI n_size), .int z_operates, .int z_lacksOperand]))]) hD hS hA [0] rfl
  refine va_calli (va_runV (As := [.int y0]) (rest := []) ⟨hx, hb, hml, hown, hz⟩ (s_Row_has l dC dI s.heap.size a_t a_parts a_firsts a_lasts n_size z_operates z_lacksOperand y0 (by first | omega | assumption | exact Or.inl rfl | exact Or.inr rfl)) (cwV 1 hz (zV zm_324 zm_325 zm_326 zm_318 zm_327) rfl rfl rfl (by decide +kernel) ⟨Nat.le_of_ble_eq_true rfl, Nat.le_of_ble_eq_true rfl⟩) ⟨fun a U g mk q => by obtain ⟨q0, q1, qP, qK, qD⟩ := q; exact ⟨q0, q1, qP, va_K.moved (u := U) (U := U.calling g mk a) (Vm.Alike.refl U.vm) qK, qD⟩, va_recv (q := (R_Row, F_Row, 6)) (q0 := 0) (ci := 8) hK hP rfl rfl, fun U hU hW => ⟨rfl, by rw [hU], by rw [hU]; exact hPc, va_K.moved hW.alike hKc, hDc.weaken (fun _ _ _ _ => trivial)⟩⟩ rfl rfl hl.1 rfl (lv_room (Nat.le_of_ble_eq_true rfl)) d_Row_partAt_2 ⟨Nat.zero_le _, Nat.zero_le _⟩) hS (fun q _ h => hFc q h) hFc (fun x1 u t H1 locs ht hvm hw_x1 hB hz1 hk1 hS => ?_)
  obtain ⟨hP1, hK1, hD1⟩ := hB
  have hb_x1 := hw_x1.1
  rw [ht] at hP1
  obtain ⟨hP, hD⟩ := va_join (wr := [(a_parts, .inl (ka_parts, 90, .inl f_parts))]) (w1 := [(a_t, .inr (8, [.ref a_parts, .ref a_firsts, .ref a_lasts, .int (nI n_size), .int z_operates, .int z_lacksOperand]))]) hP hD [0] [1] rfl rfl (by decide) (by decide) hk1 hFc hP1 hD1
  generalize H1 = H at hP hS ⊢
  have hP : va_P (dC, dI) vcl [(a_parts, .inl (ka_parts, 90, .inl f_parts)), (a_t, .inr (8, [.ref a_parts, .ref a_firsts, .ref a_lasts, .int (nI n_size), .int z_operates, .int z_lacksOperand]))] H := hP
  have hD : va_D A [(a_parts, .inl (ka_parts, 90, .inl f_parts)), (a_t, .inr (8, [.ref a_parts, .ref a_firsts, .ref a_lasts, .int (nI n_size), .int z_operates, .int z_lacksOperand]))] := hD
  refine lv_if_eq (tgt := 17) hx hb d_Row_partAt_5 (by decide) (fun h2 => ?_) (fun h2 => ?_)
  · refine lv_iconst (v := (-1)) hx hb d_Row_partAt_17 (by decide) ?_
    have hP9 := hP.sub (ws' := [(a_t, .inr (8, [.ref a_parts, .ref a_firsts, .ref a_lasts, .int (nI n_size), .int z_operates, .int z_lacksOperand])), (a_parts, .inl (ka_parts, 90, .inl f_parts))]) [1, 0] rfl
    have hD9 := hD.sub (ws' := [(a_t, .inr (8, [.ref a_parts, .ref a_firsts, .ref a_lasts, .int (nI n_size), .int z_operates, .int z_lacksOperand])), (a_parts, .inl (ka_parts, 90, .inl f_parts))]) [1, 0] (by decide) rfl
    exact W.iret (v := (-1)) hx hb hr (fun t ht hW => ⟨⟨(-1), (), rfl, trivial, by rw [ht]; exact hP9, va_K.moved hW.alike hK, hD9⟩, hS.F ht⟩) hS.2.2 d_Row_partAt_18
  · refine lv_aload_n hx hb d_Row_partAt_8 rfl (lv_at hl 0 rfl) ?_
    refine va_get (D := (dC, dI)) (ci := 8) (v := .ref a_parts) (C := R_Row) (T := F_Row) (N := 6) hx hb hz zu_Row hown hK hP 1 rfl rfl 0 (by decide) (hz (.fieldLink R_Row 9 "LayoutFront$Row" "parts" "[I") zm_308) (fun _ h9 => h9) rfl d_Row_partAt_9 ?_
    refine lv_iload_n hx hb d_Row_partAt_12 rfl (lv_at hl 1 rfl) ?_
    refine va_iald hx hb hK hP 0 0 rfl rfl (xr_inr (hw_x1.2 h2).1 (hw_x1.2 h2).2 (by omega) (by omega)) d_Row_partAt_13 ?_
    refine lv_topi (fun x3 e_x3 => ?_)
    refine lv_goto (tgt := 18) hx hb d_Row_partAt_14 (by decide) ?_
    have hP9 := hP.sub (ws' := [(a_t, .inr (8, [.ref a_parts, .ref a_firsts, .ref a_lasts, .int (nI n_size), .int z_operates, .int z_lacksOperand])), (a_parts, .inl (ka_parts, 90, .inl f_parts))]) [1, 0] rfl
    have hD9 := hD.sub (ws' := [(a_t, .inr (8, [.ref a_parts, .ref a_firsts, .ref a_lasts, .int (nI n_size), .int z_operates, .int z_lacksOperand])), (a_parts, .inl (ka_parts, 90, .inl f_parts))]) [1, 0] (by decide) rfl
    exact W.iret (v := x3) hx hb hr (fun t ht hW => ⟨⟨x3, (), rfl, trivial, by rw [ht]; exact hP9, va_K.moved hW.alike hK, hD9⟩, hS.F ht⟩) hS.2.2 d_Row_partAt_18
set_option maxHeartbeats 4000000 in
set_option maxRecDepth 100000 in
theorem s_Row_firstAt (l : Launch) (dC : Nat → ClassId) (dI : Nat → Nat → Nat) (sz : Nat) (a_t : Nat) (a_parts : Nat) (a_firsts : Nat) (f_firsts : Nat → Int32) (a_lasts : Nat) (n_size : Nat) (z_operates : Int32) (z_lacksOperand : Int32) (y0 : Int32) (ka_firsts : ClassId) (b_size : n_size ≤ 90) : Met l y_Row_firstAt w_Row_firstAt ({ frames := 1, cells := 0, slots := 0, locals := 21 }) (va_Pc [.ref a_t, .int y0] (fun U => U.heap.size = sz ∧ va_P (dC, dI) vcl [(a_t, .inr (8, [.ref a_parts, .ref a_firsts, .ref a_lasts, .int (nI n_size), .int z_operates, .int z_lacksOperand])), (a_firsts, .inl (ka_firsts, 90, .inl f_firsts))] U.heap ∧ va_K (dC, dI) vcl [(ka_firsts, .int)] U ∧ va_D (fun _ => True) [(a_t, .inr (8, [.ref a_parts, .ref a_firsts, .ref a_lasts, .int (nI n_size), .int z_operates, .int z_lacksOperand])), (a_firsts, .inl (ka_firsts, 90, .inl f_firsts))])) (va_Qi (fun (r : Int32) (_ : Unit) => True) (fun _ t => va_P (dC, dI) vcl [(a_t, .inr (8, [.ref a_parts, .ref a_firsts, .ref a_lasts, .int (nI n_size), .int z_operates, .int z_lacksOperand])), (a_firsts, .inl (ka_firsts, 90, .inl f_firsts))] t.heap ∧ va_K (dC, dI) vcl [(ka_firsts, .int)] t ∧ va_D (va_A [(a_t, .inr (8, [.ref a_parts, .ref a_firsts, .ref a_lasts, .int (nI n_size), .int z_operates, .int z_lacksOperand])), (a_firsts, .inl (ka_firsts, 90, .inl f_firsts))] sz) [(a_t, .inr (8, [.ref a_parts, .ref a_firsts, .ref a_lasts, .int (nI n_size), .int z_operates, .int z_lacksOperand])), (a_firsts, .inl (ka_firsts, 90, .inl f_firsts))]) (va_A [(a_t, .inr (8, [.ref a_parts, .ref a_firsts, .ref a_lasts, .int (nI n_size), .int z_operates, .int z_lacksOperand])), (a_firsts, .inl (ka_firsts, 90, .inl f_firsts))] sz)) 0 0 (va_A [(a_t, .inr (8, [.ref a_parts, .ref a_firsts, .ref a_lasts, .int (nI n_size), .int z_operates, .int z_lacksOperand])), (a_firsts, .inl (ka_firsts, 90, .inl f_firsts))] sz) := by
  refine Met.ofW (cc := b_Row_firstAt) (maxL := 2) (ret := (some .int)) (by decide) rfl ?_
  intro p e s m args below meth c s₁ B hml hv
  obtain ⟨rfl, hsz, hP, hK, hD0⟩ := hv
  have hx := B.exec
  have hb := B.bytes
  have hr := B.returns
  have hts := atoms_spec (ws := w_Row_firstAt) B.pre
  have hz : ∀ w ∈ wz, w.before _ s = true := fun w h => hts w (List.mem_cons_of_mem _ h)
  have hown : s.vm.findClass R_Row = some m.cls := findClass_of_methodNamed B.named
  have hlocks := B.notSynchronized
  subst hsz
  have hD := hD0.self (sz := s.heap.size)
  generalize hAe : va_A [(a_t, .inr (8, [.ref a_parts, .ref a_firsts, .ref a_lasts, .int (nI n_size), .int z_operates, .int z_lacksOperand])), (a_firsts, .inl (ka_firsts, 90, .inl f_firsts))] s.heap.size = A at hD ⊢
  have hA : ∀ q : Nat, s.heap.size ≤ q → A q := fun q h => by rw [← hAe]; exact Or.inr h
  have hS : va_S A s.heap s.heap [] := va_S.rf
  have hP : va_P (dC, dI) vcl [(a_t, .inr (8, [.ref a_parts, .ref a_firsts, .ref a_lasts, .int (nI n_size), .int z_operates, .int z_lacksOperand])), (a_firsts, .inl (ka_firsts, 90, .inl f_firsts))] s.heap := hP
  have hl := lv_entry ([.ref a_t, .int y0]) (n := 2) (Nat.le_of_ble_eq_true rfl)
  rw [lg_entry_eq]
  generalize (lg_sl ([.ref a_t, .int y0]) ++ List.replicate (2 - (lg_sl ([.ref a_t, .int y0])).length) Slot.unset).toArray = ls at hl ⊢
  have hl : lv_has ls 2 [(0, .ref a_t), (1, .int y0)] := hl
  refine lv_aload_n hx hb d_Row_firstAt_0 rfl (lv_at hl 0 rfl) ?_
  refine lv_iload_n hx hb d_Row_firstAt_1 rfl (lv_at hl 1 rfl) ?_
  have hPc := hP.sub (ws' := [(a_t, .inr (8, [.ref a_parts, .ref a_firsts, .ref a_lasts, .int (nI n_size), .int z_operates, .int z_lacksOperand]))]) [0] rfl
  have hDc := hD.sub (ws' := [(a_t, .inr (8, [.ref a_parts, .ref a_firsts, .ref a_lasts, .int (nI n_size), .int z_operates, .int z_lacksOperand]))]) [0] (by decide) rfl
  have hKc := hK.sub (tys' := []) [] rfl
  have hFc := va_free (wc := [(a_t, .inr (8, [.ref a_parts, .ref a_firsts, .ref a_lasts, .int (nI n_size), .int z_operates, .int z_lacksOperand]))]) hD hS hA [0] rfl
  refine va_calli (va_runV (As := [.int y0]) (rest := []) ⟨hx, hb, hml, hown, hz⟩ (s_Row_has l dC dI s.heap.size a_t a_parts a_firsts a_lasts n_size z_operates z_lacksOperand y0 (by first | omega | assumption | exact Or.inl rfl | exact Or.inr rfl)) (cwV 1 hz (zV zm_324 zm_325 zm_326 zm_318 zm_327) rfl rfl rfl (by decide +kernel) ⟨Nat.le_of_ble_eq_true rfl, Nat.le_of_ble_eq_true rfl⟩) ⟨fun a U g mk q => by obtain ⟨q0, q1, qP, qK, qD⟩ := q; exact ⟨q0, q1, qP, va_K.moved (u := U) (U := U.calling g mk a) (Vm.Alike.refl U.vm) qK, qD⟩, va_recv (q := (R_Row, F_Row, 6)) (q0 := 0) (ci := 8) hK hP rfl rfl, fun U hU hW => ⟨rfl, by rw [hU], by rw [hU]; exact hPc, va_K.moved hW.alike hKc, hDc.weaken (fun _ _ _ _ => trivial)⟩⟩ rfl rfl hl.1 rfl (lv_room (Nat.le_of_ble_eq_true rfl)) d_Row_firstAt_2 ⟨Nat.zero_le _, Nat.zero_le _⟩) hS (fun q _ h => hFc q h) hFc (fun x1 u t H1 locs ht hvm hw_x1 hB hz1 hk1 hS => ?_)
  obtain ⟨hP1, hK1, hD1⟩ := hB
  have hb_x1 := hw_x1.1
  rw [ht] at hP1
  obtain ⟨hP, hD⟩ := va_join (wr := [(a_firsts, .inl (ka_firsts, 90, .inl f_firsts))]) (w1 := [(a_t, .inr (8, [.ref a_parts, .ref a_firsts, .ref a_lasts, .int (nI n_size), .int z_operates, .int z_lacksOperand]))]) hP hD [0] [1] rfl rfl (by decide) (by decide) hk1 hFc hP1 hD1
  generalize H1 = H at hP hS ⊢
  have hP : va_P (dC, dI) vcl [(a_firsts, .inl (ka_firsts, 90, .inl f_firsts)), (a_t, .inr (8, [.ref a_parts, .ref a_firsts, .ref a_lasts, .int (nI n_size), .int z_operates, .int z_lacksOperand]))] H := hP
  have hD : va_D A [(a_firsts, .inl (ka_firsts, 90, .inl f_firsts)), (a_t, .inr (8, [.ref a_parts, .ref a_firsts, .ref a_lasts, .int (nI n_size), .int z_operates, .int z_lacksOperand]))] := hD
  refine lv_if_eq (tgt := 17) hx hb d_Row_firstAt_5 (by decide) (fun h2 => ?_) (fun h2 => ?_)
  · refine lv_iconst (v := (-1)) hx hb d_Row_firstAt_17 (by decide) ?_
    have hP9 := hP.sub (ws' := [(a_t, .inr (8, [.ref a_parts, .ref a_firsts, .ref a_lasts, .int (nI n_size), .int z_operates, .int z_lacksOperand])), (a_firsts, .inl (ka_firsts, 90, .inl f_firsts))]) [1, 0] rfl
    have hD9 := hD.sub (ws' := [(a_t, .inr (8, [.ref a_parts, .ref a_firsts, .ref a_lasts, .int (nI n_size), .int z_operates, .int z_lacksOperand])), (a_firsts, .inl (ka_firsts, 90, .inl f_firsts))]) [1, 0] (by decide) rfl
    exact W.iret (v := (-1)) hx hb hr (fun t ht hW => ⟨⟨(-1), (), rfl, trivial, by rw [ht]; exact hP9, va_K.moved hW.alike hK, hD9⟩, hS.F ht⟩) hS.2.2 d_Row_firstAt_18
  · refine lv_aload_n hx hb d_Row_firstAt_8 rfl (lv_at hl 0 rfl) ?_
    refine va_get (D := (dC, dI)) (ci := 8) (v := .ref a_firsts) (C := R_Row) (T := F_Row) (N := 6) hx hb hz zu_Row hown hK hP 1 rfl rfl 1 (by decide) (hz (.fieldLink R_Row 15 "LayoutFront$Row" "firsts" "[I") zm_309) (fun _ h9 => h9) rfl d_Row_firstAt_9 ?_
    refine lv_iload_n hx hb d_Row_firstAt_12 rfl (lv_at hl 1 rfl) ?_
    refine va_iald hx hb hK hP 0 0 rfl rfl (xr_inr (hw_x1.2 h2).1 (hw_x1.2 h2).2 (by omega) (by omega)) d_Row_firstAt_13 ?_
    refine lv_topi (fun x3 e_x3 => ?_)
    refine lv_goto (tgt := 18) hx hb d_Row_firstAt_14 (by decide) ?_
    have hP9 := hP.sub (ws' := [(a_t, .inr (8, [.ref a_parts, .ref a_firsts, .ref a_lasts, .int (nI n_size), .int z_operates, .int z_lacksOperand])), (a_firsts, .inl (ka_firsts, 90, .inl f_firsts))]) [1, 0] rfl
    have hD9 := hD.sub (ws' := [(a_t, .inr (8, [.ref a_parts, .ref a_firsts, .ref a_lasts, .int (nI n_size), .int z_operates, .int z_lacksOperand])), (a_firsts, .inl (ka_firsts, 90, .inl f_firsts))]) [1, 0] (by decide) rfl
    exact W.iret (v := x3) hx hb hr (fun t ht hW => ⟨⟨x3, (), rfl, trivial, by rw [ht]; exact hP9, va_K.moved hW.alike hK, hD9⟩, hS.F ht⟩) hS.2.2 d_Row_firstAt_18
set_option maxHeartbeats 4000000 in
set_option maxRecDepth 100000 in
theorem s_Row_lastAt (l : Launch) (dC : Nat → ClassId) (dI : Nat → Nat → Nat) (sz : Nat) (a_t : Nat) (a_parts : Nat) (a_firsts : Nat) (a_lasts : Nat) (f_lasts : Nat → Int32) (n_size : Nat) (z_operates : Int32) (z_lacksOperand : Int32) (y0 : Int32) (ka_lasts : ClassId) (b_size : n_size ≤ 90) : Met l y_Row_lastAt w_Row_lastAt ({ frames := 1, cells := 0, slots := 0, locals := 21 }) (va_Pc [.ref a_t, .int y0] (fun U => U.heap.size = sz ∧ va_P (dC, dI) vcl [(a_t, .inr (8, [.ref a_parts, .ref a_firsts, .ref a_lasts, .int (nI n_size), .int z_operates, .int z_lacksOperand])), (a_lasts, .inl (ka_lasts, 90, .inl f_lasts))] U.heap ∧ va_K (dC, dI) vcl [(ka_lasts, .int)] U ∧ va_D (fun _ => True) [(a_t, .inr (8, [.ref a_parts, .ref a_firsts, .ref a_lasts, .int (nI n_size), .int z_operates, .int z_lacksOperand])), (a_lasts, .inl (ka_lasts, 90, .inl f_lasts))])) (va_Qi (fun (r : Int32) (_ : Unit) => True) (fun _ t => va_P (dC, dI) vcl [(a_t, .inr (8, [.ref a_parts, .ref a_firsts, .ref a_lasts, .int (nI n_size), .int z_operates, .int z_lacksOperand])), (a_lasts, .inl (ka_lasts, 90, .inl f_lasts))] t.heap ∧ va_K (dC, dI) vcl [(ka_lasts, .int)] t ∧ va_D (va_A [(a_t, .inr (8, [.ref a_parts, .ref a_firsts, .ref a_lasts, .int (nI n_size), .int z_operates, .int z_lacksOperand])), (a_lasts, .inl (ka_lasts, 90, .inl f_lasts))] sz) [(a_t, .inr (8, [.ref a_parts, .ref a_firsts, .ref a_lasts, .int (nI n_size), .int z_operates, .int z_lacksOperand])), (a_lasts, .inl (ka_lasts, 90, .inl f_lasts))]) (va_A [(a_t, .inr (8, [.ref a_parts, .ref a_firsts, .ref a_lasts, .int (nI n_size), .int z_operates, .int z_lacksOperand])), (a_lasts, .inl (ka_lasts, 90, .inl f_lasts))] sz)) 0 0 (va_A [(a_t, .inr (8, [.ref a_parts, .ref a_firsts, .ref a_lasts, .int (nI n_size), .int z_operates, .int z_lacksOperand])), (a_lasts, .inl (ka_lasts, 90, .inl f_lasts))] sz) := by
  refine Met.ofW (cc := b_Row_lastAt) (maxL := 2) (ret := (some .int)) (by decide) rfl ?_
  intro p e s m args below meth c s₁ B hml hv
  obtain ⟨rfl, hsz, hP, hK, hD0⟩ := hv
  have hx := B.exec
  have hb := B.bytes
  have hr := B.returns
  have hts := atoms_spec (ws := w_Row_lastAt) B.pre
  have hz : ∀ w ∈ wz, w.before _ s = true := fun w h => hts w (List.mem_cons_of_mem _ h)
  have hown : s.vm.findClass R_Row = some m.cls := findClass_of_methodNamed B.named
  have hlocks := B.notSynchronized
  subst hsz
  have hD := hD0.self (sz := s.heap.size)
  generalize hAe : va_A [(a_t, .inr (8, [.ref a_parts, .ref a_firsts, .ref a_lasts, .int (nI n_size), .int z_operates, .int z_lacksOperand])), (a_lasts, .inl (ka_lasts, 90, .inl f_lasts))] s.heap.size = A at hD ⊢
  have hA : ∀ q : Nat, s.heap.size ≤ q → A q := fun q h => by rw [← hAe]; exact Or.inr h
  have hS : va_S A s.heap s.heap [] := va_S.rf
  have hP : va_P (dC, dI) vcl [(a_t, .inr (8, [.ref a_parts, .ref a_firsts, .ref a_lasts, .int (nI n_size), .int z_operates, .int z_lacksOperand])), (a_lasts, .inl (ka_lasts, 90, .inl f_lasts))] s.heap := hP
  have hl := lv_entry ([.ref a_t, .int y0]) (n := 2) (Nat.le_of_ble_eq_true rfl)
  rw [lg_entry_eq]
  generalize (lg_sl ([.ref a_t, .int y0]) ++ List.replicate (2 - (lg_sl ([.ref a_t, .int y0])).length) Slot.unset).toArray = ls at hl ⊢
  have hl : lv_has ls 2 [(0, .ref a_t), (1, .int y0)] := hl
  refine lv_aload_n hx hb d_Row_lastAt_0 rfl (lv_at hl 0 rfl) ?_
  refine lv_iload_n hx hb d_Row_lastAt_1 rfl (lv_at hl 1 rfl) ?_
  have hPc := hP.sub (ws' := [(a_t, .inr (8, [.ref a_parts, .ref a_firsts, .ref a_lasts, .int (nI n_size), .int z_operates, .int z_lacksOperand]))]) [0] rfl
  have hDc := hD.sub (ws' := [(a_t, .inr (8, [.ref a_parts, .ref a_firsts, .ref a_lasts, .int (nI n_size), .int z_operates, .int z_lacksOperand]))]) [0] (by decide) rfl
  have hKc := hK.sub (tys' := []) [] rfl
  have hFc := va_free (wc := [(a_t, .inr (8, [.ref a_parts, .ref a_firsts, .ref a_lasts, .int (nI n_size), .int z_operates, .int z_lacksOperand]))]) hD hS hA [0] rfl
  refine va_calli (va_runV (As := [.int y0]) (rest := []) ⟨hx, hb, hml, hown, hz⟩ (s_Row_has l dC dI s.heap.size a_t a_parts a_firsts a_lasts n_size z_operates z_lacksOperand y0 (by first | omega | assumption | exact Or.inl rfl | exact Or.inr rfl)) (cwV 1 hz (zV zm_324 zm_325 zm_326 zm_318 zm_327) rfl rfl rfl (by decide +kernel) ⟨Nat.le_of_ble_eq_true rfl, Nat.le_of_ble_eq_true rfl⟩) ⟨fun a U g mk q => by obtain ⟨q0, q1, qP, qK, qD⟩ := q; exact ⟨q0, q1, qP, va_K.moved (u := U) (U := U.calling g mk a) (Vm.Alike.refl U.vm) qK, qD⟩, va_recv (q := (R_Row, F_Row, 6)) (q0 := 0) (ci := 8) hK hP rfl rfl, fun U hU hW => ⟨rfl, by rw [hU], by rw [hU]; exact hPc, va_K.moved hW.alike hKc, hDc.weaken (fun _ _ _ _ => trivial)⟩⟩ rfl rfl hl.1 rfl (lv_room (Nat.le_of_ble_eq_true rfl)) d_Row_lastAt_2 ⟨Nat.zero_le _, Nat.zero_le _⟩) hS (fun q _ h => hFc q h) hFc (fun x1 u t H1 locs ht hvm hw_x1 hB hz1 hk1 hS => ?_)
  obtain ⟨hP1, hK1, hD1⟩ := hB
  have hb_x1 := hw_x1.1
  rw [ht] at hP1
  obtain ⟨hP, hD⟩ := va_join (wr := [(a_lasts, .inl (ka_lasts, 90, .inl f_lasts))]) (w1 := [(a_t, .inr (8, [.ref a_parts, .ref a_firsts, .ref a_lasts, .int (nI n_size), .int z_operates, .int z_lacksOperand]))]) hP hD [0] [1] rfl rfl (by decide) (by decide) hk1 hFc hP1 hD1
  generalize H1 = H at hP hS ⊢
  have hP : va_P (dC, dI) vcl [(a_lasts, .inl (ka_lasts, 90, .inl f_lasts)), (a_t, .inr (8, [.ref a_parts, .ref a_firsts, .ref a_lasts, .int (nI n_size), .int z_operates, .int z_lacksOperand]))] H := hP
  have hD : va_D A [(a_lasts, .inl (ka_lasts, 90, .inl f_lasts)), (a_t, .inr (8, [.ref a_parts, .ref a_firsts, .ref a_lasts, .int (nI n_size), .int z_operates, .int z_lacksOperand]))] := hD
  refine lv_if_eq (tgt := 17) hx hb d_Row_lastAt_5 (by decide) (fun h2 => ?_) (fun h2 => ?_)
  · refine lv_iconst (v := (-1)) hx hb d_Row_lastAt_17 (by decide) ?_
    have hP9 := hP.sub (ws' := [(a_t, .inr (8, [.ref a_parts, .ref a_firsts, .ref a_lasts, .int (nI n_size), .int z_operates, .int z_lacksOperand])), (a_lasts, .inl (ka_lasts, 90, .inl f_lasts))]) [1, 0] rfl
    have hD9 := hD.sub (ws' := [(a_t, .inr (8, [.ref a_parts, .ref a_firsts, .ref a_lasts, .int (nI n_size), .int z_operates, .int z_lacksOperand])), (a_lasts, .inl (ka_lasts, 90, .inl f_lasts))]) [1, 0] (by decide) rfl
    exact W.iret (v := (-1)) hx hb hr (fun t ht hW => ⟨⟨(-1), (), rfl, trivial, by rw [ht]; exact hP9, va_K.moved hW.alike hK, hD9⟩, hS.F ht⟩) hS.2.2 d_Row_lastAt_18
  · refine lv_aload_n hx hb d_Row_lastAt_8 rfl (lv_at hl 0 rfl) ?_
    refine va_get (D := (dC, dI)) (ci := 8) (v := .ref a_lasts) (C := R_Row) (T := F_Row) (N := 6) hx hb hz zu_Row hown hK hP 1 rfl rfl 2 (by decide) (hz (.fieldLink R_Row 18 "LayoutFront$Row" "lasts" "[I") zm_310) (fun _ h9 => h9) rfl d_Row_lastAt_9 ?_
    refine lv_iload_n hx hb d_Row_lastAt_12 rfl (lv_at hl 1 rfl) ?_
    refine va_iald hx hb hK hP 0 0 rfl rfl (xr_inr (hw_x1.2 h2).1 (hw_x1.2 h2).2 (by omega) (by omega)) d_Row_lastAt_13 ?_
    refine lv_topi (fun x3 e_x3 => ?_)
    refine lv_goto (tgt := 18) hx hb d_Row_lastAt_14 (by decide) ?_
    have hP9 := hP.sub (ws' := [(a_t, .inr (8, [.ref a_parts, .ref a_firsts, .ref a_lasts, .int (nI n_size), .int z_operates, .int z_lacksOperand])), (a_lasts, .inl (ka_lasts, 90, .inl f_lasts))]) [1, 0] rfl
    have hD9 := hD.sub (ws' := [(a_t, .inr (8, [.ref a_parts, .ref a_firsts, .ref a_lasts, .int (nI n_size), .int z_operates, .int z_lacksOperand])), (a_lasts, .inl (ka_lasts, 90, .inl f_lasts))]) [1, 0] (by decide) rfl
    exact W.iret (v := x3) hx hb hr (fun t ht hW => ⟨⟨x3, (), rfl, trivial, by rw [ht]; exact hP9, va_K.moved hW.alike hK, hD9⟩, hS.F ht⟩) hS.2.2 d_Row_lastAt_18
set_option maxHeartbeats 4000000 in
set_option maxRecDepth 100000 in
theorem s_Row_add (l : Launch) (dC : Nat → ClassId) (dI : Nat → Nat → Nat) (sz : Nat) (a_t : Nat) (a_parts : Nat) (f_parts : Nat → Int32) (a_firsts : Nat) (f_firsts : Nat → Int32) (a_lasts : Nat) (f_lasts : Nat → Int32) (n_size : Nat) (z_operates : Int32) (z_lacksOperand : Int32) (y0 : Int32) (y1 : Int32) (y2 : Int32) (ka_parts : ClassId) (ka_firsts : ClassId) (ka_lasts : ClassId) (b_size : n_size ≤ 90) : Met l y_Row_add w_Row_add ({ frames := 0, cells := 0, slots := 0, locals := 0 }) (va_Pc [.ref a_t, .int y0, .int y1, .int y2] (fun U => U.heap.size = sz ∧ va_P (dC, dI) vcl [(a_t, .inr (8, [.ref a_parts, .ref a_firsts, .ref a_lasts, .int (nI n_size), .int z_operates, .int z_lacksOperand])), (a_parts, .inl (ka_parts, 90, .inl f_parts)), (a_firsts, .inl (ka_firsts, 90, .inl f_firsts)), (a_lasts, .inl (ka_lasts, 90, .inl f_lasts))] U.heap ∧ va_K (dC, dI) vcl [(ka_parts, .int), (ka_firsts, .int), (ka_lasts, .int)] U ∧ va_D (fun _ => True) [(a_t, .inr (8, [.ref a_parts, .ref a_firsts, .ref a_lasts, .int (nI n_size), .int z_operates, .int z_lacksOperand])), (a_parts, .inl (ka_parts, 90, .inl f_parts)), (a_firsts, .inl (ka_firsts, 90, .inl f_firsts)), (a_lasts, .inl (ka_lasts, 90, .inl f_lasts))])) (va_Qv (fun (_ : Unit) => True) (fun _ t => ∃ (w_n_size : Nat) (w_f_parts : Nat → Int32) (w_f_firsts : Nat → Int32) (w_f_lasts : Nat → Int32), (w_n_size ≤ 90) ∧ va_P (dC, dI) vcl [(a_t, .inr (8, [.ref a_parts, .ref a_firsts, .ref a_lasts, .int (nI w_n_size), .int z_operates, .int z_lacksOperand])), (a_parts, .inl (ka_parts, 90, .inl w_f_parts)), (a_firsts, .inl (ka_firsts, 90, .inl w_f_firsts)), (a_lasts, .inl (ka_lasts, 90, .inl w_f_lasts))] t.heap ∧ va_K (dC, dI) vcl [(ka_parts, .int), (ka_firsts, .int), (ka_lasts, .int)] t ∧ va_D (va_A [(a_t, .inr (8, [.ref a_parts, .ref a_firsts, .ref a_lasts, .int (nI n_size), .int z_operates, .int z_lacksOperand])), (a_parts, .inl (ka_parts, 90, .inl f_parts)), (a_firsts, .inl (ka_firsts, 90, .inl f_firsts)), (a_lasts, .inl (ka_lasts, 90, .inl f_lasts))] sz) [(a_t, .inr (8, [.ref a_parts, .ref a_firsts, .ref a_lasts, .int (nI w_n_size), .int z_operates, .int z_lacksOperand])), (a_parts, .inl (ka_parts, 90, .inl w_f_parts)), (a_firsts, .inl (ka_firsts, 90, .inl w_f_firsts)), (a_lasts, .inl (ka_lasts, 90, .inl w_f_lasts))]) (va_A [(a_t, .inr (8, [.ref a_parts, .ref a_firsts, .ref a_lasts, .int (nI n_size), .int z_operates, .int z_lacksOperand])), (a_parts, .inl (ka_parts, 90, .inl f_parts)), (a_firsts, .inl (ka_firsts, 90, .inl f_firsts)), (a_lasts, .inl (ka_lasts, 90, .inl f_lasts))] sz)) 0 0 (va_A [(a_t, .inr (8, [.ref a_parts, .ref a_firsts, .ref a_lasts, .int (nI n_size), .int z_operates, .int z_lacksOperand])), (a_parts, .inl (ka_parts, 90, .inl f_parts)), (a_firsts, .inl (ka_firsts, 90, .inl f_firsts)), (a_lasts, .inl (ka_lasts, 90, .inl f_lasts))] sz) := by
  refine Met.ofW (cc := b_Row_add) (maxL := 4) (ret := none) (by decide) rfl ?_
  intro p e s m args below meth c s₁ B hml hv
  obtain ⟨rfl, hsz, hP, hK, hD0⟩ := hv
  have hx := B.exec
  have hb := B.bytes
  have hr := B.returns
  have hts := atoms_spec (ws := w_Row_add) B.pre
  have hz : ∀ w ∈ wz, w.before _ s = true := fun w h => hts w (List.mem_cons_of_mem _ h)
  have hown : s.vm.findClass R_Row = some m.cls := findClass_of_methodNamed B.named
  have hlocks := B.notSynchronized
  subst hsz
  have hD := hD0.self (sz := s.heap.size)
  generalize hAe : va_A [(a_t, .inr (8, [.ref a_parts, .ref a_firsts, .ref a_lasts, .int (nI n_size), .int z_operates, .int z_lacksOperand])), (a_parts, .inl (ka_parts, 90, .inl f_parts)), (a_firsts, .inl (ka_firsts, 90, .inl f_firsts)), (a_lasts, .inl (ka_lasts, 90, .inl f_lasts))] s.heap.size = A at hD ⊢
  have hA : ∀ q : Nat, s.heap.size ≤ q → A q := fun q h => by rw [← hAe]; exact Or.inr h
  have hS : va_S A s.heap s.heap [] := va_S.rf
  have hP : va_P (dC, dI) vcl [(a_t, .inr (8, [.ref a_parts, .ref a_firsts, .ref a_lasts, .int (nI n_size), .int z_operates, .int z_lacksOperand])), (a_parts, .inl (ka_parts, 90, .inl f_parts)), (a_firsts, .inl (ka_firsts, 90, .inl f_firsts)), (a_lasts, .inl (ka_lasts, 90, .inl f_lasts))] s.heap := hP
  have hl := lv_entry ([.ref a_t, .int y0, .int y1, .int y2]) (n := 4) (Nat.le_of_ble_eq_true rfl)
  rw [lg_entry_eq]
  generalize (lg_sl ([.ref a_t, .int y0, .int y1, .int y2]) ++ List.replicate (4 - (lg_sl ([.ref a_t, .int y0, .int y1, .int y2])).length) Slot.unset).toArray = ls at hl ⊢
  have hl : lv_has ls 4 [(0, .ref a_t), (1, .int y0), (2, .int y1), (3, .int y2)] := hl
  refine lv_aload_n hx hb d_Row_add_0 rfl (lv_at hl 0 rfl) ?_
  refine va_get (D := (dC, dI)) (ci := 8) (v := .int (nI n_size)) (C := R_Row) (T := F_Row) (N := 6) hx hb hz zu_Row hown hK hP 0 rfl rfl 3 (by decide) (hz (.fieldLink R_Row 21 "LayoutFront$Row" "size" "I") zm_312) (fun _ h9 => h9) rfl d_Row_add_1 ?_
  refine lv_bipush (v := 90) hx hb d_Row_add_4 (by decide) ?_
  refine lv_icmp_ge (tgt := 49) hx hb d_Row_add_6 (by decide) (fun h1 => ?_) (fun h1 => ?_)
  · have h1 : 90 ≤ n_size := (nI_leI (a := 90) (b := n_size) (by omega) (by omega)).mp h1
    have hP9 := hP.sub (ws' := [(a_t, .inr (8, [.ref a_parts, .ref a_firsts, .ref a_lasts, .int (nI n_size), .int z_operates, .int z_lacksOperand])), (a_parts, .inl (ka_parts, 90, .inl f_parts)), (a_firsts, .inl (ka_firsts, 90, .inl f_firsts)), (a_lasts, .inl (ka_lasts, 90, .inl f_lasts))]) [0, 1, 2, 3] rfl
    have hD9 := hD.sub (ws' := [(a_t, .inr (8, [.ref a_parts, .ref a_firsts, .ref a_lasts, .int (nI n_size), .int z_operates, .int z_lacksOperand])), (a_parts, .inl (ka_parts, 90, .inl f_parts)), (a_firsts, .inl (ka_firsts, 90, .inl f_firsts)), (a_lasts, .inl (ka_lasts, 90, .inl f_lasts))]) [0, 1, 2, 3] (by decide) rfl
    exact W.vret hx hb hr (fun t ht hW => ⟨⟨(), rfl, trivial, n_size, f_parts, f_firsts, f_lasts, by first | omega | assumption | exact Or.inl rfl | exact Or.inr rfl, by rw [ht]; exact hP9, va_K.moved hW.alike hK, hD9⟩, hS.F ht⟩) hS.2.2 d_Row_add_49
  · have h1 : ¬ 90 ≤ n_size := fun q => h1 ((nI_leI (a := 90) (b := n_size) (by omega) (by omega)).mpr q)
    refine lv_aload_n hx hb d_Row_add_9 rfl (lv_at hl 0 rfl) ?_
    refine va_get (D := (dC, dI)) (ci := 8) (v := .ref a_parts) (C := R_Row) (T := F_Row) (N := 6) hx hb hz zu_Row hown hK hP 0 rfl rfl 0 (by decide) (hz (.fieldLink R_Row 9 "LayoutFront$Row" "parts" "[I") zm_308) (fun _ h9 => h9) rfl d_Row_add_10 ?_
    refine lv_aload_n hx hb d_Row_add_13 rfl (lv_at hl 0 rfl) ?_
    refine va_get (D := (dC, dI)) (ci := 8) (v := .int (nI n_size)) (C := R_Row) (T := F_Row) (N := 6) hx hb hz zu_Row hown hK hP 0 rfl rfl 3 (by decide) (hz (.fieldLink R_Row 21 "LayoutFront$Row" "size" "I") zm_312) (fun _ h9 => h9) rfl d_Row_add_14 ?_
    refine lv_iload_n hx hb d_Row_add_17 rfl (lv_at hl 1 rfl) ?_
    refine va_iast hx hb hK hP hD hS 1 0 rfl rfl (vp_in_nI (by omega) (by omega)) d_Row_add_18 (fun H locs hP hD hS => ?_)
    generalize upd f_parts ((nI n_size) : Int32).toNatClampNeg y0 = f2 at hP hD
    have hP : va_P (dC, dI) vcl [(a_t, .inr (8, [.ref a_parts, .ref a_firsts, .ref a_lasts, .int (nI n_size), .int z_operates, .int z_lacksOperand])), (a_parts, .inl (ka_parts, 90, .inl f2)), (a_firsts, .inl (ka_firsts, 90, .inl f_firsts)), (a_lasts, .inl (ka_lasts, 90, .inl f_lasts))] H := hP
    have hD : va_D A [(a_t, .inr (8, [.ref a_parts, .ref a_firsts, .ref a_lasts, .int (nI n_size), .int z_operates, .int z_lacksOperand])), (a_parts, .inl (ka_parts, 90, .inl f2)), (a_firsts, .inl (ka_firsts, 90, .inl f_firsts)), (a_lasts, .inl (ka_lasts, 90, .inl f_lasts))] := hD
    refine lv_aload_n hx hb d_Row_add_19 rfl (lv_at hl 0 rfl) ?_
    refine va_get (D := (dC, dI)) (ci := 8) (v := .ref a_firsts) (C := R_Row) (T := F_Row) (N := 6) hx hb hz zu_Row hown hK hP 0 rfl rfl 1 (by decide) (hz (.fieldLink R_Row 15 "LayoutFront$Row" "firsts" "[I") zm_309) (fun _ h9 => h9) rfl d_Row_add_20 ?_
    refine lv_aload_n hx hb d_Row_add_23 rfl (lv_at hl 0 rfl) ?_
    refine va_get (D := (dC, dI)) (ci := 8) (v := .int (nI n_size)) (C := R_Row) (T := F_Row) (N := 6) hx hb hz zu_Row hown hK hP 0 rfl rfl 3 (by decide) (hz (.fieldLink R_Row 21 "LayoutFront$Row" "size" "I") zm_312) (fun _ h9 => h9) rfl d_Row_add_24 ?_
    refine lv_iload_n hx hb d_Row_add_27 rfl (lv_at hl 2 rfl) ?_
    refine va_iast hx hb hK hP hD hS 2 1 rfl rfl (vp_in_nI (by omega) (by omega)) d_Row_add_28 (fun H locs hP hD hS => ?_)
    generalize upd f_firsts ((nI n_size) : Int32).toNatClampNeg y1 = f3 at hP hD
    have hP : va_P (dC, dI) vcl [(a_t, .inr (8, [.ref a_parts, .ref a_firsts, .ref a_lasts, .int (nI n_size), .int z_operates, .int z_lacksOperand])), (a_parts, .inl (ka_parts, 90, .inl f2)), (a_firsts, .inl (ka_firsts, 90, .inl f3)), (a_lasts, .inl (ka_lasts, 90, .inl f_lasts))] H := hP
    have hD : va_D A [(a_t, .inr (8, [.ref a_parts, .ref a_firsts, .ref a_lasts, .int (nI n_size), .int z_operates, .int z_lacksOperand])), (a_parts, .inl (ka_parts, 90, .inl f2)), (a_firsts, .inl (ka_firsts, 90, .inl f3)), (a_lasts, .inl (ka_lasts, 90, .inl f_lasts))] := hD
    refine lv_aload_n hx hb d_Row_add_29 rfl (lv_at hl 0 rfl) ?_
    refine va_get (D := (dC, dI)) (ci := 8) (v := .ref a_lasts) (C := R_Row) (T := F_Row) (N := 6) hx hb hz zu_Row hown hK hP 0 rfl rfl 2 (by decide) (hz (.fieldLink R_Row 18 "LayoutFront$Row" "lasts" "[I") zm_310) (fun _ h9 => h9) rfl d_Row_add_30 ?_
    refine lv_aload_n hx hb d_Row_add_33 rfl (lv_at hl 0 rfl) ?_
    refine va_get (D := (dC, dI)) (ci := 8) (v := .int (nI n_size)) (C := R_Row) (T := F_Row) (N := 6) hx hb hz zu_Row hown hK hP 0 rfl rfl 3 (by decide) (hz (.fieldLink R_Row 21 "LayoutFront$Row" "size" "I") zm_312) (fun _ h9 => h9) rfl d_Row_add_34 ?_
    refine lv_iload_n hx hb d_Row_add_37 rfl (lv_at hl 3 rfl) ?_
    refine va_iast hx hb hK hP hD hS 3 2 rfl rfl (vp_in_nI (by omega) (by omega)) d_Row_add_38 (fun H locs hP hD hS => ?_)
    generalize upd f_lasts ((nI n_size) : Int32).toNatClampNeg y2 = f4 at hP hD
    have hP : va_P (dC, dI) vcl [(a_t, .inr (8, [.ref a_parts, .ref a_firsts, .ref a_lasts, .int (nI n_size), .int z_operates, .int z_lacksOperand])), (a_parts, .inl (ka_parts, 90, .inl f2)), (a_firsts, .inl (ka_firsts, 90, .inl f3)), (a_lasts, .inl (ka_lasts, 90, .inl f4))] H := hP
    have hD : va_D A [(a_t, .inr (8, [.ref a_parts, .ref a_firsts, .ref a_lasts, .int (nI n_size), .int z_operates, .int z_lacksOperand])), (a_parts, .inl (ka_parts, 90, .inl f2)), (a_firsts, .inl (ka_firsts, 90, .inl f3)), (a_lasts, .inl (ka_lasts, 90, .inl f4))] := hD
    refine lv_aload_n hx hb d_Row_add_39 rfl (lv_at hl 0 rfl) ?_
    refine lv_dup hx hb d_Row_add_40 rfl ?_
    refine va_get (D := (dC, dI)) (ci := 8) (v := .int (nI n_size)) (C := R_Row) (T := F_Row) (N := 6) hx hb hz zu_Row hown hK hP 0 rfl rfl 3 (by decide) (hz (.fieldLink R_Row 21 "LayoutFront$Row" "size" "I") zm_312) (fun _ h9 => h9) rfl d_Row_add_41 ?_
    refine lv_iconst (v := 1) hx hb d_Row_add_44 (by decide) ?_
    refine xr_iadd (v := (nI (n_size + 1))) hx hb d_Row_add_45 (nI_add n_size 1) ?_
    refine va_put (D := (dC, dI)) (ci := 8) (v := .int (nI (n_size + 1))) (ty := .int) (C := R_Row) (T := F_Row) (N := 6) hx hb hz zu_Row t_Row t_Row_ok n_Row hown hK hP hD hS 0 rfl rfl 3 (by decide) (hz (.fieldLink R_Row 21 "LayoutFront$Row" "size" "I") zm_312) (fun _ h9 => h9) rfl (by decide +kernel) rfl rfl (Nat.le_of_ble_eq_true rfl) d_Row_add_46 (fun H locs hP hD hS => ?_)
    have hP : va_P (dC, dI) vcl [(a_t, .inr (8, [.ref a_parts, .ref a_firsts, .ref a_lasts, .int (nI (n_size + 1)), .int z_operates, .int z_lacksOperand])), (a_parts, .inl (ka_parts, 90, .inl f2)), (a_firsts, .inl (ka_firsts, 90, .inl f3)), (a_lasts, .inl (ka_lasts, 90, .inl f4))] H := hP
    have hD : va_D A [(a_t, .inr (8, [.ref a_parts, .ref a_firsts, .ref a_lasts, .int (nI (n_size + 1)), .int z_operates, .int z_lacksOperand])), (a_parts, .inl (ka_parts, 90, .inl f2)), (a_firsts, .inl (ka_firsts, 90, .inl f3)), (a_lasts, .inl (ka_lasts, 90, .inl f4))] := hD
    have hP9 := hP.sub (ws' := [(a_t, .inr (8, [.ref a_parts, .ref a_firsts, .ref a_lasts, .int (nI (n_size + 1)), .int z_operates, .int z_lacksOperand])), (a_parts, .inl (ka_parts, 90, .inl f2)), (a_firsts, .inl (ka_firsts, 90, .inl f3)), (a_lasts, .inl (ka_lasts, 90, .inl f4))]) [0, 1, 2, 3] rfl
    have hD9 := hD.sub (ws' := [(a_t, .inr (8, [.ref a_parts, .ref a_firsts, .ref a_lasts, .int (nI (n_size + 1)), .int z_operates, .int z_lacksOperand])), (a_parts, .inl (ka_parts, 90, .inl f2)), (a_firsts, .inl (ka_firsts, 90, .inl f3)), (a_lasts, .inl (ka_lasts, 90, .inl f4))]) [0, 1, 2, 3] (by decide) rfl
    exact W.vret hx hb hr (fun t ht hW => ⟨⟨(), rfl, trivial, ((n_size + 1)), f2, f3, f4, by first | omega | assumption | exact Or.inl rfl | exact Or.inr rfl, by rw [ht]; exact hP9, va_K.moved hW.alike hK, hD9⟩, hS.F ht⟩) hS.2.2 d_Row_add_49
set_option maxHeartbeats 4000000 in
set_option maxRecDepth 100000 in
theorem s_Resolver_startRow (l : Launch) (dC : Nat → ClassId) (dI : Nat → Nat → Nat) (sz : Nat) (a_t : Nat) (a_pairFirsts : Nat) (a_pairLasts : Nat) (n_pairs : Nat) (n_pairsBefore : Nat) (a_firsts : Nat) (a_lasts : Nat) (n_operands : Nat) (a_levels : Nat) (a_sides : Nat) (a_minusPlaces : Nat) (n_waiting : Nat) (b_pairs : n_pairs ≤ 90) (b_pairsBefore : n_pairsBefore ≤ 90) (b_operands : n_operands ≤ 90) (b_waiting : n_waiting ≤ 90) : Met l y_Resolver_startRow w_Resolver_startRow ({ frames := 0, cells := 0, slots := 0, locals := 0 }) (va_Pc [.ref a_t] (fun U => U.heap.size = sz ∧ va_P (dC, dI) vcl [(a_t, .inr (7, [.ref a_pairFirsts, .ref a_pairLasts, .int (nI n_pairs), .int (nI n_pairsBefore), .ref a_firsts, .ref a_lasts, .int (nI n_operands), .ref a_levels, .ref a_sides, .ref a_minusPlaces, .int (nI n_waiting)]))] U.heap ∧ va_K (dC, dI) vcl [] U ∧ va_D (fun _ => True) [(a_t, .inr (7, [.ref a_pairFirsts, .ref a_pairLasts, .int (nI n_pairs), .int (nI n_pairsBefore), .ref a_firsts, .ref a_lasts, .int (nI n_operands), .ref a_levels, .ref a_sides, .ref a_minusPlaces, .int (nI n_waiting)]))])) (va_Qv (fun (_ : Unit) => True) (fun _ t => ∃ (w_n_pairsBefore : Nat) (w_n_operands : Nat) (w_n_waiting : Nat), (w_n_pairsBefore ≤ 90) ∧ (w_n_operands ≤ 90) ∧ (w_n_waiting ≤ 90) ∧ va_P (dC, dI) vcl [(a_t, .inr (7, [.ref a_pairFirsts, .ref a_pairLasts, .int (nI n_pairs), .int (nI w_n_pairsBefore), .ref a_firsts, .ref a_lasts, .int (nI w_n_operands), .ref a_levels, .ref a_sides, .ref a_minusPlaces, .int (nI w_n_waiting)]))] t.heap ∧ va_K (dC, dI) vcl [] t ∧ va_D (va_A [(a_t, .inr (7, [.ref a_pairFirsts, .ref a_pairLasts, .int (nI n_pairs), .int (nI n_pairsBefore), .ref a_firsts, .ref a_lasts, .int (nI n_operands), .ref a_levels, .ref a_sides, .ref a_minusPlaces, .int (nI n_waiting)]))] sz) [(a_t, .inr (7, [.ref a_pairFirsts, .ref a_pairLasts, .int (nI n_pairs), .int (nI w_n_pairsBefore), .ref a_firsts, .ref a_lasts, .int (nI w_n_operands), .ref a_levels, .ref a_sides, .ref a_minusPlaces, .int (nI w_n_waiting)]))]) (va_A [(a_t, .inr (7, [.ref a_pairFirsts, .ref a_pairLasts, .int (nI n_pairs), .int (nI n_pairsBefore), .ref a_firsts, .ref a_lasts, .int (nI n_operands), .ref a_levels, .ref a_sides, .ref a_minusPlaces, .int (nI n_waiting)]))] sz)) 0 0 (va_A [(a_t, .inr (7, [.ref a_pairFirsts, .ref a_pairLasts, .int (nI n_pairs), .int (nI n_pairsBefore), .ref a_firsts, .ref a_lasts, .int (nI n_operands), .ref a_levels, .ref a_sides, .ref a_minusPlaces, .int (nI n_waiting)]))] sz) := by
  refine Met.ofW (cc := b_Resolver_startRow) (maxL := 1) (ret := none) (by decide) rfl ?_
  intro p e s m args below meth c s₁ B hml hv
  obtain ⟨rfl, hsz, hP, hK, hD0⟩ := hv
  have hx := B.exec
  have hb := B.bytes
  have hr := B.returns
  have hts := atoms_spec (ws := w_Resolver_startRow) B.pre
  have hz : ∀ w ∈ wz, w.before _ s = true := fun w h => hts w (List.mem_cons_of_mem _ h)
  have hown : s.vm.findClass R_Resolver = some m.cls := findClass_of_methodNamed B.named
  have hlocks := B.notSynchronized
  subst hsz
  have hD := hD0.self (sz := s.heap.size)
  generalize hAe : va_A [(a_t, .inr (7, [.ref a_pairFirsts, .ref a_pairLasts, .int (nI n_pairs), .int (nI n_pairsBefore), .ref a_firsts, .ref a_lasts, .int (nI n_operands), .ref a_levels, .ref a_sides, .ref a_minusPlaces, .int (nI n_waiting)]))] s.heap.size = A at hD ⊢
  have hA : ∀ q : Nat, s.heap.size ≤ q → A q := fun q h => by rw [← hAe]; exact Or.inr h
  have hS : va_S A s.heap s.heap [] := va_S.rf
  have hP : va_P (dC, dI) vcl [(a_t, .inr (7, [.ref a_pairFirsts, .ref a_pairLasts, .int (nI n_pairs), .int (nI n_pairsBefore), .ref a_firsts, .ref a_lasts, .int (nI n_operands), .ref a_levels, .ref a_sides, .ref a_minusPlaces, .int (nI n_waiting)]))] s.heap := hP
  have hl := lv_entry ([.ref a_t]) (n := 1) (Nat.le_of_ble_eq_true rfl)
  rw [lg_entry_eq]
  generalize (lg_sl ([.ref a_t]) ++ List.replicate (1 - (lg_sl ([.ref a_t])).length) Slot.unset).toArray = ls at hl ⊢
  have hl : lv_has ls 1 [(0, .ref a_t)] := hl
  refine lv_aload_n hx hb d_Resolver_startRow_0 rfl (lv_at hl 0 rfl) ?_
  refine lv_aload_n hx hb d_Resolver_startRow_1 rfl (lv_at hl 0 rfl) ?_
  refine va_get (D := (dC, dI)) (ci := 7) (v := .int (nI n_pairs)) (C := R_Resolver) (T := F_Resolver) (N := 11) hx hb hz zu_Resolver hown hK hP 0 rfl rfl 2 (by decide) (hz (.fieldLink R_Resolver 33 "LayoutFront$Resolver" "pairs" "I") zm_336) (fun _ h9 => h9) rfl d_Resolver_startRow_2 ?_
  refine va_put (D := (dC, dI)) (ci := 7) (v := .int (nI n_pairs)) (ty := .int) (C := R_Resolver) (T := F_Resolver) (N := 11) hx hb hz zu_Resolver t_Resolver t_Resolver_ok n_Resolver hown hK hP hD hS 0 rfl rfl 3 (by decide) (hz (.fieldLink R_Resolver 40 "LayoutFront$Resolver" "pairsBefore" "I") zm_342) (fun _ h9 => h9) rfl (by decide +kernel) rfl rfl (Nat.le_of_ble_eq_true rfl) d_Resolver_startRow_5 (fun H locs hP hD hS => ?_)
  have hP : va_P (dC, dI) vcl [(a_t, .inr (7, [.ref a_pairFirsts, .ref a_pairLasts, .int (nI n_pairs), .int (nI n_pairs), .ref a_firsts, .ref a_lasts, .int (nI n_operands), .ref a_levels, .ref a_sides, .ref a_minusPlaces, .int (nI n_waiting)]))] H := hP
  have hD : va_D A [(a_t, .inr (7, [.ref a_pairFirsts, .ref a_pairLasts, .int (nI n_pairs), .int (nI n_pairs), .ref a_firsts, .ref a_lasts, .int (nI n_operands), .ref a_levels, .ref a_sides, .ref a_minusPlaces, .int (nI n_waiting)]))] := hD
  refine lv_aload_n hx hb d_Resolver_startRow_8 rfl (lv_at hl 0 rfl) ?_
  refine lv_iconst (v := 0) hx hb d_Resolver_startRow_9 (by decide) ?_
  refine va_put (D := (dC, dI)) (ci := 7) (v := .int 0) (ty := .int) (C := R_Resolver) (T := F_Resolver) (N := 11) hx hb hz zu_Resolver t_Resolver t_Resolver_ok n_Resolver hown hK hP hD hS 0 rfl rfl 6 (by decide) (hz (.fieldLink R_Resolver 43 "LayoutFront$Resolver" "operands" "I") zm_343) (fun _ h9 => h9) rfl (by decide +kernel) (by decide +kernel) rfl (Nat.le_of_ble_eq_true rfl) d_Resolver_startRow_10 (fun H locs hP hD hS => ?_)
  have hP : va_P (dC, dI) vcl [(a_t, .inr (7, [.ref a_pairFirsts, .ref a_pairLasts, .int (nI n_pairs), .int (nI n_pairs), .ref a_firsts, .ref a_lasts, .int 0, .ref a_levels, .ref a_sides, .ref a_minusPlaces, .int (nI n_waiting)]))] H := hP
  have hD : va_D A [(a_t, .inr (7, [.ref a_pairFirsts, .ref a_pairLasts, .int (nI n_pairs), .int (nI n_pairs), .ref a_firsts, .ref a_lasts, .int 0, .ref a_levels, .ref a_sides, .ref a_minusPlaces, .int (nI n_waiting)]))] := hD
  refine lv_aload_n hx hb d_Resolver_startRow_13 rfl (lv_at hl 0 rfl) ?_
  refine lv_iconst (v := 0) hx hb d_Resolver_startRow_14 (by decide) ?_
  refine va_put (D := (dC, dI)) (ci := 7) (v := .int 0) (ty := .int) (C := R_Resolver) (T := F_Resolver) (N := 11) hx hb hz zu_Resolver t_Resolver t_Resolver_ok n_Resolver hown hK hP hD hS 0 rfl rfl 10 (by decide) (hz (.fieldLink R_Resolver 46 "LayoutFront$Resolver" "waiting" "I") zm_344) (fun _ h9 => h9) rfl (by decide +kernel) (by decide +kernel) rfl (Nat.le_of_ble_eq_true rfl) d_Resolver_startRow_15 (fun H locs hP hD hS => ?_)
  have hP : va_P (dC, dI) vcl [(a_t, .inr (7, [.ref a_pairFirsts, .ref a_pairLasts, .int (nI n_pairs), .int (nI n_pairs), .ref a_firsts, .ref a_lasts, .int 0, .ref a_levels, .ref a_sides, .ref a_minusPlaces, .int 0]))] H := hP
  have hD : va_D A [(a_t, .inr (7, [.ref a_pairFirsts, .ref a_pairLasts, .int (nI n_pairs), .int (nI n_pairs), .ref a_firsts, .ref a_lasts, .int 0, .ref a_levels, .ref a_sides, .ref a_minusPlaces, .int 0]))] := hD
  have hP9 := hP.sub (ws' := [(a_t, .inr (7, [.ref a_pairFirsts, .ref a_pairLasts, .int (nI n_pairs), .int (nI n_pairs), .ref a_firsts, .ref a_lasts, .int 0, .ref a_levels, .ref a_sides, .ref a_minusPlaces, .int 0]))]) [0] rfl
  have hD9 := hD.sub (ws' := [(a_t, .inr (7, [.ref a_pairFirsts, .ref a_pairLasts, .int (nI n_pairs), .int (nI n_pairs), .ref a_firsts, .ref a_lasts, .int 0, .ref a_levels, .ref a_sides, .ref a_minusPlaces, .int 0]))]) [0] (by decide) rfl
  exact W.vret hx hb hr (fun t ht hW => ⟨⟨(), rfl, trivial, n_pairs, 0, 0, by first | omega | assumption | exact Or.inl rfl | exact Or.inr rfl, by first | omega | assumption | exact Or.inl rfl | exact Or.inr rfl, by first | omega | assumption | exact Or.inl rfl | exact Or.inr rfl, by rw [ht]; exact hP9, va_K.moved hW.alike hK, hD9⟩, hS.F ht⟩) hS.2.2 d_Resolver_startRow_18
set_option maxHeartbeats 4000000 in
set_option maxRecDepth 100000 in
theorem s_Resolver_clear (l : Launch) (dC : Nat → ClassId) (dI : Nat → Nat → Nat) (sz : Nat) (a_t : Nat) (a_pairFirsts : Nat) (a_pairLasts : Nat) (n_pairs : Nat) (n_pairsBefore : Nat) (a_firsts : Nat) (a_lasts : Nat) (n_operands : Nat) (a_levels : Nat) (a_sides : Nat) (a_minusPlaces : Nat) (n_waiting : Nat) (b_pairs : n_pairs ≤ 90) (b_pairsBefore : n_pairsBefore ≤ 90) (b_operands : n_operands ≤ 90) (b_waiting : n_waiting ≤ 90) : Met l y_Resolver_clear w_Resolver_clear ({ frames := 1, cells := 0, slots := 0, locals := 20 }) (va_Pc [.ref a_t] (fun U => U.heap.size = sz ∧ va_P (dC, dI) vcl [(a_t, .inr (7, [.ref a_pairFirsts, .ref a_pairLasts, .int (nI n_pairs), .int (nI n_pairsBefore), .ref a_firsts, .ref a_lasts, .int (nI n_operands), .ref a_levels, .ref a_sides, .ref a_minusPlaces, .int (nI n_waiting)]))] U.heap ∧ va_K (dC, dI) vcl [] U ∧ va_D (fun _ => True) [(a_t, .inr (7, [.ref a_pairFirsts, .ref a_pairLasts, .int (nI n_pairs), .int (nI n_pairsBefore), .ref a_firsts, .ref a_lasts, .int (nI n_operands), .ref a_levels, .ref a_sides, .ref a_minusPlaces, .int (nI n_waiting)]))])) (va_Qv (fun (_ : Unit) => True) (fun _ t => ∃ (w_n_pairs : Nat) (w_n_pairsBefore : Nat) (w_n_operands : Nat) (w_n_waiting : Nat), (w_n_pairs ≤ 90) ∧ (w_n_pairsBefore ≤ 90) ∧ (w_n_operands ≤ 90) ∧ (w_n_waiting ≤ 90) ∧ va_P (dC, dI) vcl [(a_t, .inr (7, [.ref a_pairFirsts, .ref a_pairLasts, .int (nI w_n_pairs), .int (nI w_n_pairsBefore), .ref a_firsts, .ref a_lasts, .int (nI w_n_operands), .ref a_levels, .ref a_sides, .ref a_minusPlaces, .int (nI w_n_waiting)]))] t.heap ∧ va_K (dC, dI) vcl [] t ∧ va_D (va_A [(a_t, .inr (7, [.ref a_pairFirsts, .ref a_pairLasts, .int (nI n_pairs), .int (nI n_pairsBefore), .ref a_firsts, .ref a_lasts, .int (nI n_operands), .ref a_levels, .ref a_sides, .ref a_minusPlaces, .int (nI n_waiting)]))] sz) [(a_t, .inr (7, [.ref a_pairFirsts, .ref a_pairLasts, .int (nI w_n_pairs), .int (nI w_n_pairsBefore), .ref a_firsts, .ref a_lasts, .int (nI w_n_operands), .ref a_levels, .ref a_sides, .ref a_minusPlaces, .int (nI w_n_waiting)]))]) (va_A [(a_t, .inr (7, [.ref a_pairFirsts, .ref a_pairLasts, .int (nI n_pairs), .int (nI n_pairsBefore), .ref a_firsts, .ref a_lasts, .int (nI n_operands), .ref a_levels, .ref a_sides, .ref a_minusPlaces, .int (nI n_waiting)]))] sz)) 0 0 (va_A [(a_t, .inr (7, [.ref a_pairFirsts, .ref a_pairLasts, .int (nI n_pairs), .int (nI n_pairsBefore), .ref a_firsts, .ref a_lasts, .int (nI n_operands), .ref a_levels, .ref a_sides, .ref a_minusPlaces, .int (nI n_waiting)]))] sz) := by
  refine Met.ofW (cc := b_Resolver_clear) (maxL := 1) (ret := none) (by decide) rfl ?_
  intro p e s m args below meth c s₁ B hml hv
  obtain ⟨rfl, hsz, hP, hK, hD0⟩ := hv
  have hx := B.exec
  have hb := B.bytes
  have hr := B.returns
  have hts := atoms_spec (ws := w_Resolver_clear) B.pre
  have hz : ∀ w ∈ wz, w.before _ s = true := fun w h => hts w (List.mem_cons_of_mem _ h)
  have hown : s.vm.findClass R_Resolver = some m.cls := findClass_of_methodNamed B.named
  have hlocks := B.notSynchronized
  subst hsz
  have hD := hD0.self (sz := s.heap.size)
  generalize hAe : va_A [(a_t, .inr (7, [.ref a_pairFirsts, .ref a_pairLasts, .int (nI n_pairs), .int (nI n_pairsBefore), .ref a_firsts, .ref a_lasts, .int (nI n_operands), .ref a_levels, .ref a_sides, .ref a_minusPlaces, .int (nI n_waiting)]))] s.heap.size = A at hD ⊢
  have hA : ∀ q : Nat, s.heap.size ≤ q → A q := fun q h => by rw [← hAe]; exact Or.inr h
  have hS : va_S A s.heap s.heap [] := va_S.rf
  have hP : va_P (dC, dI) vcl [(a_t, .inr (7, [.ref a_pairFirsts, .ref a_pairLasts, .int (nI n_pairs), .int (nI n_pairsBefore), .ref a_firsts, .ref a_lasts, .int (nI n_operands), .ref a_levels, .ref a_sides, .ref a_minusPlaces, .int (nI n_waiting)]))] s.heap := hP
  have hl := lv_entry ([.ref a_t]) (n := 1) (Nat.le_of_ble_eq_true rfl)
  rw [lg_entry_eq]
  generalize (lg_sl ([.ref a_t]) ++ List.replicate (1 - (lg_sl ([.ref a_t])).length) Slot.unset).toArray = ls at hl ⊢
  have hl : lv_has ls 1 [(0, .ref a_t)] := hl
  refine lv_aload_n hx hb d_Resolver_clear_0 rfl (lv_at hl 0 rfl) ?_
  refine lv_iconst (v := 0) hx hb d_Resolver_clear_1 (by decide) ?_
  refine va_put (D := (dC, dI)) (ci := 7) (v := .int 0) (ty := .int) (C := R_Resolver) (T := F_Resolver) (N := 11) hx hb hz zu_Resolver t_Resolver t_Resolver_ok n_Resolver hown hK hP hD hS 0 rfl rfl 2 (by decide) (hz (.fieldLink R_Resolver 33 "LayoutFront$Resolver" "pairs" "I") zm_336) (fun _ h9 => h9) rfl (by decide +kernel) (by decide +kernel) rfl (Nat.le_of_ble_eq_true rfl) d_Resolver_clear_2 (fun H locs hP hD hS => ?_)
  have hP : va_P (dC, dI) vcl [(a_t, .inr (7, [.ref a_pairFirsts, .ref a_pairLasts, .int 0, .int (nI n_pairsBefore), .ref a_firsts, .ref a_lasts, .int (nI n_operands), .ref a_levels, .ref a_sides, .ref a_minusPlaces, .int (nI n_waiting)]))] H := hP
  have hD : va_D A [(a_t, .inr (7, [.ref a_pairFirsts, .ref a_pairLasts, .int 0, .int (nI n_pairsBefore), .ref a_firsts, .ref a_lasts, .int (nI n_operands), .ref a_levels, .ref a_sides, .ref a_minusPlaces, .int (nI n_waiting)]))] := hD
  refine lv_aload_n hx hb d_Resolver_clear_5 rfl (lv_at hl 0 rfl) ?_
  have hPc := hP.sub (ws' := [(a_t, .inr (7, [.ref a_pairFirsts, .ref a_pairLasts, .int 0, .int (nI n_pairsBefore), .ref a_firsts, .ref a_lasts, .int (nI n_operands), .ref a_levels, .ref a_sides, .ref a_minusPlaces, .int (nI n_waiting)]))]) [0] rfl
  have hDc := hD.sub (ws' := [(a_t, .inr (7, [.ref a_pairFirsts, .ref a_pairLasts, .int 0, .int (nI n_pairsBefore), .ref a_firsts, .ref a_lasts, .int (nI n_operands), .ref a_levels, .ref a_sides, .ref a_minusPlaces, .int (nI n_waiting)]))]) [0] (by decide) rfl
  have hKc := hK.sub (tys' := []) [] rfl
  have hFc := va_free (wc := [(a_t, .inr (7, [.ref a_pairFirsts, .ref a_pairLasts, .int 0, .int (nI n_pairsBefore), .ref a_firsts, .ref a_lasts, .int (nI n_operands), .ref a_levels, .ref a_sides, .ref a_minusPlaces, .int (nI n_waiting)]))]) hD hS hA [0] rfl
  refine va_callv (va_runV (As := []) (rest := []) ⟨hx, hb, hml, hown, hz⟩ (s_Resolver_startRow l dC dI H.size a_t a_pairFirsts a_pairLasts 0 n_pairsBefore a_firsts a_lasts n_operands a_levels a_sides a_minusPlaces n_waiting (by first | omega | assumption | exact Or.inl rfl | exact Or.inr rfl) (by first | omega | assumption | exact Or.inl rfl | exact Or.inr rfl) (by first | omega | assumption | exact Or.inl rfl | exact Or.inr rfl) (by first | omega | assumption | exact Or.inl rfl | exact Or.inr rfl)) (cwV 0 hz (zV zm_337 zm_338 zm_339 zm_340 zm_341) rfl rfl rfl (by decide +kernel) ⟨Nat.le_of_ble_eq_true rfl, Nat.le_of_ble_eq_true rfl⟩) ⟨fun a U g mk q => by obtain ⟨q0, q1, qP, qK, qD⟩ := q; exact ⟨q0, q1, qP, va_K.moved (u := U) (U := U.calling g mk a) (Vm.Alike.refl U.vm) qK, qD⟩, va_recv (q := (R_Resolver, F_Resolver, 11)) (q0 := 0) (ci := 7) hK hP rfl rfl, fun U hU hW => ⟨rfl, by rw [hU], by rw [hU]; exact hPc, va_K.moved hW.alike hKc, hDc.weaken (fun _ _ _ _ => trivial)⟩⟩ rfl rfl hl.1 rfl (lv_room (Nat.le_of_ble_eq_true rfl)) d_Resolver_clear_6 ⟨Nat.zero_le _, Nat.zero_le _⟩) hS (fun q _ h => hFc q h) hFc (fun u t H1 locs ht hvm hw hB hz1 hk1 hS => ?_)
  obtain ⟨g1, g2, g3, hb_g1, hb_g2, hb_g3, hP1, hK1, hD1⟩ := hB
  rw [ht] at hP1
  obtain ⟨hP, hD⟩ := va_join (wr := []) (w1 := [(a_t, .inr (7, [.ref a_pairFirsts, .ref a_pairLasts, .int 0, .int (nI g1), .ref a_firsts, .ref a_lasts, .int (nI g2), .ref a_levels, .ref a_sides, .ref a_minusPlaces, .int (nI g3)]))]) hP hD [0] [] rfl rfl (by decide) (by decide) hk1 hFc hP1 hD1
  generalize H1 = H at hP hS ⊢
  have hP : va_P (dC, dI) vcl [(a_t, .inr (7, [.ref a_pairFirsts, .ref a_pairLasts, .int 0, .int (nI g1), .ref a_firsts, .ref a_lasts, .int (nI g2), .ref a_levels, .ref a_sides, .ref a_minusPlaces, .int (nI g3)]))] H := hP
  have hD : va_D A [(a_t, .inr (7, [.ref a_pairFirsts, .ref a_pairLasts, .int 0, .int (nI g1), .ref a_firsts, .ref a_lasts, .int (nI g2), .ref a_levels, .ref a_sides, .ref a_minusPlaces, .int (nI g3)]))] := hD
  have hP9 := hP.sub (ws' := [(a_t, .inr (7, [.ref a_pairFirsts, .ref a_pairLasts, .int 0, .int (nI g1), .ref a_firsts, .ref a_lasts, .int (nI g2), .ref a_levels, .ref a_sides, .ref a_minusPlaces, .int (nI g3)]))]) [0] rfl
  have hD9 := hD.sub (ws' := [(a_t, .inr (7, [.ref a_pairFirsts, .ref a_pairLasts, .int 0, .int (nI g1), .ref a_firsts, .ref a_lasts, .int (nI g2), .ref a_levels, .ref a_sides, .ref a_minusPlaces, .int (nI g3)]))]) [0] (by decide) rfl
  exact W.vret hx hb hr (fun t ht hW => ⟨⟨(), rfl, trivial, 0, g1, g2, g3, by first | omega | assumption | exact Or.inl rfl | exact Or.inr rfl, by first | omega | assumption | exact Or.inl rfl | exact Or.inr rfl, by first | omega | assumption | exact Or.inl rfl | exact Or.inr rfl, by first | omega | assumption | exact Or.inl rfl | exact Or.inr rfl, by rw [ht]; exact hP9, va_K.moved hW.alike hK, hD9⟩, hS.F ht⟩) hS.2.2 d_Resolver_clear_9
set_option maxHeartbeats 4000000 in
set_option maxRecDepth 100000 in
theorem s_Resolver_giveUpRow (l : Launch) (dC : Nat → ClassId) (dI : Nat → Nat → Nat) (sz : Nat) (a_t : Nat) (a_pairFirsts : Nat) (a_pairLasts : Nat) (n_pairs : Nat) (n_pairsBefore : Nat) (a_firsts : Nat) (a_lasts : Nat) (n_operands : Nat) (a_levels : Nat) (a_sides : Nat) (a_minusPlaces : Nat) (n_waiting : Nat) (b_pairs : n_pairs ≤ 90) (b_pairsBefore : n_pairsBefore ≤ 90) (b_operands : n_operands ≤ 90) (b_waiting : n_waiting ≤ 90) : Met l y_Resolver_giveUpRow w_Resolver_giveUpRow ({ frames := 0, cells := 0, slots := 0, locals := 0 }) (va_Pc [.ref a_t] (fun U => U.heap.size = sz ∧ va_P (dC, dI) vcl [(a_t, .inr (7, [.ref a_pairFirsts, .ref a_pairLasts, .int (nI n_pairs), .int (nI n_pairsBefore), .ref a_firsts, .ref a_lasts, .int (nI n_operands), .ref a_levels, .ref a_sides, .ref a_minusPlaces, .int (nI n_waiting)]))] U.heap ∧ va_K (dC, dI) vcl [] U ∧ va_D (fun _ => True) [(a_t, .inr (7, [.ref a_pairFirsts, .ref a_pairLasts, .int (nI n_pairs), .int (nI n_pairsBefore), .ref a_firsts, .ref a_lasts, .int (nI n_operands), .ref a_levels, .ref a_sides, .ref a_minusPlaces, .int (nI n_waiting)]))])) (va_Qv (fun (_ : Unit) => True) (fun _ t => ∃ (w_n_pairs : Nat), (w_n_pairs ≤ 90) ∧ va_P (dC, dI) vcl [(a_t, .inr (7, [.ref a_pairFirsts, .ref a_pairLasts, .int (nI w_n_pairs), .int (nI n_pairsBefore), .ref a_firsts, .ref a_lasts, .int (nI n_operands), .ref a_levels, .ref a_sides, .ref a_minusPlaces, .int (nI n_waiting)]))] t.heap ∧ va_K (dC, dI) vcl [] t ∧ va_D (va_A [(a_t, .inr (7, [.ref a_pairFirsts, .ref a_pairLasts, .int (nI n_pairs), .int (nI n_pairsBefore), .ref a_firsts, .ref a_lasts, .int (nI n_operands), .ref a_levels, .ref a_sides, .ref a_minusPlaces, .int (nI n_waiting)]))] sz) [(a_t, .inr (7, [.ref a_pairFirsts, .ref a_pairLasts, .int (nI w_n_pairs), .int (nI n_pairsBefore), .ref a_firsts, .ref a_lasts, .int (nI n_operands), .ref a_levels, .ref a_sides, .ref a_minusPlaces, .int (nI n_waiting)]))]) (va_A [(a_t, .inr (7, [.ref a_pairFirsts, .ref a_pairLasts, .int (nI n_pairs), .int (nI n_pairsBefore), .ref a_firsts, .ref a_lasts, .int (nI n_operands), .ref a_levels, .ref a_sides, .ref a_minusPlaces, .int (nI n_waiting)]))] sz)) 0 0 (va_A [(a_t, .inr (7, [.ref a_pairFirsts, .ref a_pairLasts, .int (nI n_pairs), .int (nI n_pairsBefore), .ref a_firsts, .ref a_lasts, .int (nI n_operands), .ref a_levels, .ref a_sides, .ref a_minusPlaces, .int (nI n_waiting)]))] sz) := by
  refine Met.ofW (cc := b_Resolver_giveUpRow) (maxL := 1) (ret := none) (by decide) rfl ?_
  intro p e s m args below meth c s₁ B hml hv
  obtain ⟨rfl, hsz, hP, hK, hD0⟩ := hv
  have hx := B.exec
  have hb := B.bytes
  have hr := B.returns
  have hts := atoms_spec (ws := w_Resolver_giveUpRow) B.pre
  have hz : ∀ w ∈ wz, w.before _ s = true := fun w h => hts w (List.mem_cons_of_mem _ h)
  have hown : s.vm.findClass R_Resolver = some m.cls := findClass_of_methodNamed B.named
  have hlocks := B.notSynchronized
  subst hsz
  have hD := hD0.self (sz := s.heap.size)
  generalize hAe : va_A [(a_t, .inr (7, [.ref a_pairFirsts, .ref a_pairLasts, .int (nI n_pairs), .int (nI n_pairsBefore), .ref a_firsts, .ref a_lasts, .int (nI n_operands), .ref a_levels, .ref a_sides, .ref a_minusPlaces, .int (nI n_waiting)]))] s.heap.size = A at hD ⊢
  have hA : ∀ q : Nat, s.heap.size ≤ q → A q := fun q h => by rw [← hAe]; exact Or.inr h
  have hS : va_S A s.heap s.heap [] := va_S.rf
  have hP : va_P (dC, dI) vcl [(a_t, .inr (7, [.ref a_pairFirsts, .ref a_pairLasts, .int (nI n_pairs), .int (nI n_pairsBefore), .ref a_firsts, .ref a_lasts, .int (nI n_operands), .ref a_levels, .ref a_sides, .ref a_minusPlaces, .int (nI n_waiting)]))] s.heap := hP
  have hl := lv_entry ([.ref a_t]) (n := 1) (Nat.le_of_ble_eq_true rfl)
  rw [lg_entry_eq]
  generalize (lg_sl ([.ref a_t]) ++ List.replicate (1 - (lg_sl ([.ref a_t])).length) Slot.unset).toArray = ls at hl ⊢
  have hl : lv_has ls 1 [(0, .ref a_t)] := hl
  refine lv_aload_n hx hb d_Resolver_giveUpRow_0 rfl (lv_at hl 0 rfl) ?_
  refine lv_aload_n hx hb d_Resolver_giveUpRow_1 rfl (lv_at hl 0 rfl) ?_
  refine va_get (D := (dC, dI)) (ci := 7) (v := .int (nI n_pairsBefore)) (C := R_Resolver) (T := F_Resolver) (N := 11) hx hb hz zu_Resolver hown hK hP 0 rfl rfl 3 (by decide) (hz (.fieldLink R_Resolver 40 "LayoutFront$Resolver" "pairsBefore" "I") zm_342) (fun _ h9 => h9) rfl d_Resolver_giveUpRow_2 ?_
  refine va_put (D := (dC, dI)) (ci := 7) (v := .int (nI n_pairsBefore)) (ty := .int) (C := R_Resolver) (T := F_Resolver) (N := 11) hx hb hz zu_Resolver t_Resolver t_Resolver_ok n_Resolver hown hK hP hD hS 0 rfl rfl 2 (by decide) (hz (.fieldLink R_Resolver 33 "LayoutFront$Resolver" "pairs" "I") zm_336) (fun _ h9 => h9) rfl (by decide +kernel) rfl rfl (Nat.le_of_ble_eq_true rfl) d_Resolver_giveUpRow_5 (fun H locs hP hD hS => ?_)
  have hP : va_P (dC, dI) vcl [(a_t, .inr (7, [.ref a_pairFirsts, .ref a_pairLasts, .int (nI n_pairsBefore), .int (nI n_pairsBefore), .ref a_firsts, .ref a_lasts, .int (nI n_operands), .ref a_levels, .ref a_sides, .ref a_minusPlaces, .int (nI n_waiting)]))] H := hP
  have hD : va_D A [(a_t, .inr (7, [.ref a_pairFirsts, .ref a_pairLasts, .int (nI n_pairsBefore), .int (nI n_pairsBefore), .ref a_firsts, .ref a_lasts, .int (nI n_operands), .ref a_levels, .ref a_sides, .ref a_minusPlaces, .int (nI n_waiting)]))] := hD
  have hP9 := hP.sub (ws' := [(a_t, .inr (7, [.ref a_pairFirsts, .ref a_pairLasts, .int (nI n_pairsBefore), .int (nI n_pairsBefore), .ref a_firsts, .ref a_lasts, .int (nI n_operands), .ref a_levels, .ref a_sides, .ref a_minusPlaces, .int (nI n_waiting)]))]) [0] rfl
  have hD9 := hD.sub (ws' := [(a_t, .inr (7, [.ref a_pairFirsts, .ref a_pairLasts, .int (nI n_pairsBefore), .int (nI n_pairsBefore), .ref a_firsts, .ref a_lasts, .int (nI n_operands), .ref a_levels, .ref a_sides, .ref a_minusPlaces, .int (nI n_waiting)]))]) [0] (by decide) rfl
  exact W.vret hx hb hr (fun t ht hW => ⟨⟨(), rfl, trivial, n_pairsBefore, by first | omega | assumption | exact Or.inl rfl | exact Or.inr rfl, by rw [ht]; exact hP9, va_K.moved hW.alike hK, hD9⟩, hS.F ht⟩) hS.2.2 d_Resolver_giveUpRow_8
set_option maxHeartbeats 4000000 in
set_option maxRecDepth 100000 in
theorem s_Resolver_takeOperand (l : Launch) (dC : Nat → ClassId) (dI : Nat → Nat → Nat) (sz : Nat) (a_t : Nat) (a_pairFirsts : Nat) (a_pairLasts : Nat) (n_pairs : Nat) (n_pairsBefore : Nat) (a_firsts : Nat) (f_firsts : Nat → Int32) (a_lasts : Nat) (f_lasts : Nat → Int32) (n_operands : Nat) (a_levels : Nat) (a_sides : Nat) (a_minusPlaces : Nat) (n_waiting : Nat) (y0 : Int32) (y1 : Int32) (ka_firsts : ClassId) (ka_lasts : ClassId) (b_pairs : n_pairs ≤ 90) (b_pairsBefore : n_pairsBefore ≤ 90) (b_operands : n_operands ≤ 90) (b_waiting : n_waiting ≤ 90) : Met l y_Resolver_takeOperand w_Resolver_takeOperand ({ frames := 0, cells := 0, slots := 0, locals := 0 }) (va_Pc [.ref a_t, .int y0, .int y1] (fun U => U.heap.size = sz ∧ va_P (dC, dI) vcl [(a_t, .inr (7, [.ref a_pairFirsts, .ref a_pairLasts, .int (nI n_pairs), .int (nI n_pairsBefore), .ref a_firsts, .ref a_lasts, .int (nI n_operands), .ref a_levels, .ref a_sides, .ref a_minusPlaces, .int (nI n_waiting)])), (a_firsts, .inl (ka_firsts, 90, .inl f_firsts)), (a_lasts, .inl (ka_lasts, 90, .inl f_lasts))] U.heap ∧ va_K (dC, dI) vcl [(ka_firsts, .int), (ka_lasts, .int)] U ∧ va_D (fun _ => True) [(a_t, .inr (7, [.ref a_pairFirsts, .ref a_pairLasts, .int (nI n_pairs), .int (nI n_pairsBefore), .ref a_firsts, .ref a_lasts, .int (nI n_operands), .ref a_levels, .ref a_sides, .ref a_minusPlaces, .int (nI n_waiting)])), (a_firsts, .inl (ka_firsts, 90, .inl f_firsts)), (a_lasts, .inl (ka_lasts, 90, .inl f_lasts))])) (va_Qv (fun (_ : Unit) => True) (fun _ t => ∃ (w_n_operands : Nat) (w_f_firsts : Nat → Int32) (w_f_lasts : Nat → Int32), (w_n_operands ≤ 90) ∧ va_P (dC, dI) vcl [(a_t, .inr (7, [.ref a_pairFirsts, .ref a_pairLasts, .int (nI n_pairs), .int (nI n_pairsBefore), .ref a_firsts, .ref a_lasts, .int (nI w_n_operands), .ref a_levels, .ref a_sides, .ref a_minusPlaces, .int (nI n_waiting)])), (a_firsts, .inl (ka_firsts, 90, .inl w_f_firsts)), (a_lasts, .inl (ka_lasts, 90, .inl w_f_lasts))] t.heap ∧ va_K (dC, dI) vcl [(ka_firsts, .int), (ka_lasts, .int)] t ∧ va_D (va_A [(a_t, .inr (7, [.ref a_pairFirsts, .ref a_pairLasts, .int (nI n_pairs), .int (nI n_pairsBefore), .ref a_firsts, .ref a_lasts, .int (nI n_operands), .ref a_levels, .ref a_sides, .ref a_minusPlaces, .int (nI n_waiting)])), (a_firsts, .inl (ka_firsts, 90, .inl f_firsts)), (a_lasts, .inl (ka_lasts, 90, .inl f_lasts))] sz) [(a_t, .inr (7, [.ref a_pairFirsts, .ref a_pairLasts, .int (nI n_pairs), .int (nI n_pairsBefore), .ref a_firsts, .ref a_lasts, .int (nI w_n_operands), .ref a_levels, .ref a_sides, .ref a_minusPlaces, .int (nI n_waiting)])), (a_firsts, .inl (ka_firsts, 90, .inl w_f_firsts)), (a_lasts, .inl (ka_lasts, 90, .inl w_f_lasts))]) (va_A [(a_t, .inr (7, [.ref a_pairFirsts, .ref a_pairLasts, .int (nI n_pairs), .int (nI n_pairsBefore), .ref a_firsts, .ref a_lasts, .int (nI n_operands), .ref a_levels, .ref a_sides, .ref a_minusPlaces, .int (nI n_waiting)])), (a_firsts, .inl (ka_firsts, 90, .inl f_firsts)), (a_lasts, .inl (ka_lasts, 90, .inl f_lasts))] sz)) 0 0 (va_A [(a_t, .inr (7, [.ref a_pairFirsts, .ref a_pairLasts, .int (nI n_pairs), .int (nI n_pairsBefore), .ref a_firsts, .ref a_lasts, .int (nI n_operands), .ref a_levels, .ref a_sides, .ref a_minusPlaces, .int (nI n_waiting)])), (a_firsts, .inl (ka_firsts, 90, .inl f_firsts)), (a_lasts, .inl (ka_lasts, 90, .inl f_lasts))] sz) := by
  refine Met.ofW (cc := b_Resolver_takeOperand) (maxL := 3) (ret := none) (by decide) rfl ?_
  intro p e s m args below meth c s₁ B hml hv
  obtain ⟨rfl, hsz, hP, hK, hD0⟩ := hv
  have hx := B.exec
  have hb := B.bytes
  have hr := B.returns
  have hts := atoms_spec (ws := w_Resolver_takeOperand) B.pre
  have hz : ∀ w ∈ wz, w.before _ s = true := fun w h => hts w (List.mem_cons_of_mem _ h)
  have hown : s.vm.findClass R_Resolver = some m.cls := findClass_of_methodNamed B.named
  have hlocks := B.notSynchronized
  subst hsz
  have hD := hD0.self (sz := s.heap.size)
  generalize hAe : va_A [(a_t, .inr (7, [.ref a_pairFirsts, .ref a_pairLasts, .int (nI n_pairs), .int (nI n_pairsBefore), .ref a_firsts, .ref a_lasts, .int (nI n_operands), .ref a_levels, .ref a_sides, .ref a_minusPlaces, .int (nI n_waiting)])), (a_firsts, .inl (ka_firsts, 90, .inl f_firsts)), (a_lasts, .inl (ka_lasts, 90, .inl f_lasts))] s.heap.size = A at hD ⊢
  have hA : ∀ q : Nat, s.heap.size ≤ q → A q := fun q h => by rw [← hAe]; exact Or.inr h
  have hS : va_S A s.heap s.heap [] := va_S.rf
  have hP : va_P (dC, dI) vcl [(a_t, .inr (7, [.ref a_pairFirsts, .ref a_pairLasts, .int (nI n_pairs), .int (nI n_pairsBefore), .ref a_firsts, .ref a_lasts, .int (nI n_operands), .ref a_levels, .ref a_sides, .ref a_minusPlaces, .int (nI n_waiting)])), (a_firsts, .inl (ka_firsts, 90, .inl f_firsts)), (a_lasts, .inl (ka_lasts, 90, .inl f_lasts))] s.heap := hP
  have hl := lv_entry ([.ref a_t, .int y0, .int y1]) (n := 3) (Nat.le_of_ble_eq_true rfl)
  rw [lg_entry_eq]
  generalize (lg_sl ([.ref a_t, .int y0, .int y1]) ++ List.replicate (3 - (lg_sl ([.ref a_t, .int y0, .int y1])).length) Slot.unset).toArray = ls at hl ⊢
  have hl : lv_has ls 3 [(0, .ref a_t), (1, .int y0), (2, .int y1)] := hl
  refine lv_aload_n hx hb d_Resolver_takeOperand_0 rfl (lv_at hl 0 rfl) ?_
  refine va_get (D := (dC, dI)) (ci := 7) (v := .int (nI n_operands)) (C := R_Resolver) (T := F_Resolver) (N := 11) hx hb hz zu_Resolver hown hK hP 0 rfl rfl 6 (by decide) (hz (.fieldLink R_Resolver 43 "LayoutFront$Resolver" "operands" "I") zm_343) (fun _ h9 => h9) rfl d_Resolver_takeOperand_1 ?_
  refine lv_bipush (v := 90) hx hb d_Resolver_takeOperand_4 (by decide) ?_
  refine lv_icmp_ge (tgt := 39) hx hb d_Resolver_takeOperand_6 (by decide) (fun h1 => ?_) (fun h1 => ?_)
  · have h1 : 90 ≤ n_operands := (nI_leI (a := 90) (b := n_operands) (by omega) (by omega)).mp h1
    have hP9 := hP.sub (ws' := [(a_t, .inr (7, [.ref a_pairFirsts, .ref a_pairLasts, .int (nI n_pairs), .int (nI n_pairsBefore), .ref a_firsts, .ref a_lasts, .int (nI n_operands), .ref a_levels, .ref a_sides, .ref a_minusPlaces, .int (nI n_waiting)])), (a_firsts, .inl (ka_firsts, 90, .inl f_firsts)), (a_lasts, .inl (ka_lasts, 90, .inl f_lasts))]) [0, 1, 2] rfl
    have hD9 := hD.sub (ws' := [(a_t, .inr (7, [.ref a_pairFirsts, .ref a_pairLasts, .int (nI n_pairs), .int (nI n_pairsBefore), .ref a_firsts, .ref a_lasts, .int (nI n_operands), .ref a_levels, .ref a_sides, .ref a_minusPlaces, .int (nI n_waiting)])), (a_firsts, .inl (ka_firsts, 90, .inl f_firsts)), (a_lasts, .inl (ka_lasts, 90, .inl f_lasts))]) [0, 1, 2] (by decide) rfl
    exact W.vret hx hb hr (fun t ht hW => ⟨⟨(), rfl, trivial, n_operands, f_firsts, f_lasts, by first | omega | assumption | exact Or.inl rfl | exact Or.inr rfl, by rw [ht]; exact hP9, va_K.moved hW.alike hK, hD9⟩, hS.F ht⟩) hS.2.2 d_Resolver_takeOperand_39
  · have h1 : ¬ 90 ≤ n_operands := fun q => h1 ((nI_leI (a := 90) (b := n_operands) (by omega) (by omega)).mpr q)
    refine lv_aload_n hx hb d_Resolver_takeOperand_9 rfl (lv_at hl 0 rfl) ?_
    refine va_get (D := (dC, dI)) (ci := 7) (v := .ref a_firsts) (C := R_Resolver) (T := F_Resolver) (N := 11) hx hb hz zu_Resolver hown hK hP 0 rfl rfl 4 (by decide) (hz (.fieldLink R_Resolver 18 "LayoutFront$Resolver" "firsts" "[I") zm_330) (fun _ h9 => h9) rfl d_Resolver_takeOperand_10 ?_
    refine lv_aload_n hx hb d_Resolver_takeOperand_13 rfl (lv_at hl 0 rfl) ?_
    refine va_get (D := (dC, dI)) (ci := 7) (v := .int (nI n_operands)) (C := R_Resolver) (T := F_Resolver) (N := 11) hx hb hz zu_Resolver hown hK hP 0 rfl rfl 6 (by decide) (hz (.fieldLink R_Resolver 43 "LayoutFront$Resolver" "operands" "I") zm_343) (fun _ h9 => h9) rfl d_Resolver_takeOperand_14 ?_
    refine lv_iload_n hx hb d_Resolver_takeOperand_17 rfl (lv_at hl 1 rfl) ?_
    refine va_iast hx hb hK hP hD hS 1 0 rfl rfl (vp_in_nI (by omega) (by omega)) d_Resolver_takeOperand_18 (fun H locs hP hD hS => ?_)
    generalize upd f_firsts ((nI n_operands) : Int32).toNatClampNeg y0 = f2 at hP hD
    have hP : va_P (dC, dI) vcl [(a_t, .inr (7, [.ref a_pairFirsts, .ref a_pairLasts, .int (nI n_pairs), .int (nI n_pairsBefore), .ref a_firsts, .ref a_lasts, .int (nI n_operands), .ref a_levels, .ref a_sides, .ref a_minusPlaces, .int (nI n_waiting)])), (a_firsts, .inl (ka_firsts, 90, .inl f2)), (a_lasts, .inl (ka_lasts, 90, .inl f_lasts))] H := hP
    have hD : va_D A [(a_t, .inr (7, [.ref a_pairFirsts, .ref a_pairLasts, .int (nI n_pairs), .int (nI n_pairsBefore), .ref a_firsts, .ref a_lasts, .int (nI n_operands), .ref a_levels, .ref a_sides, .ref a_minusPlaces, .int (nI n_waiting)])), (a_firsts, .inl (ka_firsts, 90, .inl f2)), (a_lasts, .inl (ka_lasts, 90, .inl f_lasts))] := hD
    refine lv_aload_n hx hb d_Resolver_takeOperand_19 rfl (lv_at hl 0 rfl) ?_
    refine va_get (D := (dC, dI)) (ci := 7) (v := .ref a_lasts) (C := R_Resolver) (T := F_Resolver) (N := 11) hx hb hz zu_Resolver hown hK hP 0 rfl rfl 5 (by decide) (hz (.fieldLink R_Resolver 21 "LayoutFront$Resolver" "lasts" "[I") zm_331) (fun _ h9 => h9) rfl d_Resolver_takeOperand_20 ?_
    refine lv_aload_n hx hb d_Resolver_takeOperand_23 rfl (lv_at hl 0 rfl) ?_
    refine va_get (D := (dC, dI)) (ci := 7) (v := .int (nI n_operands)) (C := R_Resolver) (T := F_Resolver) (N := 11) hx hb hz zu_Resolver hown hK hP 0 rfl rfl 6 (by decide) (hz (.fieldLink R_Resolver 43 "LayoutFront$Resolver" "operands" "I") zm_343) (fun _ h9 => h9) rfl d_Resolver_takeOperand_24 ?_
    refine lv_iload_n hx hb d_Resolver_takeOperand_27 rfl (lv_at hl 2 rfl) ?_
    refine va_iast hx hb hK hP hD hS 2 1 rfl rfl (vp_in_nI (by omega) (by omega)) d_Resolver_takeOperand_28 (fun H locs hP hD hS => ?_)
    generalize upd f_lasts ((nI n_operands) : Int32).toNatClampNeg y1 = f3 at hP hD
    have hP : va_P (dC, dI) vcl [(a_t, .inr (7, [.ref a_pairFirsts, .ref a_pairLasts, .int (nI n_pairs), .int (nI n_pairsBefore), .ref a_firsts, .ref a_lasts, .int (nI n_operands), .ref a_levels, .ref a_sides, .ref a_minusPlaces, .int (nI n_waiting)])), (a_firsts, .inl (ka_firsts, 90, .inl f2)), (a_lasts, .inl (ka_lasts, 90, .inl f3))] H := hP
    have hD : va_D A [(a_t, .inr (7, [.ref a_pairFirsts, .ref a_pairLasts, .int (nI n_pairs), .int (nI n_pairsBefore), .ref a_firsts, .ref a_lasts, .int (nI n_operands), .ref a_levels, .ref a_sides, .ref a_minusPlaces, .int (nI n_waiting)])), (a_firsts, .inl (ka_firsts, 90, .inl f2)), (a_lasts, .inl (ka_lasts, 90, .inl f3))] := hD
    refine lv_aload_n hx hb d_Resolver_takeOperand_29 rfl (lv_at hl 0 rfl) ?_
    refine lv_dup hx hb d_Resolver_takeOperand_30 rfl ?_
    refine va_get (D := (dC, dI)) (ci := 7) (v := .int (nI n_operands)) (C := R_Resolver) (T := F_Resolver) (N := 11) hx hb hz zu_Resolver hown hK hP 0 rfl rfl 6 (by decide) (hz (.fieldLink R_Resolver 43 "LayoutFront$Resolver" "operands" "I") zm_343) (fun _ h9 => h9) rfl d_Resolver_takeOperand_31 ?_
    refine lv_iconst (v := 1) hx hb d_Resolver_takeOperand_34 (by decide) ?_
    refine xr_iadd (v := (nI (n_operands + 1))) hx hb d_Resolver_takeOperand_35 (nI_add n_operands 1) ?_
    refine va_put (D := (dC, dI)) (ci := 7) (v := .int (nI (n_operands + 1))) (ty := .int) (C := R_Resolver) (T := F_Resolver) (N := 11) hx hb hz zu_Resolver t_Resolver t_Resolver_ok n_Resolver hown hK hP hD hS 0 rfl rfl 6 (by decide) (hz (.fieldLink R_Resolver 43 "LayoutFront$Resolver" "operands" "I") zm_343) (fun _ h9 => h9) rfl (by decide +kernel) rfl rfl (Nat.le_of_ble_eq_true rfl) d_Resolver_takeOperand_36 (fun H locs hP hD hS => ?_)
    have hP : va_P (dC, dI) vcl [(a_t, .inr (7, [.ref a_pairFirsts, .ref a_pairLasts, .int (nI n_pairs), .int (nI n_pairsBefore), .ref a_firsts, .ref a_lasts, .int (nI (n_operands + 1)), .ref a_levels, .ref a_sides, .ref a_minusPlaces, .int (nI n_waiting)])), (a_firsts, .inl (ka_firsts, 90, .inl f2)), (a_lasts, .inl (ka_lasts, 90, .inl f3))] H := hP
    have hD : va_D A [(a_t, .inr (7, [.ref a_pairFirsts, .ref a_pairLasts, .int (nI n_pairs), .int (nI n_pairsBefore), .ref a_firsts, .ref a_lasts, .int (nI (n_operands + 1)), .ref a_levels, .ref a_sides, .ref a_minusPlaces, .int (nI n_waiting)])), (a_firsts, .inl (ka_firsts, 90, .inl f2)), (a_lasts, .inl (ka_lasts, 90, .inl f3))] := hD
    have hP9 := hP.sub (ws' := [(a_t, .inr (7, [.ref a_pairFirsts, .ref a_pairLasts, .int (nI n_pairs), .int (nI n_pairsBefore), .ref a_firsts, .ref a_lasts, .int (nI (n_operands + 1)), .ref a_levels, .ref a_sides, .ref a_minusPlaces, .int (nI n_waiting)])), (a_firsts, .inl (ka_firsts, 90, .inl f2)), (a_lasts, .inl (ka_lasts, 90, .inl f3))]) [0, 1, 2] rfl
    have hD9 := hD.sub (ws' := [(a_t, .inr (7, [.ref a_pairFirsts, .ref a_pairLasts, .int (nI n_pairs), .int (nI n_pairsBefore), .ref a_firsts, .ref a_lasts, .int (nI (n_operands + 1)), .ref a_levels, .ref a_sides, .ref a_minusPlaces, .int (nI n_waiting)])), (a_firsts, .inl (ka_firsts, 90, .inl f2)), (a_lasts, .inl (ka_lasts, 90, .inl f3))]) [0, 1, 2] (by decide) rfl
    exact W.vret hx hb hr (fun t ht hW => ⟨⟨(), rfl, trivial, ((n_operands + 1)), f2, f3, by first | omega | assumption | exact Or.inl rfl | exact Or.inr rfl, by rw [ht]; exact hP9, va_K.moved hW.alike hK, hD9⟩, hS.F ht⟩) hS.2.2 d_Resolver_takeOperand_39
set_option maxHeartbeats 4000000 in
set_option maxRecDepth 100000 in
theorem s_Resolver_letWait (l : Launch) (dC : Nat → ClassId) (dI : Nat → Nat → Nat) (sz : Nat) (a_t : Nat) (a_pairFirsts : Nat) (a_pairLasts : Nat) (n_pairs : Nat) (n_pairsBefore : Nat) (a_firsts : Nat) (a_lasts : Nat) (n_operands : Nat) (a_levels : Nat) (f_levels : Nat → Int32) (a_sides : Nat) (f_sides : Nat → Int32) (a_minusPlaces : Nat) (f_minusPlaces : Nat → Int32) (n_waiting : Nat) (y0 : Int32) (y1 : Int32) (y2 : Int32) (ka_levels : ClassId) (ka_sides : ClassId) (ka_minusPlaces : ClassId) (b_pairs : n_pairs ≤ 90) (b_pairsBefore : n_pairsBefore ≤ 90) (b_operands : n_operands ≤ 90) (b_waiting : n_waiting ≤ 90) : Met l y_Resolver_letWait w_Resolver_letWait ({ frames := 0, cells := 0, slots := 0, locals := 0 }) (va_Pc [.ref a_t, .int y0, .int y1, .int y2] (fun U => U.heap.size = sz ∧ va_P (dC, dI) vcl [(a_t, .inr (7, [.ref a_pairFirsts, .ref a_pairLasts, .int (nI n_pairs), .int (nI n_pairsBefore), .ref a_firsts, .ref a_lasts, .int (nI n_operands), .ref a_levels, .ref a_sides, .ref a_minusPlaces, .int (nI n_waiting)])), (a_levels, .inl (ka_levels, 90, .inl f_levels)), (a_sides, .inl (ka_sides, 90, .inl f_sides)), (a_minusPlaces, .inl (ka_minusPlaces, 90, .inl f_minusPlaces))] U.heap ∧ va_K (dC, dI) vcl [(ka_levels, .int), (ka_sides, .int), (ka_minusPlaces, .int)] U ∧ va_D (fun _ => True) [(a_t, .inr (7, [.ref a_pairFirsts, .ref a_pairLasts, .int (nI n_pairs), .int (nI n_pairsBefore), .ref a_firsts, .ref a_lasts, .int (nI n_operands), .ref a_levels, .ref a_sides, .ref a_minusPlaces, .int (nI n_waiting)])), (a_levels, .inl (ka_levels, 90, .inl f_levels)), (a_sides, .inl (ka_sides, 90, .inl f_sides)), (a_minusPlaces, .inl (ka_minusPlaces, 90, .inl f_minusPlaces))])) (va_Qv (fun (_ : Unit) => True) (fun _ t => ∃ (w_n_waiting : Nat) (w_f_levels : Nat → Int32) (w_f_sides : Nat → Int32) (w_f_minusPlaces : Nat → Int32), (w_n_waiting ≤ 90) ∧ va_P (dC, dI) vcl [(a_t, .inr (7, [.ref a_pairFirsts, .ref a_pairLasts, .int (nI n_pairs), .int (nI n_pairsBefore), .ref a_firsts, .ref a_lasts, .int (nI n_operands), .ref a_levels, .ref a_sides, .ref a_minusPlaces, .int (nI w_n_waiting)])), (a_levels, .inl (ka_levels, 90, .inl w_f_levels)), (a_sides, .inl (ka_sides, 90, .inl w_f_sides)), (a_minusPlaces, .inl (ka_minusPlaces, 90, .inl w_f_minusPlaces))] t.heap ∧ va_K (dC, dI) vcl [(ka_levels, .int), (ka_sides, .int), (ka_minusPlaces, .int)] t ∧ va_D (va_A [(a_t, .inr (7, [.ref a_pairFirsts, .ref a_pairLasts, .int (nI n_pairs), .int (nI n_pairsBefore), .ref a_firsts, .ref a_lasts, .int (nI n_operands), .ref a_levels, .ref a_sides, .ref a_minusPlaces, .int (nI n_waiting)])), (a_levels, .inl (ka_levels, 90, .inl f_levels)), (a_sides, .inl (ka_sides, 90, .inl f_sides)), (a_minusPlaces, .inl (ka_minusPlaces, 90, .inl f_minusPlaces))] sz) [(a_t, .inr (7, [.ref a_pairFirsts, .ref a_pairLasts, .int (nI n_pairs), .int (nI n_pairsBefore), .ref a_firsts, .ref a_lasts, .int (nI n_operands), .ref a_levels, .ref a_sides, .ref a_minusPlaces, .int (nI w_n_waiting)])), (a_levels, .inl (ka_levels, 90, .inl w_f_levels)), (a_sides, .inl (ka_sides, 90, .inl w_f_sides)), (a_minusPlaces, .inl (ka_minusPlaces, 90, .inl w_f_minusPlaces))]) (va_A [(a_t, .inr (7, [.ref a_pairFirsts, .ref a_pairLasts, .int (nI n_pairs), .int (nI n_pairsBefore), .ref a_firsts, .ref a_lasts, .int (nI n_operands), .ref a_levels, .ref a_sides, .ref a_minusPlaces, .int (nI n_waiting)])), (a_levels, .inl (ka_levels, 90, .inl f_levels)), (a_sides, .inl (ka_sides, 90, .inl f_sides)), (a_minusPlaces, .inl (ka_minusPlaces, 90, .inl f_minusPlaces))] sz)) 0 0 (va_A [(a_t, .inr (7, [.ref a_pairFirsts, .ref a_pairLasts, .int (nI n_pairs), .int (nI n_pairsBefore), .ref a_firsts, .ref a_lasts, .int (nI n_operands), .ref a_levels, .ref a_sides, .ref a_minusPlaces, .int (nI n_waiting)])), (a_levels, .inl (ka_levels, 90, .inl f_levels)), (a_sides, .inl (ka_sides, 90, .inl f_sides)), (a_minusPlaces, .inl (ka_minusPlaces, 90, .inl f_minusPlaces))] sz) := by
  refine Met.ofW (cc := b_Resolver_letWait) (maxL := 4) (ret := none) (by decide) rfl ?_
  intro p e s m args below meth c s₁ B hml hv
  obtain ⟨rfl, hsz, hP, hK, hD0⟩ := hv
  have hx := B.exec
  have hb := B.bytes
  have hr := B.returns
  have hts := atoms_spec (ws := w_Resolver_letWait) B.pre
  have hz : ∀ w ∈ wz, w.before _ s = true := fun w h => hts w (List.mem_cons_of_mem _ h)
  have hown : s.vm.findClass R_Resolver = some m.cls := findClass_of_methodNamed B.named
  have hlocks := B.notSynchronized
  subst hsz
  have hD := hD0.self (sz := s.heap.size)
  generalize hAe : va_A [(a_t, .inr (7, [.ref a_pairFirsts, .ref a_pairLasts, .int (nI n_pairs), .int (nI n_pairsBefore), .ref a_firsts, .ref a_lasts, .int (nI n_operands), .ref a_levels, .ref a_sides, .ref a_minusPlaces, .int (nI n_waiting)])), (a_levels, .inl (ka_levels, 90, .inl f_levels)), (a_sides, .inl (ka_sides, 90, .inl f_sides)), (a_minusPlaces, .inl (ka_minusPlaces, 90, .inl f_minusPlaces))] s.heap.size = A at hD ⊢
  have hA : ∀ q : Nat, s.heap.size ≤ q → A q := fun q h => by rw [← hAe]; exact Or.inr h
  have hS : va_S A s.heap s.heap [] := va_S.rf
  have hP : va_P (dC, dI) vcl [(a_t, .inr (7, [.ref a_pairFirsts, .ref a_pairLasts, .int (nI n_pairs), .int (nI n_pairsBefore), .ref a_firsts, .ref a_lasts, .int (nI n_operands), .ref a_levels, .ref a_sides, .ref a_minusPlaces, .int (nI n_waiting)])), (a_levels, .inl (ka_levels, 90, .inl f_levels)), (a_sides, .inl (ka_sides, 90, .inl f_sides)), (a_minusPlaces, .inl (ka_minusPlaces, 90, .inl f_minusPlaces))] s.heap := hP
  have hl := lv_entry ([.ref a_t, .int y0, .int y1, .int y2]) (n := 4) (Nat.le_of_ble_eq_true rfl)
  rw [lg_entry_eq]
  generalize (lg_sl ([.ref a_t, .int y0, .int y1, .int y2]) ++ List.replicate (4 - (lg_sl ([.ref a_t, .int y0, .int y1, .int y2])).length) Slot.unset).toArray = ls at hl ⊢
  have hl : lv_has ls 4 [(0, .ref a_t), (1, .int y0), (2, .int y1), (3, .int y2)] := hl
  refine lv_aload_n hx hb d_Resolver_letWait_0 rfl (lv_at hl 0 rfl) ?_
  refine va_get (D := (dC, dI)) (ci := 7) (v := .int (nI n_waiting)) (C := R_Resolver) (T := F_Resolver) (N := 11) hx hb hz zu_Resolver hown hK hP 0 rfl rfl 10 (by decide) (hz (.fieldLink R_Resolver 46 "LayoutFront$Resolver" "waiting" "I") zm_344) (fun _ h9 => h9) rfl d_Resolver_letWait_1 ?_
  refine lv_bipush (v := 90) hx hb d_Resolver_letWait_4 (by decide) ?_
  refine lv_icmp_ge (tgt := 49) hx hb d_Resolver_letWait_6 (by decide) (fun h1 => ?_) (fun h1 => ?_)
  · have h1 : 90 ≤ n_waiting := (nI_leI (a := 90) (b := n_waiting) (by omega) (by omega)).mp h1
    have hP9 := hP.sub (ws' := [(a_t, .inr (7, [.ref a_pairFirsts, .ref a_pairLasts, .int (nI n_pairs), .int (nI n_pairsBefore), .ref a_firsts, .ref a_lasts, .int (nI n_operands), .ref a_levels, .ref a_sides, .ref a_minusPlaces, .int (nI n_waiting)])), (a_levels, .inl (ka_levels, 90, .inl f_levels)), (a_sides, .inl (ka_sides, 90, .inl f_sides)), (a_minusPlaces, .inl (ka_minusPlaces, 90, .inl f_minusPlaces))]) [0, 1, 2, 3] rfl
    have hD9 := hD.sub (ws' := [(a_t, .inr (7, [.ref a_pairFirsts, .ref a_pairLasts, .int (nI n_pairs), .int (nI n_pairsBefore), .ref a_firsts, .ref a_lasts, .int (nI n_operands), .ref a_levels, .ref a_sides, .ref a_minusPlaces, .int (nI n_waiting)])), (a_levels, .inl (ka_levels, 90, .inl f_levels)), (a_sides, .inl (ka_sides, 90, .inl f_sides)), (a_minusPlaces, .inl (ka_minusPlaces, 90, .inl f_minusPlaces))]) [0, 1, 2, 3] (by decide) rfl
    exact W.vret hx hb hr (fun t ht hW => ⟨⟨(), rfl, trivial, n_waiting, f_levels, f_sides, f_minusPlaces, by first | omega | assumption | exact Or.inl rfl | exact Or.inr rfl, by rw [ht]; exact hP9, va_K.moved hW.alike hK, hD9⟩, hS.F ht⟩) hS.2.2 d_Resolver_letWait_49
  · have h1 : ¬ 90 ≤ n_waiting := fun q => h1 ((nI_leI (a := 90) (b := n_waiting) (by omega) (by omega)).mpr q)
    refine lv_aload_n hx hb d_Resolver_letWait_9 rfl (lv_at hl 0 rfl) ?_
    refine va_get (D := (dC, dI)) (ci := 7) (v := .ref a_levels) (C := R_Resolver) (T := F_Resolver) (N := 11) hx hb hz zu_Resolver hown hK hP 0 rfl rfl 7 (by decide) (hz (.fieldLink R_Resolver 24 "LayoutFront$Resolver" "levels" "[I") zm_332) (fun _ h9 => h9) rfl d_Resolver_letWait_10 ?_
    refine lv_aload_n hx hb d_Resolver_letWait_13 rfl (lv_at hl 0 rfl) ?_
    refine va_get (D := (dC, dI)) (ci := 7) (v := .int (nI n_waiting)) (C := R_Resolver) (T := F_Resolver) (N := 11) hx hb hz zu_Resolver hown hK hP 0 rfl rfl 10 (by decide) (hz (.fieldLink R_Resolver 46 "LayoutFront$Resolver" "waiting" "I") zm_344) (fun _ h9 => h9) rfl d_Resolver_letWait_14 ?_
    refine lv_iload_n hx hb d_Resolver_letWait_17 rfl (lv_at hl 1 rfl) ?_
    refine va_iast hx hb hK hP hD hS 1 0 rfl rfl (vp_in_nI (by omega) (by omega)) d_Resolver_letWait_18 (fun H locs hP hD hS => ?_)
    generalize upd f_levels ((nI n_waiting) : Int32).toNatClampNeg y0 = f2 at hP hD
    have hP : va_P (dC, dI) vcl [(a_t, .inr (7, [.ref a_pairFirsts, .ref a_pairLasts, .int (nI n_pairs), .int (nI n_pairsBefore), .ref a_firsts, .ref a_lasts, .int (nI n_operands), .ref a_levels, .ref a_sides, .ref a_minusPlaces, .int (nI n_waiting)])), (a_levels, .inl (ka_levels, 90, .inl f2)), (a_sides, .inl (ka_sides, 90, .inl f_sides)), (a_minusPlaces, .inl (ka_minusPlaces, 90, .inl f_minusPlaces))] H := hP
    have hD : va_D A [(a_t, .inr (7, [.ref a_pairFirsts, .ref a_pairLasts, .int (nI n_pairs), .int (nI n_pairsBefore), .ref a_firsts, .ref a_lasts, .int (nI n_operands), .ref a_levels, .ref a_sides, .ref a_minusPlaces, .int (nI n_waiting)])), (a_levels, .inl (ka_levels, 90, .inl f2)), (a_sides, .inl (ka_sides, 90, .inl f_sides)), (a_minusPlaces, .inl (ka_minusPlaces, 90, .inl f_minusPlaces))] := hD
    refine lv_aload_n hx hb d_Resolver_letWait_19 rfl (lv_at hl 0 rfl) ?_
    refine va_get (D := (dC, dI)) (ci := 7) (v := .ref a_sides) (C := R_Resolver) (T := F_Resolver) (N := 11) hx hb hz zu_Resolver hown hK hP 0 rfl rfl 8 (by decide) (hz (.fieldLink R_Resolver 27 "LayoutFront$Resolver" "sides" "[I") zm_333) (fun _ h9 => h9) rfl d_Resolver_letWait_20 ?_
    refine lv_aload_n hx hb d_Resolver_letWait_23 rfl (lv_at hl 0 rfl) ?_
    refine va_get (D := (dC, dI)) (ci := 7) (v := .int (nI n_waiting)) (C := R_Resolver) (T := F_Resolver) (N := 11) hx hb hz zu_Resolver hown hK hP 0 rfl rfl 10 (by decide) (hz (.fieldLink R_Resolver 46 "LayoutFront$Resolver" "waiting" "I") zm_344) (fun _ h9 => h9) rfl d_Resolver_letWait_24 ?_
    refine lv_iload_n hx hb d_Resolver_letWait_27 rfl (lv_at hl 2 rfl) ?_
    refine va_iast hx hb hK hP hD hS 2 1 rfl rfl (vp_in_nI (by omega) (by omega)) d_Resolver_letWait_28 (fun H locs hP hD hS => ?_)
    generalize upd f_sides ((nI n_waiting) : Int32).toNatClampNeg y1 = f3 at hP hD
    have hP : va_P (dC, dI) vcl [(a_t, .inr (7, [.ref a_pairFirsts, .ref a_pairLasts, .int (nI n_pairs), .int (nI n_pairsBefore), .ref a_firsts, .ref a_lasts, .int (nI n_operands), .ref a_levels, .ref a_sides, .ref a_minusPlaces, .int (nI n_waiting)])), (a_levels, .inl (ka_levels, 90, .inl f2)), (a_sides, .inl (ka_sides, 90, .inl f3)), (a_minusPlaces, .inl (ka_minusPlaces, 90, .inl f_minusPlaces))] H := hP
    have hD : va_D A [(a_t, .inr (7, [.ref a_pairFirsts, .ref a_pairLasts, .int (nI n_pairs), .int (nI n_pairsBefore), .ref a_firsts, .ref a_lasts, .int (nI n_operands), .ref a_levels, .ref a_sides, .ref a_minusPlaces, .int (nI n_waiting)])), (a_levels, .inl (ka_levels, 90, .inl f2)), (a_sides, .inl (ka_sides, 90, .inl f3)), (a_minusPlaces, .inl (ka_minusPlaces, 90, .inl f_minusPlaces))] := hD
    refine lv_aload_n hx hb d_Resolver_letWait_29 rfl (lv_at hl 0 rfl) ?_
    refine va_get (D := (dC, dI)) (ci := 7) (v := .ref a_minusPlaces) (C := R_Resolver) (T := F_Resolver) (N := 11) hx hb hz zu_Resolver hown hK hP 0 rfl rfl 9 (by decide) (hz (.fieldLink R_Resolver 30 "LayoutFront$Resolver" "minusPlaces" "[I") zm_334) (fun _ h9 => h9) rfl d_Resolver_letWait_30 ?_
    refine lv_aload_n hx hb d_Resolver_letWait_33 rfl (lv_at hl 0 rfl) ?_
    refine va_get (D := (dC, dI)) (ci := 7) (v := .int (nI n_waiting)) (C := R_Resolver) (T := F_Resolver) (N := 11) hx hb hz zu_Resolver hown hK hP 0 rfl rfl 10 (by decide) (hz (.fieldLink R_Resolver 46 "LayoutFront$Resolver" "waiting" "I") zm_344) (fun _ h9 => h9) rfl d_Resolver_letWait_34 ?_
    refine lv_iload_n hx hb d_Resolver_letWait_37 rfl (lv_at hl 3 rfl) ?_
    refine va_iast hx hb hK hP hD hS 3 2 rfl rfl (vp_in_nI (by omega) (by omega)) d_Resolver_letWait_38 (fun H locs hP hD hS => ?_)
    generalize upd f_minusPlaces ((nI n_waiting) : Int32).toNatClampNeg y2 = f4 at hP hD
    have hP : va_P (dC, dI) vcl [(a_t, .inr (7, [.ref a_pairFirsts, .ref a_pairLasts, .int (nI n_pairs), .int (nI n_pairsBefore), .ref a_firsts, .ref a_lasts, .int (nI n_operands), .ref a_levels, .ref a_sides, .ref a_minusPlaces, .int (nI n_waiting)])), (a_levels, .inl (ka_levels, 90, .inl f2)), (a_sides, .inl (ka_sides, 90, .inl f3)), (a_minusPlaces, .inl (ka_minusPlaces, 90, .inl f4))] H := hP
    have hD : va_D A [(a_t, .inr (7, [.ref a_pairFirsts, .ref a_pairLasts, .int (nI n_pairs), .int (nI n_pairsBefore), .ref a_firsts, .ref a_lasts, .int (nI n_operands), .ref a_levels, .ref a_sides, .ref a_minusPlaces, .int (nI n_waiting)])), (a_levels, .inl (ka_levels, 90, .inl f2)), (a_sides, .inl (ka_sides, 90, .inl f3)), (a_minusPlaces, .inl (ka_minusPlaces, 90, .inl f4))] := hD
    refine lv_aload_n hx hb d_Resolver_letWait_39 rfl (lv_at hl 0 rfl) ?_
    refine lv_dup hx hb d_Resolver_letWait_40 rfl ?_
    refine va_get (D := (dC, dI)) (ci := 7) (v := .int (nI n_waiting)) (C := R_Resolver) (T := F_Resolver) (N := 11) hx hb hz zu_Resolver hown hK hP 0 rfl rfl 10 (by decide) (hz (.fieldLink R_Resolver 46 "LayoutFront$Resolver" "waiting" "I") zm_344) (fun _ h9 => h9) rfl d_Resolver_letWait_41 ?_
    refine lv_iconst (v := 1) hx hb d_Resolver_letWait_44 (by decide) ?_
    refine xr_iadd (v := (nI (n_waiting + 1))) hx hb d_Resolver_letWait_45 (nI_add n_waiting 1) ?_
    refine va_put (D := (dC, dI)) (ci := 7) (v := .int (nI (n_waiting + 1))) (ty := .int) (C := R_Resolver) (T := F_Resolver) (N := 11) hx hb hz zu_Resolver t_Resolver t_Resolver_ok n_Resolver hown hK hP hD hS 0 rfl rfl 10 (by decide) (hz (.fieldLink R_Resolver 46 "LayoutFront$Resolver" "waiting" "I") zm_344) (fun _ h9 => h9) rfl (by decide +kernel) rfl rfl (Nat.le_of_ble_eq_true rfl) d_Resolver_letWait_46 (fun H locs hP hD hS => ?_)
    have hP : va_P (dC, dI) vcl [(a_t, .inr (7, [.ref a_pairFirsts, .ref a_pairLasts, .int (nI n_pairs), .int (nI n_pairsBefore), .ref a_firsts, .ref a_lasts, .int (nI n_operands), .ref a_levels, .ref a_sides, .ref a_minusPlaces, .int (nI (n_waiting + 1))])), (a_levels, .inl (ka_levels, 90, .inl f2)), (a_sides, .inl (ka_sides, 90, .inl f3)), (a_minusPlaces, .inl (ka_minusPlaces, 90, .inl f4))] H := hP
    have hD : va_D A [(a_t, .inr (7, [.ref a_pairFirsts, .ref a_pairLasts, .int (nI n_pairs), .int (nI n_pairsBefore), .ref a_firsts, .ref a_lasts, .int (nI n_operands), .ref a_levels, .ref a_sides, .ref a_minusPlaces, .int (nI (n_waiting + 1))])), (a_levels, .inl (ka_levels, 90, .inl f2)), (a_sides, .inl (ka_sides, 90, .inl f3)), (a_minusPlaces, .inl (ka_minusPlaces, 90, .inl f4))] := hD
    have hP9 := hP.sub (ws' := [(a_t, .inr (7, [.ref a_pairFirsts, .ref a_pairLasts, .int (nI n_pairs), .int (nI n_pairsBefore), .ref a_firsts, .ref a_lasts, .int (nI n_operands), .ref a_levels, .ref a_sides, .ref a_minusPlaces, .int (nI (n_waiting + 1))])), (a_levels, .inl (ka_levels, 90, .inl f2)), (a_sides, .inl (ka_sides, 90, .inl f3)), (a_minusPlaces, .inl (ka_minusPlaces, 90, .inl f4))]) [0, 1, 2, 3] rfl
    have hD9 := hD.sub (ws' := [(a_t, .inr (7, [.ref a_pairFirsts, .ref a_pairLasts, .int (nI n_pairs), .int (nI n_pairsBefore), .ref a_firsts, .ref a_lasts, .int (nI n_operands), .ref a_levels, .ref a_sides, .ref a_minusPlaces, .int (nI (n_waiting + 1))])), (a_levels, .inl (ka_levels, 90, .inl f2)), (a_sides, .inl (ka_sides, 90, .inl f3)), (a_minusPlaces, .inl (ka_minusPlaces, 90, .inl f4))]) [0, 1, 2, 3] (by decide) rfl
    exact W.vret hx hb hr (fun t ht hW => ⟨⟨(), rfl, trivial, ((n_waiting + 1)), f2, f3, f4, by first | omega | assumption | exact Or.inl rfl | exact Or.inr rfl, by rw [ht]; exact hP9, va_K.moved hW.alike hK, hD9⟩, hS.F ht⟩) hS.2.2 d_Resolver_letWait_49
set_option maxHeartbeats 4000000 in
set_option maxRecDepth 100000 in
theorem s_Text_length (l : Launch) (dC : Nat → ClassId) (dI : Nat → Nat → Nat) (sz : Nat) (a_t : Nat) (a_characters : Nat) (n_length : Nat) (b_length : n_length ≤ 240) : Met l y_Text_length w_Text_length ({ frames := 0, cells := 0, slots := 0, locals := 0 }) (va_Pc [.ref a_t] (fun U => U.heap.size = sz ∧ va_P (dC, dI) vcl [(a_t, .inr (10, [.ref a_characters, .int (nI n_length)]))] U.heap ∧ va_K (dC, dI) vcl [] U ∧ va_D (fun _ => True) [(a_t, .inr (10, [.ref a_characters, .int (nI n_length)]))])) (va_Qi (fun (r : Int32) (_ : Unit) => r = (nI n_length)) (fun _ t => va_P (dC, dI) vcl [(a_t, .inr (10, [.ref a_characters, .int (nI n_length)]))] t.heap ∧ va_K (dC, dI) vcl [] t ∧ va_D (va_A [(a_t, .inr (10, [.ref a_characters, .int (nI n_length)]))] sz) [(a_t, .inr (10, [.ref a_characters, .int (nI n_length)]))]) (va_A [(a_t, .inr (10, [.ref a_characters, .int (nI n_length)]))] sz)) 0 0 (va_A [(a_t, .inr (10, [.ref a_characters, .int (nI n_length)]))] sz) := by
  refine Met.ofW (cc := b_Text_length) (maxL := 1) (ret := (some .int)) (by decide) rfl ?_
  intro p e s m args below meth c s₁ B hml hv
  obtain ⟨rfl, hsz, hP, hK, hD0⟩ := hv
  have hx := B.exec
  have hb := B.bytes
  have hr := B.returns
  have hts := atoms_spec (ws := w_Text_length) B.pre
  have hz : ∀ w ∈ wz, w.before _ s = true := fun w h => hts w (List.mem_cons_of_mem _ h)
  have hown : s.vm.findClass R_Text = some m.cls := findClass_of_methodNamed B.named
  have hlocks := B.notSynchronized
  subst hsz
  have hD := hD0.self (sz := s.heap.size)
  generalize hAe : va_A [(a_t, .inr (10, [.ref a_characters, .int (nI n_length)]))] s.heap.size = A at hD ⊢
  have hA : ∀ q : Nat, s.heap.size ≤ q → A q := fun q h => by rw [← hAe]; exact Or.inr h
  have hS : va_S A s.heap s.heap [] := va_S.rf
  have hP : va_P (dC, dI) vcl [(a_t, .inr (10, [.ref a_characters, .int (nI n_length)]))] s.heap := hP
  have hl := lv_entry ([.ref a_t]) (n := 1) (Nat.le_of_ble_eq_true rfl)
  rw [lg_entry_eq]
  generalize (lg_sl ([.ref a_t]) ++ List.replicate (1 - (lg_sl ([.ref a_t])).length) Slot.unset).toArray = ls at hl ⊢
  have hl : lv_has ls 1 [(0, .ref a_t)] := hl
  refine lv_aload_n hx hb d_Text_length_0 rfl (lv_at hl 0 rfl) ?_
  refine va_get (D := (dC, dI)) (ci := 10) (v := .int (nI n_length)) (C := R_Text) (T := F_Text) (N := 2) hx hb hz zu_Text hown hK hP 0 rfl rfl 1 (by decide) (hz (.fieldLink R_Text 19 "LayoutFront$Text" "length" "I") zm_9) (fun _ h9 => h9) rfl d_Text_length_1 ?_
  have hP9 := hP.sub (ws' := [(a_t, .inr (10, [.ref a_characters, .int (nI n_length)]))]) [0] rfl
  have hD9 := hD.sub (ws' := [(a_t, .inr (10, [.ref a_characters, .int (nI n_length)]))]) [0] (by decide) rfl
  exact W.iret (v := (nI n_length)) hx hb hr (fun t ht hW => ⟨⟨(nI n_length), (), rfl, rfl, by rw [ht]; exact hP9, va_K.moved hW.alike hK, hD9⟩, hS.F ht⟩) hS.2.2 d_Text_length_4
set_option maxHeartbeats 4000000 in
set_option maxRecDepth 100000 in
theorem s_Text_clear (l : Launch) (dC : Nat → ClassId) (dI : Nat → Nat → Nat) (sz : Nat) (a_t : Nat) (a_characters : Nat) (n_length : Nat) (b_length : n_length ≤ 240) : Met l y_Text_clear w_Text_clear ({ frames := 0, cells := 0, slots := 0, locals := 0 }) (va_Pc [.ref a_t] (fun U => U.heap.size = sz ∧ va_P (dC, dI) vcl [(a_t, .inr (10, [.ref a_characters, .int (nI n_length)]))] U.heap ∧ va_K (dC, dI) vcl [] U ∧ va_D (fun _ => True) [(a_t, .inr (10, [.ref a_characters, .int (nI n_length)]))])) (va_Qv (fun (_ : Unit) => True) (fun _ t => ∃ (w_n_length : Nat), (w_n_length ≤ 240) ∧ va_P (dC, dI) vcl [(a_t, .inr (10, [.ref a_characters, .int (nI w_n_length)]))] t.heap ∧ va_K (dC, dI) vcl [] t ∧ va_D (va_A [(a_t, .inr (10, [.ref a_characters, .int (nI n_length)]))] sz) [(a_t, .inr (10, [.ref a_characters, .int (nI w_n_length)]))]) (va_A [(a_t, .inr (10, [.ref a_characters, .int (nI n_length)]))] sz)) 0 0 (va_A [(a_t, .inr (10, [.ref a_characters, .int (nI n_length)]))] sz) := by
  refine Met.ofW (cc := b_Text_clear) (maxL := 1) (ret := none) (by decide) rfl ?_
  intro p e s m args below meth c s₁ B hml hv
  obtain ⟨rfl, hsz, hP, hK, hD0⟩ := hv
  have hx := B.exec
  have hb := B.bytes
  have hr := B.returns
  have hts := atoms_spec (ws := w_Text_clear) B.pre
  have hz : ∀ w ∈ wz, w.before _ s = true := fun w h => hts w (List.mem_cons_of_mem _ h)
  have hown : s.vm.findClass R_Text = some m.cls := findClass_of_methodNamed B.named
  have hlocks := B.notSynchronized
  subst hsz
  have hD := hD0.self (sz := s.heap.size)
  generalize hAe : va_A [(a_t, .inr (10, [.ref a_characters, .int (nI n_length)]))] s.heap.size = A at hD ⊢
  have hA : ∀ q : Nat, s.heap.size ≤ q → A q := fun q h => by rw [← hAe]; exact Or.inr h
  have hS : va_S A s.heap s.heap [] := va_S.rf
  have hP : va_P (dC, dI) vcl [(a_t, .inr (10, [.ref a_characters, .int (nI n_length)]))] s.heap := hP
  have hl := lv_entry ([.ref a_t]) (n := 1) (Nat.le_of_ble_eq_true rfl)
  rw [lg_entry_eq]
  generalize (lg_sl ([.ref a_t]) ++ List.replicate (1 - (lg_sl ([.ref a_t])).length) Slot.unset).toArray = ls at hl ⊢
  have hl : lv_has ls 1 [(0, .ref a_t)] := hl
  refine lv_aload_n hx hb d_Text_clear_0 rfl (lv_at hl 0 rfl) ?_
  refine lv_iconst (v := 0) hx hb d_Text_clear_1 (by decide) ?_
  refine va_put (D := (dC, dI)) (ci := 10) (v := .int 0) (ty := .int) (C := R_Text) (T := F_Text) (N := 2) hx hb hz zu_Text t_Text t_Text_ok n_Text hown hK hP hD hS 0 rfl rfl 1 (by decide) (hz (.fieldLink R_Text 19 "LayoutFront$Text" "length" "I") zm_9) (fun _ h9 => h9) rfl (by decide +kernel) (by decide +kernel) rfl (Nat.le_of_ble_eq_true rfl) d_Text_clear_2 (fun H locs hP hD hS => ?_)
  have hP : va_P (dC, dI) vcl [(a_t, .inr (10, [.ref a_characters, .int 0]))] H := hP
  have hD : va_D A [(a_t, .inr (10, [.ref a_characters, .int 0]))] := hD
  have hP9 := hP.sub (ws' := [(a_t, .inr (10, [.ref a_characters, .int 0]))]) [0] rfl
  have hD9 := hD.sub (ws' := [(a_t, .inr (10, [.ref a_characters, .int 0]))]) [0] (by decide) rfl
  exact W.vret hx hb hr (fun t ht hW => ⟨⟨(), rfl, trivial, 0, by first | omega | assumption | exact Or.inl rfl | exact Or.inr rfl, by rw [ht]; exact hP9, va_K.moved hW.alike hK, hD9⟩, hS.F ht⟩) hS.2.2 d_Text_clear_5
set_option maxHeartbeats 4000000 in
set_option maxRecDepth 100000 in
theorem s_Text_at (l : Launch) (dC : Nat → ClassId) (dI : Nat → Nat → Nat) (sz : Nat) (a_t : Nat) (a_characters : Nat) (f_characters : Nat → Int32) (n_length : Nat) (y0 : Int32) (ka_characters : ClassId) (c_characters : ∀ j, narrow .char (.int (f_characters j)) = .int (f_characters j)) (b_length : n_length ≤ 240) : Met l y_Text_at w_Text_at ({ frames := 0, cells := 0, slots := 0, locals := 0 }) (va_Pc [.ref a_t, .int y0] (fun U => U.heap.size = sz ∧ va_P (dC, dI) vcl [(a_t, .inr (10, [.ref a_characters, .int (nI n_length)])), (a_characters, .inl (ka_characters, 240, .inl f_characters))] U.heap ∧ va_K (dC, dI) vcl [(ka_characters, .char)] U ∧ va_D (fun _ => True) [(a_t, .inr (10, [.ref a_characters, .int (nI n_length)])), (a_characters, .inl (ka_characters, 240, .inl f_characters))])) (va_Qi (fun (r : Int32) (_ : Unit) => True) (fun _ t => va_P (dC, dI) vcl [(a_t, .inr (10, [.ref a_characters, .int (nI n_length)])), (a_characters, .inl (ka_characters, 240, .inl f_characters))] t.heap ∧ va_K (dC, dI) vcl [(ka_characters, .char)] t ∧ va_D (va_A [(a_t, .inr (10, [.ref a_characters, .int (nI n_length)])), (a_characters, .inl (ka_characters, 240, .inl f_characters))] sz) [(a_t, .inr (10, [.ref a_characters, .int (nI n_length)])), (a_characters, .inl (ka_characters, 240, .inl f_characters))]) (va_A [(a_t, .inr (10, [.ref a_characters, .int (nI n_length)])), (a_characters, .inl (ka_characters, 240, .inl f_characters))] sz)) 0 0 (va_A [(a_t, .inr (10, [.ref a_characters, .int (nI n_length)])), (a_characters, .inl (ka_characters, 240, .inl f_characters))] sz) := by
  refine Met.ofW (cc := b_Text_at) (maxL := 2) (ret := (some .char)) (by decide) rfl ?_
  intro p e s m args below meth c s₁ B hml hv
  obtain ⟨rfl, hsz, hP, hK, hD0⟩ := hv
  have hx := B.exec
  have hb := B.bytes
  have hr := B.returns
  have hts := atoms_spec (ws := w_Text_at) B.pre
  have hz : ∀ w ∈ wz, w.before _ s = true := fun w h => hts w (List.mem_cons_of_mem _ h)
  have hown : s.vm.findClass R_Text = some m.cls := findClass_of_methodNamed B.named
  have hlocks := B.notSynchronized
  subst hsz
  have hD := hD0.self (sz := s.heap.size)
  generalize hAe : va_A [(a_t, .inr (10, [.ref a_characters, .int (nI n_length)])), (a_characters, .inl (ka_characters, 240, .inl f_characters))] s.heap.size = A at hD ⊢
  have hA : ∀ q : Nat, s.heap.size ≤ q → A q := fun q h => by rw [← hAe]; exact Or.inr h
  have hS : va_S A s.heap s.heap [] := va_S.rf
  have hP : va_P (dC, dI) vcl [(a_t, .inr (10, [.ref a_characters, .int (nI n_length)])), (a_characters, .inl (ka_characters, 240, .inl f_characters))] s.heap := hP
  have hl := lv_entry ([.ref a_t, .int y0]) (n := 2) (Nat.le_of_ble_eq_true rfl)
  rw [lg_entry_eq]
  generalize (lg_sl ([.ref a_t, .int y0]) ++ List.replicate (2 - (lg_sl ([.ref a_t, .int y0])).length) Slot.unset).toArray = ls at hl ⊢
  have hl : lv_has ls 2 [(0, .ref a_t), (1, .int y0)] := hl
  refine lv_iload_n hx hb d_Text_at_0 rfl (lv_at hl 1 rfl) ?_
  refine lv_if_lt (tgt := 21) hx hb d_Text_at_1 (by decide) (fun h1 => ?_) (fun h1 => ?_)
  · refine lv_iconst (v := 0) hx hb d_Text_at_21 (by decide) ?_
    have hP9 := hP.sub (ws' := [(a_t, .inr (10, [.ref a_characters, .int (nI n_length)])), (a_characters, .inl (ka_characters, 240, .inl f_characters))]) [0, 1] rfl
    have hD9 := hD.sub (ws' := [(a_t, .inr (10, [.ref a_characters, .int (nI n_length)])), (a_characters, .inl (ka_characters, 240, .inl f_characters))]) [0, 1] (by decide) rfl
    exact W.zret (v := 0) hx hb hr (by decide +kernel) (fun t ht hW => ⟨⟨0, (), rfl, trivial, by rw [ht]; exact hP9, va_K.moved hW.alike hK, hD9⟩, hS.F ht⟩) hS.2.2 d_Text_at_22
  · refine lv_iload_n hx hb d_Text_at_4 rfl (lv_at hl 1 rfl) ?_
    refine lv_aload_n hx hb d_Text_at_5 rfl (lv_at hl 0 rfl) ?_
    refine va_get (D := (dC, dI)) (ci := 10) (v := .int (nI n_length)) (C := R_Text) (T := F_Text) (N := 2) hx hb hz zu_Text hown hK hP 0 rfl rfl 1 (by decide) (hz (.fieldLink R_Text 19 "LayoutFront$Text" "length" "I") zm_9) (fun _ h9 => h9) rfl d_Text_at_6 ?_
    refine lv_icmp_ge (tgt := 21) hx hb d_Text_at_9 (by decide) (fun h2 => ?_) (fun h2 => ?_)
    · refine lv_iconst (v := 0) hx hb d_Text_at_21 (by decide) ?_
      have hP9 := hP.sub (ws' := [(a_t, .inr (10, [.ref a_characters, .int (nI n_length)])), (a_characters, .inl (ka_characters, 240, .inl f_characters))]) [0, 1] rfl
      have hD9 := hD.sub (ws' := [(a_t, .inr (10, [.ref a_characters, .int (nI n_length)])), (a_characters, .inl (ka_characters, 240, .inl f_characters))]) [0, 1] (by decide) rfl
      exact W.zret (v := 0) hx hb hr (by decide +kernel) (fun t ht hW => ⟨⟨0, (), rfl, trivial, by rw [ht]; exact hP9, va_K.moved hW.alike hK, hD9⟩, hS.F ht⟩) hS.2.2 d_Text_at_22
    · refine lv_aload_n hx hb d_Text_at_12 rfl (lv_at hl 0 rfl) ?_
      refine va_get (D := (dC, dI)) (ci := 10) (v := .ref a_characters) (C := R_Text) (T := F_Text) (N := 2) hx hb hz zu_Text hown hK hP 0 rfl rfl 0 (by decide) (hz (.fieldLink R_Text 9 "LayoutFront$Text" "characters" "[C") zm_3) (fun _ h9 => h9) rfl d_Text_at_13 ?_
      refine lv_iload_n hx hb d_Text_at_16 rfl (lv_at hl 1 rfl) ?_
      refine va_cald hx hb hK hP 1 0 rfl rfl (xr_inr (xr_ge0 h1) (Int32.not_le.mp h2) (by omega) (by omega)) d_Text_at_17 ?_
      refine lv_topi (fun x3 e_x3 => ?_)
      have c_x3 : narrow .char (.int x3) = .int x3 := by rw [e_x3]; exact c_characters _
      refine lv_goto (tgt := 22) hx hb d_Text_at_18 (by decide) ?_
      have hP9 := hP.sub (ws' := [(a_t, .inr (10, [.ref a_characters, .int (nI n_length)])), (a_characters, .inl (ka_characters, 240, .inl f_characters))]) [0, 1] rfl
      have hD9 := hD.sub (ws' := [(a_t, .inr (10, [.ref a_characters, .int (nI n_length)])), (a_characters, .inl (ka_characters, 240, .inl f_characters))]) [0, 1] (by decide) rfl
      exact W.zret (v := x3) hx hb hr c_x3 (fun t ht hW => ⟨⟨x3, (), rfl, trivial, by rw [ht]; exact hP9, va_K.moved hW.alike hK, hD9⟩, hS.F ht⟩) hS.2.2 d_Text_at_22
set_option maxHeartbeats 4000000 in
set_option maxRecDepth 100000 in
theorem s_Text_hasRoomFor (l : Launch) (dC : Nat → ClassId) (dI : Nat → Nat → Nat) (sz : Nat) (a_t : Nat) (a_characters : Nat) (n_length : Nat) (y0 : Int32) (b_length : n_length ≤ 240) : Met l y_Text_hasRoomFor w_Text_hasRoomFor ({ frames := 0, cells := 0, slots := 0, locals := 0 }) (va_Pc [.ref a_t, .int y0] (fun U => U.heap.size = sz ∧ va_P (dC, dI) vcl [(a_t, .inr (10, [.ref a_characters, .int (nI n_length)]))] U.heap ∧ va_K (dC, dI) vcl [] U ∧ va_D (fun _ => True) [(a_t, .inr (10, [.ref a_characters, .int (nI n_length)]))])) (va_Qi (fun (r : Int32) (_ : Unit) => r = 0 ∨ r = 1) (fun _ t => va_P (dC, dI) vcl [(a_t, .inr (10, [.ref a_characters, .int (nI n_length)]))] t.heap ∧ va_K (dC, dI) vcl [] t ∧ va_D (va_A [(a_t, .inr (10, [.ref a_characters, .int (nI n_length)]))] sz) [(a_t, .inr (10, [.ref a_characters, .int (nI n_length)]))]) (va_A [(a_t, .inr (10, [.ref a_characters, .int (nI n_length)]))] sz)) 0 0 (va_A [(a_t, .inr (10, [.ref a_characters, .int (nI n_length)]))] sz) := by
  refine Met.ofW (cc := b_Text_hasRoomFor) (maxL := 2) (ret := (some .boolean)) (by decide) rfl ?_
  intro p e s m args below meth c s₁ B hml hv
  obtain ⟨rfl, hsz, hP, hK, hD0⟩ := hv
  have hx := B.exec
  have hb := B.bytes
  have hr := B.returns
  have hts := atoms_spec (ws := w_Text_hasRoomFor) B.pre
  have hz : ∀ w ∈ wz, w.before _ s = true := fun w h => hts w (List.mem_cons_of_mem _ h)
  have hown : s.vm.findClass R_Text = some m.cls := findClass_of_methodNamed B.named
  have hlocks := B.notSynchronized
  subst hsz
  have hD := hD0.self (sz := s.heap.size)
  generalize hAe : va_A [(a_t, .inr (10, [.ref a_characters, .int (nI n_length)]))] s.heap.size = A at hD ⊢
  have hA : ∀ q : Nat, s.heap.size ≤ q → A q := fun q h => by rw [← hAe]; exact Or.inr h
  have hS : va_S A s.heap s.heap [] := va_S.rf
  have hP : va_P (dC, dI) vcl [(a_t, .inr (10, [.ref a_characters, .int (nI n_length)]))] s.heap := hP
  have hl := lv_entry ([.ref a_t, .int y0]) (n := 2) (Nat.le_of_ble_eq_true rfl)
  rw [lg_entry_eq]
  generalize (lg_sl ([.ref a_t, .int y0]) ++ List.replicate (2 - (lg_sl ([.ref a_t, .int y0])).length) Slot.unset).toArray = ls at hl ⊢
  have hl : lv_has ls 2 [(0, .ref a_t), (1, .int y0)] := hl
  refine lv_iload_n hx hb d_Text_hasRoomFor_0 rfl (lv_at hl 1 rfl) ?_
  refine lv_sipush (v := 240) hx hb d_Text_hasRoomFor_1 (by decide) ?_
  refine lv_aload_n hx hb d_Text_hasRoomFor_4 rfl (lv_at hl 0 rfl) ?_
  refine va_get (D := (dC, dI)) (ci := 10) (v := .int (nI n_length)) (C := R_Text) (T := F_Text) (N := 2) hx hb hz zu_Text hown hK hP 0 rfl rfl 1 (by decide) (hz (.fieldLink R_Text 19 "LayoutFront$Text" "length" "I") zm_9) (fun _ h9 => h9) rfl d_Text_hasRoomFor_5 ?_
  refine xr_isub (v := (240 - (nI n_length))) hx hb d_Text_hasRoomFor_8 rfl ?_
  refine lv_icmp_gt (tgt := 16) hx hb d_Text_hasRoomFor_9 (by decide) (fun h1 => ?_) (fun h1 => ?_)
  · refine lv_iconst (v := 0) hx hb d_Text_hasRoomFor_16 (by decide) ?_
    have hP9 := hP.sub (ws' := [(a_t, .inr (10, [.ref a_characters, .int (nI n_length)]))]) [0] rfl
    have hD9 := hD.sub (ws' := [(a_t, .inr (10, [.ref a_characters, .int (nI n_length)]))]) [0] (by decide) rfl
    exact W.zret (v := 0) hx hb hr (by decide +kernel) (fun t ht hW => ⟨⟨0, (), rfl, (by first | assumption | exact Or.inl rfl | exact Or.inr rfl), by rw [ht]; exact hP9, va_K.moved hW.alike hK, hD9⟩, hS.F ht⟩) hS.2.2 d_Text_hasRoomFor_17
  · refine lv_iconst (v := 1) hx hb d_Text_hasRoomFor_12 (by decide) ?_
    refine lv_goto (tgt := 17) hx hb d_Text_hasRoomFor_13 (by decide) ?_
    have hP9 := hP.sub (ws' := [(a_t, .inr (10, [.ref a_characters, .int (nI n_length)]))]) [0] rfl
    have hD9 := hD.sub (ws' := [(a_t, .inr (10, [.ref a_characters, .int (nI n_length)]))]) [0] (by decide) rfl
    exact W.zret (v := 1) hx hb hr (by decide +kernel) (fun t ht hW => ⟨⟨1, (), rfl, (by first | assumption | exact Or.inl rfl | exact Or.inr rfl), by rw [ht]; exact hP9, va_K.moved hW.alike hK, hD9⟩, hS.F ht⟩) hS.2.2 d_Text_hasRoomFor_17
set_option maxHeartbeats 4000000 in
set_option maxRecDepth 100000 in
theorem s_Fixities_size (l : Launch) (dC : Nat → ClassId) (dI : Nat → Nat → Nat) (sz : Nat) (a_t : Nat) (a_names : Nat) (a_sides : Nat) (a_levels : Nat) (n_size : Nat) (b_size : n_size ≤ 12) : Met l y_Fixities_size w_Fixities_size ({ frames := 0, cells := 0, slots := 0, locals := 0 }) (va_Pc [.ref a_t] (fun U => U.heap.size = sz ∧ va_P (dC, dI) vcl [(a_t, .inr (4, [.ref a_names, .ref a_sides, .ref a_levels, .int (nI n_size)]))] U.heap ∧ va_K (dC, dI) vcl [] U ∧ va_D (fun _ => True) [(a_t, .inr (4, [.ref a_names, .ref a_sides, .ref a_levels, .int (nI n_size)]))])) (va_Qi (fun (r : Int32) (_ : Unit) => r = (nI n_size)) (fun _ t => va_P (dC, dI) vcl [(a_t, .inr (4, [.ref a_names, .ref a_sides, .ref a_levels, .int (nI n_size)]))] t.heap ∧ va_K (dC, dI) vcl [] t ∧ va_D (va_A [(a_t, .inr (4, [.ref a_names, .ref a_sides, .ref a_levels, .int (nI n_size)]))] sz) [(a_t, .inr (4, [.ref a_names, .ref a_sides, .ref a_levels, .int (nI n_size)]))]) (va_A [(a_t, .inr (4, [.ref a_names, .ref a_sides, .ref a_levels, .int (nI n_size)]))] sz)) 0 0 (va_A [(a_t, .inr (4, [.ref a_names, .ref a_sides, .ref a_levels, .int (nI n_size)]))] sz) := by
  refine Met.ofW (cc := b_Fixities_size) (maxL := 1) (ret := (some .int)) (by decide) rfl ?_
  intro p e s m args below meth c s₁ B hml hv
  obtain ⟨rfl, hsz, hP, hK, hD0⟩ := hv
  have hx := B.exec
  have hb := B.bytes
  have hr := B.returns
  have hts := atoms_spec (ws := w_Fixities_size) B.pre
  have hz : ∀ w ∈ wz, w.before _ s = true := fun w h => hts w (List.mem_cons_of_mem _ h)
  have hown : s.vm.findClass R_Fixities = some m.cls := findClass_of_methodNamed B.named
  have hlocks := B.notSynchronized
  subst hsz
  have hD := hD0.self (sz := s.heap.size)
  generalize hAe : va_A [(a_t, .inr (4, [.ref a_names, .ref a_sides, .ref a_levels, .int (nI n_size)]))] s.heap.size = A at hD ⊢
  have hA : ∀ q : Nat, s.heap.size ≤ q → A q := fun q h => by rw [← hAe]; exact Or.inr h
  have hS : va_S A s.heap s.heap [] := va_S.rf
  have hP : va_P (dC, dI) vcl [(a_t, .inr (4, [.ref a_names, .ref a_sides, .ref a_levels, .int (nI n_size)]))] s.heap := hP
  have hl := lv_entry ([.ref a_t]) (n := 1) (Nat.le_of_ble_eq_true rfl)
  rw [lg_entry_eq]
  generalize (lg_sl ([.ref a_t]) ++ List.replicate (1 - (lg_sl ([.ref a_t])).length) Slot.unset).toArray = ls at hl ⊢
  have hl : lv_has ls 1 [(0, .ref a_t)] := hl
  refine lv_aload_n hx hb d_Fixities_size_0 rfl (lv_at hl 0 rfl) ?_
  refine va_get (D := (dC, dI)) (ci := 4) (v := .int (nI n_size)) (C := R_Fixities) (T := F_Fixities) (N := 4) hx hb hz zu_Fixities hown hK hP 0 rfl rfl 3 (by decide) (hz (.fieldLink R_Fixities 22 "LayoutFront$Fixities" "size" "I") zm_21) (fun _ h9 => h9) rfl d_Fixities_size_1 ?_
  have hP9 := hP.sub (ws' := [(a_t, .inr (4, [.ref a_names, .ref a_sides, .ref a_levels, .int (nI n_size)]))]) [0] rfl
  have hD9 := hD.sub (ws' := [(a_t, .inr (4, [.ref a_names, .ref a_sides, .ref a_levels, .int (nI n_size)]))]) [0] (by decide) rfl
  exact W.iret (v := (nI n_size)) hx hb hr (fun t ht hW => ⟨⟨(nI n_size), (), rfl, rfl, by rw [ht]; exact hP9, va_K.moved hW.alike hK, hD9⟩, hS.F ht⟩) hS.2.2 d_Fixities_size_4
set_option maxHeartbeats 4000000 in
set_option maxRecDepth 100000 in
theorem s_Lexemes_clear (l : Launch) (dC : Nat → ClassId) (dI : Nat → Nat → Nat) (sz : Nat) (a_t : Nat) (a_tokens : Nat) (a_tokens_kinds : Nat) (a_tokens_values : Nat) (n_tokens_size : Nat) (a_places : Nat) (a_columns : Nat) (a_lineFirsts : Nat) (b_tokens_size : n_tokens_size ≤ 90) : Met l y_Lexemes_clear w_Lexemes_clear ({ frames := 1, cells := 0, slots := 0, locals := 20 }) (va_Pc [.ref a_t] (fun U => U.heap.size = sz ∧ va_P (dC, dI) vcl [(a_t, .inr (5, [.ref a_tokens, .ref a_places, .ref a_columns, .ref a_lineFirsts])), (a_tokens, .inr (11, [.ref a_tokens_kinds, .ref a_tokens_values, .int (nI n_tokens_size)]))] U.heap ∧ va_K (dC, dI) vcl [] U ∧ va_D (fun _ => True) [(a_t, .inr (5, [.ref a_tokens, .ref a_places, .ref a_columns, .ref a_lineFirsts])), (a_tokens, .inr (11, [.ref a_tokens_kinds, .ref a_tokens_values, .int (nI n_tokens_size)]))])) (va_Qv (fun (_ : Unit) => True) (fun _ t => ∃ (w_n_tokens_size : Nat), (w_n_tokens_size ≤ 90) ∧ va_P (dC, dI) vcl [(a_t, .inr (5, [.ref a_tokens, .ref a_places, .ref a_columns, .ref a_lineFirsts])), (a_tokens, .inr (11, [.ref a_tokens_kinds, .ref a_tokens_values, .int (nI w_n_tokens_size)]))] t.heap ∧ va_K (dC, dI) vcl [] t ∧ va_D (va_A [(a_t, .inr (5, [.ref a_tokens, .ref a_places, .ref a_columns, .ref a_lineFirsts])), (a_tokens, .inr (11, [.ref a_tokens_kinds, .ref a_tokens_values, .int (nI n_tokens_size)]))] sz) [(a_t, .inr (5, [.ref a_tokens, .ref a_places, .ref a_columns, .ref a_lineFirsts])), (a_tokens, .inr (11, [.ref a_tokens_kinds, .ref a_tokens_values, .int (nI w_n_tokens_size)]))]) (va_A [(a_t, .inr (5, [.ref a_tokens, .ref a_places, .ref a_columns, .ref a_lineFirsts])), (a_tokens, .inr (11, [.ref a_tokens_kinds, .ref a_tokens_values, .int (nI n_tokens_size)]))] sz)) 0 0 (va_A [(a_t, .inr (5, [.ref a_tokens, .ref a_places, .ref a_columns, .ref a_lineFirsts])), (a_tokens, .inr (11, [.ref a_tokens_kinds, .ref a_tokens_values, .int (nI n_tokens_size)]))] sz) := by
  refine Met.ofW (cc := b_Lexemes_clear) (maxL := 1) (ret := none) (by decide) rfl ?_
  intro p e s m args below meth c s₁ B hml hv
  obtain ⟨rfl, hsz, hP, hK, hD0⟩ := hv
  have hx := B.exec
  have hb := B.bytes
  have hr := B.returns
  have hts := atoms_spec (ws := w_Lexemes_clear) B.pre
  have hz : ∀ w ∈ wz, w.before _ s = true := fun w h => hts w (List.mem_cons_of_mem _ h)
  have hown : s.vm.findClass R_Lexemes = some m.cls := findClass_of_methodNamed B.named
  have hlocks := B.notSynchronized
  subst hsz
  have hD := hD0.self (sz := s.heap.size)
  generalize hAe : va_A [(a_t, .inr (5, [.ref a_tokens, .ref a_places, .ref a_columns, .ref a_lineFirsts])), (a_tokens, .inr (11, [.ref a_tokens_kinds, .ref a_tokens_values, .int (nI n_tokens_size)]))] s.heap.size = A at hD ⊢
  have hA : ∀ q : Nat, s.heap.size ≤ q → A q := fun q h => by rw [← hAe]; exact Or.inr h
  have hS : va_S A s.heap s.heap [] := va_S.rf
  have hP : va_P (dC, dI) vcl [(a_t, .inr (5, [.ref a_tokens, .ref a_places, .ref a_columns, .ref a_lineFirsts])), (a_tokens, .inr (11, [.ref a_tokens_kinds, .ref a_tokens_values, .int (nI n_tokens_size)]))] s.heap := hP
  have hl := lv_entry ([.ref a_t]) (n := 1) (Nat.le_of_ble_eq_true rfl)
  rw [lg_entry_eq]
  generalize (lg_sl ([.ref a_t]) ++ List.replicate (1 - (lg_sl ([.ref a_t])).length) Slot.unset).toArray = ls at hl ⊢
  have hl : lv_has ls 1 [(0, .ref a_t)] := hl
  refine lv_aload_n hx hb d_Lexemes_clear_0 rfl (lv_at hl 0 rfl) ?_
  refine va_get (D := (dC, dI)) (ci := 5) (v := .ref a_tokens) (C := R_Lexemes) (T := F_Lexemes) (N := 4) hx hb hz zu_Lexemes hown hK hP 0 rfl rfl 0 (by decide) (hz (.fieldLink R_Lexemes 14 "LayoutFront$Lexemes" "tokens" "LLayoutFront$Tokens;") zm_53) (fun _ h9 => h9) rfl d_Lexemes_clear_1 ?_
  have hPc := hP.sub (ws' := [(a_tokens, .inr (11, [.ref a_tokens_kinds, .ref a_tokens_values, .int (nI n_tokens_size)]))]) [1] rfl
  have hDc := hD.sub (ws' := [(a_tokens, .inr (11, [.ref a_tokens_kinds, .ref a_tokens_values, .int (nI n_tokens_size)]))]) [1] (by decide) rfl
  have hKc := hK.sub (tys' := []) [] rfl
  have hFc := va_free (wc := [(a_tokens, .inr (11, [.ref a_tokens_kinds, .ref a_tokens_values, .int (nI n_tokens_size)]))]) hD hS hA [1] rfl
  refine va_callv (va_runV (As := []) (rest := []) ⟨hx, hb, hml, hown, hz⟩ (s_Tokens_clear l dC dI s.heap.size 90 a_tokens a_tokens_kinds a_tokens_values n_tokens_size (by first | omega | assumption | exact Or.inl rfl | exact Or.inr rfl) (by first | omega | assumption | exact Or.inl rfl | exact Or.inr rfl)) (cwV 0 hz (zV zm_59 zm_60 zm_61 zm_35 zm_62) rfl rfl rfl (by decide +kernel) ⟨Nat.le_of_ble_eq_true rfl, Nat.le_of_ble_eq_true rfl⟩) ⟨fun a U g mk q => by obtain ⟨q0, q1, qP, qK, qD⟩ := q; exact ⟨q0, q1, qP, va_K.moved (u := U) (U := U.calling g mk a) (Vm.Alike.refl U.vm) qK, qD⟩, va_recv (q := (R_Tokens, F_Tokens, 3)) (q0 := 1) (ci := 11) hK hP rfl rfl, fun U hU hW => ⟨rfl, by rw [hU], by rw [hU]; exact hPc, va_K.moved hW.alike hKc, hDc.weaken (fun _ _ _ _ => trivial)⟩⟩ rfl rfl hl.1 rfl (lv_room (Nat.le_of_ble_eq_true rfl)) d_Lexemes_clear_4 ⟨Nat.zero_le _, Nat.zero_le _⟩) hS (fun q _ h => hFc q h) hFc (fun u t H1 locs ht hvm hw hB hz1 hk1 hS => ?_)
  obtain ⟨g1, hb_g1, hP1, hK1, hD1⟩ := hB
  rw [ht] at hP1
  obtain ⟨hP, hD⟩ := va_join (wr := [(a_t, .inr (5, [.ref a_tokens, .ref a_places, .ref a_columns, .ref a_lineFirsts]))]) (w1 := [(a_tokens, .inr (11, [.ref a_tokens_kinds, .ref a_tokens_values, .int (nI g1)]))]) hP hD [1] [0] rfl rfl (by decide) (by decide) hk1 hFc hP1 hD1
  generalize H1 = H at hP hS ⊢
  have hP : va_P (dC, dI) vcl [(a_t, .inr (5, [.ref a_tokens, .ref a_places, .ref a_columns, .ref a_lineFirsts])), (a_tokens, .inr (11, [.ref a_tokens_kinds, .ref a_tokens_values, .int (nI g1)]))] H := hP
  have hD : va_D A [(a_t, .inr (5, [.ref a_tokens, .ref a_places, .ref a_columns, .ref a_lineFirsts])), (a_tokens, .inr (11, [.ref a_tokens_kinds, .ref a_tokens_values, .int (nI g1)]))] := hD
  have hP9 := hP.sub (ws' := [(a_t, .inr (5, [.ref a_tokens, .ref a_places, .ref a_columns, .ref a_lineFirsts])), (a_tokens, .inr (11, [.ref a_tokens_kinds, .ref a_tokens_values, .int (nI g1)]))]) [0, 1] rfl
  have hD9 := hD.sub (ws' := [(a_t, .inr (5, [.ref a_tokens, .ref a_places, .ref a_columns, .ref a_lineFirsts])), (a_tokens, .inr (11, [.ref a_tokens_kinds, .ref a_tokens_values, .int (nI g1)]))]) [0, 1] (by decide) rfl
  exact W.vret hx hb hr (fun t ht hW => ⟨⟨(), rfl, trivial, g1, by first | omega | assumption | exact Or.inl rfl | exact Or.inr rfl, by rw [ht]; exact hP9, va_K.moved hW.alike hK, hD9⟩, hS.F ht⟩) hS.2.2 d_Lexemes_clear_7
set_option maxHeartbeats 4000000 in
set_option maxRecDepth 100000 in
theorem s_Lexemes_size (l : Launch) (dC : Nat → ClassId) (dI : Nat → Nat → Nat) (sz : Nat) (a_t : Nat) (a_tokens : Nat) (a_tokens_kinds : Nat) (a_tokens_values : Nat) (n_tokens_size : Nat) (a_places : Nat) (a_columns : Nat) (a_lineFirsts : Nat) (b_tokens_size : n_tokens_size ≤ 90) : Met l y_Lexemes_size w_Lexemes_size ({ frames := 1, cells := 0, slots := 0, locals := 20 }) (va_Pc [.ref a_t] (fun U => U.heap.size = sz ∧ va_P (dC, dI) vcl [(a_t, .inr (5, [.ref a_tokens, .ref a_places, .ref a_columns, .ref a_lineFirsts])), (a_tokens, .inr (11, [.ref a_tokens_kinds, .ref a_tokens_values, .int (nI n_tokens_size)]))] U.heap ∧ va_K (dC, dI) vcl [] U ∧ va_D (fun _ => True) [(a_t, .inr (5, [.ref a_tokens, .ref a_places, .ref a_columns, .ref a_lineFirsts])), (a_tokens, .inr (11, [.ref a_tokens_kinds, .ref a_tokens_values, .int (nI n_tokens_size)]))])) (va_Qi (fun (r : Int32) (_ : Unit) => r = (nI n_tokens_size)) (fun _ t => va_P (dC, dI) vcl [(a_t, .inr (5, [.ref a_tokens, .ref a_places, .ref a_columns, .ref a_lineFirsts])), (a_tokens, .inr (11, [.ref a_tokens_kinds, .ref a_tokens_values, .int (nI n_tokens_size)]))] t.heap ∧ va_K (dC, dI) vcl [] t ∧ va_D (va_A [(a_t, .inr (5, [.ref a_tokens, .ref a_places, .ref a_columns, .ref a_lineFirsts])), (a_tokens, .inr (11, [.ref a_tokens_kinds, .ref a_tokens_values, .int (nI n_tokens_size)]))] sz) [(a_t, .inr (5, [.ref a_tokens, .ref a_places, .ref a_columns, .ref a_lineFirsts])), (a_tokens, .inr (11, [.ref a_tokens_kinds, .ref a_tokens_values, .int (nI n_tokens_size)]))]) (va_A [(a_t, .inr (5, [.ref a_tokens, .ref a_places, .ref a_columns, .ref a_lineFirsts])), (a_tokens, .inr (11, [.ref a_tokens_kinds, .ref a_tokens_values, .int (nI n_tokens_size)]))] sz)) 0 0 (va_A [(a_t, .inr (5, [.ref a_tokens, .ref a_places, .ref a_columns, .ref a_lineFirsts])), (a_tokens, .inr (11, [.ref a_tokens_kinds, .ref a_tokens_values, .int (nI n_tokens_size)]))] sz) := by
  refine Met.ofW (cc := b_Lexemes_size) (maxL := 1) (ret := (some .int)) (by decide) rfl ?_
  intro p e s m args below meth c s₁ B hml hv
  obtain ⟨rfl, hsz, hP, hK, hD0⟩ := hv
  have hx := B.exec
  have hb := B.bytes
  have hr := B.returns
  have hts := atoms_spec (ws := w_Lexemes_size) B.pre
  have hz : ∀ w ∈ wz, w.before _ s = true := fun w h => hts w (List.mem_cons_of_mem _ h)
  have hown : s.vm.findClass R_Lexemes = some m.cls := findClass_of_methodNamed B.named
  have hlocks := B.notSynchronized
  subst hsz
  have hD := hD0.self (sz := s.heap.size)
  generalize hAe : va_A [(a_t, .inr (5, [.ref a_tokens, .ref a_places, .ref a_columns, .ref a_lineFirsts])), (a_tokens, .inr (11, [.ref a_tokens_kinds, .ref a_tokens_values, .int (nI n_tokens_size)]))] s.heap.size = A at hD ⊢
  have hA : ∀ q : Nat, s.heap.size ≤ q → A q := fun q h => by rw [← hAe]; exact Or.inr h
  have hS : va_S A s.heap s.heap [] := va_S.rf
  have hP : va_P (dC, dI) vcl [(a_t, .inr (5, [.ref a_tokens, .ref a_places, .ref a_columns, .ref a_lineFirsts])), (a_tokens, .inr (11, [.ref a_tokens_kinds, .ref a_tokens_values, .int (nI n_tokens_size)]))] s.heap := hP
  have hl := lv_entry ([.ref a_t]) (n := 1) (Nat.le_of_ble_eq_true rfl)
  rw [lg_entry_eq]
  generalize (lg_sl ([.ref a_t]) ++ List.replicate (1 - (lg_sl ([.ref a_t])).length) Slot.unset).toArray = ls at hl ⊢
  have hl : lv_has ls 1 [(0, .ref a_t)] := hl
  refine lv_aload_n hx hb d_Lexemes_size_0 rfl (lv_at hl 0 rfl) ?_
  refine va_get (D := (dC, dI)) (ci := 5) (v := .ref a_tokens) (C := R_Lexemes) (T := F_Lexemes) (N := 4) hx hb hz zu_Lexemes hown hK hP 0 rfl rfl 0 (by decide) (hz (.fieldLink R_Lexemes 14 "LayoutFront$Lexemes" "tokens" "LLayoutFront$Tokens;") zm_53) (fun _ h9 => h9) rfl d_Lexemes_size_1 ?_
  have hPc := hP.sub (ws' := [(a_tokens, .inr (11, [.ref a_tokens_kinds, .ref a_tokens_values, .int (nI n_tokens_size)]))]) [1] rfl
  have hDc := hD.sub (ws' := [(a_tokens, .inr (11, [.ref a_tokens_kinds, .ref a_tokens_values, .int (nI n_tokens_size)]))]) [1] (by decide) rfl
  have hKc := hK.sub (tys' := []) [] rfl
  have hFc := va_free (wc := [(a_tokens, .inr (11, [.ref a_tokens_kinds, .ref a_tokens_values, .int (nI n_tokens_size)]))]) hD hS hA [1] rfl
  refine va_calli (va_runV (As := []) (rest := []) ⟨hx, hb, hml, hown, hz⟩ (s_Tokens_size l dC dI s.heap.size a_tokens a_tokens_kinds a_tokens_values n_tokens_size) (cwV 0 hz (zV zm_63 zm_64 zm_65 zm_35 zm_66) rfl rfl rfl (by decide +kernel) ⟨Nat.le_of_ble_eq_true rfl, Nat.le_of_ble_eq_true rfl⟩) ⟨fun a U g mk q => by obtain ⟨q0, q1, qP, qK, qD⟩ := q; exact ⟨q0, q1, qP, va_K.moved (u := U) (U := U.calling g mk a) (Vm.Alike.refl U.vm) qK, qD⟩, va_recv (q := (R_Tokens, F_Tokens, 3)) (q0 := 1) (ci := 11) hK hP rfl rfl, fun U hU hW => ⟨rfl, by rw [hU], by rw [hU]; exact hPc, va_K.moved hW.alike hKc, hDc.weaken (fun _ _ _ _ => trivial)⟩⟩ rfl rfl hl.1 rfl (lv_room (Nat.le_of_ble_eq_true rfl)) d_Lexemes_size_4 ⟨Nat.zero_le _, Nat.zero_le _⟩) hS (fun q _ h => hFc q h) hFc (fun r u t H1 locs ht hvm hw hB hz1 hk1 hS => ?_)
  obtain ⟨hP1, hK1, hD1⟩ := hB
  subst r
  rw [ht] at hP1
  obtain ⟨hP, hD⟩ := va_join (wr := [(a_t, .inr (5, [.ref a_tokens, .ref a_places, .ref a_columns, .ref a_lineFirsts]))]) (w1 := [(a_tokens, .inr (11, [.ref a_tokens_kinds, .ref a_tokens_values, .int (nI n_tokens_size)]))]) hP hD [1] [0] rfl rfl (by decide) (by decide) hk1 hFc hP1 hD1
  generalize H1 = H at hP hS ⊢
  have hP : va_P (dC, dI) vcl [(a_t, .inr (5, [.ref a_tokens, .ref a_places, .ref a_columns, .ref a_lineFirsts])), (a_tokens, .inr (11, [.ref a_tokens_kinds, .ref a_tokens_values, .int (nI n_tokens_size)]))] H := hP
  have hD : va_D A [(a_t, .inr (5, [.ref a_tokens, .ref a_places, .ref a_columns, .ref a_lineFirsts])), (a_tokens, .inr (11, [.ref a_tokens_kinds, .ref a_tokens_values, .int (nI n_tokens_size)]))] := hD
  have hP9 := hP.sub (ws' := [(a_t, .inr (5, [.ref a_tokens, .ref a_places, .ref a_columns, .ref a_lineFirsts])), (a_tokens, .inr (11, [.ref a_tokens_kinds, .ref a_tokens_values, .int (nI n_tokens_size)]))]) [0, 1] rfl
  have hD9 := hD.sub (ws' := [(a_t, .inr (5, [.ref a_tokens, .ref a_places, .ref a_columns, .ref a_lineFirsts])), (a_tokens, .inr (11, [.ref a_tokens_kinds, .ref a_tokens_values, .int (nI n_tokens_size)]))]) [0, 1] (by decide) rfl
  exact W.iret (v := (nI n_tokens_size)) hx hb hr (fun t ht hW => ⟨⟨(nI n_tokens_size), (), rfl, rfl, by rw [ht]; exact hP9, va_K.moved hW.alike hK, hD9⟩, hS.F ht⟩) hS.2.2 d_Lexemes_size_7
set_option maxHeartbeats 4000000 in
set_option maxRecDepth 100000 in
theorem s_Lexemes_tokens (l : Launch) (dC : Nat → ClassId) (dI : Nat → Nat → Nat) (sz : Nat) (a_t : Nat) (a_tokens : Nat) (a_places : Nat) (a_columns : Nat) (a_lineFirsts : Nat) : Met l y_Lexemes_tokens w_Lexemes_tokens ({ frames := 0, cells := 0, slots := 0, locals := 0 }) (va_Pc [.ref a_t] (fun U => U.heap.size = sz ∧ va_P (dC, dI) vcl [(a_t, .inr (5, [.ref a_tokens, .ref a_places, .ref a_columns, .ref a_lineFirsts]))] U.heap ∧ va_K (dC, dI) vcl [] U ∧ va_D (fun _ => True) [(a_t, .inr (5, [.ref a_tokens, .ref a_places, .ref a_columns, .ref a_lineFirsts]))])) (va_Qr (fun (_ : Unit) => True) (fun _ ra t => ra = a_tokens ∧ va_P (dC, dI) vcl [(a_t, .inr (5, [.ref a_tokens, .ref a_places, .ref a_columns, .ref a_lineFirsts]))] t.heap ∧ va_K (dC, dI) vcl [] t ∧ va_D (va_A [(a_t, .inr (5, [.ref a_tokens, .ref a_places, .ref a_columns, .ref a_lineFirsts]))] sz) [(a_t, .inr (5, [.ref a_tokens, .ref a_places, .ref a_columns, .ref a_lineFirsts]))]) (va_A [(a_t, .inr (5, [.ref a_tokens, .ref a_places, .ref a_columns, .ref a_lineFirsts]))] sz)) 0 0 (va_A [(a_t, .inr (5, [.ref a_tokens, .ref a_places, .ref a_columns, .ref a_lineFirsts]))] sz) := by
  refine Met.ofW (cc := b_Lexemes_tokens) (maxL := 1) (ret := (some (.object "LayoutFront$Tokens"))) (by decide) rfl ?_
  intro p e s m args below meth c s₁ B hml hv
  obtain ⟨rfl, hsz, hP, hK, hD0⟩ := hv
  have hx := B.exec
  have hb := B.bytes
  have hr := B.returns
  have hts := atoms_spec (ws := w_Lexemes_tokens) B.pre
  have hz : ∀ w ∈ wz, w.before _ s = true := fun w h => hts w (List.mem_cons_of_mem _ h)
  have hown : s.vm.findClass R_Lexemes = some m.cls := findClass_of_methodNamed B.named
  have hlocks := B.notSynchronized
  subst hsz
  have hD := hD0.self (sz := s.heap.size)
  generalize hAe : va_A [(a_t, .inr (5, [.ref a_tokens, .ref a_places, .ref a_columns, .ref a_lineFirsts]))] s.heap.size = A at hD ⊢
  have hA : ∀ q : Nat, s.heap.size ≤ q → A q := fun q h => by rw [← hAe]; exact Or.inr h
  have hS : va_S A s.heap s.heap [] := va_S.rf
  have hP : va_P (dC, dI) vcl [(a_t, .inr (5, [.ref a_tokens, .ref a_places, .ref a_columns, .ref a_lineFirsts]))] s.heap := hP
  have hl := lv_entry ([.ref a_t]) (n := 1) (Nat.le_of_ble_eq_true rfl)
  rw [lg_entry_eq]
  generalize (lg_sl ([.ref a_t]) ++ List.replicate (1 - (lg_sl ([.ref a_t])).length) Slot.unset).toArray = ls at hl ⊢
  have hl : lv_has ls 1 [(0, .ref a_t)] := hl
  refine lv_aload_n hx hb d_Lexemes_tokens_0 rfl (lv_at hl 0 rfl) ?_
  refine va_get (D := (dC, dI)) (ci := 5) (v := .ref a_tokens) (C := R_Lexemes) (T := F_Lexemes) (N := 4) hx hb hz zu_Lexemes hown hK hP 0 rfl rfl 0 (by decide) (hz (.fieldLink R_Lexemes 14 "LayoutFront$Lexemes" "tokens" "LLayoutFront$Tokens;") zm_53) (fun _ h9 => h9) rfl d_Lexemes_tokens_1 ?_
  have hP9 := hP.sub (ws' := [(a_t, .inr (5, [.ref a_tokens, .ref a_places, .ref a_columns, .ref a_lineFirsts]))]) [0] rfl
  have hD9 := hD.sub (ws' := [(a_t, .inr (5, [.ref a_tokens, .ref a_places, .ref a_columns, .ref a_lineFirsts]))]) [0] (by decide) rfl
  exact W.aret (v := .ref a_tokens) hx hb hr (Or.inl ⟨_, rfl⟩) (Or.inr ⟨_, rfl⟩) (fun t ht hW => ⟨⟨(), a_tokens, rfl, trivial, rfl, by rw [ht]; exact hP9, va_K.moved hW.alike hK, hD9⟩, hS.F ht⟩) hS.2.2 d_Lexemes_tokens_4
set_option maxHeartbeats 4000000 in
set_option maxRecDepth 100000 in
theorem s_Lexemes_isFull (l : Launch) (dC : Nat → ClassId) (dI : Nat → Nat → Nat) (sz : Nat) (a_t : Nat) (a_tokens : Nat) (a_tokens_kinds : Nat) (a_tokens_values : Nat) (n_tokens_size : Nat) (a_places : Nat) (a_columns : Nat) (a_lineFirsts : Nat) (b_tokens_size : n_tokens_size ≤ 90) : Met l y_Lexemes_isFull w_Lexemes_isFull ({ frames := 1, cells := 0, slots := 0, locals := 20 }) (va_Pc [.ref a_t] (fun U => U.heap.size = sz ∧ va_P (dC, dI) vcl [(a_t, .inr (5, [.ref a_tokens, .ref a_places, .ref a_columns, .ref a_lineFirsts])), (a_tokens, .inr (11, [.ref a_tokens_kinds, .ref a_tokens_values, .int (nI n_tokens_size)]))] U.heap ∧ va_K (dC, dI) vcl [] U ∧ va_D (fun _ => True) [(a_t, .inr (5, [.ref a_tokens, .ref a_places, .ref a_columns, .ref a_lineFirsts])), (a_tokens, .inr (11, [.ref a_tokens_kinds, .ref a_tokens_values, .int (nI n_tokens_size)]))])) (va_Qi (fun (r : Int32) (_ : Unit) => r = 0 ∨ r = 1) (fun _ t => va_P (dC, dI) vcl [(a_t, .inr (5, [.ref a_tokens, .ref a_places, .ref a_columns, .ref a_lineFirsts])), (a_tokens, .inr (11, [.ref a_tokens_kinds, .ref a_tokens_values, .int (nI n_tokens_size)]))] t.heap ∧ va_K (dC, dI) vcl [] t ∧ va_D (va_A [(a_t, .inr (5, [.ref a_tokens, .ref a_places, .ref a_columns, .ref a_lineFirsts])), (a_tokens, .inr (11, [.ref a_tokens_kinds, .ref a_tokens_values, .int (nI n_tokens_size)]))] sz) [(a_t, .inr (5, [.ref a_tokens, .ref a_places, .ref a_columns, .ref a_lineFirsts])), (a_tokens, .inr (11, [.ref a_tokens_kinds, .ref a_tokens_values, .int (nI n_tokens_size)]))]) (va_A [(a_t, .inr (5, [.ref a_tokens, .ref a_places, .ref a_columns, .ref a_lineFirsts])), (a_tokens, .inr (11, [.ref a_tokens_kinds, .ref a_tokens_values, .int (nI n_tokens_size)]))] sz)) 0 0 (va_A [(a_t, .inr (5, [.ref a_tokens, .ref a_places, .ref a_columns, .ref a_lineFirsts])), (a_tokens, .inr (11, [.ref a_tokens_kinds, .ref a_tokens_values, .int (nI n_tokens_size)]))] sz) := by
  refine Met.ofW (cc := b_Lexemes_isFull) (maxL := 1) (ret := (some .boolean)) (by decide) rfl ?_
  intro p e s m args below meth c s₁ B hml hv
  obtain ⟨rfl, hsz, hP, hK, hD0⟩ := hv
  have hx := B.exec
  have hb := B.bytes
  have hr := B.returns
  have hts := atoms_spec (ws := w_Lexemes_isFull) B.pre
  have hz : ∀ w ∈ wz, w.before _ s = true := fun w h => hts w (List.mem_cons_of_mem _ h)
  have hown : s.vm.findClass R_Lexemes = some m.cls := findClass_of_methodNamed B.named
  have hlocks := B.notSynchronized
  subst hsz
  have hD := hD0.self (sz := s.heap.size)
  generalize hAe : va_A [(a_t, .inr (5, [.ref a_tokens, .ref a_places, .ref a_columns, .ref a_lineFirsts])), (a_tokens, .inr (11, [.ref a_tokens_kinds, .ref a_tokens_values, .int (nI n_tokens_size)]))] s.heap.size = A at hD ⊢
  have hA : ∀ q : Nat, s.heap.size ≤ q → A q := fun q h => by rw [← hAe]; exact Or.inr h
  have hS : va_S A s.heap s.heap [] := va_S.rf
  have hP : va_P (dC, dI) vcl [(a_t, .inr (5, [.ref a_tokens, .ref a_places, .ref a_columns, .ref a_lineFirsts])), (a_tokens, .inr (11, [.ref a_tokens_kinds, .ref a_tokens_values, .int (nI n_tokens_size)]))] s.heap := hP
  have hl := lv_entry ([.ref a_t]) (n := 1) (Nat.le_of_ble_eq_true rfl)
  rw [lg_entry_eq]
  generalize (lg_sl ([.ref a_t]) ++ List.replicate (1 - (lg_sl ([.ref a_t])).length) Slot.unset).toArray = ls at hl ⊢
  have hl : lv_has ls 1 [(0, .ref a_t)] := hl
  refine lv_aload_n hx hb d_Lexemes_isFull_0 rfl (lv_at hl 0 rfl) ?_
  refine va_get (D := (dC, dI)) (ci := 5) (v := .ref a_tokens) (C := R_Lexemes) (T := F_Lexemes) (N := 4) hx hb hz zu_Lexemes hown hK hP 0 rfl rfl 0 (by decide) (hz (.fieldLink R_Lexemes 14 "LayoutFront$Lexemes" "tokens" "LLayoutFront$Tokens;") zm_53) (fun _ h9 => h9) rfl d_Lexemes_isFull_1 ?_
  have hPc := hP.sub (ws' := [(a_tokens, .inr (11, [.ref a_tokens_kinds, .ref a_tokens_values, .int (nI n_tokens_size)]))]) [1] rfl
  have hDc := hD.sub (ws' := [(a_tokens, .inr (11, [.ref a_tokens_kinds, .ref a_tokens_values, .int (nI n_tokens_size)]))]) [1] (by decide) rfl
  have hKc := hK.sub (tys' := []) [] rfl
  have hFc := va_free (wc := [(a_tokens, .inr (11, [.ref a_tokens_kinds, .ref a_tokens_values, .int (nI n_tokens_size)]))]) hD hS hA [1] rfl
  refine va_calli (va_runV (As := []) (rest := []) ⟨hx, hb, hml, hown, hz⟩ (s_Tokens_size l dC dI s.heap.size a_tokens a_tokens_kinds a_tokens_values n_tokens_size) (cwV 0 hz (zV zm_63 zm_64 zm_65 zm_35 zm_66) rfl rfl rfl (by decide +kernel) ⟨Nat.le_of_ble_eq_true rfl, Nat.le_of_ble_eq_true rfl⟩) ⟨fun a U g mk q => by obtain ⟨q0, q1, qP, qK, qD⟩ := q; exact ⟨q0, q1, qP, va_K.moved (u := U) (U := U.calling g mk a) (Vm.Alike.refl U.vm) qK, qD⟩, va_recv (q := (R_Tokens, F_Tokens, 3)) (q0 := 1) (ci := 11) hK hP rfl rfl, fun U hU hW => ⟨rfl, by rw [hU], by rw [hU]; exact hPc, va_K.moved hW.alike hKc, hDc.weaken (fun _ _ _ _ => trivial)⟩⟩ rfl rfl hl.1 rfl (lv_room (Nat.le_of_ble_eq_true rfl)) d_Lexemes_isFull_4 ⟨Nat.zero_le _, Nat.zero_le _⟩) hS (fun q _ h => hFc q h) hFc (fun r u t H1 locs ht hvm hw hB hz1 hk1 hS => ?_)
  obtain ⟨hP1, hK1, hD1⟩ := hB
  subst r
  rw [ht] at hP1
  obtain ⟨hP, hD⟩ := va_join (wr := [(a_t, .inr (5, [.ref a_tokens, .ref a_places, .ref a_columns, .ref a_lineFirsts]))]) (w1 := [(a_tokens, .inr (11, [.ref a_tokens_kinds, .ref a_tokens_values, .int (nI n_tokens_size)]))]) hP hD [1] [0] rfl rfl (by decide) (by decide) hk1 hFc hP1 hD1
  generalize H1 = H at hP hS ⊢
  have hP : va_P (dC, dI) vcl [(a_t, .inr (5, [.ref a_tokens, .ref a_places, .ref a_columns, .ref a_lineFirsts])), (a_tokens, .inr (11, [.ref a_tokens_kinds, .ref a_tokens_values, .int (nI n_tokens_size)]))] H := hP
  have hD : va_D A [(a_t, .inr (5, [.ref a_tokens, .ref a_places, .ref a_columns, .ref a_lineFirsts])), (a_tokens, .inr (11, [.ref a_tokens_kinds, .ref a_tokens_values, .int (nI n_tokens_size)]))] := hD
  refine lv_bipush (v := 90) hx hb d_Lexemes_isFull_7 (by decide) ?_
  refine lv_icmp_lt (tgt := 16) hx hb d_Lexemes_isFull_9 (by decide) (fun h1 => ?_) (fun h1 => ?_)
  · have h1 : n_tokens_size < 90 := (nI_ltI (a := n_tokens_size) (b := 90) (by omega) (by omega)).mp h1
    refine lv_iconst (v := 0) hx hb d_Lexemes_isFull_16 (by decide) ?_
    have hP9 := hP.sub (ws' := [(a_t, .inr (5, [.ref a_tokens, .ref a_places, .ref a_columns, .ref a_lineFirsts])), (a_tokens, .inr (11, [.ref a_tokens_kinds, .ref a_tokens_values, .int (nI n_tokens_size)]))]) [0, 1] rfl
    have hD9 := hD.sub (ws' := [(a_t, .inr (5, [.ref a_tokens, .ref a_places, .ref a_columns, .ref a_lineFirsts])), (a_tokens, .inr (11, [.ref a_tokens_kinds, .ref a_tokens_values, .int (nI n_tokens_size)]))]) [0, 1] (by decide) rfl
    exact W.zret (v := 0) hx hb hr (by decide +kernel) (fun t ht hW => ⟨⟨0, (), rfl, (by first | assumption | exact Or.inl rfl | exact Or.inr rfl), by rw [ht]; exact hP9, va_K.moved hW.alike hK, hD9⟩, hS.F ht⟩) hS.2.2 d_Lexemes_isFull_17
  · have h1 : ¬ n_tokens_size < 90 := fun q => h1 ((nI_ltI (a := n_tokens_size) (b := 90) (by omega) (by omega)).mpr q)
    refine lv_iconst (v := 1) hx hb d_Lexemes_isFull_12 (by decide) ?_
    refine lv_goto (tgt := 17) hx hb d_Lexemes_isFull_13 (by decide) ?_
    have hP9 := hP.sub (ws' := [(a_t, .inr (5, [.ref a_tokens, .ref a_places, .ref a_columns, .ref a_lineFirsts])), (a_tokens, .inr (11, [.ref a_tokens_kinds, .ref a_tokens_values, .int (nI n_tokens_size)]))]) [0, 1] rfl
    have hD9 := hD.sub (ws' := [(a_t, .inr (5, [.ref a_tokens, .ref a_places, .ref a_columns, .ref a_lineFirsts])), (a_tokens, .inr (11, [.ref a_tokens_kinds, .ref a_tokens_values, .int (nI n_tokens_size)]))]) [0, 1] (by decide) rfl
    exact W.zret (v := 1) hx hb hr (by decide +kernel) (fun t ht hW => ⟨⟨1, (), rfl, (by first | assumption | exact Or.inl rfl | exact Or.inr rfl), by rw [ht]; exact hP9, va_K.moved hW.alike hK, hD9⟩, hS.F ht⟩) hS.2.2 d_Lexemes_isFull_17
set_option maxHeartbeats 4000000 in
set_option maxRecDepth 100000 in
theorem s_Lexemes_placeAt (l : Launch) (dC : Nat → ClassId) (dI : Nat → Nat → Nat) (sz : Nat) (a_t : Nat) (a_tokens : Nat) (a_tokens_kinds : Nat) (a_tokens_values : Nat) (n_tokens_size : Nat) (a_places : Nat) (f_places : Nat → Int32) (a_columns : Nat) (a_lineFirsts : Nat) (y0 : Int32) (ka_places : ClassId) (b_tokens_size : n_tokens_size ≤ 90) : Met l y_Lexemes_placeAt w_Lexemes_placeAt ({ frames := 1, cells := 0, slots := 0, locals := 21 }) (va_Pc [.ref a_t, .int y0] (fun U => U.heap.size = sz ∧ va_P (dC, dI) vcl [(a_t, .inr (5, [.ref a_tokens, .ref a_places, .ref a_columns, .ref a_lineFirsts])), (a_tokens, .inr (11, [.ref a_tokens_kinds, .ref a_tokens_values, .int (nI n_tokens_size)])), (a_places, .inl (ka_places, 90, .inl f_places))] U.heap ∧ va_K (dC, dI) vcl [(ka_places, .int)] U ∧ va_D (fun _ => True) [(a_t, .inr (5, [.ref a_tokens, .ref a_places, .ref a_columns, .ref a_lineFirsts])), (a_tokens, .inr (11, [.ref a_tokens_kinds, .ref a_tokens_values, .int (nI n_tokens_size)])), (a_places, .inl (ka_places, 90, .inl f_places))])) (va_Qi (fun (r : Int32) (_ : Unit) => True) (fun _ t => va_P (dC, dI) vcl [(a_t, .inr (5, [.ref a_tokens, .ref a_places, .ref a_columns, .ref a_lineFirsts])), (a_tokens, .inr (11, [.ref a_tokens_kinds, .ref a_tokens_values, .int (nI n_tokens_size)])), (a_places, .inl (ka_places, 90, .inl f_places))] t.heap ∧ va_K (dC, dI) vcl [(ka_places, .int)] t ∧ va_D (va_A [(a_t, .inr (5, [.ref a_tokens, .ref a_places, .ref a_columns, .ref a_lineFirsts])), (a_tokens, .inr (11, [.ref a_tokens_kinds, .ref a_tokens_values, .int (nI n_tokens_size)])), (a_places, .inl (ka_places, 90, .inl f_places))] sz) [(a_t, .inr (5, [.ref a_tokens, .ref a_places, .ref a_columns, .ref a_lineFirsts])), (a_tokens, .inr (11, [.ref a_tokens_kinds, .ref a_tokens_values, .int (nI n_tokens_size)])), (a_places, .inl (ka_places, 90, .inl f_places))]) (va_A [(a_t, .inr (5, [.ref a_tokens, .ref a_places, .ref a_columns, .ref a_lineFirsts])), (a_tokens, .inr (11, [.ref a_tokens_kinds, .ref a_tokens_values, .int (nI n_tokens_size)])), (a_places, .inl (ka_places, 90, .inl f_places))] sz)) 0 0 (va_A [(a_t, .inr (5, [.ref a_tokens, .ref a_places, .ref a_columns, .ref a_lineFirsts])), (a_tokens, .inr (11, [.ref a_tokens_kinds, .ref a_tokens_values, .int (nI n_tokens_size)])), (a_places, .inl (ka_places, 90, .inl f_places))] sz) := by
  refine Met.ofW (cc := b_Lexemes_placeAt) (maxL := 2) (ret := (some .int)) (by decide) rfl ?_
  intro p e s m args below meth c s₁ B hml hv
  obtain ⟨rfl, hsz, hP, hK, hD0⟩ := hv
  have hx := B.exec
  have hb := B.bytes
  have hr := B.returns
  have hts := atoms_spec (ws := w_Lexemes_placeAt) B.pre
  have hz : ∀ w ∈ wz, w.before _ s = true := fun w h => hts w (List.mem_cons_of_mem _ h)
  have hown : s.vm.findClass R_Lexemes = some m.cls := findClass_of_methodNamed B.named
  have hlocks := B.notSynchronized
  subst hsz
  have hD := hD0.self (sz := s.heap.size)
  generalize hAe : va_A [(a_t, .inr (5, [.ref a_tokens, .ref a_places, .ref a_columns, .ref a_lineFirsts])), (a_tokens, .inr (11, [.ref a_tokens_kinds, .ref a_tokens_values, .int (nI n_tokens_size)])), (a_places, .inl (ka_places, 90, .inl f_places))] s.heap.size = A at hD ⊢
  have hA : ∀ q : Nat, s.heap.size ≤ q → A q := fun q h => by rw [← hAe]; exact Or.inr h
  have hS : va_S A s.heap s.heap [] := va_S.rf
  have hP : va_P (dC, dI) vcl [(a_t, .inr (5, [.ref a_tokens, .ref a_places, .ref a_columns, .ref a_lineFirsts])), (a_tokens, .inr (11, [.ref a_tokens_kinds, .ref a_tokens_values, .int (nI n_tokens_size)])), (a_places, .inl (ka_places, 90, .inl f_places))] s.heap := hP
  have hl := lv_entry ([.ref a_t, .int y0]) (n := 2) (Nat.le_of_ble_eq_true rfl)
  rw [lg_entry_eq]
  generalize (lg_sl ([.ref a_t, .int y0]) ++ List.replicate (2 - (lg_sl ([.ref a_t, .int y0])).length) Slot.unset).toArray = ls at hl ⊢
  have hl : lv_has ls 2 [(0, .ref a_t), (1, .int y0)] := hl
  refine lv_aload_n hx hb d_Lexemes_placeAt_0 rfl (lv_at hl 0 rfl) ?_
  refine va_get (D := (dC, dI)) (ci := 5) (v := .ref a_tokens) (C := R_Lexemes) (T := F_Lexemes) (N := 4) hx hb hz zu_Lexemes hown hK hP 0 rfl rfl 0 (by decide) (hz (.fieldLink R_Lexemes 14 "LayoutFront$Lexemes" "tokens" "LLayoutFront$Tokens;") zm_53) (fun _ h9 => h9) rfl d_Lexemes_placeAt_1 ?_
  refine lv_iload_n hx hb d_Lexemes_placeAt_4 rfl (lv_at hl 1 rfl) ?_
  have hPc := hP.sub (ws' := [(a_tokens, .inr (11, [.ref a_tokens_kinds, .ref a_tokens_values, .int (nI n_tokens_size)]))]) [1] rfl
  have hDc := hD.sub (ws' := [(a_tokens, .inr (11, [.ref a_tokens_kinds, .ref a_tokens_values, .int (nI n_tokens_size)]))]) [1] (by decide) rfl
  have hKc := hK.sub (tys' := []) [] rfl
  have hFc := va_free (wc := [(a_tokens, .inr (11, [.ref a_tokens_kinds, .ref a_tokens_values, .int (nI n_tokens_size)]))]) hD hS hA [1] rfl
  refine va_calli (va_runV (As := [.int y0]) (rest := []) ⟨hx, hb, hml, hown, hz⟩ (s_Tokens_has l dC dI s.heap.size a_tokens a_tokens_kinds a_tokens_values n_tokens_size y0) (cwV 1 hz (zV zm_68 zm_38 zm_39 zm_35 zm_40) rfl rfl rfl (by decide +kernel) ⟨Nat.le_of_ble_eq_true rfl, Nat.le_of_ble_eq_true rfl⟩) ⟨fun a U g mk q => by obtain ⟨q0, q1, qP, qK, qD⟩ := q; exact ⟨q0, q1, qP, va_K.moved (u := U) (U := U.calling g mk a) (Vm.Alike.refl U.vm) qK, qD⟩, va_recv (q := (R_Tokens, F_Tokens, 3)) (q0 := 1) (ci := 11) hK hP rfl rfl, fun U hU hW => ⟨rfl, by rw [hU], by rw [hU]; exact hPc, va_K.moved hW.alike hKc, hDc.weaken (fun _ _ _ _ => trivial)⟩⟩ rfl rfl hl.1 rfl (lv_room (Nat.le_of_ble_eq_true rfl)) d_Lexemes_placeAt_5 ⟨Nat.zero_le _, Nat.zero_le _⟩) hS (fun q _ h => hFc q h) hFc (fun x1 u t H1 locs ht hvm hw_x1 hB hz1 hk1 hS => ?_)
  obtain ⟨hP1, hK1, hD1⟩ := hB
  have hb_x1 := hw_x1.1
  rw [ht] at hP1
  obtain ⟨hP, hD⟩ := va_join (wr := [(a_t, .inr (5, [.ref a_tokens, .ref a_places, .ref a_columns, .ref a_lineFirsts])), (a_places, .inl (ka_places, 90, .inl f_places))]) (w1 := [(a_tokens, .inr (11, [.ref a_tokens_kinds, .ref a_tokens_values, .int (nI n_tokens_size)]))]) hP hD [1] [0, 2] rfl rfl (by decide) (by decide) hk1 hFc hP1 hD1
  generalize H1 = H at hP hS ⊢
  have hP : va_P (dC, dI) vcl [(a_t, .inr (5, [.ref a_tokens, .ref a_places, .ref a_columns, .ref a_lineFirsts])), (a_places, .inl (ka_places, 90, .inl f_places)), (a_tokens, .inr (11, [.ref a_tokens_kinds, .ref a_tokens_values, .int (nI n_tokens_size)]))] H := hP
  have hD : va_D A [(a_t, .inr (5, [.ref a_tokens, .ref a_places, .ref a_columns, .ref a_lineFirsts])), (a_places, .inl (ka_places, 90, .inl f_places)), (a_tokens, .inr (11, [.ref a_tokens_kinds, .ref a_tokens_values, .int (nI n_tokens_size)]))] := hD
  refine lv_if_eq (tgt := 20) hx hb d_Lexemes_placeAt_8 (by decide) (fun h2 => ?_) (fun h2 => ?_)
  · refine lv_iconst (v := (-1)) hx hb d_Lexemes_placeAt_20 (by decide) ?_
    have hP9 := hP.sub (ws' := [(a_t, .inr (5, [.ref a_tokens, .ref a_places, .ref a_columns, .ref a_lineFirsts])), (a_tokens, .inr (11, [.ref a_tokens_kinds, .ref a_tokens_values, .int (nI n_tokens_size)])), (a_places, .inl (ka_places, 90, .inl f_places))]) [0, 2, 1] rfl
    have hD9 := hD.sub (ws' := [(a_t, .inr (5, [.ref a_tokens, .ref a_places, .ref a_columns, .ref a_lineFirsts])), (a_tokens, .inr (11, [.ref a_tokens_kinds, .ref a_tokens_values, .int (nI n_tokens_size)])), (a_places, .inl (ka_places, 90, .inl f_places))]) [0, 2, 1] (by decide) rfl
    exact W.iret (v := (-1)) hx hb hr (fun t ht hW => ⟨⟨(-1), (), rfl, trivial, by rw [ht]; exact hP9, va_K.moved hW.alike hK, hD9⟩, hS.F ht⟩) hS.2.2 d_Lexemes_placeAt_21
  · refine lv_aload_n hx hb d_Lexemes_placeAt_11 rfl (lv_at hl 0 rfl) ?_
    refine va_get (D := (dC, dI)) (ci := 5) (v := .ref a_places) (C := R_Lexemes) (T := F_Lexemes) (N := 4) hx hb hz zu_Lexemes hown hK hP 0 rfl rfl 1 (by decide) (hz (.fieldLink R_Lexemes 20 "LayoutFront$Lexemes" "places" "[I") zm_54) (fun _ h9 => h9) rfl d_Lexemes_placeAt_12 ?_
    refine lv_iload_n hx hb d_Lexemes_placeAt_15 rfl (lv_at hl 1 rfl) ?_
    refine va_iald hx hb hK hP 1 0 rfl rfl (xr_inr (hw_x1.2 h2).1 (hw_x1.2 h2).2 (by omega) (by omega)) d_Lexemes_placeAt_16 ?_
    refine lv_topi (fun x3 e_x3 => ?_)
    refine lv_goto (tgt := 21) hx hb d_Lexemes_placeAt_17 (by decide) ?_
    have hP9 := hP.sub (ws' := [(a_t, .inr (5, [.ref a_tokens, .ref a_places, .ref a_columns, .ref a_lineFirsts])), (a_tokens, .inr (11, [.ref a_tokens_kinds, .ref a_tokens_values, .int (nI n_tokens_size)])), (a_places, .inl (ka_places, 90, .inl f_places))]) [0, 2, 1] rfl
    have hD9 := hD.sub (ws' := [(a_t, .inr (5, [.ref a_tokens, .ref a_places, .ref a_columns, .ref a_lineFirsts])), (a_tokens, .inr (11, [.ref a_tokens_kinds, .ref a_tokens_values, .int (nI n_tokens_size)])), (a_places, .inl (ka_places, 90, .inl f_places))]) [0, 2, 1] (by decide) rfl
    exact W.iret (v := x3) hx hb hr (fun t ht hW => ⟨⟨x3, (), rfl, trivial, by rw [ht]; exact hP9, va_K.moved hW.alike hK, hD9⟩, hS.F ht⟩) hS.2.2 d_Lexemes_placeAt_21
set_option maxHeartbeats 4000000 in
set_option maxRecDepth 100000 in
theorem s_Lexemes_columnAt (l : Launch) (dC : Nat → ClassId) (dI : Nat → Nat → Nat) (sz : Nat) (a_t : Nat) (a_tokens : Nat) (a_tokens_kinds : Nat) (a_tokens_values : Nat) (n_tokens_size : Nat) (a_places : Nat) (a_columns : Nat) (f_columns : Nat → Int32) (a_lineFirsts : Nat) (y0 : Int32) (ka_columns : ClassId) (b_tokens_size : n_tokens_size ≤ 90) : Met l y_Lexemes_columnAt w_Lexemes_columnAt ({ frames := 1, cells := 0, slots := 0, locals := 21 }) (va_Pc [.ref a_t, .int y0] (fun U => U.heap.size = sz ∧ va_P (dC, dI) vcl [(a_t, .inr (5, [.ref a_tokens, .ref a_places, .ref a_columns, .ref a_lineFirsts])), (a_tokens, .inr (11, [.ref a_tokens_kinds, .ref a_tokens_values, .int (nI n_tokens_size)])), (a_columns, .inl (ka_columns, 90, .inl f_columns))] U.heap ∧ va_K (dC, dI) vcl [(ka_columns, .int)] U ∧ va_D (fun _ => True) [(a_t, .inr (5, [.ref a_tokens, .ref a_places, .ref a_columns, .ref a_lineFirsts])), (a_tokens, .inr (11, [.ref a_tokens_kinds, .ref a_tokens_values, .int (nI n_tokens_size)])), (a_columns, .inl (ka_columns, 90, .inl f_columns))])) (va_Qi (fun (r : Int32) (_ : Unit) => True) (fun _ t => va_P (dC, dI) vcl [(a_t, .inr (5, [.ref a_tokens, .ref a_places, .ref a_columns, .ref a_lineFirsts])), (a_tokens, .inr (11, [.ref a_tokens_kinds, .ref a_tokens_values, .int (nI n_tokens_size)])), (a_columns, .inl (ka_columns, 90, .inl f_columns))] t.heap ∧ va_K (dC, dI) vcl [(ka_columns, .int)] t ∧ va_D (va_A [(a_t, .inr (5, [.ref a_tokens, .ref a_places, .ref a_columns, .ref a_lineFirsts])), (a_tokens, .inr (11, [.ref a_tokens_kinds, .ref a_tokens_values, .int (nI n_tokens_size)])), (a_columns, .inl (ka_columns, 90, .inl f_columns))] sz) [(a_t, .inr (5, [.ref a_tokens, .ref a_places, .ref a_columns, .ref a_lineFirsts])), (a_tokens, .inr (11, [.ref a_tokens_kinds, .ref a_tokens_values, .int (nI n_tokens_size)])), (a_columns, .inl (ka_columns, 90, .inl f_columns))]) (va_A [(a_t, .inr (5, [.ref a_tokens, .ref a_places, .ref a_columns, .ref a_lineFirsts])), (a_tokens, .inr (11, [.ref a_tokens_kinds, .ref a_tokens_values, .int (nI n_tokens_size)])), (a_columns, .inl (ka_columns, 90, .inl f_columns))] sz)) 0 0 (va_A [(a_t, .inr (5, [.ref a_tokens, .ref a_places, .ref a_columns, .ref a_lineFirsts])), (a_tokens, .inr (11, [.ref a_tokens_kinds, .ref a_tokens_values, .int (nI n_tokens_size)])), (a_columns, .inl (ka_columns, 90, .inl f_columns))] sz) := by
  refine Met.ofW (cc := b_Lexemes_columnAt) (maxL := 2) (ret := (some .int)) (by decide) rfl ?_
  intro p e s m args below meth c s₁ B hml hv
  obtain ⟨rfl, hsz, hP, hK, hD0⟩ := hv
  have hx := B.exec
  have hb := B.bytes
  have hr := B.returns
  have hts := atoms_spec (ws := w_Lexemes_columnAt) B.pre
  have hz : ∀ w ∈ wz, w.before _ s = true := fun w h => hts w (List.mem_cons_of_mem _ h)
  have hown : s.vm.findClass R_Lexemes = some m.cls := findClass_of_methodNamed B.named
  have hlocks := B.notSynchronized
  subst hsz
  have hD := hD0.self (sz := s.heap.size)
  generalize hAe : va_A [(a_t, .inr (5, [.ref a_tokens, .ref a_places, .ref a_columns, .ref a_lineFirsts])), (a_tokens, .inr (11, [.ref a_tokens_kinds, .ref a_tokens_values, .int (nI n_tokens_size)])), (a_columns, .inl (ka_columns, 90, .inl f_columns))] s.heap.size = A at hD ⊢
  have hA : ∀ q : Nat, s.heap.size ≤ q → A q := fun q h => by rw [← hAe]; exact Or.inr h
  have hS : va_S A s.heap s.heap [] := va_S.rf
  have hP : va_P (dC, dI) vcl [(a_t, .inr (5, [.ref a_tokens, .ref a_places, .ref a_columns, .ref a_lineFirsts])), (a_tokens, .inr (11, [.ref a_tokens_kinds, .ref a_tokens_values, .int (nI n_tokens_size)])), (a_columns, .inl (ka_columns, 90, .inl f_columns))] s.heap := hP
  have hl := lv_entry ([.ref a_t, .int y0]) (n := 2) (Nat.le_of_ble_eq_true rfl)
  rw [lg_entry_eq]
  generalize (lg_sl ([.ref a_t, .int y0]) ++ List.replicate (2 - (lg_sl ([.ref a_t, .int y0])).length) Slot.unset).toArray = ls at hl ⊢
  have hl : lv_has ls 2 [(0, .ref a_t), (1, .int y0)] := hl
  refine lv_aload_n hx hb d_Lexemes_columnAt_0 rfl (lv_at hl 0 rfl) ?_
  refine va_get (D := (dC, dI)) (ci := 5) (v := .ref a_tokens) (C := R_Lexemes) (T := F_Lexemes) (N := 4) hx hb hz zu_Lexemes hown hK hP 0 rfl rfl 0 (by decide) (hz (.fieldLink R_Lexemes 14 "LayoutFront$Lexemes" "tokens" "LLayoutFront$Tokens;") zm_53) (fun _ h9 => h9) rfl d_Lexemes_columnAt_1 ?_
  refine lv_iload_n hx hb d_Lexemes_columnAt_4 rfl (lv_at hl 1 rfl) ?_
  have hPc := hP.sub (ws' := [(a_tokens, .inr (11, [.ref a_tokens_kinds, .ref a_tokens_values, .int (nI n_tokens_size)]))]) [1] rfl
  have hDc := hD.sub (ws' := [(a_tokens, .inr (11, [.ref a_tokens_kinds, .ref a_tokens_values, .int (nI n_tokens_size)]))]) [1] (by decide) rfl
  have hKc := hK.sub (tys' := []) [] rfl
  have hFc := va_free (wc := [(a_tokens, .inr (11, [.ref a_tokens_kinds, .ref a_tokens_values, .int (nI n_tokens_size)]))]) hD hS hA [1] rfl
  refine va_calli (va_runV (As := [.int y0]) (rest := []) ⟨hx, hb, hml, hown, hz⟩ (s_Tokens_has l dC dI s.heap.size a_tokens a_tokens_kinds a_tokens_values n_tokens_size y0) (cwV 1 hz (zV zm_68 zm_38 zm_39 zm_35 zm_40) rfl rfl rfl (by decide +kernel) ⟨Nat.le_of_ble_eq_true rfl, Nat.le_of_ble_eq_true rfl⟩) ⟨fun a U g mk q => by obtain ⟨q0, q1, qP, qK, qD⟩ := q; exact ⟨q0, q1, qP, va_K.moved (u := U) (U := U.calling g mk a) (Vm.Alike.refl U.vm) qK, qD⟩, va_recv (q := (R_Tokens, F_Tokens, 3)) (q0 := 1) (ci := 11) hK hP rfl rfl, fun U hU hW => ⟨rfl, by rw [hU], by rw [hU]; exact hPc, va_K.moved hW.alike hKc, hDc.weaken (fun _ _ _ _ => trivial)⟩⟩ rfl rfl hl.1 rfl (lv_room (Nat.le_of_ble_eq_true rfl)) d_Lexemes_columnAt_5 ⟨Nat.zero_le _, Nat.zero_le _⟩) hS (fun q _ h => hFc q h) hFc (fun x1 u t H1 locs ht hvm hw_x1 hB hz1 hk1 hS => ?_)
  obtain ⟨hP1, hK1, hD1⟩ := hB
  have hb_x1 := hw_x1.1
  rw [ht] at hP1
  obtain ⟨hP, hD⟩ := va_join (wr := [(a_t, .inr (5, [.ref a_tokens, .ref a_places, .ref a_columns, .ref a_lineFirsts])), (a_columns, .inl (ka_columns, 90, .inl f_columns))]) (w1 := [(a_tokens, .inr (11, [.ref a_tokens_kinds, .ref a_tokens_values, .int (nI n_tokens_size)]))]) hP hD [1] [0, 2] rfl rfl (by decide) (by decide) hk1 hFc hP1 hD1
  generalize H1 = H at hP hS ⊢
  have hP : va_P (dC, dI) vcl [(a_t, .inr (5, [.ref a_tokens, .ref a_places, .ref a_columns, .ref a_lineFirsts])), (a_columns, .inl (ka_columns, 90, .inl f_columns)), (a_tokens, .inr (11, [.ref a_tokens_kinds, .ref a_tokens_values, .int (nI n_tokens_size)]))] H := hP
  have hD : va_D A [(a_t, .inr (5, [.ref a_tokens, .ref a_places, .ref a_columns, .ref a_lineFirsts])), (a_columns, .inl (ka_columns, 90, .inl f_columns)), (a_tokens, .inr (11, [.ref a_tokens_kinds, .ref a_tokens_values, .int (nI n_tokens_size)]))] := hD
  refine lv_if_eq (tgt := 20) hx hb d_Lexemes_columnAt_8 (by decide) (fun h2 => ?_) (fun h2 => ?_)
  · refine lv_iconst (v := 0) hx hb d_Lexemes_columnAt_20 (by decide) ?_
    have hP9 := hP.sub (ws' := [(a_t, .inr (5, [.ref a_tokens, .ref a_places, .ref a_columns, .ref a_lineFirsts])), (a_tokens, .inr (11, [.ref a_tokens_kinds, .ref a_tokens_values, .int (nI n_tokens_size)])), (a_columns, .inl (ka_columns, 90, .inl f_columns))]) [0, 2, 1] rfl
    have hD9 := hD.sub (ws' := [(a_t, .inr (5, [.ref a_tokens, .ref a_places, .ref a_columns, .ref a_lineFirsts])), (a_tokens, .inr (11, [.ref a_tokens_kinds, .ref a_tokens_values, .int (nI n_tokens_size)])), (a_columns, .inl (ka_columns, 90, .inl f_columns))]) [0, 2, 1] (by decide) rfl
    exact W.iret (v := 0) hx hb hr (fun t ht hW => ⟨⟨0, (), rfl, trivial, by rw [ht]; exact hP9, va_K.moved hW.alike hK, hD9⟩, hS.F ht⟩) hS.2.2 d_Lexemes_columnAt_21
  · refine lv_aload_n hx hb d_Lexemes_columnAt_11 rfl (lv_at hl 0 rfl) ?_
    refine va_get (D := (dC, dI)) (ci := 5) (v := .ref a_columns) (C := R_Lexemes) (T := F_Lexemes) (N := 4) hx hb hz zu_Lexemes hown hK hP 0 rfl rfl 2 (by decide) (hz (.fieldLink R_Lexemes 24 "LayoutFront$Lexemes" "columns" "[I") zm_55) (fun _ h9 => h9) rfl d_Lexemes_columnAt_12 ?_
    refine lv_iload_n hx hb d_Lexemes_columnAt_15 rfl (lv_at hl 1 rfl) ?_
    refine va_iald hx hb hK hP 1 0 rfl rfl (xr_inr (hw_x1.2 h2).1 (hw_x1.2 h2).2 (by omega) (by omega)) d_Lexemes_columnAt_16 ?_
    refine lv_topi (fun x3 e_x3 => ?_)
    refine lv_goto (tgt := 21) hx hb d_Lexemes_columnAt_17 (by decide) ?_
    have hP9 := hP.sub (ws' := [(a_t, .inr (5, [.ref a_tokens, .ref a_places, .ref a_columns, .ref a_lineFirsts])), (a_tokens, .inr (11, [.ref a_tokens_kinds, .ref a_tokens_values, .int (nI n_tokens_size)])), (a_columns, .inl (ka_columns, 90, .inl f_columns))]) [0, 2, 1] rfl
    have hD9 := hD.sub (ws' := [(a_t, .inr (5, [.ref a_tokens, .ref a_places, .ref a_columns, .ref a_lineFirsts])), (a_tokens, .inr (11, [.ref a_tokens_kinds, .ref a_tokens_values, .int (nI n_tokens_size)])), (a_columns, .inl (ka_columns, 90, .inl f_columns))]) [0, 2, 1] (by decide) rfl
    exact W.iret (v := x3) hx hb hr (fun t ht hW => ⟨⟨x3, (), rfl, trivial, by rw [ht]; exact hP9, va_K.moved hW.alike hK, hD9⟩, hS.F ht⟩) hS.2.2 d_Lexemes_columnAt_21
