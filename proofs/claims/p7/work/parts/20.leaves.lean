theorem xr_inr {i : Int32} {n cap : Nat} (h0 : 0 ≤ i) (h1 : i < nI n) (hn : n ≤ cap) (hc : cap < 2 ^ 31) : vp_in i cap := by
  rw [vp_in_iff]
  have a1 := Int32.le_iff_toInt_le.mp h0
  have a2 := Int32.lt_iff_toInt_lt.mp h1
  rw [nI_toInt (by omega)] at a2
  have a3 : (0 : Int32).toInt = 0 := by decide
  omega
theorem xr_upc {f : Nat → Int32} {i : Nat} {x : Int32} (h : ∀ j, narrow .char (.int (f j)) = .int (f j)) : ∀ j, narrow .char (.int (upd f i (vp_nar .char x) j)) = .int (upd f i (vp_nar .char x) j) := by
  intro j
  unfold upd
  split
  · simp [vp_nar, narrow]
    exact congrArg UInt32.toInt32 (UInt32.toNat_inj.mp (by rw [UInt32.toNat_mod, UInt32.toNat_mod]; exact Nat.mod_mod _ _))
  · exact h j
theorem xr_nb {r : Int32} (h : r = 0 ∨ r = 1) : narrow .boolean (.int r) = .int r := by
  rcases h with rfl | rfl <;> decide
theorem xr_mu {x y : Int32} (h : ¬ y ≤ x) : (2147483647 - (x + 1).toInt).toNat < (2147483647 - x.toInt).toNat := by
  have h1 := Int32.lt_iff_toInt_lt.mp (Int32.not_le.mp h)
  have h2 := Int32.toInt_lt y
  have h3 := Int32.le_toInt x
  have h4 : (x + 1).toInt = x.toInt + 1 := by
    rw [Int32.toInt_add]
    have h5 : (1 : Int32).toInt = 1 := by decide
    rw [h5]
    exact Int.bmod_eq_of_le (by omega) (by omega)
  omega
theorem xr_upn {f : Nat → Int32} {i : Nat} {x c : Int32} (h : ∀ j, ¬ f j = c) (hx : ¬ x = c) : ∀ j, ¬ upd f i x j = c := by
  intro j
  unfold upd
  split
  · exact hx
  · exact h j
theorem xr_upr {f : Nat → Int32} {b i q : Nat} (h : ∀ j, ∃ q, q < b ∧ f j = nI q) (hq : q < b) : ∀ j, ∃ q', q' < b ∧ upd f i (nI q) j = nI q' := by
  intro j
  unfold upd
  split
  · exact ⟨q, hq, rfl⟩
  · exact h j
theorem xr_min {p : Program} {l : Launch} {e : Env} {R : Room} {s : State} {m : MethodId} {args : Array Value} {below : List Frame} {meth : Method} {c : Code} {H : Heap} {locs : List Loc} {cells slots : Nat} {Q : State → Prop} {cc : ByteArray} {pc : Nat} {ls : Array Slot} {rest : List Value} (hx : p.tables.exec = Jvm.exec) (hb : c.code = cc) (hml : c.maxLocals = ls.size) {own : String} {index : Nat} (hown : s.vm.findClass own = some m.cls) (hlink : (Cond.methodLink own index Lib.Math.min.name).before args s = true) (hstat : (Cond.static Lib.Math.min.name).before args s = true) (hini : (Cond.initialized "java/lang/Math").before args s = true) (hcode : (Cond.code Lib.Math.min.name Lib.Math.min.code 2 (some .int)).before args s = true)
    (hframes : 1 ≤ R.frames) (hlocals : (rest.map fun v => v.category).sum + 13 ≤ R.locals) (hc : cells ≤ R.cells) (hs : slots ≤ R.slots) {x y v : Int32} (hdg : decode cc pc = .ok (.invokestatic index, 3)) (hv : (if y < x then y else x) = v)
    (kk : W p l e R s m args below meth c H locs cells slots Q (F0 m (pc + 3) ls (.int v :: rest))) : W p l e R s m args below meth c H locs cells slots Q (F0 m pc ls (.int y :: .int x :: rest)) := by
  subst hv; exact va_mmin hx hb hml hown hlink hstat hini hcode hframes hlocals hc hs hdg kk
theorem xr_minn {a b : Nat} (ha : a ≤ 2147483647) (hb : b ≤ 2147483647) : (if nI b < nI a then nI b else nI a) = nI (min a b) := by
  split
  · rename_i h
    have h := (nI_ltI (a := b) (b := a) (by omega) (by omega)).mp h
    rw [Nat.min_eq_right (by omega)]
  · rename_i h
    have h : ¬ b < a := fun q => h ((nI_ltI (a := b) (b := a) (by omega) (by omega)).mpr q)
    rw [Nat.min_eq_left (by omega)]
set_option maxHeartbeats 4000000 in
set_option maxRecDepth 100000 in
theorem s_Tokens_size (l : Launch) (dC : Nat → ClassId) (dI : Nat → Nat → Nat) (sz : Nat) (a_t : Nat) (a_kinds : Nat) (a_values : Nat) (n_size : Nat) : Met l y_Tokens_size w_Tokens_size ({ frames := 0, cells := 0, slots := 0, locals := 0 }) (va_Pc [.ref a_t] (fun U => U.heap.size = sz ∧ va_P (dC, dI) vcl [(a_t, .inr (11, [.ref a_kinds, .ref a_values, .int (nI n_size)]))] U.heap ∧ va_K (dC, dI) vcl [] U ∧ va_D (fun _ => True) [(a_t, .inr (11, [.ref a_kinds, .ref a_values, .int (nI n_size)]))])) (va_Qi (fun (r : Int32) (_ : Unit) => r = (nI n_size)) (fun _ t => va_P (dC, dI) vcl [(a_t, .inr (11, [.ref a_kinds, .ref a_values, .int (nI n_size)]))] t.heap ∧ va_K (dC, dI) vcl [] t ∧ va_D (va_A [(a_t, .inr (11, [.ref a_kinds, .ref a_values, .int (nI n_size)]))] sz) [(a_t, .inr (11, [.ref a_kinds, .ref a_values, .int (nI n_size)]))]) (va_A [(a_t, .inr (11, [.ref a_kinds, .ref a_values, .int (nI n_size)]))] sz)) 0 0 (va_A [(a_t, .inr (11, [.ref a_kinds, .ref a_values, .int (nI n_size)]))] sz) := by
  refine Met.ofW (cc := b_Tokens_size) (maxL := 1) (ret := (some .int)) (by decide) rfl ?_
  intro p e s m args below meth c s₁ B hml hv
  obtain ⟨rfl, hsz, hP, hK, hD0⟩ := hv
  have hx := B.exec
  have hb := B.bytes
  have hr := B.returns
  have hts := atoms_spec (ws := w_Tokens_size) B.pre
  have hz : ∀ w ∈ wz, w.before _ s = true := fun w h => hts w (List.mem_cons_of_mem _ h)
  have hown : s.vm.findClass R_Tokens = some m.cls := findClass_of_methodNamed B.named
  have hlocks := B.notSynchronized
  subst hsz
  have hD := hD0.self (sz := s.heap.size)
  generalize hAe : va_A [(a_t, .inr (11, [.ref a_kinds, .ref a_values, .int (nI n_size)]))] s.heap.size = A at hD ⊢
  have hA : ∀ q : Nat, s.heap.size ≤ q → A q := fun q h => by rw [← hAe]; exact Or.inr h
  have hS : va_S A s.heap s.heap [] := va_S.rf
  have hP : va_P (dC, dI) vcl [(a_t, .inr (11, [.ref a_kinds, .ref a_values, .int (nI n_size)]))] s.heap := hP
  have hl := lv_entry ([.ref a_t]) (n := 1) (Nat.le_of_ble_eq_true rfl)
  rw [lg_entry_eq]
  generalize (lg_sl ([.ref a_t]) ++ List.replicate (1 - (lg_sl ([.ref a_t])).length) Slot.unset).toArray = ls at hl ⊢
  have hl : lv_has ls 1 [(0, .ref a_t)] := hl
  refine lv_aload_n hx hb d_Tokens_size_0 rfl (lv_at hl 0 rfl) ?_
  refine va_get (D := (dC, dI)) (ci := 11) (v := .int (nI n_size)) (C := R_Tokens) (T := F_Tokens) (N := 3) hx hb hz zu_Tokens hown hK hP 0 rfl rfl 2 (by decide) (hz (.fieldLink R_Tokens 19 "LayoutFront$Tokens" "size" "I") zm_31) (fun _ h9 => h9) rfl d_Tokens_size_1 ?_
  have hP9 := hP.sub (ws' := [(a_t, .inr (11, [.ref a_kinds, .ref a_values, .int (nI n_size)]))]) [0] rfl
  have hD9 := hD.sub (ws' := [(a_t, .inr (11, [.ref a_kinds, .ref a_values, .int (nI n_size)]))]) [0] (by decide) rfl
  exact W.iret (v := (nI n_size)) hx hb hr (fun t ht hW => ⟨⟨(nI n_size), (), rfl, rfl, by rw [ht]; exact hP9, va_K.moved hW.alike hK, hD9⟩, hS.F ht⟩) hS.2.2 d_Tokens_size_4
set_option maxHeartbeats 4000000 in
set_option maxRecDepth 100000 in
theorem s_Tokens_has (l : Launch) (dC : Nat → ClassId) (dI : Nat → Nat → Nat) (sz : Nat) (a_t : Nat) (a_kinds : Nat) (a_values : Nat) (n_size : Nat) (y0 : Int32) : Met l y_Tokens_has w_Tokens_has ({ frames := 0, cells := 0, slots := 0, locals := 0 }) (va_Pc [.ref a_t, .int y0] (fun U => U.heap.size = sz ∧ va_P (dC, dI) vcl [(a_t, .inr (11, [.ref a_kinds, .ref a_values, .int (nI n_size)]))] U.heap ∧ va_K (dC, dI) vcl [] U ∧ va_D (fun _ => True) [(a_t, .inr (11, [.ref a_kinds, .ref a_values, .int (nI n_size)]))])) (va_Qi (fun (r : Int32) (_ : Unit) => (r = 0 ∨ r = 1) ∧ (¬ r = 0 → 0 ≤ y0 ∧ y0 < (nI n_size))) (fun _ t => va_P (dC, dI) vcl [(a_t, .inr (11, [.ref a_kinds, .ref a_values, .int (nI n_size)]))] t.heap ∧ va_K (dC, dI) vcl [] t ∧ va_D (va_A [(a_t, .inr (11, [.ref a_kinds, .ref a_values, .int (nI n_size)]))] sz) [(a_t, .inr (11, [.ref a_kinds, .ref a_values, .int (nI n_size)]))]) (va_A [(a_t, .inr (11, [.ref a_kinds, .ref a_values, .int (nI n_size)]))] sz)) 0 0 (va_A [(a_t, .inr (11, [.ref a_kinds, .ref a_values, .int (nI n_size)]))] sz) := by
  refine Met.ofW (cc := b_Tokens_has) (maxL := 2) (ret := (some .boolean)) (by decide) rfl ?_
  intro p e s m args below meth c s₁ B hml hv
  obtain ⟨rfl, hsz, hP, hK, hD0⟩ := hv
  have hx := B.exec
  have hb := B.bytes
  have hr := B.returns
  have hts := atoms_spec (ws := w_Tokens_has) B.pre
  have hz : ∀ w ∈ wz, w.before _ s = true := fun w h => hts w (List.mem_cons_of_mem _ h)
  have hown : s.vm.findClass R_Tokens = some m.cls := findClass_of_methodNamed B.named
  have hlocks := B.notSynchronized
  subst hsz
  have hD := hD0.self (sz := s.heap.size)
  generalize hAe : va_A [(a_t, .inr (11, [.ref a_kinds, .ref a_values, .int (nI n_size)]))] s.heap.size = A at hD ⊢
  have hA : ∀ q : Nat, s.heap.size ≤ q → A q := fun q h => by rw [← hAe]; exact Or.inr h
  have hS : va_S A s.heap s.heap [] := va_S.rf
  have hP : va_P (dC, dI) vcl [(a_t, .inr (11, [.ref a_kinds, .ref a_values, .int (nI n_size)]))] s.heap := hP
  have hl := lv_entry ([.ref a_t, .int y0]) (n := 2) (Nat.le_of_ble_eq_true rfl)
  rw [lg_entry_eq]
  generalize (lg_sl ([.ref a_t, .int y0]) ++ List.replicate (2 - (lg_sl ([.ref a_t, .int y0])).length) Slot.unset).toArray = ls at hl ⊢
  have hl : lv_has ls 2 [(0, .ref a_t), (1, .int y0)] := hl
  refine lv_iload_n hx hb d_Tokens_has_0 rfl (lv_at hl 1 rfl) ?_
  refine lv_if_lt (tgt := 16) hx hb d_Tokens_has_1 (by decide) (fun h1 => ?_) (fun h1 => ?_)
  · refine lv_iconst (v := 0) hx hb d_Tokens_has_16 (by decide) ?_
    have hP9 := hP.sub (ws' := [(a_t, .inr (11, [.ref a_kinds, .ref a_values, .int (nI n_size)]))]) [0] rfl
    have hD9 := hD.sub (ws' := [(a_t, .inr (11, [.ref a_kinds, .ref a_values, .int (nI n_size)]))]) [0] (by decide) rfl
    exact W.zret (v := 0) hx hb hr (by decide +kernel) (fun t ht hW => ⟨⟨0, (), rfl, ⟨(by first | assumption | exact Or.inl rfl | exact Or.inr rfl), fun h => absurd rfl h⟩, by rw [ht]; exact hP9, va_K.moved hW.alike hK, hD9⟩, hS.F ht⟩) hS.2.2 d_Tokens_has_17
  · refine lv_iload_n hx hb d_Tokens_has_4 rfl (lv_at hl 1 rfl) ?_
    refine lv_aload_n hx hb d_Tokens_has_5 rfl (lv_at hl 0 rfl) ?_
    refine va_get (D := (dC, dI)) (ci := 11) (v := .int (nI n_size)) (C := R_Tokens) (T := F_Tokens) (N := 3) hx hb hz zu_Tokens hown hK hP 0 rfl rfl 2 (by decide) (hz (.fieldLink R_Tokens 19 "LayoutFront$Tokens" "size" "I") zm_31) (fun _ h9 => h9) rfl d_Tokens_has_6 ?_
    refine lv_icmp_ge (tgt := 16) hx hb d_Tokens_has_9 (by decide) (fun h2 => ?_) (fun h2 => ?_)
    · refine lv_iconst (v := 0) hx hb d_Tokens_has_16 (by decide) ?_
      have hP9 := hP.sub (ws' := [(a_t, .inr (11, [.ref a_kinds, .ref a_values, .int (nI n_size)]))]) [0] rfl
      have hD9 := hD.sub (ws' := [(a_t, .inr (11, [.ref a_kinds, .ref a_values, .int (nI n_size)]))]) [0] (by decide) rfl
      exact W.zret (v := 0) hx hb hr (by decide +kernel) (fun t ht hW => ⟨⟨0, (), rfl, ⟨(by first | assumption | exact Or.inl rfl | exact Or.inr rfl), fun h => absurd rfl h⟩, by rw [ht]; exact hP9, va_K.moved hW.alike hK, hD9⟩, hS.F ht⟩) hS.2.2 d_Tokens_has_17
    · refine lv_iconst (v := 1) hx hb d_Tokens_has_12 (by decide) ?_
      refine lv_goto (tgt := 17) hx hb d_Tokens_has_13 (by decide) ?_
      have hP9 := hP.sub (ws' := [(a_t, .inr (11, [.ref a_kinds, .ref a_values, .int (nI n_size)]))]) [0] rfl
      have hD9 := hD.sub (ws' := [(a_t, .inr (11, [.ref a_kinds, .ref a_values, .int (nI n_size)]))]) [0] (by decide) rfl
      exact W.zret (v := 1) hx hb hr (by decide +kernel) (fun t ht hW => ⟨⟨1, (), rfl, ⟨(by first | assumption | exact Or.inl rfl | exact Or.inr rfl), fun _ => ⟨(xr_ge0 h1), (Int32.not_le.mp h2)⟩⟩, by rw [ht]; exact hP9, va_K.moved hW.alike hK, hD9⟩, hS.F ht⟩) hS.2.2 d_Tokens_has_17
set_option maxHeartbeats 4000000 in
set_option maxRecDepth 100000 in
theorem s_Tokens_valueAt (l : Launch) (dC : Nat → ClassId) (dI : Nat → Nat → Nat) (sz : Nat) (cap : Nat) (a_t : Nat) (a_kinds : Nat) (a_values : Nat) (f_values : Nat → Int64) (n_size : Nat) (y0 : Int32) (ka_values : ClassId) (bcap : cap ≤ 600) (b_size : n_size ≤ cap) : Met l y_Tokens_valueAt w_Tokens_valueAt ({ frames := 1, cells := 0, slots := 0, locals := 21 }) (va_Pc [.ref a_t, .int y0] (fun U => U.heap.size = sz ∧ va_P (dC, dI) vcl [(a_t, .inr (11, [.ref a_kinds, .ref a_values, .int (nI n_size)])), (a_values, .inl (ka_values, cap, .inr (.inl f_values)))] U.heap ∧ va_K (dC, dI) vcl [(ka_values, .long)] U ∧ va_D (fun _ => True) [(a_t, .inr (11, [.ref a_kinds, .ref a_values, .int (nI n_size)])), (a_values, .inl (ka_values, cap, .inr (.inl f_values)))])) (va_Ql (fun (r : Int64) (_ : Unit) => True) (fun _ t => va_P (dC, dI) vcl [(a_t, .inr (11, [.ref a_kinds, .ref a_values, .int (nI n_size)])), (a_values, .inl (ka_values, cap, .inr (.inl f_values)))] t.heap ∧ va_K (dC, dI) vcl [(ka_values, .long)] t ∧ va_D (va_A [(a_t, .inr (11, [.ref a_kinds, .ref a_values, .int (nI n_size)])), (a_values, .inl (ka_values, cap, .inr (.inl f_values)))] sz) [(a_t, .inr (11, [.ref a_kinds, .ref a_values, .int (nI n_size)])), (a_values, .inl (ka_values, cap, .inr (.inl f_values)))]) (va_A [(a_t, .inr (11, [.ref a_kinds, .ref a_values, .int (nI n_size)])), (a_values, .inl (ka_values, cap, .inr (.inl f_values)))] sz)) 0 0 (va_A [(a_t, .inr (11, [.ref a_kinds, .ref a_values, .int (nI n_size)])), (a_values, .inl (ka_values, cap, .inr (.inl f_values)))] sz) := by
  refine Met.ofW (cc := b_Tokens_valueAt) (maxL := 2) (ret := (some .long)) (by decide) rfl ?_
  intro p e s m args below meth c s₁ B hml hv
  obtain ⟨rfl, hsz, hP, hK, hD0⟩ := hv
  have hx := B.exec
  have hb := B.bytes
  have hr := B.returns
  have hts := atoms_spec (ws := w_Tokens_valueAt) B.pre
  have hz : ∀ w ∈ wz, w.before _ s = true := fun w h => hts w (List.mem_cons_of_mem _ h)
  have hown : s.vm.findClass R_Tokens = some m.cls := findClass_of_methodNamed B.named
  have hlocks := B.notSynchronized
  subst hsz
  have hD := hD0.self (sz := s.heap.size)
  generalize hAe : va_A [(a_t, .inr (11, [.ref a_kinds, .ref a_values, .int (nI n_size)])), (a_values, .inl (ka_values, cap, .inr (.inl f_values)))] s.heap.size = A at hD ⊢
  have hA : ∀ q : Nat, s.heap.size ≤ q → A q := fun q h => by rw [← hAe]; exact Or.inr h
  have hS : va_S A s.heap s.heap [] := va_S.rf
  have hP : va_P (dC, dI) vcl [(a_t, .inr (11, [.ref a_kinds, .ref a_values, .int (nI n_size)])), (a_values, .inl (ka_values, cap, .inr (.inl f_values)))] s.heap := hP
  have hl := lv_entry ([.ref a_t, .int y0]) (n := 2) (Nat.le_of_ble_eq_true rfl)
  rw [lg_entry_eq]
  generalize (lg_sl ([.ref a_t, .int y0]) ++ List.replicate (2 - (lg_sl ([.ref a_t, .int y0])).length) Slot.unset).toArray = ls at hl ⊢
  have hl : lv_has ls 2 [(0, .ref a_t), (1, .int y0)] := hl
  refine lv_aload_n hx hb d_Tokens_valueAt_0 rfl (lv_at hl 0 rfl) ?_
  refine lv_iload_n hx hb d_Tokens_valueAt_1 rfl (lv_at hl 1 rfl) ?_
  have hPc := hP.sub (ws' := [(a_t, .inr (11, [.ref a_kinds, .ref a_values, .int (nI n_size)]))]) [0] rfl
  have hDc := hD.sub (ws' := [(a_t, .inr (11, [.ref a_kinds, .ref a_values, .int (nI n_size)]))]) [0] (by decide) rfl
  have hKc := hK.sub (tys' := []) [] rfl
  have hFc := va_free (wc := [(a_t, .inr (11, [.ref a_kinds, .ref a_values, .int (nI n_size)]))]) hD hS hA [0] rfl
  refine va_calli (va_runV (As := [.int y0]) (rest := []) ⟨hx, hb, hml, hown, hz⟩ (s_Tokens_has l dC dI s.heap.size a_t a_kinds a_values n_size y0) (cwV 1 hz (zV zm_37 zm_38 zm_39 zm_35 zm_40) rfl rfl rfl (by decide +kernel) ⟨Nat.le_of_ble_eq_true rfl, Nat.le_of_ble_eq_true rfl⟩) ⟨fun a U g mk q => by obtain ⟨q0, q1, qP, qK, qD⟩ := q; exact ⟨q0, q1, qP, va_K.moved (u := U) (U := U.calling g mk a) (Vm.Alike.refl U.vm) qK, qD⟩, va_recv (q := (R_Tokens, F_Tokens, 3)) (q0 := 0) (ci := 11) hK hP rfl rfl, fun U hU hW => ⟨rfl, by rw [hU], by rw [hU]; exact hPc, va_K.moved hW.alike hKc, hDc.weaken (fun _ _ _ _ => trivial)⟩⟩ rfl rfl hl.1 rfl (lv_room (Nat.le_of_ble_eq_true rfl)) d_Tokens_valueAt_2 ⟨Nat.zero_le _, Nat.zero_le _⟩) hS (fun q _ h => hFc q h) hFc (fun x1 u t H1 locs ht hvm hw_x1 hB hz1 hk1 hS => ?_)
  obtain ⟨hP1, hK1, hD1⟩ := hB
  have hb_x1 := hw_x1.1
  rw [ht] at hP1
  obtain ⟨hP, hD⟩ := va_join (wr := [(a_values, .inl (ka_values, cap, .inr (.inl f_values)))]) (w1 := [(a_t, .inr (11, [.ref a_kinds, .ref a_values, .int (nI n_size)]))]) hP hD [0] [1] rfl rfl (by decide) (by decide) hk1 hFc hP1 hD1
  generalize H1 = H at hP hS ⊢
  have hP : va_P (dC, dI) vcl [(a_values, .inl (ka_values, cap, .inr (.inl f_values))), (a_t, .inr (11, [.ref a_kinds, .ref a_values, .int (nI n_size)]))] H := hP
  have hD : va_D A [(a_values, .inl (ka_values, cap, .inr (.inl f_values))), (a_t, .inr (11, [.ref a_kinds, .ref a_values, .int (nI n_size)]))] := hD
  refine lv_if_eq (tgt := 17) hx hb d_Tokens_valueAt_5 (by decide) (fun h2 => ?_) (fun h2 => ?_)
  · refine lv_lconst (v := 0) hx hb d_Tokens_valueAt_17 (by decide) ?_
    have hP9 := hP.sub (ws' := [(a_t, .inr (11, [.ref a_kinds, .ref a_values, .int (nI n_size)])), (a_values, .inl (ka_values, cap, .inr (.inl f_values)))]) [1, 0] rfl
    have hD9 := hD.sub (ws' := [(a_t, .inr (11, [.ref a_kinds, .ref a_values, .int (nI n_size)])), (a_values, .inl (ka_values, cap, .inr (.inl f_values)))]) [1, 0] (by decide) rfl
    exact W.lret (v := 0) hx hb hr (fun t ht hW => ⟨⟨0, (), rfl, trivial, by rw [ht]; exact hP9, va_K.moved hW.alike hK, hD9⟩, hS.F ht⟩) hS.2.2 d_Tokens_valueAt_18
  · refine lv_aload_n hx hb d_Tokens_valueAt_8 rfl (lv_at hl 0 rfl) ?_
    refine va_get (D := (dC, dI)) (ci := 11) (v := .ref a_values) (C := R_Tokens) (T := F_Tokens) (N := 3) hx hb hz zu_Tokens hown hK hP 1 rfl rfl 1 (by decide) (hz (.fieldLink R_Tokens 15 "LayoutFront$Tokens" "values" "[J") zm_29) (fun _ h9 => h9) rfl d_Tokens_valueAt_9 ?_
    refine lv_iload_n hx hb d_Tokens_valueAt_12 rfl (lv_at hl 1 rfl) ?_
    refine va_lald hx hb hK hP 0 0 rfl rfl (xr_inr (hw_x1.2 h2).1 (hw_x1.2 h2).2 (by omega) (by omega)) d_Tokens_valueAt_13 ?_
    refine lv_topl (fun x3 e_x3 => ?_)
    refine lv_goto (tgt := 18) hx hb d_Tokens_valueAt_14 (by decide) ?_
    have hP9 := hP.sub (ws' := [(a_t, .inr (11, [.ref a_kinds, .ref a_values, .int (nI n_size)])), (a_values, .inl (ka_values, cap, .inr (.inl f_values)))]) [1, 0] rfl
    have hD9 := hD.sub (ws' := [(a_t, .inr (11, [.ref a_kinds, .ref a_values, .int (nI n_size)])), (a_values, .inl (ka_values, cap, .inr (.inl f_values)))]) [1, 0] (by decide) rfl
    exact W.lret (v := x3) hx hb hr (fun t ht hW => ⟨⟨x3, (), rfl, trivial, by rw [ht]; exact hP9, va_K.moved hW.alike hK, hD9⟩, hS.F ht⟩) hS.2.2 d_Tokens_valueAt_18
set_option maxHeartbeats 4000000 in
set_option maxRecDepth 100000 in
theorem s_Open_size (l : Launch) (dC : Nat → ClassId) (dI : Nat → Nat → Nat) (sz : Nat) (a_t : Nat) (a_things : Nat) (n_size : Nat) (z_most : Int32) (b_size : n_size ≤ 181) : Met l y_Open_size w_Open_size ({ frames := 0, cells := 0, slots := 0, locals := 0 }) (va_Pc [.ref a_t] (fun U => U.heap.size = sz ∧ va_P (dC, dI) vcl [(a_t, .inr (6, [.ref a_things, .int (nI n_size), .int z_most]))] U.heap ∧ va_K (dC, dI) vcl [] U ∧ va_D (fun _ => True) [(a_t, .inr (6, [.ref a_things, .int (nI n_size), .int z_most]))])) (va_Qi (fun (r : Int32) (_ : Unit) => r = (nI n_size)) (fun _ t => va_P (dC, dI) vcl [(a_t, .inr (6, [.ref a_things, .int (nI n_size), .int z_most]))] t.heap ∧ va_K (dC, dI) vcl [] t ∧ va_D (va_A [(a_t, .inr (6, [.ref a_things, .int (nI n_size), .int z_most]))] sz) [(a_t, .inr (6, [.ref a_things, .int (nI n_size), .int z_most]))]) (va_A [(a_t, .inr (6, [.ref a_things, .int (nI n_size), .int z_most]))] sz)) 0 0 (va_A [(a_t, .inr (6, [.ref a_things, .int (nI n_size), .int z_most]))] sz) := by
  refine Met.ofW (cc := b_Open_size) (maxL := 1) (ret := (some .int)) (by decide) rfl ?_
  intro p e s m args below meth c s₁ B hml hv
  obtain ⟨rfl, hsz, hP, hK, hD0⟩ := hv
  have hx := B.exec
  have hb := B.bytes
  have hr := B.returns
  have hts := atoms_spec (ws := w_Open_size) B.pre
  have hz : ∀ w ∈ wz, w.before _ s = true := fun w h => hts w (List.mem_cons_of_mem _ h)
  have hown : s.vm.findClass R_Open = some m.cls := findClass_of_methodNamed B.named
  have hlocks := B.notSynchronized
  subst hsz
  have hD := hD0.self (sz := s.heap.size)
  generalize hAe : va_A [(a_t, .inr (6, [.ref a_things, .int (nI n_size), .int z_most]))] s.heap.size = A at hD ⊢
  have hA : ∀ q : Nat, s.heap.size ≤ q → A q := fun q h => by rw [← hAe]; exact Or.inr h
  have hS : va_S A s.heap s.heap [] := va_S.rf
  have hP : va_P (dC, dI) vcl [(a_t, .inr (6, [.ref a_things, .int (nI n_size), .int z_most]))] s.heap := hP
  have hl := lv_entry ([.ref a_t]) (n := 1) (Nat.le_of_ble_eq_true rfl)
  rw [lg_entry_eq]
  generalize (lg_sl ([.ref a_t]) ++ List.replicate (1 - (lg_sl ([.ref a_t])).length) Slot.unset).toArray = ls at hl ⊢
  have hl : lv_has ls 1 [(0, .ref a_t)] := hl
  refine lv_aload_n hx hb d_Open_size_0 rfl (lv_at hl 0 rfl) ?_
  refine va_get (D := (dC, dI)) (ci := 6) (v := .int (nI n_size)) (C := R_Open) (T := F_Open) (N := 3) hx hb hz zu_Open hown hK hP 0 rfl rfl 1 (by decide) (hz (.fieldLink R_Open 15 "LayoutFront$Open" "size" "I") zm_171) (fun _ h9 => h9) rfl d_Open_size_1 ?_
  have hP9 := hP.sub (ws' := [(a_t, .inr (6, [.ref a_things, .int (nI n_size), .int z_most]))]) [0] rfl
  have hD9 := hD.sub (ws' := [(a_t, .inr (6, [.ref a_things, .int (nI n_size), .int z_most]))]) [0] (by decide) rfl
  exact W.iret (v := (nI n_size)) hx hb hr (fun t ht hW => ⟨⟨(nI n_size), (), rfl, rfl, by rw [ht]; exact hP9, va_K.moved hW.alike hK, hD9⟩, hS.F ht⟩) hS.2.2 d_Open_size_4
set_option maxHeartbeats 4000000 in
set_option maxRecDepth 100000 in
theorem s_Open_most (l : Launch) (dC : Nat → ClassId) (dI : Nat → Nat → Nat) (sz : Nat) (a_t : Nat) (a_things : Nat) (n_size : Nat) (z_most : Int32) (b_size : n_size ≤ 181) : Met l y_Open_most w_Open_most ({ frames := 0, cells := 0, slots := 0, locals := 0 }) (va_Pc [.ref a_t] (fun U => U.heap.size = sz ∧ va_P (dC, dI) vcl [(a_t, .inr (6, [.ref a_things, .int (nI n_size), .int z_most]))] U.heap ∧ va_K (dC, dI) vcl [] U ∧ va_D (fun _ => True) [(a_t, .inr (6, [.ref a_things, .int (nI n_size), .int z_most]))])) (va_Qi (fun (r : Int32) (_ : Unit) => True) (fun _ t => va_P (dC, dI) vcl [(a_t, .inr (6, [.ref a_things, .int (nI n_size), .int z_most]))] t.heap ∧ va_K (dC, dI) vcl [] t ∧ va_D (va_A [(a_t, .inr (6, [.ref a_things, .int (nI n_size), .int z_most]))] sz) [(a_t, .inr (6, [.ref a_things, .int (nI n_size), .int z_most]))]) (va_A [(a_t, .inr (6, [.ref a_things, .int (nI n_size), .int z_most]))] sz)) 0 0 (va_A [(a_t, .inr (6, [.ref a_things, .int (nI n_size), .int z_most]))] sz) := by
  refine Met.ofW (cc := b_Open_most) (maxL := 1) (ret := (some .int)) (by decide) rfl ?_
  intro p e s m args below meth c s₁ B hml hv
  obtain ⟨rfl, hsz, hP, hK, hD0⟩ := hv
  have hx := B.exec
  have hb := B.bytes
  have hr := B.returns
  have hts := atoms_spec (ws := w_Open_most) B.pre
  have hz : ∀ w ∈ wz, w.before _ s = true := fun w h => hts w (List.mem_cons_of_mem _ h)
  have hown : s.vm.findClass R_Open = some m.cls := findClass_of_methodNamed B.named
  have hlocks := B.notSynchronized
  subst hsz
  have hD := hD0.self (sz := s.heap.size)
  generalize hAe : va_A [(a_t, .inr (6, [.ref a_things, .int (nI n_size), .int z_most]))] s.heap.size = A at hD ⊢
  have hA : ∀ q : Nat, s.heap.size ≤ q → A q := fun q h => by rw [← hAe]; exact Or.inr h
  have hS : va_S A s.heap s.heap [] := va_S.rf
  have hP : va_P (dC, dI) vcl [(a_t, .inr (6, [.ref a_things, .int (nI n_size), .int z_most]))] s.heap := hP
  have hl := lv_entry ([.ref a_t]) (n := 1) (Nat.le_of_ble_eq_true rfl)
  rw [lg_entry_eq]
  generalize (lg_sl ([.ref a_t]) ++ List.replicate (1 - (lg_sl ([.ref a_t])).length) Slot.unset).toArray = ls at hl ⊢
  have hl : lv_has ls 1 [(0, .ref a_t)] := hl
  refine lv_aload_n hx hb d_Open_most_0 rfl (lv_at hl 0 rfl) ?_
  refine va_get (D := (dC, dI)) (ci := 6) (v := .int z_most) (C := R_Open) (T := F_Open) (N := 3) hx hb hz zu_Open hown hK hP 0 rfl rfl 2 (by decide) (hz (.fieldLink R_Open 19 "LayoutFront$Open" "most" "I") zm_172) (fun _ h9 => h9) rfl d_Open_most_1 ?_
  have hP9 := hP.sub (ws' := [(a_t, .inr (6, [.ref a_things, .int (nI n_size), .int z_most]))]) [0] rfl
  have hD9 := hD.sub (ws' := [(a_t, .inr (6, [.ref a_things, .int (nI n_size), .int z_most]))]) [0] (by decide) rfl
  exact W.iret (v := z_most) hx hb hr (fun t ht hW => ⟨⟨z_most, (), rfl, trivial, by rw [ht]; exact hP9, va_K.moved hW.alike hK, hD9⟩, hS.F ht⟩) hS.2.2 d_Open_most_4
set_option maxHeartbeats 4000000 in
set_option maxRecDepth 100000 in
theorem s_Row_size (l : Launch) (dC : Nat → ClassId) (dI : Nat → Nat → Nat) (sz : Nat) (a_t : Nat) (a_parts : Nat) (a_firsts : Nat) (a_lasts : Nat) (n_size : Nat) (z_operates : Int32) (z_lacksOperand : Int32) (b_size : n_size ≤ 90) : Met l y_Row_size w_Row_size ({ frames := 0, cells := 0, slots := 0, locals := 0 }) (va_Pc [.ref a_t] (fun U => U.heap.size = sz ∧ va_P (dC, dI) vcl [(a_t, .inr (8, [.ref a_parts, .ref a_firsts, .ref a_lasts, .int (nI n_size), .int z_operates, .int z_lacksOperand]))] U.heap ∧ va_K (dC, dI) vcl [] U ∧ va_D (fun _ => True) [(a_t, .inr (8, [.ref a_parts, .ref a_firsts, .ref a_lasts, .int (nI n_size), .int z_operates, .int z_lacksOperand]))])) (va_Qi (fun (r : Int32) (_ : Unit) => r = (nI n_size)) (fun _ t => va_P (dC, dI) vcl [(a_t, .inr (8, [.ref a_parts, .ref a_firsts, .ref a_lasts, .int (nI n_size), .int z_operates, .int z_lacksOperand]))] t.heap ∧ va_K (dC, dI) vcl [] t ∧ va_D (va_A [(a_t, .inr (8, [.ref a_parts, .ref a_firsts, .ref a_lasts, .int (nI n_size), .int z_operates, .int z_lacksOperand]))] sz) [(a_t, .inr (8, [.ref a_parts, .ref a_firsts, .ref a_lasts, .int (nI n_size), .int z_operates, .int z_lacksOperand]))]) (va_A [(a_t, .inr (8, [.ref a_parts, .ref a_firsts, .ref a_lasts, .int (nI n_size), .int z_operates, .int z_lacksOperand]))] sz)) 0 0 (va_A [(a_t, .inr (8, [.ref a_parts, .ref a_firsts, .ref a_lasts, .int (nI n_size), .int z_operates, .int z_lacksOperand]))] sz) := by
  refine Met.ofW (cc := b_Row_size) (maxL := 1) (ret := (some .int)) (by decide) rfl ?_
  intro p e s m args below meth c s₁ B hml hv
  obtain ⟨rfl, hsz, hP, hK, hD0⟩ := hv
  have hx := B.exec
  have hb := B.bytes
  have hr := B.returns
  have hts := atoms_spec (ws := w_Row_size) B.pre
  have hz : ∀ w ∈ wz, w.before _ s = true := fun w h => hts w (List.mem_cons_of_mem _ h)
  have hown : s.vm.findClass R_Row = some m.cls := findClass_of_methodNamed B.named
  have hlocks := B.notSynchronized
  subst hsz
  have hD := hD0.self (sz := s.heap.size)
  generalize hAe : va_A [(a_t, .inr (8, [.ref a_parts, .ref a_firsts, .ref a_lasts, .int (nI n_size), .int z_operates, .int z_lacksOperand]))] s.heap.size = A at hD ⊢
  have hA : ∀ q : Nat, s.heap.size ≤ q → A q := fun q h => by rw [← hAe]; exact Or.inr h
  have hS : va_S A s.heap s.heap [] := va_S.rf
  have hP : va_P (dC, dI) vcl [(a_t, .inr (8, [.ref a_parts, .ref a_firsts, .ref a_lasts, .int (nI n_size), .int z_operates, .int z_lacksOperand]))] s.heap := hP
  have hl := lv_entry ([.ref a_t]) (n := 1) (Nat.le_of_ble_eq_true rfl)
  rw [lg_entry_eq]
  generalize (lg_sl ([.ref a_t]) ++ List.replicate (1 - (lg_sl ([.ref a_t])).length) Slot.unset).toArray = ls at hl ⊢
  have hl : lv_has ls 1 [(0, .ref a_t)] := hl
  refine lv_aload_n hx hb d_Row_size_0 rfl (lv_at hl 0 rfl) ?_
  refine va_get (D := (dC, dI)) (ci := 8) (v := .int (nI n_size)) (C := R_Row) (T := F_Row) (N := 6) hx hb hz zu_Row hown hK hP 0 rfl rfl 3 (by decide) (hz (.fieldLink R_Row 21 "LayoutFront$Row" "size" "I") zm_312) (fun _ h9 => h9) rfl d_Row_size_1 ?_
  have hP9 := hP.sub (ws' := [(a_t, .inr (8, [.ref a_parts, .ref a_firsts, .ref a_lasts, .int (nI n_size), .int z_operates, .int z_lacksOperand]))]) [0] rfl
  have hD9 := hD.sub (ws' := [(a_t, .inr (8, [.ref a_parts, .ref a_firsts, .ref a_lasts, .int (nI n_size), .int z_operates, .int z_lacksOperand]))]) [0] (by decide) rfl
  exact W.iret (v := (nI n_size)) hx hb hr (fun t ht hW => ⟨⟨(nI n_size), (), rfl, rfl, by rw [ht]; exact hP9, va_K.moved hW.alike hK, hD9⟩, hS.F ht⟩) hS.2.2 d_Row_size_4
set_option maxHeartbeats 4000000 in
set_option maxRecDepth 100000 in
theorem s_Text_length (l : Launch) (dC : Nat → ClassId) (dI : Nat → Nat → Nat) (sz : Nat) (a_t : Nat) (a_characters : Nat) (n_length : Nat) (b_length : n_length ≤ 240) : Met l y_Text_length w_Text_length ({ frames := 0, cells := 0, slots := 0, locals := 0 }) (va_Pc [.ref a_t] (fun U => U.heap.size = sz ∧ va_P (dC, dI) vcl [(a_t, .inr (10, [.ref a_characters, .int (nI n_length)]))] U.heap ∧ va_K (dC, dI) vcl [] U ∧ va_D (fun _ => True) [(a_t, .inr (10, [.ref a_characters, .int (nI n_length)]))])) (va_Qi (fun (r : Int32) (_ : Unit) => r = (nI n_length)) (fun _ t => va_P (dC, dI) vcl [(a_t, .inr (10, [.ref a_characters, .int (nI n_length)]))] t.heap ∧ va_K (dC, dI) vcl [] t ∧ va_D (va_A [(a_t, .inr (10, [.ref a_characters, .int (nI n_length)]))] sz) [(a_t, .inr (10, [.ref a_characters, .int (nI n_length)]))]) (va_A [(a_t, .inr (10, [.ref a_characters, .int (nI n_length)]))] sz)) 0 0 (va_A [(a_t, .inr (10, [.ref a_characters, .int (nI n_length)]))] sz) := by
  refine Met.ofW (cc := b_Text_length) (maxL := 1) (ret := (some .int)) (by decide) rfl ?_
  intro p e s m args below meth c s₁ B hml hv
  obtain ⟨rfl, hsz, hP, hK, hD0⟩ := hv
  have hx := B.exec
  have hb := B.bytes
  have hr := B.returns
  have hts := atoms_spec (ws := w_Text_length) B.pre
  have hz : ∀ w ∈ wz, w.before _ s = true := fun w h => hts w (List.mem_cons_of_mem _ h)
  have hown : s.vm.findClass R_Text = some m.cls := findClass_of_methodNamed B.named
  have hlocks := B.notSynchronized
  subst hsz
  have hD := hD0.self (sz := s.heap.size)
  generalize hAe : va_A [(a_t, .inr (10, [.ref a_characters, .int (nI n_length)]))] s.heap.size = A at hD ⊢
  have hA : ∀ q : Nat, s.heap.size ≤ q → A q := fun q h => by rw [← hAe]; exact Or.inr h
  have hS : va_S A s.heap s.heap [] := va_S.rf
  have hP : va_P (dC, dI) vcl [(a_t, .inr (10, [.ref a_characters, .int (nI n_length)]))] s.heap := hP
  have hl := lv_entry ([.ref a_t]) (n := 1) (Nat.le_of_ble_eq_true rfl)
  rw [lg_entry_eq]
  generalize (lg_sl ([.ref a_t]) ++ List.replicate (1 - (lg_sl ([.ref a_t])).length) Slot.unset).toArray = ls at hl ⊢
  have hl : lv_has ls 1 [(0, .ref a_t)] := hl
  refine lv_aload_n hx hb d_Text_length_0 rfl (lv_at hl 0 rfl) ?_
  refine va_get (D := (dC, dI)) (ci := 10) (v := .int (nI n_length)) (C := R_Text) (T := F_Text) (N := 2) hx hb hz zu_Text hown hK hP 0 rfl rfl 1 (by decide) (hz (.fieldLink R_Text 19 "LayoutFront$Text" "length" "I") zm_9) (fun _ h9 => h9) rfl d_Text_length_1 ?_
  have hP9 := hP.sub (ws' := [(a_t, .inr (10, [.ref a_characters, .int (nI n_length)]))]) [0] rfl
  have hD9 := hD.sub (ws' := [(a_t, .inr (10, [.ref a_characters, .int (nI n_length)]))]) [0] (by decide) rfl
  exact W.iret (v := (nI n_length)) hx hb hr (fun t ht hW => ⟨⟨(nI n_length), (), rfl, rfl, by rw [ht]; exact hP9, va_K.moved hW.alike hK, hD9⟩, hS.F ht⟩) hS.2.2 d_Text_length_4
set_option maxHeartbeats 4000000 in
set_option maxRecDepth 100000 in
theorem s_Fixities_size (l : Launch) (dC : Nat → ClassId) (dI : Nat → Nat → Nat) (sz : Nat) (a_t : Nat) (a_names : Nat) (a_sides : Nat) (a_levels : Nat) (n_size : Nat) (b_size : n_size ≤ 12) : Met l y_Fixities_size w_Fixities_size ({ frames := 0, cells := 0, slots := 0, locals := 0 }) (va_Pc [.ref a_t] (fun U => U.heap.size = sz ∧ va_P (dC, dI) vcl [(a_t, .inr (4, [.ref a_names, .ref a_sides, .ref a_levels, .int (nI n_size)]))] U.heap ∧ va_K (dC, dI) vcl [] U ∧ va_D (fun _ => True) [(a_t, .inr (4, [.ref a_names, .ref a_sides, .ref a_levels, .int (nI n_size)]))])) (va_Qi (fun (r : Int32) (_ : Unit) => r = (nI n_size)) (fun _ t => va_P (dC, dI) vcl [(a_t, .inr (4, [.ref a_names, .ref a_sides, .ref a_levels, .int (nI n_size)]))] t.heap ∧ va_K (dC, dI) vcl [] t ∧ va_D (va_A [(a_t, .inr (4, [.ref a_names, .ref a_sides, .ref a_levels, .int (nI n_size)]))] sz) [(a_t, .inr (4, [.ref a_names, .ref a_sides, .ref a_levels, .int (nI n_size)]))]) (va_A [(a_t, .inr (4, [.ref a_names, .ref a_sides, .ref a_levels, .int (nI n_size)]))] sz)) 0 0 (va_A [(a_t, .inr (4, [.ref a_names, .ref a_sides, .ref a_levels, .int (nI n_size)]))] sz) := by
  refine Met.ofW (cc := b_Fixities_size) (maxL := 1) (ret := (some .int)) (by decide) rfl ?_
  intro p e s m args below meth c s₁ B hml hv
  obtain ⟨rfl, hsz, hP, hK, hD0⟩ := hv
  have hx := B.exec
  have hb := B.bytes
  have hr := B.returns
  have hts := atoms_spec (ws := w_Fixities_size) B.pre
  have hz : ∀ w ∈ wz, w.before _ s = true := fun w h => hts w (List.mem_cons_of_mem _ h)
  have hown : s.vm.findClass R_Fixities = some m.cls := findClass_of_methodNamed B.named
  have hlocks := B.notSynchronized
  subst hsz
  have hD := hD0.self (sz := s.heap.size)
  generalize hAe : va_A [(a_t, .inr (4, [.ref a_names, .ref a_sides, .ref a_levels, .int (nI n_size)]))] s.heap.size = A at hD ⊢
  have hA : ∀ q : Nat, s.heap.size ≤ q → A q := fun q h => by rw [← hAe]; exact Or.inr h
  have hS : va_S A s.heap s.heap [] := va_S.rf
  have hP : va_P (dC, dI) vcl [(a_t, .inr (4, [.ref a_names, .ref a_sides, .ref a_levels, .int (nI n_size)]))] s.heap := hP
  have hl := lv_entry ([.ref a_t]) (n := 1) (Nat.le_of_ble_eq_true rfl)
  rw [lg_entry_eq]
  generalize (lg_sl ([.ref a_t]) ++ List.replicate (1 - (lg_sl ([.ref a_t])).length) Slot.unset).toArray = ls at hl ⊢
  have hl : lv_has ls 1 [(0, .ref a_t)] := hl
  refine lv_aload_n hx hb d_Fixities_size_0 rfl (lv_at hl 0 rfl) ?_
  refine va_get (D := (dC, dI)) (ci := 4) (v := .int (nI n_size)) (C := R_Fixities) (T := F_Fixities) (N := 4) hx hb hz zu_Fixities hown hK hP 0 rfl rfl 3 (by decide) (hz (.fieldLink R_Fixities 22 "LayoutFront$Fixities" "size" "I") zm_21) (fun _ h9 => h9) rfl d_Fixities_size_1 ?_
  have hP9 := hP.sub (ws' := [(a_t, .inr (4, [.ref a_names, .ref a_sides, .ref a_levels, .int (nI n_size)]))]) [0] rfl
  have hD9 := hD.sub (ws' := [(a_t, .inr (4, [.ref a_names, .ref a_sides, .ref a_levels, .int (nI n_size)]))]) [0] (by decide) rfl
  exact W.iret (v := (nI n_size)) hx hb hr (fun t ht hW => ⟨⟨(nI n_size), (), rfl, rfl, by rw [ht]; exact hP9, va_K.moved hW.alike hK, hD9⟩, hS.F ht⟩) hS.2.2 d_Fixities_size_4
set_option maxHeartbeats 4000000 in
set_option maxRecDepth 100000 in
theorem s_Lexemes_size (l : Launch) (dC : Nat → ClassId) (dI : Nat → Nat → Nat) (sz : Nat) (a_t : Nat) (a_tokens : Nat) (a_tokens_kinds : Nat) (a_tokens_values : Nat) (n_tokens_size : Nat) (a_places : Nat) (a_columns : Nat) (a_lineFirsts : Nat) (b_tokens_size : n_tokens_size ≤ 90) : Met l y_Lexemes_size w_Lexemes_size ({ frames := 1, cells := 0, slots := 0, locals := 20 }) (va_Pc [.ref a_t] (fun U => U.heap.size = sz ∧ va_P (dC, dI) vcl [(a_t, .inr (5, [.ref a_tokens, .ref a_places, .ref a_columns, .ref a_lineFirsts])), (a_tokens, .inr (11, [.ref a_tokens_kinds, .ref a_tokens_values, .int (nI n_tokens_size)]))] U.heap ∧ va_K (dC, dI) vcl [] U ∧ va_D (fun _ => True) [(a_t, .inr (5, [.ref a_tokens, .ref a_places, .ref a_columns, .ref a_lineFirsts])), (a_tokens, .inr (11, [.ref a_tokens_kinds, .ref a_tokens_values, .int (nI n_tokens_size)]))])) (va_Qi (fun (r : Int32) (_ : Unit) => r = (nI n_tokens_size)) (fun _ t => va_P (dC, dI) vcl [(a_t, .inr (5, [.ref a_tokens, .ref a_places, .ref a_columns, .ref a_lineFirsts])), (a_tokens, .inr (11, [.ref a_tokens_kinds, .ref a_tokens_values, .int (nI n_tokens_size)]))] t.heap ∧ va_K (dC, dI) vcl [] t ∧ va_D (va_A [(a_t, .inr (5, [.ref a_tokens, .ref a_places, .ref a_columns, .ref a_lineFirsts])), (a_tokens, .inr (11, [.ref a_tokens_kinds, .ref a_tokens_values, .int (nI n_tokens_size)]))] sz) [(a_t, .inr (5, [.ref a_tokens, .ref a_places, .ref a_columns, .ref a_lineFirsts])), (a_tokens, .inr (11, [.ref a_tokens_kinds, .ref a_tokens_values, .int (nI n_tokens_size)]))]) (va_A [(a_t, .inr (5, [.ref a_tokens, .ref a_places, .ref a_columns, .ref a_lineFirsts])), (a_tokens, .inr (11, [.ref a_tokens_kinds, .ref a_tokens_values, .int (nI n_tokens_size)]))] sz)) 0 0 (va_A [(a_t, .inr (5, [.ref a_tokens, .ref a_places, .ref a_columns, .ref a_lineFirsts])), (a_tokens, .inr (11, [.ref a_tokens_kinds, .ref a_tokens_values, .int (nI n_tokens_size)]))] sz) := by
  refine Met.ofW (cc := b_Lexemes_size) (maxL := 1) (ret := (some .int)) (by decide) rfl ?_
  intro p e s m args below meth c s₁ B hml hv
  obtain ⟨rfl, hsz, hP, hK, hD0⟩ := hv
  have hx := B.exec
  have hb := B.bytes
  have hr := B.returns
  have hts := atoms_spec (ws := w_Lexemes_size) B.pre
  have hz : ∀ w ∈ wz, w.before _ s = true := fun w h => hts w (List.mem_cons_of_mem _ h)
  have hown : s.vm.findClass R_Lexemes = some m.cls := findClass_of_methodNamed B.named
  have hlocks := B.notSynchronized
  subst hsz
  have hD := hD0.self (sz := s.heap.size)
  generalize hAe : va_A [(a_t, .inr (5, [.ref a_tokens, .ref a_places, .ref a_columns, .ref a_lineFirsts])), (a_tokens, .inr (11, [.ref a_tokens_kinds, .ref a_tokens_values, .int (nI n_tokens_size)]))] s.heap.size = A at hD ⊢
  have hA : ∀ q : Nat, s.heap.size ≤ q → A q := fun q h => by rw [← hAe]; exact Or.inr h
  have hS : va_S A s.heap s.heap [] := va_S.rf
  have hP : va_P (dC, dI) vcl [(a_t, .inr (5, [.ref a_tokens, .ref a_places, .ref a_columns, .ref a_lineFirsts])), (a_tokens, .inr (11, [.ref a_tokens_kinds, .ref a_tokens_values, .int (nI n_tokens_size)]))] s.heap := hP
  have hl := lv_entry ([.ref a_t]) (n := 1) (Nat.le_of_ble_eq_true rfl)
  rw [lg_entry_eq]
  generalize (lg_sl ([.ref a_t]) ++ List.replicate (1 - (lg_sl ([.ref a_t])).length) Slot.unset).toArray = ls at hl ⊢
  have hl : lv_has ls 1 [(0, .ref a_t)] := hl
  refine lv_aload_n hx hb d_Lexemes_size_0 rfl (lv_at hl 0 rfl) ?_
  refine va_get (D := (dC, dI)) (ci := 5) (v := .ref a_tokens) (C := R_Lexemes) (T := F_Lexemes) (N := 4) hx hb hz zu_Lexemes hown hK hP 0 rfl rfl 0 (by decide) (hz (.fieldLink R_Lexemes 14 "LayoutFront$Lexemes" "tokens" "LLayoutFront$Tokens;") zm_53) (fun _ h9 => h9) rfl d_Lexemes_size_1 ?_
  have hPc := hP.sub (ws' := [(a_tokens, .inr (11, [.ref a_tokens_kinds, .ref a_tokens_values, .int (nI n_tokens_size)]))]) [1] rfl
  have hDc := hD.sub (ws' := [(a_tokens, .inr (11, [.ref a_tokens_kinds, .ref a_tokens_values, .int (nI n_tokens_size)]))]) [1] (by decide) rfl
  have hKc := hK.sub (tys' := []) [] rfl
  have hFc := va_free (wc := [(a_tokens, .inr (11, [.ref a_tokens_kinds, .ref a_tokens_values, .int (nI n_tokens_size)]))]) hD hS hA [1] rfl
  refine va_calli (va_runV (As := []) (rest := []) ⟨hx, hb, hml, hown, hz⟩ (s_Tokens_size l dC dI s.heap.size a_tokens a_tokens_kinds a_tokens_values n_tokens_size) (cwV 0 hz (zV zm_63 zm_64 zm_65 zm_35 zm_66) rfl rfl rfl (by decide +kernel) ⟨Nat.le_of_ble_eq_true rfl, Nat.le_of_ble_eq_true rfl⟩) ⟨fun a U g mk q => by obtain ⟨q0, q1, qP, qK, qD⟩ := q; exact ⟨q0, q1, qP, va_K.moved (u := U) (U := U.calling g mk a) (Vm.Alike.refl U.vm) qK, qD⟩, va_recv (q := (R_Tokens, F_Tokens, 3)) (q0 := 1) (ci := 11) hK hP rfl rfl, fun U hU hW => ⟨rfl, by rw [hU], by rw [hU]; exact hPc, va_K.moved hW.alike hKc, hDc.weaken (fun _ _ _ _ => trivial)⟩⟩ rfl rfl hl.1 rfl (lv_room (Nat.le_of_ble_eq_true rfl)) d_Lexemes_size_4 ⟨Nat.zero_le _, Nat.zero_le _⟩) hS (fun q _ h => hFc q h) hFc (fun r u t H1 locs ht hvm hw hB hz1 hk1 hS => ?_)
  obtain ⟨hP1, hK1, hD1⟩ := hB
  subst r
  rw [ht] at hP1
  obtain ⟨hP, hD⟩ := va_join (wr := [(a_t, .inr (5, [.ref a_tokens, .ref a_places, .ref a_columns, .ref a_lineFirsts]))]) (w1 := [(a_tokens, .inr (11, [.ref a_tokens_kinds, .ref a_tokens_values, .int (nI n_tokens_size)]))]) hP hD [1] [0] rfl rfl (by decide) (by decide) hk1 hFc hP1 hD1
  generalize H1 = H at hP hS ⊢
  have hP : va_P (dC, dI) vcl [(a_t, .inr (5, [.ref a_tokens, .ref a_places, .ref a_columns, .ref a_lineFirsts])), (a_tokens, .inr (11, [.ref a_tokens_kinds, .ref a_tokens_values, .int (nI n_tokens_size)]))] H := hP
  have hD : va_D A [(a_t, .inr (5, [.ref a_tokens, .ref a_places, .ref a_columns, .ref a_lineFirsts])), (a_tokens, .inr (11, [.ref a_tokens_kinds, .ref a_tokens_values, .int (nI n_tokens_size)]))] := hD
  have hP9 := hP.sub (ws' := [(a_t, .inr (5, [.ref a_tokens, .ref a_places, .ref a_columns, .ref a_lineFirsts])), (a_tokens, .inr (11, [.ref a_tokens_kinds, .ref a_tokens_values, .int (nI n_tokens_size)]))]) [0, 1] rfl
  have hD9 := hD.sub (ws' := [(a_t, .inr (5, [.ref a_tokens, .ref a_places, .ref a_columns, .ref a_lineFirsts])), (a_tokens, .inr (11, [.ref a_tokens_kinds, .ref a_tokens_values, .int (nI n_tokens_size)]))]) [0, 1] (by decide) rfl
  exact W.iret (v := (nI n_tokens_size)) hx hb hr (fun t ht hW => ⟨⟨(nI n_tokens_size), (), rfl, rfl, by rw [ht]; exact hP9, va_K.moved hW.alike hK, hD9⟩, hS.F ht⟩) hS.2.2 d_Lexemes_size_7
set_option maxHeartbeats 4000000 in
set_option maxRecDepth 100000 in
theorem s_Lexemes_tokens (l : Launch) (dC : Nat → ClassId) (dI : Nat → Nat → Nat) (sz : Nat) (a_t : Nat) (a_tokens : Nat) (a_places : Nat) (a_columns : Nat) (a_lineFirsts : Nat) : Met l y_Lexemes_tokens w_Lexemes_tokens ({ frames := 0, cells := 0, slots := 0, locals := 0 }) (va_Pc [.ref a_t] (fun U => U.heap.size = sz ∧ va_P (dC, dI) vcl [(a_t, .inr (5, [.ref a_tokens, .ref a_places, .ref a_columns, .ref a_lineFirsts]))] U.heap ∧ va_K (dC, dI) vcl [] U ∧ va_D (fun _ => True) [(a_t, .inr (5, [.ref a_tokens, .ref a_places, .ref a_columns, .ref a_lineFirsts]))])) (va_Qr (fun (_ : Unit) => True) (fun _ ra t => ra = a_tokens ∧ va_P (dC, dI) vcl [(a_t, .inr (5, [.ref a_tokens, .ref a_places, .ref a_columns, .ref a_lineFirsts]))] t.heap ∧ va_K (dC, dI) vcl [] t ∧ va_D (va_A [(a_t, .inr (5, [.ref a_tokens, .ref a_places, .ref a_columns, .ref a_lineFirsts]))] sz) [(a_t, .inr (5, [.ref a_tokens, .ref a_places, .ref a_columns, .ref a_lineFirsts]))]) (va_A [(a_t, .inr (5, [.ref a_tokens, .ref a_places, .ref a_columns, .ref a_lineFirsts]))] sz)) 0 0 (va_A [(a_t, .inr (5, [.ref a_tokens, .ref a_places, .ref a_columns, .ref a_lineFirsts]))] sz) := by
  refine Met.ofW (cc := b_Lexemes_tokens) (maxL := 1) (ret := (some (.object "LayoutFront$Tokens"))) (by decide) rfl ?_
  intro p e s m args below meth c s₁ B hml hv
  obtain ⟨rfl, hsz, hP, hK, hD0⟩ := hv
  have hx := B.exec
  have hb := B.bytes
  have hr := B.returns
  have hts := atoms_spec (ws := w_Lexemes_tokens) B.pre
  have hz : ∀ w ∈ wz, w.before _ s = true := fun w h => hts w (List.mem_cons_of_mem _ h)
  have hown : s.vm.findClass R_Lexemes = some m.cls := findClass_of_methodNamed B.named
  have hlocks := B.notSynchronized
  subst hsz
  have hD := hD0.self (sz := s.heap.size)
  generalize hAe : va_A [(a_t, .inr (5, [.ref a_tokens, .ref a_places, .ref a_columns, .ref a_lineFirsts]))] s.heap.size = A at hD ⊢
  have hA : ∀ q : Nat, s.heap.size ≤ q → A q := fun q h => by rw [← hAe]; exact Or.inr h
  have hS : va_S A s.heap s.heap [] := va_S.rf
  have hP : va_P (dC, dI) vcl [(a_t, .inr (5, [.ref a_tokens, .ref a_places, .ref a_columns, .ref a_lineFirsts]))] s.heap := hP
  have hl := lv_entry ([.ref a_t]) (n := 1) (Nat.le_of_ble_eq_true rfl)
  rw [lg_entry_eq]
  generalize (lg_sl ([.ref a_t]) ++ List.replicate (1 - (lg_sl ([.ref a_t])).length) Slot.unset).toArray = ls at hl ⊢
  have hl : lv_has ls 1 [(0, .ref a_t)] := hl
  refine lv_aload_n hx hb d_Lexemes_tokens_0 rfl (lv_at hl 0 rfl) ?_
  refine va_get (D := (dC, dI)) (ci := 5) (v := .ref a_tokens) (C := R_Lexemes) (T := F_Lexemes) (N := 4) hx hb hz zu_Lexemes hown hK hP 0 rfl rfl 0 (by decide) (hz (.fieldLink R_Lexemes 14 "LayoutFront$Lexemes" "tokens" "LLayoutFront$Tokens;") zm_53) (fun _ h9 => h9) rfl d_Lexemes_tokens_1 ?_
  have hP9 := hP.sub (ws' := [(a_t, .inr (5, [.ref a_tokens, .ref a_places, .ref a_columns, .ref a_lineFirsts]))]) [0] rfl
  have hD9 := hD.sub (ws' := [(a_t, .inr (5, [.ref a_tokens, .ref a_places, .ref a_columns, .ref a_lineFirsts]))]) [0] (by decide) rfl
  exact W.aret (v := .ref a_tokens) hx hb hr (Or.inl ⟨_, rfl⟩) (Or.inr ⟨_, rfl⟩) (fun t ht hW => ⟨⟨(), a_tokens, rfl, trivial, rfl, by rw [ht]; exact hP9, va_K.moved hW.alike hK, hD9⟩, hS.F ht⟩) hS.2.2 d_Lexemes_tokens_4
