/-! THE CLAIM OUT OF ONE WALK OF THE LAW'S BODY. Your part is whole_start (and what it stands on); all else here is the same for every law, but numbers. -/
def R_law : String := "LayoutFrontLaw"
def lw_P (b : Addr) (xs : List Int32) (args : Array Value) (s : State) : Prop := args = #[.ref b] ∧ s.IntsAt b xs ∧ xs.length ≤ 5 ∧ (Jvm.Cond.and given_1 narrow_1).before args s = true
def lw_Q (_ : Array Value) (s : State) (o : Outcome) (t : State) : Prop := o = .returned (some (.int 1)) ∧ Framed s o t [] 600002 7302232
def lw_Z (below : List Frame) (a : Array Value) (s : State) : State → Prop := fun t => ∃ o, t.status = .running ∧ Ended t below o ∧ lw_Q a s o t
/-- the law's own end, with 1 on the stack, nothing written that was there before, its room as the claim has it -/
theorem lw_ret {p : Program} {l : Launch} {e : Env} {s : State} {m : MethodId} {below : List Frame} {meth : Method} {c : Code} {b : Nat} (hx : p.tables.exec = Jvm.exec) (hb : c.code = code) (hr : meth.sig.returnType = ret) (hlocks : meth.locks = false) {pc : Nat} {H : Heap} {ls : Array Slot} (hdg : decode code pc = .ok (.ireturn, 1)) : W p l e room_1 s m #[Value.ref b] below meth c H [] 600002 7302232 (lw_Z below #[Value.ref b] s) (F0 m pc ls [.int 1]) := by
  intro T hT X
  obtain ⟨fs, hret, hrun, hended, hW, hframe⟩ := X.leave (v := some (.int 1)) (hlocks := hlocks) (fun h => by rw [hr] at h; cases h)
  have hmeth' : T.vm.method? m = some meth := X.method'
  refine ⟨T.setFrames fs, ?_, .returned (some (.int 1)), hrun, hended, rfl, ⟨_, rfl⟩, hW, hframe⟩
  jvm_step X.here [X.here.top, hx, hb, hdg, hmeth', hr, ret, narrow_b1]
  (try refine ⟨rfl, ?_⟩); (try refine ⟨rfl, ?_⟩)
  first | (intro acts; rw [hret _ acts rfl rfl rfl]) | rw [hret _ _ rfl rfl rfl]
  exact Steps.refl _
/-- what holds at the law's entry: the machine, the code, the tables' words (any of lw_tbl by 'hts w (by decide +kernel)'), the script of L ints xs at the cell b, what the Statement gives of the start (any of its parts by flat_of_before) -/
def lw_At (p : Program) (s : State) (m : MethodId) (meth : Method) (c : Code) (b L : Nat) (xs : Nat → Int32) : Prop :=
  p.tables.exec = Jvm.exec ∧ c.code = code ∧ meth.sig.returnType = ret ∧ c.maxLocals = 8 ∧ s.vm.findClass R_law = some m.cls ∧ (∀ w ∈ lw_tbl, w.before #[Value.ref b] s = true) ∧ va_X b L xs s s.heap ∧ b < s.heap.size ∧ meth.locks = false ∧ (Jvm.Cond.and given_1 narrow_1).before #[Value.ref b] s = true

section LB
variable {p : Program} {l : Launch} {e : Env} {R : Room} {s : State} {m : MethodId} {args : Array Value} {below : List Frame} {meth : Method} {c : Code} {H : Heap} {locs : List Loc} {cells slots : Nat} {Q : State → Prop}
variable {cc : ByteArray} {pc : Nat} {ls : Array Slot} {rest : List Value} {A : Nat → Prop} {H0 : Heap}
theorem xr_sld (hx : p.tables.exec = Jvm.exec) (hb : c.code = cc) {b L : Nat} {xs : Nat → Int32} (hX : va_X b L xs s H0) (hbl : b < H0.size) (hbA : ¬ A b) (hS : va_S A H0 H locs) {i v : Int32} {j : Nat} (hin : vp_in i L) (hj : i.toNatClampNeg = j) (hv : xs j = v) (hdg : decode cc pc = .ok (.iaload, 1))
    (kk : W p l e R s m args below meth c H locs cells slots Q (F0 m (pc + 1) ls (.int v :: rest))) : W p l e R s m args below meth c H locs cells slots Q (F0 m pc ls (.int i :: .ref b :: rest)) := by
  subst hj; subst hv; exact va_sld hx hb hX hbl hbA hS hin hdg kk
theorem xr_lor (hx : p.tables.exec = Jvm.exec) (hb : c.code = cc) {x y v : Int64} (hdg : decode cc pc = .ok (.lor, 1)) (hv : x ||| y = v) (k : W p l e R s m args below meth c H locs cells slots Q (F0 m (pc + 1) ls (.long v :: rest))) : W p l e R s m args below meth c H locs cells slots Q (F0 m pc ls (.long y :: .long x :: rest)) := by
  subst hv; exact lv_lor hx hb hdg k
theorem xr_lcmp0 (x : Int64) : lg_cmp x x = 0 := by simp [lg_cmp]
end LB
theorem lw_str {s : State} {b : Nat} {k : Nat} {tx : String} (h1 : (Cond.stringRef R_LF k tx).before #[Value.ref b] s = true) (h2 : (Cond.exactly (.string R_LF k) "java/lang/String").before #[Value.ref b] s = true) : ∃ q, vk_R R_LF k tx q s := by
  obtain ⟨a, c, cA, kA, q1, -⟩ := Cond.exactly_spec (args := #[Value.ref b]) (first := s) (o := none) (s := s) (idx := []) (t := .string R_LF k) (cls := "java/lang/String") h2
  exact ⟨a, vk_R.of (A := #[Value.ref b]) h1 q1⟩
theorem lw_C {s : State} {b : Nat} (hts : ∀ w ∈ lw_tbl, w.before #[Value.ref b] s = true) (hgv : (Jvm.Cond.and given_1 narrow_1).before #[Value.ref b] s = true) : tx_C s := by
  have hs := flat_of_before _ hgv
  have hT : ∀ w ∈ tables_1, w.before #[Value.ref b] s = true := fun w h => hts w (List.mem_append_right _ h)
  have i1 : (Cond.laysStatic Bundle.tN "UNASSIGNED_STACK" Bundle.steD).before #[Value.ref b] s = true := hT _ (by decide +kernel)
  have i2 : (Cond.laysStatic Bundle.tN "SUPPRESSED_SENTINEL" Bundle.listD).before #[Value.ref b] s = true := hT _ (by decide +kernel)
  have i3 : (Cond.isRef (.static Bundle.tN "UNASSIGNED_STACK" Bundle.steD)).before #[Value.ref b] s = true := hs _ (by decide +kernel)
  have i4 : (Cond.isRef (.static Bundle.tN "SUPPRESSED_SENTINEL" Bundle.listD)).before #[Value.ref b] s = true := hs _ (by decide +kernel)
  refine ⟨fun w hw => ?_, fun w hw => ?_, ?_, ?_, ?_, ?_⟩
  · simp only [tx_st, List.mem_cons, List.not_mem_nil, or_false] at hw
    rcases hw with rfl | rfl | rfl | rfl
    · exact tx_laysStatic (u := s) rfl (fun _ _ => rfl) i1
    · exact tx_laysStatic (u := s) rfl (fun _ _ => rfl) i2
    · exact tx_isRef (u := s) rfl (fun _ _ => rfl) i1 i3
    · exact tx_isRef (u := s) rfl (fun _ _ => rfl) i2 i4
  · have h1 : w ∈ tables_1 := by
      have h2 : ∀ w ∈ tx_on, w ∈ tables_1 := by decide +kernel
      exact h2 w hw
    have h3 := hT w h1
    simp only [tx_on, List.mem_cons, List.not_mem_nil, or_false] at hw
    rcases hw with rfl | rfl | rfl | rfl | rfl <;> exact va_Nw.of rfl h3
  · exact lw_str (hT _ (by decide +kernel)) (hs _ (by decide +kernel))
  · exact lw_str (hT _ (by decide +kernel)) (hs _ (by decide +kernel))
  · exact lw_str (hT _ (by decide +kernel)) (hs _ (by decide +kernel))
  · exact lw_str (hT _ (by decide +kernel)) (hs _ (by decide +kernel))
theorem lw_one {p : Program} {e : Env} {s : State} {m : MethodId} {below : List Frame} {meth : Method} {c : Code} {l : Launch} {b L : Nat} {xs : Nat → Int32} {A : Nat → Prop} (hAe : A = fun q => s.heap.size ≤ q) (C0 : lw_At p s m meth c b L xs) {H : Heap} {locs : List Loc} {ls : Array Slot} {cells slots : Nat} (hS : va_S A s.heap H locs) (hc : cells ≤ 600002) (hs : slots ≤ 7302232) :
    W p l e room_1 s m #[Value.ref b] below meth c H locs cells slots (lw_Z below #[Value.ref b] s) (F0 m 539 ls []) := by
  obtain ⟨hx, hb, hr, hml, hown, hts, hX, hbl, hlocks, hgv⟩ := C0
  refine lv_iconst (v := 1) hx hb d_Law_law_539 (by decide) ?_
  refine va_forget (fun q hq => by have h9 := hS.2.2 q hq; rw [hAe] at h9; exact h9) ?_
  refine W.widen (k := 600002) (n := 7302232) hc hs ?_
  exact lw_ret hx hb hr hlocks d_Law_law_540
theorem lw_fin {p : Program} {e : Env} {s : State} {m : MethodId} {below : List Frame} {meth : Method} {c : Code} {l : Launch} {b : Nat} {xs : Nat → Int32} {A : Nat → Prop} (hAe : A = fun q => s.heap.size ≤ q) (C0 : lw_At p s m meth c b 5 xs) {H : Heap} {locs : List Loc} {ls : Array Slot} {cells slots : Nat} (hl : lv_has ls 8 [(4, .int 0), (0, .ref b)]) (hS : va_S A s.heap H locs) (hc : cells ≤ 600002) (hs : slots ≤ 7302232) :
    W p l e room_1 s m #[Value.ref b] below meth c H locs cells slots (lw_Z below #[Value.ref b] s) (F0 m 533 ls []) := by
  have C1 := C0
  obtain ⟨hx, hb, hr, hml, hown, hts, hX, hbl, hlocks, hgv⟩ := C0
  have hbA : ¬ A b := by rw [hAe]; exact Nat.not_le.mpr hbl
  refine lv_iinc (k := 0) (v := 5) hx hb d_Law_law_533 hl rfl (by decide +kernel) (by decide) rfl (fun ls hl => ?_)
  have hl : lv_has ls 8 [(4, .int 5), (0, .ref b)] := hl
  refine lv_goto (tgt := 23) hx hb d_Law_law_536 (by decide) ?_
  refine lv_iload hx hb d_Law_law_23 (lv_at hl 0 rfl) ?_
  refine lv_aload_n hx hb d_Law_law_25 rfl (lv_at hl 1 rfl) ?_
  refine va_slen hx hb hX hbl hbA hS d_Law_law_26 ?_
  refine lv_iconst (v := 5) hx hb d_Law_law_27 (by decide) ?_
  refine xr_isub (v := 0) hx hb d_Law_law_28 (by decide +kernel) ?_
  refine lv_icmp_gt (tgt := 539) hx hb d_Law_law_29 (by decide) (fun _ => ?_) (fun h => (h (by decide +kernel)).elim)
  exact lw_one hAe C1 hS hc hs

theorem lw_K {s : State} {args : Array Value} (hz : ∀ w ∈ wz, w.before args s = true) : ∃ (dC : Nat → ClassId) (dI : Nat → Nat → Nat), va_K (dC, dI) vcl [] s := by
  obtain ⟨c0, i0, h0⟩ := u_known (N := 8) hz zu_LF (hz (.instantiable R_LF 8) zm_523)
  obtain ⟨c1, i1, h1⟩ := u_known (N := 50) hz zu_Model (hz (.instantiable R_Model 50) zm_528)
  obtain ⟨c2, i2, h2⟩ := u_known (N := 3) hz zu_Blocks (hz (.instantiable R_Blocks 3) zm_95)
  obtain ⟨c3, i3, h3⟩ := u_known (N := 6) hz zu_Cutter (hz (.instantiable R_Cutter 6) zm_89)
  obtain ⟨c4, i4, h4⟩ := u_known (N := 4) hz zu_Fixities (hz (.instantiable R_Fixities 4) zm_83)
  obtain ⟨c5, i5, h5⟩ := u_known (N := 4) hz zu_Lexemes (hz (.instantiable R_Lexemes 4) zm_28)
  obtain ⟨c6, i6, h6⟩ := u_known (N := 3) hz zu_Open (hz (.instantiable R_Open 3) zm_38)
  obtain ⟨c7, i7, h7⟩ := u_known (N := 11) hz zu_Resolver (hz (.instantiable R_Resolver 11) zm_70)
  obtain ⟨c8, i8, h8⟩ := u_known (N := 6) hz zu_Row (hz (.instantiable R_Row 6) zm_64)
  obtain ⟨c9, i9, h9⟩ := u_known (N := 8) hz zu_Rows (hz (.instantiable R_Rows 8) zm_101)
  obtain ⟨c10, i10, h10⟩ := u_known (N := 2) hz zu_Text (hz (.instantiable R_Text 2) zm_77)
  obtain ⟨c11, i11, h11⟩ := u_known (N := 3) hz zu_Tokens (hz (.instantiable R_Tokens 3) zm_16)
  refine ⟨fun k => match k with | 0 => c0 | 1 => c1 | 2 => c2 | 3 => c3 | 4 => c4 | 5 => c5 | 6 => c6 | 7 => c7 | 8 => c8 | 9 => c9 | 10 => c10 | _ => c11, fun k => match k with | 0 => i0 | 1 => i1 | 2 => i2 | 3 => i3 | 4 => i4 | 5 => i5 | 6 => i6 | 7 => i7 | 8 => i8 | 9 => i9 | 10 => i10 | _ => i11, fun c q hc => ?_, fun k q h => by cases h⟩
  match c, hc with
  | 0, hc => cases hc; exact h0
  | 1, hc => cases hc; exact h1
  | 2, hc => cases hc; exact h2
  | 3, hc => cases hc; exact h3
  | 4, hc => cases hc; exact h4
  | 5, hc => cases hc; exact h5
  | 6, hc => cases hc; exact h6
  | 7, hc => cases hc; exact h7
  | 8, hc => cases hc; exact h8
  | 9, hc => cases hc; exact h9
  | 10, hc => cases hc; exact h10
  | 11, hc => cases hc; exact h11
  | n + 12, hc => simp [vcl] at hc
