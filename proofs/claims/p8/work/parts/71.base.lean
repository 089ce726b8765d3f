/-! THE CLAIM OUT OF ONE WALK OF THE LAW'S BODY. Your part is whole_start (and what it stands on); all else here is the same for every law, but numbers. -/
def R_law : String := "LayoutFrontLaw"
def lw_P (b : Addr) (xs : List Int32) (args : Array Value) (s : State) : Prop := args = #[.ref b] ∧ s.IntsAt b xs ∧ xs.length ≤ 2560 ∧ (Jvm.Cond.and given_1 narrow_1).before args s = true
def lw_Q (_ : Array Value) (s : State) (o : Outcome) (t : State) : Prop := o = .returned (some (.int 1)) ∧ Framed s o t [] 601024 7293034
def lw_Z (below : List Frame) (a : Array Value) (s : State) : State → Prop := fun t => ∃ o, t.status = .running ∧ Ended t below o ∧ lw_Q a s o t
/-- the law's own end, with 1 on the stack, nothing written that was there before, its room as the claim has it -/
theorem lw_ret {p : Program} {l : Launch} {e : Env} {s : State} {m : MethodId} {below : List Frame} {meth : Method} {c : Code} {b : Nat} (hx : p.tables.exec = Jvm.exec) (hb : c.code = code) (hr : meth.sig.returnType = ret) (hlocks : meth.locks = false) {pc : Nat} {H : Heap} {ls : Array Slot} (hdg : decode code pc = .ok (.ireturn, 1)) : W p l e room_1 s m #[Value.ref b] below meth c H [] 601024 7293034 (lw_Z below #[Value.ref b] s) (F0 m pc ls [.int 1]) := by
  intro T hT X
  obtain ⟨fs, hret, hrun, hended, hW, hframe⟩ := X.leave (v := some (.int 1)) (hlocks := hlocks) (fun h => by rw [hr] at h; cases h)
  have hmeth' : T.vm.method? m = some meth := X.method'
  refine ⟨T.setFrames fs, ?_, .returned (some (.int 1)), hrun, hended, rfl, ⟨_, rfl⟩, hW, hframe⟩
  jvm_step X.here [X.here.top, hx, hb, hdg, hmeth', hr, ret, narrow_b1]
  (try refine ⟨rfl, ?_⟩); (try refine ⟨rfl, ?_⟩)
  first | (intro acts; rw [hret _ acts rfl rfl rfl]) | rw [hret _ _ rfl rfl rfl]
  exact Steps.refl _
/-- what holds at the law's entry: the machine, the code, the tables' words (any of lw_tbl by 'hts w (by decide +kernel)'), the script of L ints xs at the cell b, what the Statement gives of the start (any of its parts by flat_of_before) -/
def lw_At (p : Program) (s : State) (m : MethodId) (meth : Method) (c : Code) (b L : Nat) (xs : Nat → Int32) : Prop :=
  p.tables.exec = Jvm.exec ∧ c.code = code ∧ meth.sig.returnType = ret ∧ c.maxLocals = 8 ∧ s.vm.findClass R_law = some m.cls ∧ (∀ w ∈ lw_tbl, w.before #[Value.ref b] s = true) ∧ va_X b L xs s s.heap ∧ b < s.heap.size ∧ meth.locks = false ∧ (Jvm.Cond.and given_1 narrow_1).before #[Value.ref b] s = true

section LB
variable {p : Program} {l : Launch} {e : Env} {R : Room} {s : State} {m : MethodId} {args : Array Value} {below : List Frame} {meth : Method} {c : Code} {H : Heap} {locs : List Loc} {cells slots : Nat} {Q : State → Prop}
variable {cc : ByteArray} {pc : Nat} {ls : Array Slot} {rest : List Value} {A : Nat → Prop} {H0 : Heap}
theorem xr_sld (hx : p.tables.exec = Jvm.exec) (hb : c.code = cc) {b L : Nat} {xs : Nat → Int32} (hX : va_X b L xs s H0) (hbl : b < H0.size) (hbA : ¬ A b) (hS : va_S A H0 H locs) {i v : Int32} {j : Nat} (hin : vp_in i L) (hj : i.toNatClampNeg = j) (hv : xs j = v) (hdg : decode cc pc = .ok (.iaload, 1))
    (kk : W p l e R s m args below meth c H locs cells slots Q (F0 m (pc + 1) ls (.int v :: rest))) : W p l e R s m args below meth c H locs cells slots Q (F0 m pc ls (.int i :: .ref b :: rest)) := by
  subst hj; subst hv; exact va_sld hx hb hX hbl hbA hS hin hdg kk
theorem xr_lor (hx : p.tables.exec = Jvm.exec) (hb : c.code = cc) {x y v : Int64} (hdg : decode cc pc = .ok (.lor, 1)) (hv : x ||| y = v) (k : W p l e R s m args below meth c H locs cells slots Q (F0 m (pc + 1) ls (.long v :: rest))) : W p l e R s m args below meth c H locs cells slots Q (F0 m pc ls (.long y :: .long x :: rest)) := by
  subst hv; exact lv_lor hx hb hdg k
theorem xr_lcmp0 (x : Int64) : lg_cmp x x = 0 := by simp [lg_cmp]
end LB
theorem lw_one {p : Program} {e : Env} {s : State} {m : MethodId} {below : List Frame} {meth : Method} {c : Code} {l : Launch} {b L : Nat} {xs : Nat → Int32} {A : Nat → Prop} (hAe : A = fun q => s.heap.size ≤ q) (C0 : lw_At p s m meth c b L xs) {H : Heap} {locs : List Loc} {ls : Array Slot} {cells slots : Nat} (hS : va_S A s.heap H locs) (hc : cells ≤ 601024) (hs : slots ≤ 7293034) :
    W p l e room_1 s m #[Value.ref b] below meth c H locs cells slots (lw_Z below #[Value.ref b] s) (F0 m 399 ls []) := by
  obtain ⟨hx, hb, hr, hml, hown, hts, hX, hbl, hlocks, hgv⟩ := C0
  refine lv_iconst (v := 1) hx hb d_Law_law_399 (by decide) ?_
  refine va_forget (fun q hq => by have h9 := hS.2.2 q hq; rw [hAe] at h9; exact h9) ?_
  refine W.widen (k := 601024) (n := 7293034) hc hs ?_
  exact lw_ret hx hb hr hlocks d_Law_law_400
theorem lw_K {s : State} {args : Array Value} (hz : ∀ w ∈ wz, w.before args s = true) : ∃ (dC : Nat → ClassId) (dI : Nat → Nat → Nat), va_K (dC, dI) vcl [] s := by
  obtain ⟨c0, i0, h0⟩ := u_known (N := 8) hz zu_LF (hz (.instantiable R_LF 8) zm_917)
  obtain ⟨c1, i1, h1⟩ := u_known (N := 50) hz zu_Model (hz (.instantiable R_Model 50) zm_922)
  obtain ⟨c2, i2, h2⟩ := u_known (N := 3) hz zu_Blocks (hz (.instantiable R_Blocks 3) zm_516)
  obtain ⟨c3, i3, h3⟩ := u_known (N := 6) hz zu_Cutter (hz (.instantiable R_Cutter 6) zm_511)
  obtain ⟨c4, i4, h4⟩ := u_known (N := 4) hz zu_Fixities (hz (.instantiable R_Fixities 4) zm_506)
  obtain ⟨c5, i5, h5⟩ := u_known (N := 4) hz zu_Lexemes (hz (.instantiable R_Lexemes 4) zm_70)
  obtain ⟨c6, i6, h6⟩ := u_known (N := 3) hz zu_Open (hz (.instantiable R_Open 3) zm_180)
  obtain ⟨c7, i7, h7⟩ := u_known (N := 11) hz zu_Resolver (hz (.instantiable R_Resolver 11) zm_363)
  obtain ⟨c8, i8, h8⟩ := u_known (N := 6) hz zu_Row (hz (.instantiable R_Row 6) zm_358)
  obtain ⟨c9, i9, h9⟩ := u_known (N := 8) hz zu_Rows (hz (.instantiable R_Rows 8) zm_521)
  obtain ⟨c10, i10, h10⟩ := u_known (N := 2) hz zu_Text (hz (.instantiable R_Text 2) zm_501)
  obtain ⟨c11, i11, h11⟩ := u_known (N := 3) hz zu_Tokens (hz (.instantiable R_Tokens 3) zm_49)
  refine ⟨fun k => match k with | 0 => c0 | 1 => c1 | 2 => c2 | 3 => c3 | 4 => c4 | 5 => c5 | 6 => c6 | 7 => c7 | 8 => c8 | 9 => c9 | 10 => c10 | _ => c11, fun k => match k with | 0 => i0 | 1 => i1 | 2 => i2 | 3 => i3 | 4 => i4 | 5 => i5 | 6 => i6 | 7 => i7 | 8 => i8 | 9 => i9 | 10 => i10 | _ => i11, fun c q hc => ?_, fun k q h => by cases h⟩
  match c, hc with
  | 0, hc => cases hc; exact h0
  | 1, hc => cases hc; exact h1
  | 2, hc => cases hc; exact h2
  | 3, hc => cases hc; exact h3
  | 4, hc => cases hc; exact h4
  | 5, hc => cases hc; exact h5
  | 6, hc => cases hc; exact h6
  | 7, hc => cases hc; exact h7
  | 8, hc => cases hc; exact h8
  | 9, hc => cases hc; exact h9
  | 10, hc => cases hc; exact h10
  | 11, hc => cases hc; exact h11
  | n + 12, hc => simp [vcl] at hc
theorem lw_str {s : State} {b : Nat} {k : Nat} {tx : String} (h1 : (Cond.stringRef R_LF k tx).before #[Value.ref b] s = true) (h2 : (Cond.exactly (.string R_LF k) "java/lang/String").before #[Value.ref b] s = true) : ∃ q, vk_R R_LF k tx q s := by
  obtain ⟨a, c, cA, kA, q1, -⟩ := Cond.exactly_spec (args := #[Value.ref b]) (first := s) (o := none) (s := s) (idx := []) (t := .string R_LF k) (cls := "java/lang/String") h2
  exact ⟨a, vk_R.of (A := #[Value.ref b]) h1 q1⟩
theorem lw_ez {args : Array Value} {s : State} {C n d : String} {A : Nat → Prop} (hA : ∀ a : Nat, a < s.heap.size → ¬ A a) (h1 : (Cond.laysStatic C n d).before args s = true) (h2 : (Cond.isRef (.static C n d)).before args s = true) : tz_L C n d A s s.heap := by
  obtain ⟨c, k, i, f, q, cell, hc, hi, hst, ha, hcell, hs, hcls, hlt, hty⟩ := Cond.laysStatic_spec h1
  have e1 : (Term.static C n d).eval args s none [] s = cell.slots[f.slot]? := by simp [Term.eval, State.fieldNamed?, hi, hst, ha, hcell, hs]
  obtain ⟨v, hv⟩ : ∃ v, cell.slots[f.slot]? = some v := ⟨_, Array.getElem?_eq_getElem hlt⟩
  have hr : v.isRef = true := by
    simp only [Cond.before, Cond.holds, Cond.value, e1, hv] at h2
    cases v <;> simp_all [Value.isRef]
  exact ⟨c, k, i, f, q, cell, v, hc, hi, hst, ha, hcell, hs, hcls, hlt, hty, hv, hr, hA _ (Array.getElem?_eq_some_iff.mp hcell).1⟩
theorem lw_sx {A : Nat → Prop} {args : Array Value} {s : State} {k n : Nat} {tx : String} (bs : List Int32) (hA : ∀ a : Nat, a < s.heap.size → ¬ A a) (hN : n < 2 ^ 31) (h1 : (Cond.stringRef R_Cutter k tx).before args s = true) (hex : (Cond.exactly (.string R_Cutter k) "java/lang/String").before args s = true) (hco : (Cond.eq (.field (.string R_Cutter k) "java/lang/String" "coder" "B") (.int 0)).before args s = true)
    (har : (Cond.arrayOf (.field (.string R_Cutter k) "java/lang/String" "value" "[B") .byte).before args s = true) (hle : (Cond.eq (.length (.field (.string R_Cutter k) "java/lang/String" "value" "[B")) (.int (Int32.ofNat n))).before args s = true) (hel : ∀ j : Nat, j < n → (Cond.eq (.elem (.field (.string R_Cutter k) "java/lang/String" "value" "[B") (.int (Int32.ofNat j))) (.int (bs.getD j 0))).before args s = true)
    (hZ : va_Z "java/lang/String" "COMPACT_STRINGS" "Z" (.int 1) A s s.heap) : cx_S k tx n (fun j => bs.getD j 0) A s s.heap := by
  obtain ⟨a, c, cA, kA, q1, q2, q3, q4, q5, q6, -⟩ := Cond.exactly_spec (args := args) (first := s) (o := none) (s := s) (idx := []) (t := .string R_Cutter k) (cls := "java/lang/String") hex
  obtain ⟨t, ht, hT⟩ := va_Tof (f := fun j => .int (bs.getD j 0)) (A := A) hN har (va_eqt hle) (fun j hj => va_eqt (hel j hj)) hA
  exact ⟨a, t, vk_R.of h1 q1, ⟨cA, q3, q5, by rw [q6]; exact q2, hA a (Array.getElem?_eq_some_iff.mp q3).1⟩, vk_OFof q1 (va_eqt hco) hA, vk_OFof q1 ht hA, hT, hZ⟩

set_option maxHeartbeats 8000000 in
set_option maxRecDepth 100000 in
theorem lw_WORDS {A : Nat → Prop} {s : State} {b : Nat} (hA : ∀ a : Nat, a < s.heap.size → ¬ A a) (hT : ∀ w ∈ tables_1, w.before #[Value.ref b] s = true) (hs : ∀ w ∈ flatC (Jvm.Cond.and given_1 narrow_1), w.before #[Value.ref b] s = true) : cx_A "WORDS" 35 9 wWd A s s.heap := by
  have hel : ∀ j : Nat, j < 9 → (Term.elem (.static "LayoutFront" "WORDS" "[J") (.int (Int32.ofNat j))).eval #[Value.ref b] s none [] s = some (.long (([7628140, 435710945399, 28516, 26223, 28265, 26217, 1852139636, 1702063205, 1702060387] : List Int64).getD j 0)) := fun j hj => match j, hj with
      | 0, _ => va_eqtl (hs _ (by decide +kernel))
      | 1, _ => va_eqtl (hs _ (by decide +kernel))
      | 2, _ => va_eqtl (hs _ (by decide +kernel))
      | 3, _ => va_eqtl (hs _ (by decide +kernel))
      | 4, _ => va_eqtl (hs _ (by decide +kernel))
      | 5, _ => va_eqtl (hs _ (by decide +kernel))
      | 6, _ => va_eqtl (hs _ (by decide +kernel))
      | 7, _ => va_eqtl (hs _ (by decide +kernel))
      | 8, _ => va_eqtl (hs _ (by decide +kernel))
      | k + 9, h => absurd h (by omega)
  obtain ⟨a, ha, hT9⟩ := va_Tof (f := fun j => .long (([7628140, 435710945399, 28516, 26223, 28265, 26217, 1852139636, 1702063205, 1702060387] : List Int64).getD j 0)) (A := A) (N := 9) (by decide) (hs (.arrayOf (.static "LayoutFront" "WORDS" "[J") .long) (by decide +kernel)) (va_eqt (hs (.eq (.length (.static "LayoutFront" "WORDS" "[J")) (.int 9)) (by decide +kernel))) hel hA
  exact ⟨a, va_Nw.of rfl (hT _ (by decide +kernel)), va_Zof (hT _ (by decide +kernel)) (hT _ (by decide +kernel)) ha hA, hT9⟩
set_option maxHeartbeats 8000000 in
set_option maxRecDepth 100000 in
theorem lw_RESERVED {A : Nat → Prop} {s : State} {b : Nat} (hA : ∀ a : Nat, a < s.heap.size → ¬ A a) (hT : ∀ w ∈ tables_1, w.before #[Value.ref b] s = true) (hs : ∀ w ∈ flatC (Jvm.Cond.and given_1 narrow_1), w.before #[Value.ref b] s = true) : cx_A "RESERVED" 42 10 wRs A s s.heap := by
  have hel : ∀ j : Nat, j < 10 → (Term.elem (.static "LayoutFront" "RESERVED" "[J") (.int (Int32.ofNat j))).eval #[Value.ref b] s none [] s = some (.long (([61, 15917, 11580, 124, 14906, 15933, 92, 64, 126, 11822] : List Int64).getD j 0)) := fun j hj => match j, hj with
      | 0, _ => va_eqtl (hs _ (by decide +kernel))
      | 1, _ => va_eqtl (hs _ (by decide +kernel))
      | 2, _ => va_eqtl (hs _ (by decide +kernel))
      | 3, _ => va_eqtl (hs _ (by decide +kernel))
      | 4, _ => va_eqtl (hs _ (by decide +kernel))
      | 5, _ => va_eqtl (hs _ (by decide +kernel))
      | 6, _ => va_eqtl (hs _ (by decide +kernel))
      | 7, _ => va_eqtl (hs _ (by decide +kernel))
      | 8, _ => va_eqtl (hs _ (by decide +kernel))
      | 9, _ => va_eqtl (hs _ (by decide +kernel))
      | k + 10, h => absurd h (by omega)
  obtain ⟨a, ha, hT9⟩ := va_Tof (f := fun j => .long (([61, 15917, 11580, 124, 14906, 15933, 92, 64, 126, 11822] : List Int64).getD j 0)) (A := A) (N := 10) (by decide) (hs (.arrayOf (.static "LayoutFront" "RESERVED" "[J") .long) (by decide +kernel)) (va_eqt (hs (.eq (.length (.static "LayoutFront" "RESERVED" "[J")) (.int 10)) (by decide +kernel))) hel hA
  exact ⟨a, va_Nw.of rfl (hT _ (by decide +kernel)), va_Zof (hT _ (by decide +kernel)) (hT _ (by decide +kernel)) ha hA, hT9⟩
set_option maxHeartbeats 8000000 in
set_option maxRecDepth 100000 in
theorem lw_s122 {A : Nat → Prop} {s : State} {b : Nat} (hA : ∀ a : Nat, a < s.heap.size → ¬ A a) (hT : ∀ w ∈ tables_1, w.before #[Value.ref b] s = true) (hs : ∀ w ∈ flatC (Jvm.Cond.and given_1 narrow_1), w.before #[Value.ref b] s = true) : cx_S 122 cx_t1 20 bt1 A s s.heap := by
  have hZ : va_Z "java/lang/String" "COMPACT_STRINGS" "Z" (.int 1) A s s.heap := va_Zof (hT _ (by decide +kernel)) (hT _ (by decide +kernel)) (va_eqi (hs _ (by decide +kernel))) hA
  have hel : ∀ j : Nat, j < 20 → (Cond.eq (.elem (.field (.string R_Cutter 122) "java/lang/String" "value" "[B") (.int (Int32.ofNat j))) (.int (([33, 35, 36, 37, 38, 42, 43, 46, 47, 60, 61, 62, 63, 64, 92, 94, 124, 45, 126, 58] : List Int32).getD j 0))).before #[Value.ref b] s = true := fun j hj => match j, hj with
      | 0, _ => hs _ (by decide +kernel)
      | 1, _ => hs _ (by decide +kernel)
      | 2, _ => hs _ (by decide +kernel)
      | 3, _ => hs _ (by decide +kernel)
      | 4, _ => hs _ (by decide +kernel)
      | 5, _ => hs _ (by decide +kernel)
      | 6, _ => hs _ (by decide +kernel)
      | 7, _ => hs _ (by decide +kernel)
      | 8, _ => hs _ (by decide +kernel)
      | 9, _ => hs _ (by decide +kernel)
      | 10, _ => hs _ (by decide +kernel)
      | 11, _ => hs _ (by decide +kernel)
      | 12, _ => hs _ (by decide +kernel)
      | 13, _ => hs _ (by decide +kernel)
      | 14, _ => hs _ (by decide +kernel)
      | 15, _ => hs _ (by decide +kernel)
      | 16, _ => hs _ (by decide +kernel)
      | 17, _ => hs _ (by decide +kernel)
      | 18, _ => hs _ (by decide +kernel)
      | 19, _ => hs _ (by decide +kernel)
      | k + 20, h => absurd h (by omega)
  exact lw_sx [33, 35, 36, 37, 38, 42, 43, 46, 47, 60, 61, 62, 63, 64, 92, 94, 124, 45, 126, 58] hA (by decide) (hT _ (by decide +kernel)) (hs _ (by decide +kernel)) (hs _ (by decide +kernel)) (hs _ (by decide +kernel)) (hs _ (by decide +kernel)) hel hZ
set_option maxHeartbeats 8000000 in
set_option maxRecDepth 100000 in
theorem lw_s129 {A : Nat → Prop} {s : State} {b : Nat} (hA : ∀ a : Nat, a < s.heap.size → ¬ A a) (hT : ∀ w ∈ tables_1, w.before #[Value.ref b] s = true) (hs : ∀ w ∈ flatC (Jvm.Cond.and given_1 narrow_1), w.before #[Value.ref b] s = true) : cx_S 129 cx_t2 9 bt2 A s s.heap := by
  have hZ : va_Z "java/lang/String" "COMPACT_STRINGS" "Z" (.int 1) A s s.heap := va_Zof (hT _ (by decide +kernel)) (hT _ (by decide +kernel)) (va_eqi (hs _ (by decide +kernel))) hA
  have hel : ∀ j : Nat, j < 9 → (Cond.eq (.elem (.field (.string R_Cutter 129) "java/lang/String" "value" "[B") (.int (Int32.ofNat j))) (.int (([40, 41, 91, 93, 123, 125, 44, 59, 96] : List Int32).getD j 0))).before #[Value.ref b] s = true := fun j hj => match j, hj with
      | 0, _ => hs _ (by decide +kernel)
      | 1, _ => hs _ (by decide +kernel)
      | 2, _ => hs _ (by decide +kernel)
      | 3, _ => hs _ (by decide +kernel)
      | 4, _ => hs _ (by decide +kernel)
      | 5, _ => hs _ (by decide +kernel)
      | 6, _ => hs _ (by decide +kernel)
      | 7, _ => hs _ (by decide +kernel)
      | 8, _ => hs _ (by decide +kernel)
      | k + 9, h => absurd h (by omega)
  exact lw_sx [40, 41, 91, 93, 123, 125, 44, 59, 96] hA (by decide) (hT _ (by decide +kernel)) (hs _ (by decide +kernel)) (hs _ (by decide +kernel)) (hs _ (by decide +kernel)) (hs _ (by decide +kernel)) hel hZ
set_option maxHeartbeats 8000000 in
set_option maxRecDepth 100000 in
theorem lw_E {s : State} {b : Nat} {A : Nat → Prop} (hAe : A = fun q => s.heap.size ≤ q) (hts : ∀ w ∈ lw_tbl, w.before #[Value.ref b] s = true) (hgv : (Jvm.Cond.and given_1 narrow_1).before #[Value.ref b] s = true) : cx_E A s s.heap := by
  have hs := flat_of_before _ hgv
  have hT : ∀ w ∈ tables_1, w.before #[Value.ref b] s = true := fun w h => hts w (List.mem_append_right _ h)
  have hA : ∀ a : Nat, a < s.heap.size → ¬ A a := fun a h => by rw [hAe]; exact Nat.not_le.mpr h
  refine ⟨⟨lw_ez hA (hT _ (by decide +kernel)) (hs _ (by decide +kernel)), lw_ez hA (hT _ (by decide +kernel)) (hs _ (by decide +kernel))⟩, fun w hw => ?_, tx_no_at (hs tx_no (by decide +kernel)), fun z hz => ?_, lw_WORDS hA hT hs, lw_RESERVED hA hT hs, lw_s122 hA hT hs, lw_s129 hA hT hs⟩
  · have h1 : w ∈ tables_1 := (show ∀ w ∈ tx_on, w ∈ tables_1 by decide +kernel) w hw
    have h3 := hT w h1
    simp only [tx_on, List.mem_cons, List.not_mem_nil, or_false] at hw
    rcases hw with rfl | rfl | rfl | rfl | rfl | rfl <;> exact va_Nw.of rfl h3
  · simp only [tx_str, List.mem_cons, List.not_mem_nil, or_false] at hz
    rcases hz with rfl | rfl | rfl | rfl | rfl | rfl | rfl | rfl
    · exact lw_str (hT _ (by decide +kernel)) (hs _ (by decide +kernel))
    · exact lw_str (hT _ (by decide +kernel)) (hs _ (by decide +kernel))
    · exact lw_str (hT _ (by decide +kernel)) (hs _ (by decide +kernel))
    · exact lw_str (hT _ (by decide +kernel)) (hs _ (by decide +kernel))
    · exact lw_str (hT _ (by decide +kernel)) (hs _ (by decide +kernel))
    · exact lw_str (hT _ (by decide +kernel)) (hs _ (by decide +kernel))
    · exact lw_str (hT _ (by decide +kernel)) (hs _ (by decide +kernel))
    · exact lw_str (hT _ (by decide +kernel)) (hs _ (by decide +kernel))
