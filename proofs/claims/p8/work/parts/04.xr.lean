/-! my own short rows over the kit's: results by name -/
section XR
variable {p : Program} {l : Launch} {e : Env} {R : Room} {s : State} {m : MethodId} {args : Array Value} {below : List Frame} {meth : Method} {c : Code} {H : Heap} {locs : List Loc} {cells slots : Nat} {Q : State → Prop}
variable {cc : ByteArray} {pc : Nat} {ls : Array Slot} {rest : List Value} {D : va_G} {cl : List vw_C} {A : Nat → Prop} {a : Nat} {tys : List (ClassId × FieldType)} {ws : va_W} {H0 : Heap}
theorem xr_iadd (hx : p.tables.exec = Jvm.exec) (hb : c.code = cc) {x y v : Int32} (hdg : decode cc pc = .ok (.iadd, 1)) (hv : x + y = v) (k : W p l e R s m args below meth c H locs cells slots Q (F0 m (pc + 1) ls (.int v :: rest))) : W p l e R s m args below meth c H locs cells slots Q (F0 m pc ls (.int y :: .int x :: rest)) := by
  subst hv; exact lv_iadd hx hb hdg k
theorem xr_isub (hx : p.tables.exec = Jvm.exec) (hb : c.code = cc) {x y v : Int32} (hdg : decode cc pc = .ok (.isub, 1)) (hv : x - y = v) (k : W p l e R s m args below meth c H locs cells slots Q (F0 m (pc + 1) ls (.int v :: rest))) : W p l e R s m args below meth c H locs cells slots Q (F0 m pc ls (.int y :: .int x :: rest)) := by
  subst hv; exact lv_isub hx hb hdg k
theorem xr_imul (hx : p.tables.exec = Jvm.exec) (hb : c.code = cc) {x y v : Int32} (hdg : decode cc pc = .ok (.imul, 1)) (hv : x * y = v) (k : W p l e R s m args below meth c H locs cells slots Q (F0 m (pc + 1) ls (.int v :: rest))) : W p l e R s m args below meth c H locs cells slots Q (F0 m pc ls (.int y :: .int x :: rest)) := by
  subst hv; exact lv_imul hx hb hdg k
theorem xr_lcmp (hx : p.tables.exec = Jvm.exec) (hb : c.code = cc) {x y : Int64} {v : Int32} (hdg : decode cc pc = .ok (.lcmp, 1)) (hv : lg_cmp x y = v) (k : W p l e R s m args below meth c H locs cells slots Q (F0 m (pc + 1) ls (.int v :: rest))) : W p l e R s m args below meth c H locs cells slots Q (F0 m pc ls (.long y :: .long x :: rest)) := by
  subst hv; exact W.lcmp hx hb hdg k
theorem xr_in {i : Int32} {n : Nat} (h : ¬ (i < 0 ∨ n ≤ i.toNatClampNeg)) : vp_in i n := h
theorem xr_iald (hx : p.tables.exec = Jvm.exec) (hb : c.code = cc) (hK : va_K D cl tys s) (hP : va_P D cl ws H) (q0 t0 : Nat) {cA : ClassId} {n : Nat} {f : Nat → Int32} (ha : ws[q0]? = some (a, .inl (cA, n, .inl f))) (ht : tys[t0]? = some (cA, .int)) {i v : Int32} (hin : vp_in i n) (hv : f i.toNatClampNeg = v) (hdg : decode cc pc = .ok (.iaload, 1))
    (kk : W p l e R s m args below meth c H locs cells slots Q (F0 m (pc + 1) ls (.int v :: rest))) : W p l e R s m args below meth c H locs cells slots Q (F0 m pc ls (.int i :: .ref a :: rest)) := by
  subst hv; exact va_iald hx hb hK hP q0 t0 ha ht hin hdg kk
theorem xr_zald (hx : p.tables.exec = Jvm.exec) (hb : c.code = cc) (hK : va_K D cl tys s) (hP : va_P D cl ws H) (q0 t0 : Nat) {cA : ClassId} {n : Nat} {f : Nat → Int32} (ha : ws[q0]? = some (a, .inl (cA, n, .inl f))) (ht : tys[t0]? = some (cA, .boolean)) {i v : Int32} (hin : vp_in i n) (hv : f i.toNatClampNeg = v) (hdg : decode cc pc = .ok (.baload, 1))
    (kk : W p l e R s m args below meth c H locs cells slots Q (F0 m (pc + 1) ls (.int v :: rest))) : W p l e R s m args below meth c H locs cells slots Q (F0 m pc ls (.int i :: .ref a :: rest)) := by
  subst hv; exact va_zald hx hb hK hP q0 t0 ha ht hin hdg kk
theorem xr_cald (hx : p.tables.exec = Jvm.exec) (hb : c.code = cc) (hK : va_K D cl tys s) (hP : va_P D cl ws H) (q0 t0 : Nat) {cA : ClassId} {n : Nat} {f : Nat → Int32} (ha : ws[q0]? = some (a, .inl (cA, n, .inl f))) (ht : tys[t0]? = some (cA, .char)) {i v : Int32} (hin : vp_in i n) (hv : f i.toNatClampNeg = v) (hdg : decode cc pc = .ok (.caload, 1))
    (kk : W p l e R s m args below meth c H locs cells slots Q (F0 m (pc + 1) ls (.int v :: rest))) : W p l e R s m args below meth c H locs cells slots Q (F0 m pc ls (.int i :: .ref a :: rest)) := by
  subst hv; exact va_cald hx hb hK hP q0 t0 ha ht hin hdg kk
theorem xr_lald (hx : p.tables.exec = Jvm.exec) (hb : c.code = cc) (hK : va_K D cl tys s) (hP : va_P D cl ws H) (q0 t0 : Nat) {cA : ClassId} {n : Nat} {f : Nat → Int64} (ha : ws[q0]? = some (a, .inl (cA, n, .inr (.inl f)))) (ht : tys[t0]? = some (cA, .long)) {i : Int32} {v : Int64} (hin : vp_in i n) (hv : f i.toNatClampNeg = v) (hdg : decode cc pc = .ok (.laload, 1))
    (kk : W p l e R s m args below meth c H locs cells slots Q (F0 m (pc + 1) ls (.long v :: rest))) : W p l e R s m args below meth c H locs cells slots Q (F0 m pc ls (.int i :: .ref a :: rest)) := by
  subst hv; exact va_lald hx hb hK hP q0 t0 ha ht hin hdg kk
theorem xr_iast (hx : p.tables.exec = Jvm.exec) (hb : c.code = cc) (hK : va_K D cl tys s) (hP : va_P D cl ws H) (hD : va_D A ws) (hS : va_S A H0 H locs) (q0 t0 : Nat) {cA : ClassId} {n : Nat} {f : Nat → Int32} (ha : ws[q0]? = some (a, .inl (cA, n, .inl f))) (ht : tys[t0]? = some (cA, .int)) {i x : Int32} {j : Nat} (hin : vp_in i n) (hj : i.toNatClampNeg = j) (hdg : decode cc pc = .ok (.iastore, 1))
    (kk : ∀ (H1 : Heap) (locs1 : List Loc), va_P D cl (ws.set q0 (a, .inl (cA, n, .inl (upd f j x)))) H1 → va_D A (ws.set q0 (a, .inl (cA, n, .inl (upd f j x)))) → va_S A H0 H1 locs1 → W p l e R s m args below meth c H1 locs1 cells slots Q (F0 m (pc + 1) ls rest)) : W p l e R s m args below meth c H locs cells slots Q (F0 m pc ls (.int x :: .int i :: .ref a :: rest)) := by
  subst hj; exact va_iast hx hb hK hP hD hS q0 t0 ha ht hin hdg kk
theorem xr_zast (hx : p.tables.exec = Jvm.exec) (hb : c.code = cc) (hK : va_K D cl tys s) (hP : va_P D cl ws H) (hD : va_D A ws) (hS : va_S A H0 H locs) (q0 t0 : Nat) {cA : ClassId} {n : Nat} {f : Nat → Int32} (ha : ws[q0]? = some (a, .inl (cA, n, .inl f))) (ht : tys[t0]? = some (cA, .boolean)) {i x : Int32} {j : Nat} (hin : vp_in i n) (hj : i.toNatClampNeg = j) (hdg : decode cc pc = .ok (.bastore, 1))
    (kk : ∀ (H1 : Heap) (locs1 : List Loc), va_P D cl (ws.set q0 (a, .inl (cA, n, .inl (upd f j (vp_nar .boolean x))))) H1 → va_D A (ws.set q0 (a, .inl (cA, n, .inl (upd f j (vp_nar .boolean x))))) → va_S A H0 H1 locs1 → W p l e R s m args below meth c H1 locs1 cells slots Q (F0 m (pc + 1) ls rest)) : W p l e R s m args below meth c H locs cells slots Q (F0 m pc ls (.int x :: .int i :: .ref a :: rest)) := by
  subst hj; exact va_zast hx hb hK hP hD hS q0 t0 ha ht hin hdg kk
theorem xr_cast (hx : p.tables.exec = Jvm.exec) (hb : c.code = cc) (hK : va_K D cl tys s) (hP : va_P D cl ws H) (hD : va_D A ws) (hS : va_S A H0 H locs) (q0 t0 : Nat) {cA : ClassId} {n : Nat} {f : Nat → Int32} (ha : ws[q0]? = some (a, .inl (cA, n, .inl f))) (ht : tys[t0]? = some (cA, .char)) {i x : Int32} {j : Nat} (hin : vp_in i n) (hj : i.toNatClampNeg = j) (hdg : decode cc pc = .ok (.castore, 1))
    (kk : ∀ (H1 : Heap) (locs1 : List Loc), va_P D cl (ws.set q0 (a, .inl (cA, n, .inl (upd f j (vp_nar .char x))))) H1 → va_D A (ws.set q0 (a, .inl (cA, n, .inl (upd f j (vp_nar .char x))))) → va_S A H0 H1 locs1 → W p l e R s m args below meth c H1 locs1 cells slots Q (F0 m (pc + 1) ls rest)) : W p l e R s m args below meth c H locs cells slots Q (F0 m pc ls (.int x :: .int i :: .ref a :: rest)) := by
  subst hj; exact va_cast hx hb hK hP hD hS q0 t0 ha ht hin hdg kk
theorem xr_last (hx : p.tables.exec = Jvm.exec) (hb : c.code = cc) (hK : va_K D cl tys s) (hP : va_P D cl ws H) (hD : va_D A ws) (hS : va_S A H0 H locs) (q0 t0 : Nat) {cA : ClassId} {n : Nat} {f : Nat → Int64} (ha : ws[q0]? = some (a, .inl (cA, n, .inr (.inl f)))) (ht : tys[t0]? = some (cA, .long)) {i : Int32} {x : Int64} {j : Nat} (hin : vp_in i n) (hj : i.toNatClampNeg = j) (hdg : decode cc pc = .ok (.lastore, 1))
    (kk : ∀ (H1 : Heap) (locs1 : List Loc), va_P D cl (ws.set q0 (a, .inl (cA, n, .inr (.inl (vp_updL f j x))))) H1 → va_D A (ws.set q0 (a, .inl (cA, n, .inr (.inl (vp_updL f j x))))) → va_S A H0 H1 locs1 → W p l e R s m args below meth c H1 locs1 cells slots Q (F0 m (pc + 1) ls rest)) : W p l e R s m args below meth c H locs cells slots Q (F0 m pc ls (.long x :: .int i :: .ref a :: rest)) := by
  subst hj; exact va_last hx hb hK hP hD hS q0 t0 ha ht hin hdg kk
theorem xr_max (hx : p.tables.exec = Jvm.exec) (hb : c.code = cc) (hml : c.maxLocals = ls.size) {own : String} {index : Nat} (hown : s.vm.findClass own = some m.cls) (hlink : (Cond.methodLink own index Lib.Math.max.name).before args s = true) (hstat : (Cond.static Lib.Math.max.name).before args s = true) (hini : (Cond.initialized "java/lang/Math").before args s = true) (hcode : (Cond.code Lib.Math.max.name Lib.Math.max.code 2 (some .int)).before args s = true)
    (hframes : 1 ≤ R.frames) (hlocals : (rest.map fun v => v.category).sum + 13 ≤ R.locals) (hc : cells ≤ R.cells) (hs : slots ≤ R.slots) {x y v : Int32} (hdg : decode cc pc = .ok (.invokestatic index, 3)) (hv : (if x < y then y else x) = v)
    (kk : W p l e R s m args below meth c H locs cells slots Q (F0 m (pc + 3) ls (.int v :: rest))) : W p l e R s m args below meth c H locs cells slots Q (F0 m pc ls (.int y :: .int x :: rest)) := by
  subst hv; exact va_mmax hx hb hml hown hlink hstat hini hcode hframes hlocals hc hs hdg kk
theorem xr_upd0 (k : Nat) : upd (fun _ => (0 : Int32)) k 0 = fun _ => 0 := by
  funext j; unfold upd; split <;> rfl
theorem xr_nar (v : Int32) : narrow .int (.int v) = .int v := rfl
theorem xr_fit (v : Int32) : fits .int (.int v) = true := rfl
end XR
theorem xr_ge0 {x : Int32} (h : ¬ x < 0) : 0 ≤ x := Int32.not_lt.mp h
theorem xr_m1 {x : Int32} (h : ¬ x < 0) : (-1) < x := by
  have h1 := Int32.le_iff_toInt_le.mp (Int32.not_lt.mp h)
  have h2 : (0 : Int32).toInt = 0 := by decide
  have h3 : (-1 : Int32).toInt = -1 := by decide
  rw [Int32.lt_iff_toInt_lt]; omega
theorem xr_n5 {x : Int32} (h : 5 ≤ x) : ¬ x < 5 := Int32.not_lt.mpr h
theorem xr_g4 {x : Int32} (h : 5 ≤ x) : 4 < x := by
  have h1 := Int32.le_iff_toInt_le.mp h
  have h2 : (5 : Int32).toInt = 5 := by decide
  have h3 : (4 : Int32).toInt = 4 := by decide
  rw [Int32.lt_iff_toInt_lt]; omega
theorem xr_le9 {x : Int32} (h : ¬ 9 < x) : x ≤ 9 := Int32.not_lt.mp h
theorem xr_nle9 {x : Int32} (h : 9 < x) : ¬ x ≤ 9 := Int32.not_le.mpr h
/-! methods that throw, and the catch in their caller: my own rows over the library's -/
section TXA
def tx_End (E : String) (mc ms : Nat) : Array Value → State → Outcome → State → Prop := fun _ st o t =>
  ∃ (q : Addr) (ce : Cell), o = .threw q ∧ st.WarmedH t.vm ∧ st.sameButNew ({ t with vm := st.vm } : State) [] mc ms ∧ t.heap[q]? = some ce ∧ ce.vm = .none ∧ st.vm.findClass E = some ce.cls
def tx_Met (l : Launch) (y : MethodName) (ws : List Cond) (rm : Room) (Pc : Array Value → State → Prop) (E : String) (mc ms : Nat) : Prop :=
  MetFree l y (headSpec ws rm) Pc (fun _ _ _ _ _ => True) (tx_End E mc ms)
def tx_Z (below : List Frame) (E : String) (a : Array Value) (s : State) (mc ms : Nat) : State → Prop := fun t => ∃ o, t.status = .running ∧ Ended t below o ∧ tx_End E mc ms a s o t
theorem tx_ofW {l : Launch} {y : MethodName} {ws ws' : List Cond} {rm : Room} {Pc : Array Value → State → Prop} {E : String} {mc ms : Nat} {cc : ByteArray} {maxL : Nat} {ret : Option FieldType}
    (hy : plainName y.cls = true) (hw : ws = Cond.code y cc maxL ret :: ws')
    (body : ∀ p e s m args below meth c s₁, BodyLoose p l y (headSpec ws rm) cc maxL ret e s m args below meth c s₁ → c.maxLocals = maxL → Pc args s →
      W p l e (headSpec ws rm).room s m args below meth c s.heap [] 0 0 (tx_Z below E args s mc ms) (entryFrame m args maxL)) : tx_Met l y ws rm Pc E mc ms := by
  refine MetFree.of_bodyS (code := cc) (maxLocals := maxL) (ret := ret) hy ?_ ?_
  · intro args s m h hn
    obtain ⟨meth, c, h1, h2, h3, h4, h5, h6, -, -⟩ := Cond.code_spec hn (atoms_spec (ws := ws) h _ (by rw [hw]; exact List.mem_cons_self))
    exact ⟨meth, c, h1, h2, h3, h4, h5, h6⟩
  · intro p e s m args below meth c s₁ B hml hP _
    have hh0 : s₁.heap = s.heap := by rw [B.state]; rfl
    obtain ⟨t, a1, o, b1, b2, b3⟩ := body p e s m args below meth c s₁ B hml hP s₁ hh0 (Stand.of_body B)
    exact ⟨t, o, a1, b1, b2, b3⟩
end TXA
section TXB
variable {p : Program} {l : Launch} {e : Env} {R : Room} {s : State} {m : MethodId} {args : Array Value} {below : List Frame} {meth : Method} {c : Code} {H : Heap} {cells slots : Nat}
/-- the constructor with a message, and the throw, out of the method -/
theorem tx_ctor {cc : ByteArray} {pc : Nat} {ls : Array Slot} (hx : p.tables.exec = Jvm.exec) (hb : c.code = cc) (hl : l.stackTraces = false) (hlocks : meth.locks = false) (hsize : ls.size = c.maxLocals)
    {own E : String} {names : List String} {ic sa a : Nat} {cX : ClassId} {kX : Class} (hown : s.vm.findClass own = some m.cls) (hE : Bundle.fit E = true) (hN : ∀ n ∈ names, Bundle.fit n = true)
    (hat : ∀ w ∈ Bundle.ownAtoms own ic E names, w.before args s = true) (hfX : s.vm.findClass E = some cX) (hkX : s.vm.classes[cX]? = some kX) (hcell : H[a]? = some (freshCell cX kX)) (hnew : s.heap.size ≤ a)
    (hd6 : decode cc pc = .ok (.invokespecial ic, 3)) (hd9 : decode cc (pc + 3) = .ok (.athrow, 1)) (hout : ∀ x ∈ c.exceptionTable.toList, covers x (pc + 3) = false)
    (hRf : names.length + 3 < R.frames) (hRl : 1 + (13 * (names.length + 1) + 42) ≤ R.locals) :
    W p l e R s m args below meth c H [] cells slots (tx_Z below E args s cells slots) (F0 m pc ls [.ref sa, .ref a, .ref a]) := by
  intro T hT X
  subst hb
  have htr : e.platform.stackTraces = false := by rw [X.admits.platform]; exact hl
  obtain ⟨U, hsteps, hrun, hend, hW, hsame, ce, hce, K⟩ := X.ctorThrowS hx htr (own := own) (cls := E) (names := names) (ic := ic) hown hE hN hat (fun y hy => by cases hy) hfX hkX (by rw [hT]; exact hcell) hnew (msg := .ref sa) rfl
    (g := F0 m pc ls [.ref sa, .ref a, .ref a]) rfl hsize rfl rfl (rest := []) rfl hd6 hd9 hout hRf (by simpa [JFrame.monitorRoom, Value.category] using hRl) hlocks
  exact ⟨U, hsteps, .threw a, hrun, hend, a, ce, rfl, hW, hsame, hce, K.vm, K.cls⟩
theorem tx_throw {cc : ByteArray} {pc : Nat} {ls : Array Slot} (hx : p.tables.exec = Jvm.exec) (hb : c.code = cc) (hl : l.stackTraces = false) (hlocks : meth.locks = false) (hsize : ls.size = c.maxLocals) (hgrow : s.heap.size ≤ H.size)
    {own E tx : String} {names : List String} {ik is ic sa : Nat} (hown : s.vm.findClass own = some m.cls) (hE : Bundle.fit E = true) (hN : ∀ n ∈ names, Bundle.fit n = true)
    (hat : ∀ w ∈ Bundle.ownAtoms own ic E names, w.before args s = true) (hcl : (Cond.classLink own ik E).before args s = true) (hins : (Cond.instantiable E 6).before args s = true) (hini : (Cond.initialized E).before args s = true) (hZ : vk_R own is tx sa s)
    (hd0 : decode cc pc = .ok (.new ik, 3)) (hd3 : decode cc (pc + 3) = .ok (.dup, 1)) (hd4 : decode cc (pc + 3 + 1) = .ok (.ldc is, 2)) (hd6 : decode cc (pc + 3 + 1 + 2) = .ok (.invokespecial ic, 3)) (hd9 : decode cc (pc + 3 + 1 + 2 + 3) = .ok (.athrow, 1))
    (hout : ∀ x ∈ c.exceptionTable.toList, covers x (pc + 3 + 1 + 2 + 3) = false) (hRc : cells + 1 ≤ R.cells) (hRs : slots + 6 ≤ R.slots) (hRf : names.length + 3 < R.frames) (hRl : 1 + (13 * (names.length + 1) + 42) ≤ R.locals) :
    W p l e R s m args below meth c H [] cells slots (tx_Z below E args s (cells + 1) (slots + 6)) (F0 m pc ls []) := by
  refine W.newc hx hb hown hcl hins hini rfl hd0 hRc hRs (fun cC kC h1 h2 h3 h4 => ?_)
  refine lv_dup hx hb hd3 rfl ?_
  refine va_ldcS hx hb hown hZ hd4 ?_
  refine tx_ctor hx hb hl hlocks hsize hown hE hN hat h1 h2 (a := H.size) ?_ hgrow hd6 hd9 hout hRf hRl
  show (H.push (freshCell cC kC))[H.size]? = _
  simp
end TXB
section TXC
theorem tx_found {e : Env} {s : State} {f : JFrame} {a : Addr} {meth : Method} {code : Code} (hm : s.vm.method? f.method = some meth) (hc : meth.code = some code) {x : ExceptionTableEntry} {rest : List ExceptionTableEntry} (hsplit : code.exceptionTable.toList = x :: rest) (hx : covers x f.pc = true) (h0 : x.catchType ≠ 0) {ct : ClassId} {cell : Cell}
    (hl : s.vm.ClassLinks e.platform f.method.cls x.catchType ct) (hcell : s.heap[a]? = some cell) (hobj : ∀ k, cell.vm ≠ .statics k) (hk : ∃ k, s.vm.classes[cell.cls]? = some k) (hct : ∃ k, s.vm.classes[ct]? = some k) (hfit : s.vm.assignable cell.cls ct = true)
    (Q : Handler → Pre) (E : CtlPost) (d : Bool) (acts : List Action) : wp (findHandler f a) Q E e d acts s ↔ Q (.found x.handlerPc) d acts (s.setVm (s.vm.noted f.method.cls x.catchType (.cls ct))) := by
  rw [Jvm.W.findHandler_eq hm hc, hsplit]
  simp only [covers] at hx
  obtain ⟨ha, ht⟩ := (resolveClass_links e.toSetting hl).op (op := VmOp.resolveClass f.method.cls x.catchType) rfl
  have hal : s.vm.Alike (s.vm.noted f.method.cls x.catchType (.cls ct)) := (Vm.Alike.refl s.vm).noted _ _ _
  obtain ⟨k1, hk1⟩ := hk
  obtain ⟨k2, hk2⟩ := hct
  obtain ⟨k1', hk1', -⟩ := hal.2.2 _ _ hk1
  obtain ⟨k2', hk2', -⟩ := hal.2.2 _ _ hk2
  have hfit' : (s.vm.noted f.method.cls x.catchType (.cls ct)).assignable cell.cls ct = true := by rw [hal.assignable]; exact hfit
  simp [findHandler.go, hx, h0, ha, ht, hcell, hobj, hk1', hk2', hfit', VmOp.dirties, VmOp.acts]
theorem tx_step {e : Env} {s : State} {a : Addr} {f : JFrame} {r : List Frame} {pc : Nat} {vm' : Vm} (hfind : ∀ (Q : Handler → Pre) (E : CtlPost) (d : Bool) (acts : List Action), wp (findHandler f a) Q E e d acts s ↔ Q (.found pc) d acts (s.setVm vm')) :
    (stepThrowing e s a (.java f :: r)).Is ((s.setVm vm').setFrames (.java { f with pc := pc, stack := [.ref a] } :: r)) [] := by
  simp only [stepThrowing, searchFrame, vmDo]
  generalize hr : Sem.go _ e false [] s = res
  obtain ⟨as, rfl, ha⟩ := Sem.eq_ok_of hr (a := Handler.found pc) (s' := s.setVm vm') (acts' := []) (by simp [hfind _ _ _ _])
  exact ⟨rfl, ha⟩
theorem tx_caught {tb : Tables} {e : Env} {s target : State} {g : JFrame} {c : Code} {below : List Frame} {a : Addr} (h : At s g.method c below) {pc : Nat} {vm' : Vm}
    (hfind : ∀ (Q : Handler → Pre) (E : CtlPost) (d : Bool) (acts : List Action), wp (findHandler g a) Q E e d acts ((s.setTop g).pushFrame (.throwing a)) ↔ Q (.found pc) d acts (((s.setTop g).pushFrame (.throwing a)).setVm vm'))
    (hrest : Steps tb e below ((s.setVm vm').setTop { g with pc := pc, stack := [.ref a] }) target) : Steps tb e below ((s.setTop g).pushFrame (.throwing a)) target := by
  obtain ⟨hgo, hw⟩ := h.throwing a
  refine Steps.head hgo hw ?_
  rw [stepThread_throwing (frames_entered h.top _), (tx_step (s := (s.setTop g).pushFrame (.throwing a)) hfind).1]
  obtain ⟨g₀, hg⟩ := Option.isSome_iff_exists.mp h.top
  obtain ⟨r, hr⟩ := State.topJava?_eq_some.mp hg
  have hr' : (s.setVm vm').frames = .java g₀ :: r := hr
  rw [State.setTop_of_frames _ hr'] at hrest
  have e1 : (((s.setTop g).pushFrame (.throwing a)).setVm vm').setFrames (.java { g with pc := pc, stack := [.ref a] } :: s.frames.tail) = (s.setVm vm').setFrames (.java { g with pc := pc, stack := [.ref a] } :: r) := by
    rw [hr, State.pushFrame, State.setTop_of_frames _ hr]
    show (((s.setVm vm').setFrames (.java g :: r)).setFrames (.throwing a :: (s.setFrames (.java g :: r)).frames)).setFrames (.java { g with pc := pc, stack := [.ref a] } :: r) = _
    rw [State.setFrames_setFrames, State.setFrames_setFrames]
  rw [e1]
  exact hrest
end TXC
section TXF
theorem tx_frame {s U : State} {k n : Nat} (h : s.sameButNew ({ U with vm := s.vm } : State) [] k n) : s.heap.size ≤ U.heap.size ∧ ∀ q : Nat, q < s.heap.size → U.heap[q]? = s.heap[q]? := by
  obtain ⟨-, h2, -, -, -, h6⟩ := h
  refine ⟨h2, fun q hq => ?_⟩
  obtain ⟨c9, e1, e2, -, e4⟩ := h6 q _ (Array.getElem?_eq_getElem hq)
  have hs : c9.slots = (s.heap[q]).slots := Array.ext_getElem? fun i => e4 i (fun hm => nomatch hm)
  rw [hs] at e2
  have e5 : U.heap[q]? = some c9 := e1
  rw [e5, Array.getElem?_eq_getElem hq, e2]
end TXF
section TXD
variable {p : Program} {l : Launch} {e : Env} {R : Room} {s : State} {m : MethodId} {args : Array Value} {below : List Frame} {meth : Method} {c : Code} {H : Heap} {locs : List Loc} {cells slots : Nat} {Q : State → Prop}
  {Ts ws ws' : List Cond} {cc bytes : ByteArray} {nL maxL index n mc ms : Nat} {own C : String} {y : MethodName} {ret : Option FieldType} {rm : Room} {Pc : Array Value → State → Prop} {b : Addr} {As rest : List Value}
/-- a call whose method throws an E, caught by the first row of this method's table -/
theorem tx_callV {E nm : String} {x : ExceptionTableEntry} {suf : List ExceptionTableEntry} {pc : Nat} {ls : Array Slot} (S : CallFix p m c cc nL s args Ts own) (hM : tx_Met l y ws rm Pc E mc ms) (cw : CallW R s args own C index y bytes maxL ret ws rm mc ms n) (hp : PreV s H C b Pc As)
    (hn : As.length = n) (hsize : ls.size = nL) (hW : 2 * (F0 m pc ls rest).monitorRoom + (rest.map fun v => v.category).sum ≤ 8) (hdg : decode cc pc = .ok (.invokevirtual index, 3)) (hf : cells + mc ≤ R.cells ∧ slots + ms ≤ R.slots)
    (hsplit : c.exceptionTable.toList = x :: suf) (hcov : covers x pc = true) (h0 : x.catchType ≠ 0) (hlink : (Cond.classLink own x.catchType nm).before args s = true) (hcast : (Cond.castable E nm).before args s = true)
    (kk : ∀ (q : Nat) (H1 : Heap), H.size ≤ H1.size → (∀ z : Nat, z < H.size → H1[z]? = H[z]?) → W p l e R s m args below meth c H1 locs (cells + mc) (slots + ms) Q (F0 m x.handlerPc ls [.ref q])) :
    W p l e R s m args below meth c H locs cells slots Q (F0 m pc ls (As.reverse ++ .ref b :: rest)) := by
  obtain ⟨⟨hrc, hrs, hfr, hlo, hws, hcw, hcode, hini, hy, hlen, hl⟩, hinst, hsel⟩ := cw
  obtain ⟨hx, hb, hml, hown, -⟩ := S
  obtain ⟨hblind, ⟨cellB, hcB, hoB, hclB⟩, hPc⟩ := hp
  intro T hT X
  subst hb
  have hpl : e.platform.magicAccessors = ({} : Platform).magicAccessors := by rw [X.admits.platform]
  obtain ⟨mk, methM, hnamed, hmethM, hstM, habM⟩ := Cond.instanceMethod_spec hinst
  obtain ⟨methM', cM, hmethM', hcM, -, hlM, -, -, -, hsigM⟩ := Cond.code_spec hnamed hcode
  cases hmethM.symm.trans hmethM'
  obtain ⟨c2, r2, m2, q1, q2, q3, q4, kP, hkP, hkPi⟩ := Cond.selects_spec hsel
  cases hclB.symm.trans q1
  cases (State.methodFound?_of_named hnamed hy).symm.trans q2
  cases hnamed.symm.trans q3
  have hselP : selectMethod e.platform s.vm cellB.cls mk = .method mk := by rw [Launch.admits_selectMethod X.admits]; exact q4
  obtain ⟨vm₁, X₁, hstep₁⟩ := X.invokevirtual hx hown hl hnamed hmethM hstM hkP hkPi hy (a := b) (cell := cellB) (by rw [hT]; exact hcB)
    (fun z h => by rw [h] at hoB; cases hoB) hselP hmethM habM hkP hkPi (g := F0 m pc ls (As.reverse ++ .ref b :: rest)) rfl (argsL := As) (rest := rest) (hn.trans (hlen _ hsigM)) rfl hdg
  have hcode₁ : (Cond.code y bytes maxL ret).before (Value.ref b :: As).toArray (T.setVm vm₁) = true := hws _ hcw _ _ X₁.warmed
  have hn₁ : (T.setVm vm₁).methodNamed? y = some mk := X₁.named hnamed
  obtain ⟨methY, cY, hmY, hcY, -, hlY, -, -, -, -⟩ := Cond.code_spec hn₁ hcode₁
  obtain ⟨kY, hkY, -⟩ := className_of_methodNamed hn₁
  have hinitY : kY.init = .initialized := Cond.initialized_spec (findClass_of_methodNamed hn₁) hkY (word_at (a' := #[]) X₁.warmed (Or.inl (by first | rfl | simp [Cond.onTables, Cond.keeps, Cond.steady])) hini)
  have h : At (T.setVm vm₁) m c below := X₁.here
  have hW : 2 * (F0 m pc ls rest).monitorRoom + ((F0 m pc ls rest).stack.map fun v => v.category).sum ≤ 8 := hW
  have hwsA : (headSpec ws rm).pre.before (Value.ref b :: As).toArray (T.setVm vm₁) = true := atoms_intro fun w hw => hws w hw _ _ X₁.warmed
  have happ : (headSpec ws rm).appliesLoose y e.platform ((T.setVm vm₁).calling (F0 m pc ls rest) mk (Value.ref b :: As).toArray) = true :=
    Spec.appliesLoose_calling (g := F0 m pc ls rest) h hdg hn₁ hkY hinitY
      (X₁.room_calling (g := F0 m pc ls rest) (R' := rm) (hsize.trans hml.symm) hmY hcY hfr (by rw [hlY]; omega) (by rw [hrc]; exact hf.1) (by rw [hrs]; exact hf.2)) hwsA
  obtain ⟨mid, hmid⟩ := h.above
  have hfrm : ((T.setVm vm₁).setTop (F0 m pc ls rest)).frames = (.java (F0 m pc ls rest) :: mid) ++ below := by rw [State.frames_setTop' _ h.top, hmid]; rfl
  obtain ⟨o, s₂, hsteps, -, hend, hq⟩ := Steps.callFree hM p X₁.admits X₁.cas X₁.clock (acts := []) hfrm happ (hblind _ _ _ _ (hPc (T.setVm vm₁) hT X₁.warmed)) trivial
  have hq' : tx_End E mc ms (Value.ref b :: As).toArray ((T.setVm vm₁).calling (F0 m pc ls rest) mk (Value.ref b :: As).toArray) o s₂ := hq
  obtain ⟨q, ce, rfl, hW₂, hsm, hce, hcv, hcls⟩ := hq'
  rw [State.frames_setTop' _ h.top] at hend
  have hf₂ : s₂.frames = .throwing q :: .java (F0 m pc ls rest) :: (T.setVm vm₁).frames.tail := hend
  obtain ⟨e2, q2', q3', q4', q5', q6'⟩ := id hsm
  have e3 : s₂ = ({ ((T.setVm vm₁).calling (F0 m pc ls rest) mk (Value.ref b :: As).toArray).setFrames s₂.frames with heap := s₂.heap, slotsUsed := s₂.slotsUsed } : State).setVm s₂.vm := by
    have : s₂ = ({ s₂ with vm := ((T.setVm vm₁).calling (F0 m pc ls rest) mk (Value.ref b :: As).toArray).vm } : State).setVm s₂.vm := rfl
    rw [e2] at this
    exact this
  have hW' : (T.setVm vm₁).WarmedH s₂.vm := hW₂
  obtain ⟨g₀, hg0⟩ := Option.isSome_iff_exists.mp h.top
  obtain ⟨r, hr⟩ := State.topJava?_eq_some.mp hg0
  generalize hU : (({ (T.setVm vm₁) with heap := s₂.heap, slotsUsed := s₂.slotsUsed } : State).setVm s₂.vm) = U
  have hrU : U.frames = .java g₀ :: r := by rw [← hU]; exact hr
  have hs₂ : s₂ = (U.setTop (F0 m pc ls rest)).pushFrame (.throwing q) := by
    refine e3.trans ?_
    rw [hf₂, State.calling_eq h.top, State.setFrames_setFrames, State.pushFrame, State.frames_setTop _ hrU, State.setTop_of_frames _ hrU, State.setFrames_setFrames, hr, ← hU]
    rfl
  have hsame : (T.setVm vm₁).sameButNew ({ (T.setVm vm₁) with heap := s₂.heap, slotsUsed := s₂.slotsUsed } : State) [] mc ms := by
    refine ⟨?_, q2', q3', q4', q5', q6'⟩
    obtain ⟨t, ht, -⟩ := State.frames_cons hr
    show ({ (T.setVm vm₁) with heap := s₂.heap, slotsUsed := s₂.slotsUsed } : State) = { (T.setVm vm₁).setFrames (T.setVm vm₁).frames with heap := s₂.heap, slotsUsed := s₂.slotsUsed }
    rw [State.setFrames_self ht]
  have XU : Stand p l e R s m args below meth c U (locs ++ []) (cells + mc) (slots + ms) := by
    rw [← hU]
    exact ⟨X₁.admits, X₁.cas, X₁.clock, X₁.frames, X₁.room, X₁.hears, X₁.method, X₁.code, (X₁.here.setHeapUsed s₂.heap s₂.slotsUsed).setVm hW'.alike, X₁.tail, State.WarmedH.trans X₁.warmed hW', X₁.limits, X₁.bytes, X₁.same.trans (hsame.setVm s.vm)⟩
  rw [List.append_nil] at XU
  have hUheap : U.heap = s₂.heap := by rw [← hU]; rfl
  have hfr2 := tx_frame hsm
  have hc0 : ((T.setVm vm₁).calling (F0 m pc ls rest) mk (Value.ref b :: As).toArray).heap = H := hT
  rw [hc0] at hfr2
  obtain ⟨c3, c4, hc3, hc4, hasg⟩ := Cond.castable_spec hcast
  have hclsS : s.vm.findClass E = some ce.cls := by
    have h1 : vm₁.findClass E = some ce.cls := hcls
    have h2 := X₁.warmed.alike.findClass E
    exact (h2 _).symm.trans h1
  cases Option.some.inj (hc3.symm.trans hclsS)
  obtain ⟨c5, hc5, hcl5⟩ := Cond.classLink_spec hown hlink e.platform hpl
  cases Option.some.inj (hc4.symm.trans hc5)
  have hWU : s.WarmedH U.vm := XU.warmed
  obtain ⟨dk, _, _, kt, hd, _, _, _, _, hkt, _, hopen⟩ := hcl5.here
  have hWn : s.WarmedH (U.vm.noted m.cls x.catchType (.cls c4)) := hWU.noted hd hopen (State.rightAt_cls hcl5)
  have hk1 : ∃ k, U.vm.classes[ce.cls]? = some k := by
    obtain ⟨k, hk⟩ := Vm.classAt_of_findClass hclsS
    obtain ⟨k', h', -⟩ := hWU.alike.2.2 _ _ hk
    exact ⟨k', h'⟩
  have hk2 : ∃ k, U.vm.classes[c4]? = some k := by
    obtain ⟨k', h', -⟩ := hWU.alike.2.2 _ _ hkt
    exact ⟨k', h'⟩
  have hvmS : ((U.setTop (F0 m pc ls rest)).pushFrame (.throwing q)).vm = U.vm := Stand.throwing_vm U (F0 m pc ls rest) q
  have hfind := tx_found (e := e) (s := (U.setTop (F0 m pc ls rest)).pushFrame (.throwing q)) (f := F0 m pc ls rest) (a := q) (meth := meth) (code := c) (by rw [hvmS]; exact XU.method') XU.code hsplit hcov h0 (ct := c4) (cell := ce) (by rw [hvmS]; exact hWU.classLinks hcl5) (by rw [Stand.throwing_heap, hUheap]; exact hce) (fun k => by rw [hcv]; intro h; cases h) (by rw [hvmS]; exact hk1) (by rw [hvmS]; exact hk2) (by rw [hvmS, hWU.alike.assignable]; exact hasg)
  rw [hvmS] at hfind
  obtain ⟨t, a1, b1⟩ := kk q s₂.heap hfr2.1 hfr2.2 (U.setVm (U.vm.noted m.cls x.catchType (.cls c4))) hUheap (XU.noted hWn)
  refine ⟨t, hstep₁ _ (fun acts => ?_), b1⟩
  rw [doInvoke_state]
  refine hsteps.trans ?_
  rw [hs₂]
  exact tx_caught XU.here hfind a1
end TXD
section TXE
variable {p : Program} {l : Launch} {e : Env} {R : Room} {s : State} {m : MethodId} {args : Array Value} {below : List Frame} {meth : Method} {c : Code} {H : Heap} {locs : List Loc} {cells slots : Nat} {Q : State → Prop}
/-- the rows of a method's table, by its word -/
theorem tx_hand {y : MethodName} {S : Spec} {cc : ByteArray} {maxL : Nat} {ret : Option FieldType} {hh : List (Nat × Nat × Nat × Nat)} {s₁ : State} (B : BodyLoose p l y S cc maxL ret e s m args below meth c s₁) (h : (Cond.codeWith y cc maxL ret hh).before args s = true) :
    c.exceptionTable.toList.map (fun h => (h.startPc, h.endPc, h.handlerPc, h.catchType)) = hh := by
  obtain ⟨m9, meth', c', hn9, hm', hc', -, -, he', -⟩ := Cond.codeWith_spec h
  cases B.named.symm.trans hn9
  cases B.method.symm.trans hm'
  cases (Stand.of_body B).code.symm.trans hc'
  exact he'
/-- a static call of a method with a table, on a road where it comes back -/
theorem tx_runSW {y : MethodName} {bytes cc : ByteArray} {maxL nL mc ms n index : Nat} {ret : Option FieldType} {hh : List (Nat × Nat × Nat × Nat)} {ws : List Cond} {rm : Room} {Pc : Array Value → State → Prop} {Qc : Array Value → State → Outcome → State → Prop} {free : Addr → Prop} {Ts : List Cond} {own : String} {As rest : List Value} {g : JFrame}
    (S : CallFix p m c cc nL s args Ts own) (hM : Met l y ws rm Pc Qc mc ms free) (hrc : rm.cells = mc) (hrs : rm.slots = ms) (hfr : rm.frames + 1 ≤ R.frames) (hlo : 8 + (maxL + 11) + rm.locals ≤ R.locals) (hws : ∀ w ∈ ws, ∀ (a' : Array Value) (U : State), s.WarmedH U.vm → w.before a' U = true) (hcw : Cond.codeWith y bytes maxL ret hh ∈ ws)
    (hcode : (Cond.codeWith y bytes maxL ret hh).before args s = true) (hini : (Cond.initialized y.cls).before args s = true) (hy : y.cls ≠ "java/lang/invoke/MethodHandle" ∧ y.cls ≠ "java/lang/invoke/VarHandle") (hlen : (parseMethodDescriptor y.desc).map (fun d => d.parameters.length) = some n) (hlink : (Cond.methodLink own index y).before args s = true) (hstat : (Cond.static y).before args s = true)
    (hp : PreS s H Pc As) (hg : g.method = m) (hn : As.length = n) (hsize : g.locals.size = nL) (hstack : g.stack = As.reverse ++ rest) (hW : 2 * g.monitorRoom + (rest.map fun v => v.category).sum ≤ 8) (hdg : decode cc g.pc = .ok (.invokestatic index, 3)) (hf : cells + mc ≤ R.cells ∧ slots + ms ≤ R.slots) :
    va_Run p l e R s m args below meth c H locs cells slots mc ms g rest (Qc As.toArray) (free) := by
  have hK : Back l R p e below s args y 3 8 (PreOf R mc ms Pc) (PostOf Qc mc ms free) := va_backW (hh := hh) (bytes := bytes) (maxL := maxL) (ret := ret) hM hp.1 hrc hrs hfr hlo hws hcw (fun a' U hW => word_at hW (Or.inl (by first | rfl | simp [Cond.onTables, Cond.keeps, Cond.steady])) hini)
  obtain ⟨hx, hb, hml, ho, -⟩ := S
  intro T hT X
  subst hb
  obtain ⟨mk, methM, cM, hnamed, hmethM, -, -, -, -, -, -, hsigM⟩ := Cond.codeWith_spec hcode
  have hstatic : methM.isStatic = true := Cond.static_spec hnamed hmethM hstat
  obtain ⟨kP, hkP, -⟩ := className_of_methodNamed hnamed
  have hinitP : kP.init = .initialized := Cond.initialized_spec (findClass_of_methodNamed hnamed) hkP hini
  have hlen2 : As.length = methM.sig.parameters.length := by
    rw [hsigM] at hlen
    exact hn.trans (Option.some.inj hlen).symm
  obtain ⟨vm₁, X₁, hstep₁⟩ := X.invokestatic hx ho hlink hnamed hmethM hstatic hkP hinitP hy (g := g) hg (argsL := As) (rest := rest) hlen2 hstack hdg
  obtain ⟨v, ⟨U', l2, c2, s2⟩, X', ⟨g', mk', t, L, e1, e2, hq, h1, hL, h2, h3⟩, hsteps⟩ := hK m meth c ⟨T.setVm vm₁, locs, cells, slots⟩ { g with stack := rest } (.invokestatic index) mk As.toArray X₁ hg (hsize.trans hml.symm) hdg hW (X₁.named hnamed) ⟨hf.1, hf.2, hp.2 (T.setVm vm₁) hT X₁.warmed⟩
  dsimp only [Pt.U, Pt.locs, Pt.cells, Pt.slots] at X' e1 e2 h1 h2 h3 hsteps
  subst h1; subst h2; subst h3
  exact ⟨v, (T.setVm vm₁).calling g' mk' As.toArray, t, U', L, hT, X', hL, e1, e2, hq, fun target h => hstep₁ _ fun acts => by rw [doInvoke_state]; exact hsteps.trans h⟩
end TXE
/-! what a throw needs beside the tables' words: statics of Throwable, castables, String constants: carried from the law's start -/
def tx_st : List Cond := [.laysStatic Bundle.tN "UNASSIGNED_STACK" Bundle.steD, .laysStatic Bundle.tN "SUPPRESSED_SENTINEL" Bundle.listD, .isRef (.static Bundle.tN "UNASSIGNED_STACK" Bundle.steD), .isRef (.static Bundle.tN "SUPPRESSED_SENTINEL" Bundle.listD)]
def tx_on : List Cond := [.castable xIAE xIAE, .castable xIOB xIOB, .castable xISE xISE, .declares (Bundle.initS "java/lang/RuntimeException"), .declares (Bundle.initS "java/lang/Exception"), .declares (Bundle.initS Bundle.tN)]
theorem tx_rest : ∀ w ∈ xat.filter (fun w => !goodWord w), w ∈ tx_st ++ tx_on := by decide +kernel
theorem tx_laysStatic {u U : State} {C n d : String} {a a' : Array Value} (hv : U.vm = u.vm) (hk : ∀ z : Nat, z < u.heap.size → U.heap[z]? = u.heap[z]?) (h : (Cond.laysStatic C n d).before a u = true) : (Cond.laysStatic C n d).before a' U = true := by
  obtain ⟨c, k, i, f, q, cell, hc, hi, hst, ha, hcell, hs, hcls, hlt, hty⟩ := Cond.laysStatic_spec h
  have hi' : U.fieldFound? C n d = some (c, k, i, f) := by
    have h1 := hi
    unfold State.fieldFound? at h1 ⊢
    rw [hv]; exact h1
  have hc' : U.vm.findClass C = some c := by rw [hv]; exact hc
  have hcell' : U.heap[q]? = some cell := by rw [hk q (Array.getElem?_eq_some_iff.mp hcell).1]; exact hcell
  simp [Cond.before, Cond.holds, Cond.value, hc', hi', ha, hcell', hst, hs, hcls, hlt, hty]
theorem tx_isRef {u U : State} {C n d : String} {a a' : Array Value} (hv : U.vm = u.vm) (hk : ∀ z : Nat, z < u.heap.size → U.heap[z]? = u.heap[z]?) (h0 : (Cond.laysStatic C n d).before a u = true) (h : (Cond.isRef (.static C n d)).before a u = true) : (Cond.isRef (.static C n d)).before a' U = true := by
  obtain ⟨c, k, i, f, q, cell, hc, hi, hst, ha, hcell, hs, hcls, hlt, hty⟩ := Cond.laysStatic_spec h0
  have hi' : U.fieldFound? C n d = some (c, k, i, f) := by
    have h1 := hi
    unfold State.fieldFound? at h1 ⊢
    rw [hv]; exact h1
  have hcell' : U.heap[q]? = some cell := by rw [hk q (Array.getElem?_eq_some_iff.mp hcell).1]; exact hcell
  have e1 : (Term.static C n d).eval a u none [] u = cell.slots[f.slot]? := by simp [Term.eval, State.fieldNamed?, hi, hst, ha, hcell, hs]
  have e2 : (Term.static C n d).eval a' U none [] U = cell.slots[f.slot]? := by simp [Term.eval, State.fieldNamed?, hi', hst, ha, hcell', hs]
  simp only [Cond.before, Cond.holds, Cond.value] at h ⊢
  rw [e2, ← e1]; exact h
def tx_str : List (Nat × String) := [(67, "not 1 to 8 characters"), (78, "more than 240 characters"), (92, "no such side or level"), (97, "more than 12 fixities"), (115, "more than 90 lexemes"), (125, "the text is wrong"), (163, "no such token"), (174, "no such count")]
def tx_no : Cond := .not (.castable xISE xIAE)
def tx_C (U : State) : Prop := (∀ w ∈ tx_st, w.before #[] U = true) ∧ (∀ w ∈ tx_on, va_Nw w U) ∧ va_Nw tx_no U ∧ ∀ z ∈ tx_str, ∃ q, vk_R R_LF z.1 z.2 q U
theorem tx_st_same {u U : State} (hv : U.vm = u.vm) (hk : ∀ z : Nat, z < u.heap.size → U.heap[z]? = u.heap[z]?) (h : ∀ w ∈ tx_st, w.before #[] u = true) : ∀ w ∈ tx_st, w.before #[] U = true := by
  have h1 := h _ (List.mem_of_getElem? (i := 0) rfl)
  have h2 := h _ (List.mem_of_getElem? (i := 1) rfl)
  have h3 := h _ (List.mem_of_getElem? (i := 2) rfl)
  have h4 := h _ (List.mem_of_getElem? (i := 3) rfl)
  intro w hw
  simp only [tx_st, List.mem_cons, List.not_mem_nil, or_false] at hw
  rcases hw with rfl | rfl | rfl | rfl
  · exact tx_laysStatic hv hk h1
  · exact tx_laysStatic hv hk h2
  · exact tx_isRef hv hk h1 h3
  · exact tx_isRef hv hk h2 h4
theorem tx_no_moved {u U : State} (hv : u.vm.Alike U.vm) (h : va_Nw tx_no u) : va_Nw tx_no U := by
  have h1 := Cond.holds_not_iff.mp h
  refine Cond.holds_not_iff.mpr ?_
  simp only [Cond.value] at h1 ⊢
  rw [hv.findClass, hv.findClass]
  cases ha : u.vm.findClass xISE with
  | none => simp [ha] at h1
  | some a =>
    cases hb : u.vm.findClass xIAE with
    | none => simp [ha, hb] at h1
    | some b =>
      simp only [ha, hb] at h1 ⊢
      rw [hv.assignable]; exact h1
theorem tx_C.same {u U : State} (hv : U.vm = u.vm) (hh : U.heap = u.heap) (h : tx_C u) : tx_C U := by
  obtain ⟨h1, h2, h8, h3⟩ := h
  refine ⟨tx_st_same hv (fun z _ => by rw [hh]) h1, fun w hw => ?_, tx_no_moved (by rw [hv]; exact Vm.Alike.refl _) h8, fun z hz => (h3 z hz).imp fun q hq => hq.same hv⟩
  have h7 := h2 w hw
  simp only [tx_on, List.mem_cons, List.not_mem_nil, or_false] at hw
  rcases hw with rfl | rfl | rfl | rfl | rfl | rfl <;> exact va_Nw.same rfl hv.symm h7
theorem tx_C.warm {s U : State} (hW : s.WarmedH U.vm) (hk : ∀ z : Nat, z < s.heap.size → U.heap[z]? = s.heap[z]?) (h : tx_C s) : tx_C U := by
  obtain ⟨h1, h2, h8, h3⟩ := h
  have h0 : ∀ w ∈ tx_st, w.before #[] (s.setVm U.vm) = true := fun w hw => by
    have h7 := h1 w hw
    simp only [tx_st, List.mem_cons, List.not_mem_nil, or_false] at hw
    rcases hw with rfl | rfl | rfl | rfl <;> exact Cond.holds_shifted (args := #[]) (o := none) (State.Shifted.of_warmed hW) _ [] rfl h7
  refine ⟨tx_st_same (u := s.setVm U.vm) rfl hk h0, fun w hw => ?_, tx_no_moved hW.alike h8, fun z hz => (h3 z hz).imp fun q hq => hq.warm hW⟩
  have h7 := h2 w hw
  simp only [tx_on, List.mem_cons, List.not_mem_nil, or_false] at hw
  rcases hw with rfl | rfl | rfl | rfl | rfl | rfl
  · exact va_Nw.warmC hW h7
  · exact va_Nw.warmC hW h7
  · exact va_Nw.warmC hW h7
  · exact va_Nw.warmD hW h7
  · exact va_Nw.warmD hW h7
  · exact va_Nw.warmD hW h7
theorem tx_hat {args : Array Value} {s : State} (hz : ∀ w ∈ wz, w.before args s = true) (h : tx_C s) : ∀ w ∈ xat, w.before args s = true := by
  intro w hw
  by_cases hg : goodWord w = true
  · exact hz w (zx hw hg)
  · have h1 : w ∈ tx_st ++ tx_on := tx_rest w (List.mem_filter.mpr ⟨hw, by simpa using hg⟩)
    rcases List.mem_append.mp h1 with h2 | h2
    · have h3 := h.1 w h2
      have h4 := tx_st_same (u := s) (U := s) rfl (fun _ _ => rfl) h.1 w h2
      simp only [tx_st, List.mem_cons, List.not_mem_nil, or_false] at h2
      have i1 := h.1 _ (List.mem_of_getElem? (i := 0) rfl)
      have i2 := h.1 _ (List.mem_of_getElem? (i := 1) rfl)
      rcases h2 with rfl | rfl | rfl | rfl
      · exact tx_laysStatic (u := s) rfl (fun _ _ => rfl) h3
      · exact tx_laysStatic (u := s) rfl (fun _ _ => rfl) h3
      · exact tx_isRef (u := s) rfl (fun _ _ => rfl) i1 h3
      · exact tx_isRef (u := s) rfl (fun _ _ => rfl) i2 h3
    · have h3 := h.2.1 w h2
      simp only [tx_on, List.mem_cons, List.not_mem_nil, or_false] at h2
      rcases h2 with rfl | rfl | rfl | rfl | rfl | rfl <;> exact va_Nw.use rfl h3
theorem tx_hIAE {args : Array Value} {s : State} (hz : ∀ w ∈ wz, w.before args s = true) (h : tx_C s) : ∀ w ∈ Bundle.ownAtoms R_LF 69 xIAE xup, w.before args s = true := fun w hw => tx_hat hz h w (List.mem_append_left _ hw)
theorem tx_hIOB {args : Array Value} {s : State} (hz : ∀ w ∈ wz, w.before args s = true) (h : tx_C s) : ∀ w ∈ Bundle.ownAtoms R_LF 165 xIOB xup, w.before args s = true := fun w hw => tx_hat hz h w (List.mem_append_right _ (List.mem_append_left _ hw))
theorem tx_hISE {args : Array Value} {s : State} (hz : ∀ w ∈ wz, w.before args s = true) (h : tx_C s) : ∀ w ∈ Bundle.ownAtoms R_LF 80 xISE xup, w.before args s = true := fun w hw => tx_hat hz h w (List.mem_append_right _ (List.mem_append_right _ hw))
theorem zH {args : Array Value} {s : State} {y : MethodName} {b : ByteArray} {n : Nat} {r : Option FieldType} {hh : List (Nat × Nat × Nat × Nat)} (hz : ∀ w ∈ wz, w.before args s = true) (h : Cond.codeWith y b n r hh ∈ wz) : ∀ w ∈ Cond.codeWith y b n r hh :: wz, ∀ (a' : Array Value) (U : State), s.WarmedH U.vm → w.before a' U = true :=
  fun w hw a' U hW => (List.mem_cons.mp hw).elim (fun e => by rw [e]; exact word_at hW (zgood _ h).2 (hz _ h)) (fun h2 => word_at hW (zgood w h2).2 (hz w h2))
/-! bytes of a long, for both sides' write (uN, uN_shr, uN_sk: from kit/laws/BITS.to-paste) -/
def uN (x : Int64) : Nat := x.toUInt64.toNat
theorem uN_lt (x : Int64) : uN x < 18446744073709551616 := x.toUInt64.toNat_lt
theorem uN_shr (x : Int64) (s : UInt64) : uN (x.toUInt64 >>> s).toInt64 = uN x / 2 ^ (s.toNat % 64) := by
  show (x.toUInt64 >>> s).toNat = _
  rw [UInt64.toNat_shiftRight, Nat.shiftRight_eq_div_pow]
  rfl
theorem uN_sk (x : Int64) {k : Nat} (hk : k < 64) : uN (x.toUInt64 >>> ((nI k).toInt64.toUInt64 &&& Int64.toUInt64 63)).toInt64 = uN x / 2 ^ k := by
  have h : ((nI k).toInt64.toUInt64 &&& Int64.toUInt64 63).toNat % 64 = k := by
    rw [nI_l (by omega), UInt64.toNat_and]
    have e : (lN k).toUInt64.toNat = k % 2 ^ 64 := rfl
    have e2 : (Int64.toUInt64 63).toNat = 2 ^ 6 - 1 := by decide
    rw [e, e2, Nat.and_two_pow_sub_one_eq_mod]
    omega
  rw [uN_shr, h]
def by_ (v : Int64) (i : Nat) : Nat := uN v / 2 ^ (8 * i) % 256
theorem by_lt (v : Int64) (i : Nat) : by_ v i < 256 := Nat.mod_lt _ (by decide)
theorem by_lo (y : Int64) : y.toInt32.toBitVec.toNat = uN y % 2 ^ 32 := by
  rw [Int64.toBitVec_toInt32, BitVec.signExtend_eq_setWidth_of_le _ (by decide), BitVec.toNat_setWidth]
  rfl
theorem by_c (v : Int64) {i : Nat} (hi : i < 8) : (v.toUInt64 >>> ((nI (8 * i)).toInt64.toUInt64 &&& Int64.toUInt64 63)).toInt64.toInt32 &&& 255 = nI (by_ v i) := by
  rw [pk_and _ 8 (by decide), by_lo, uN_sk v (by omega)]
  have h : uN v / 2 ^ (8 * i) % 2 ^ 32 % 2 ^ 8 = uN v / 2 ^ (8 * i) % 256 := by omega
  rw [h]
  rfl
theorem by_sr (v D : Int64) {k : Nat} (hD : (D.toBitVec.smod 64).toNat = k) : (v >>> D).toInt = v.toInt / 2 ^ k := by
  show (v.toBitVec.sshiftRight (D.toBitVec.smod 64).toNat).toInt = _
  rw [hD, BitVec.toInt_sshiftRight, Int.shiftRight_eq_div_pow]
  rfl
theorem by_ti (v : Int64) : v.toInt = if 2 * uN v < 18446744073709551616 then (uN v : Int) else (uN v : Int) - 18446744073709551616 := by
  have c := BitVec.toInt_eq_toNat_cond v.toBitVec
  exact c
theorem by_m (v : Int64) {i : Nat} (hi : i < 8) : ((v >>> ((nI (8 * i)).toInt64 &&& 63)) &&& 255).toInt32 = nI (by_ v i) := by
  have hu : uN ((v >>> ((nI (8 * i)).toInt64 &&& 63)) &&& 255) = uN (v >>> ((nI (8 * i)).toInt64 &&& 63)) % 256 := by
    show ((v >>> ((nI (8 * i)).toInt64 &&& 63)).toUInt64 &&& Int64.toUInt64 255).toNat = _
    rw [UInt64.toNat_and]
    exact Nat.and_two_pow_sub_one_eq_mod _ 8
  have h8 : i = 0 ∨ i = 1 ∨ i = 2 ∨ i = 3 ∨ i = 4 ∨ i = 5 ∨ i = 6 ∨ i = 7 := by omega
  have hz : uN (v >>> ((nI (8 * i)).toInt64 &&& 63)) % 256 = by_ v i := by
    have t1 := by_ti v
    have t2 := by_ti (v >>> ((nI (8 * i)).toInt64 &&& 63))
    have l1 := uN_lt v
    have l2 := uN_lt (v >>> ((nI (8 * i)).toInt64 &&& 63))
    unfold by_
    rcases h8 with rfl | rfl | rfl | rfl | rfl | rfl | rfl | rfl
    · have hs := by_sr v ((nI (8 * 0)).toInt64 &&& 63) (k := 0) (by decide)
      rw [hs, t1] at t2
      generalize uN (v >>> ((nI (8 * 0)).toInt64 &&& 63)) = z at *
      generalize uN v = n at *
      split at t2 <;> split at t2 <;> omega
    · have hs := by_sr v ((nI (8 * 1)).toInt64 &&& 63) (k := 8) (by decide)
      rw [hs, t1] at t2
      generalize uN (v >>> ((nI (8 * 1)).toInt64 &&& 63)) = z at *
      generalize uN v = n at *
      split at t2 <;> split at t2 <;> omega
    · have hs := by_sr v ((nI (8 * 2)).toInt64 &&& 63) (k := 16) (by decide)
      rw [hs, t1] at t2
      generalize uN (v >>> ((nI (8 * 2)).toInt64 &&& 63)) = z at *
      generalize uN v = n at *
      split at t2 <;> split at t2 <;> omega
    · have hs := by_sr v ((nI (8 * 3)).toInt64 &&& 63) (k := 24) (by decide)
      rw [hs, t1] at t2
      generalize uN (v >>> ((nI (8 * 3)).toInt64 &&& 63)) = z at *
      generalize uN v = n at *
      split at t2 <;> split at t2 <;> omega
    · have hs := by_sr v ((nI (8 * 4)).toInt64 &&& 63) (k := 32) (by decide)
      rw [hs, t1] at t2
      generalize uN (v >>> ((nI (8 * 4)).toInt64 &&& 63)) = z at *
      generalize uN v = n at *
      split at t2 <;> split at t2 <;> omega
    · have hs := by_sr v ((nI (8 * 5)).toInt64 &&& 63) (k := 40) (by decide)
      rw [hs, t1] at t2
      generalize uN (v >>> ((nI (8 * 5)).toInt64 &&& 63)) = z at *
      generalize uN v = n at *
      split at t2 <;> split at t2 <;> omega
    · have hs := by_sr v ((nI (8 * 6)).toInt64 &&& 63) (k := 48) (by decide)
      rw [hs, t1] at t2
      generalize uN (v >>> ((nI (8 * 6)).toInt64 &&& 63)) = z at *
      generalize uN v = n at *
      split at t2 <;> split at t2 <;> omega
    · have hs := by_sr v ((nI (8 * 7)).toInt64 &&& 63) (k := 56) (by decide)
      rw [hs, t1] at t2
      generalize uN (v >>> ((nI (8 * 7)).toInt64 &&& 63)) = z at *
      generalize uN v = n at *
      split at t2 <;> split at t2 <;> omega
  apply Int32.toBitVec_inj.mp
  apply BitVec.eq_of_toNat_eq
  rw [by_lo, hu, hz]
  have hb := by_lt v i
  have e : (nI (by_ v i)).toBitVec.toNat = by_ v i := pk_tn (by omega)
  rw [e]
  omega
def ok_ (k : Nat) : Bool := decide (k = 10) || (decide (32 ≤ k) && decide (k ≤ 126))
def gd_ (v : Int64) : Nat → Bool
  | 0 => true
  | n + 1 => gd_ v n && ok_ (by_ v n)
theorem gd_not {v : Int64} {i : Nat} (h : ok_ (by_ v i) = false) : ∀ n, i < n → gd_ v n = false
  | 0, h0 => absurd h0 (Nat.not_lt_zero _)
  | n + 1, h0 => by
    rcases Nat.lt_succ_iff_lt_or_eq.mp h0 with h1 | h1
    · rw [gd_, gd_not h n h1]; rfl
    · subst h1; rw [gd_, h, Bool.and_false]
theorem xr_iand {p : Program} {l : Launch} {e : Env} {R : Room} {s : State} {m : MethodId} {args : Array Value} {below : List Frame} {meth : Method} {c : Code} {H : Heap} {locs : List Loc} {cells slots : Nat} {Q : State → Prop} {cc : ByteArray} {pc : Nat} {ls : Array Slot} {rest : List Value} (hx : p.tables.exec = Jvm.exec) (hb : c.code = cc) {x y v : Int32} (hdg : decode cc pc = .ok (.iand, 1)) (hv : x &&& y = v) (k : W p l e R s m args below meth c H locs cells slots Q (F0 m (pc + 1) ls (.int v :: rest))) : W p l e R s m args below meth c H locs cells slots Q (F0 m pc ls (.int y :: .int x :: rest)) := by
  subst hv; exact lv_iand hx hb hdg k
theorem xr_0add (y : Int32) : 0 + y = y := Int32.zero_add y
theorem xr_land {p : Program} {l : Launch} {e : Env} {R : Room} {s : State} {m : MethodId} {args : Array Value} {below : List Frame} {meth : Method} {c : Code} {H : Heap} {locs : List Loc} {cells slots : Nat} {Q : State → Prop} {cc : ByteArray} {pc : Nat} {ls : Array Slot} {rest : List Value} (hx : p.tables.exec = Jvm.exec) (hb : c.code = cc) {x y v : Int64} (hdg : decode cc pc = .ok (.land, 1)) (hv : x &&& y = v) (k : W p l e R s m args below meth c H locs cells slots Q (F0 m (pc + 1) ls (.long v :: rest))) : W p l e R s m args below meth c H locs cells slots Q (F0 m pc ls (.long y :: .long x :: rest)) := by
  subst hv; exact lv_land hx hb hdg k
