/-! methods that come back or throw, from a heap that has changed, and the catch in their caller: my own rows -/
section TYA
def ty_T (Es : List String) (Qt : State → Prop) (A : Nat → Prop) (mc ms : Nat) (st : State) (o : Outcome) (t : State) : Prop :=
  ∃ (E : String) (q : Addr) (ce : Cell) (L : List Loc), E ∈ Es ∧ o = .threw q ∧ st.WarmedH t.vm ∧ st.sameButNew ({ t with vm := st.vm } : State) L mc ms ∧ (∀ z ∈ L, A z.base) ∧ t.heap[q]? = some ce ∧ ce.vm = .none ∧ st.vm.findClass E = some ce.cls ∧ Qt t ∧ va_F A st t
def ty_Q (Qr : Array Value → State → Outcome → State → Prop) (Es : List String) (Qt : State → Prop) (A : Nat → Prop) (mc ms : Nat) : Array Value → State → Outcome → State → Prop := fun a st o t =>
  (Qr a st o t ∧ ∃ L, FrameEnd st o t L mc ms ∧ ∀ q ∈ L, A q.base) ∨ ty_T Es Qt A mc ms st o t
def ty_Met (l : Launch) (y : MethodName) (ws : List Cond) (rm : Room) (Pc : Array Value → State → Prop) (Qr : Array Value → State → Outcome → State → Prop) (Es : List String) (Qt : State → Prop) (A : Nat → Prop) (mc ms : Nat) : Prop :=
  MetFree l y (headSpec ws rm) Pc (fun _ _ _ _ _ => True) (ty_Q Qr Es Qt A mc ms)
def ty_Z (below : List Frame) (Q : Array Value → State → Outcome → State → Prop) (a : Array Value) (s : State) : State → Prop := fun t => ∃ o, t.status = .running ∧ Ended t below o ∧ Q a s o t
theorem ty_ofW {l : Launch} {y : MethodName} {ws ws' : List Cond} {rm : Room} {Pc : Array Value → State → Prop} {Qr : Array Value → State → Outcome → State → Prop} {Es : List String} {Qt : State → Prop} {A : Nat → Prop} {mc ms : Nat} {cc : ByteArray} {maxL : Nat} {ret : Option FieldType}
    (hy : plainName y.cls = true) (hw : ws = Cond.code y cc maxL ret :: ws')
    (body : ∀ p e s m args below meth c s₁, BodyLoose p l y (headSpec ws rm) cc maxL ret e s m args below meth c s₁ → c.maxLocals = maxL → Pc args s →
      W p l e (headSpec ws rm).room s m args below meth c s.heap [] 0 0 (ty_Z below (ty_Q Qr Es Qt A mc ms) args s) (entryFrame m args maxL)) : ty_Met l y ws rm Pc Qr Es Qt A mc ms := by
  refine MetFree.of_bodyS (code := cc) (maxLocals := maxL) (ret := ret) hy ?_ ?_
  · intro args s m h hn
    obtain ⟨meth, c, h1, h2, h3, h4, h5, h6, -, -⟩ := Cond.code_spec hn (atoms_spec (ws := ws) h _ (by rw [hw]; exact List.mem_cons_self))
    exact ⟨meth, c, h1, h2, h3, h4, h5, h6⟩
  · intro p e s m args below meth c s₁ B hml hP _
    have hh0 : s₁.heap = s.heap := by rw [B.state]; rfl
    obtain ⟨t, a1, o, b1, b2, b3⟩ := body p e s m args below meth c s₁ B hml hP s₁ hh0 (Stand.of_body B)
    exact ⟨t, o, a1, b1, b2, b3⟩
end TYA
section TYB
variable {p : Program} {l : Launch} {e : Env} {R : Room} {s : State} {m : MethodId} {args : Array Value} {below : List Frame} {meth : Method} {c : Code} {H : Heap} {locs : List Loc} {cells slots : Nat}
  {Qr : Array Value → State → Outcome → State → Prop} {Es : List String} {Qt : State → Prop} {A : Nat → Prop} {mc ms : Nat}
theorem ty_ret {g : JFrame} (hc : cells ≤ mc) (hs : slots ≤ ms) (k : W p l e R s m args below meth c H locs cells slots (MQ below Qr args s cells slots A) g) : W p l e R s m args below meth c H locs cells slots (ty_Z below (ty_Q Qr Es Qt A mc ms) args s) g := by
  intro T hT X
  obtain ⟨t, a1, o, b1, b2, b3, L, ⟨hv, hw, hm⟩, hL⟩ := k T hT X
  exact ⟨t, a1, o, b1, b2, Or.inl ⟨b3, L, ⟨hv, hw, hm.mono hc hs⟩, hL⟩⟩
/-- the walk's own state, as a state at which the method is called -/
def ty_at (s : State) (m : MethodId) (args : Array Value) (below : List Frame) (T : State) : State := (T.setVm s.vm).setFrames (.invoking m args :: below)
theorem ty_base {T : State} (X : Stand p l e R s m args below meth c T locs cells slots) (hc : cells + 1 ≤ R.cells) (hs : slots + 6 ≤ R.slots) :
    Stand p l e { frames := R.frames, locals := R.locals, cells := 1, slots := 6 } (ty_at s m args below T) m args below meth c T [] 0 0 := by
  have ht : (T.setVm s.vm).topJava?.isSome := X.here.top
  obtain ⟨g, hg⟩ := Option.isSome_iff_exists.mp ht
  obtain ⟨r, hr⟩ := State.topJava?_eq_some.mp hg
  have hfs : (ty_at s m args below T).frames = .invoking m args :: below := State.frames_setFrames _ (State.cur_lt_of_top ht)
  have hlim : e.platform.stackLimits (T.setVm s.vm).me = e.platform.stackLimits s.me := X.limits
  have hbyt : (T.setVm s.vm).me.stackBytes = s.me.stackBytes := X.bytes
  have huse : (ty_at s m args below T).localsInUse = s.localsInUse := by
    rw [State.localsInUse_invoking hfs (meth := meth) (c := c) X.method X.code, State.localsInUse_invoking X.frames X.method X.code]
  have hsz := X.heapSize
  have hus := X.used
  have hbk := X.book
  have hrm : (ty_at s m args below T).hasRoom e.platform { frames := R.frames, locals := R.locals, cells := 1, slots := 6 } = true := by
    have h0 := X.room
    simp only [State.hasRoom, Bool.and_eq_true, decide_eq_true_eq] at h0 ⊢
    obtain ⟨⟨⟨⟨i1, i2, i3, i4, i5, i6⟩, i7⟩, i8⟩, i9⟩ := h0
    rw [X.frames] at i2 i3
    rw [hfs, huse]
    have j1 : e.platform.stackLimits (ty_at s m args below T).me = e.platform.stackLimits s.me := by unfold ty_at; rw [State.stackLimits_setFrames]; exact hlim
    have j2 : (ty_at s m args below T).me.stackBytes = s.me.stackBytes := by unfold ty_at; rw [State.stackBytes_setFrames]; exact hbyt
    rw [j1, j2]
    have j3 : (ty_at s m args below T).heap = T.heap := rfl
    have j4 : (ty_at s m args below T).slotsUsed = T.slotsUsed := rfl
    rw [j3, j4]
    exact ⟨⟨⟨⟨i1, i2, i3, i4, i5, i6⟩, by omega⟩, by omega⟩, hbk⟩
  refine ⟨X.admits, X.cas, X.clock, hfs, hrm, X.hears, X.method, X.code, X.here, X.tail, X.warmed, ?_, ?_, ?_⟩
  · unfold ty_at; rw [State.stackLimits_setFrames]; rfl
  · unfold ty_at; rw [State.stackBytes_setFrames]; rfl
  · have hnil : T.heap.toList.drop T.heap.size = [] := List.drop_eq_nil_of_le (Nat.le_of_eq Array.length_toList)
    refine ⟨?_, Nat.le_refl _, Nat.le_refl _, ?_, ?_, fun a c9 h9 => ⟨c9, h9, rfl, rfl, fun _ _ => rfl⟩⟩
    · obtain ⟨t, ht9, -⟩ := State.frames_cons hr
      show T.setVm s.vm = { ((T.setVm s.vm).setFrames (.invoking m args :: below)).setFrames (T.setVm s.vm).frames with heap := T.heap, slotsUsed := T.slotsUsed }
      rw [State.setFrames_setFrames, State.setFrames_self ht9]
      rfl
    · show T.slotsUsed = T.slotsUsed + ((T.heap.toList.drop T.heap.size).map (·.slots.size)).sum
      rw [hnil]; rfl
    · show ((T.heap.toList.drop T.heap.size).map (·.slots.size)).sum ≤ 0
      rw [hnil]; exact Nat.le_refl _
theorem ty_throw {cc : ByteArray} {pc : Nat} {ls : Array Slot} (hx : p.tables.exec = Jvm.exec) (hb : c.code = cc) (hl : l.stackTraces = false) (hlocks : meth.locks = false) (hsize : ls.size = c.maxLocals)
    {own E tx : String} {names : List String} {ik is ic sa : Nat} (hown : s.vm.findClass own = some m.cls) (hE : Bundle.fit E = true) (hN : ∀ n ∈ names, Bundle.fit n = true)
    (hat : ∀ U : State, U.vm = s.vm → U.heap = H → ∀ w ∈ Bundle.ownAtoms own ic E names, w.before args U = true) (hcl : ∀ U : State, U.vm = s.vm → (Cond.classLink own ik E).before args U = true) (hins : ∀ U : State, U.vm = s.vm → (Cond.instantiable E 6).before args U = true) (hini : ∀ U : State, U.vm = s.vm → (Cond.initialized E).before args U = true) (hZ : vk_R own is tx sa s)
    (hd0 : decode cc pc = .ok (.new ik, 3)) (hd3 : decode cc (pc + 3) = .ok (.dup, 1)) (hd4 : decode cc (pc + 3 + 1) = .ok (.ldc is, 2)) (hd6 : decode cc (pc + 3 + 1 + 2) = .ok (.invokespecial ic, 3)) (hd9 : decode cc (pc + 3 + 1 + 2 + 3) = .ok (.athrow, 1))
    (hout : ∀ x ∈ c.exceptionTable.toList, covers x (pc + 3 + 1 + 2 + 3) = false) (hRc : cells + 1 ≤ R.cells) (hRs : slots + 6 ≤ R.slots) (hRf : names.length + 3 < R.frames) (hRl : 1 + (13 * (names.length + 1) + 42) ≤ R.locals)
    (hS : va_S A s.heap H locs) (hmc : cells + 1 ≤ mc) (hms : slots + 6 ≤ ms) (hEs : E ∈ Es) (hQt : ∀ t : State, s.vm.Alike t.vm → H.size ≤ t.heap.size → (∀ q : Nat, q < H.size → t.heap[q]? = H[q]?) → Qt t) :
    W p l e R s m args below meth c H locs cells slots (ty_Z below (ty_Q Qr Es Qt A mc ms) args s) (F0 m pc ls []) := by
  intro T hT X
  have Y := ty_base X hRc hRs
  have hv : (ty_at s m args below T).vm = s.vm := rfl
  have hh : (ty_at s m args below T).heap = H := hT
  obtain ⟨t, a1, o, b1, b2, q, ce, ho, hW, hsame, hce, hcv, hcls⟩ := tx_throw (R := { frames := R.frames, locals := R.locals, cells := 1, slots := 6 }) (s := ty_at s m args below T) (below := below) (H := H) (cells := 0) (slots := 0) hx hb hl hlocks hsize (by rw [hh]; exact Nat.le_refl _) hown hE hN (hat _ hv hh) (hcl _ hv) (hins _ hv) (hini _ hv) (hZ.same (U := ty_at s m args below T) rfl) hd0 hd3 hd4 hd6 hd9 hout (Nat.le_refl 1) (Nat.le_refl 6) hRf hRl T hT Y
  obtain ⟨f1, f2⟩ := tx_frame hsame
  rw [hh] at f1 f2
  have hWs : s.WarmedH t.vm := State.WarmedH.trans (t := ty_at s m args below T) (State.WarmedH.refl s) hW
  have hsame2 : (T.setVm s.vm).sameButNew ({ t with vm := s.vm } : State) [] 1 6 := by
    obtain ⟨j1, j2⟩ := hsame
    refine ⟨?_, j2⟩
    have j3 := j1
    unfold ty_at at j3
    rw [State.setFrames_setFrames] at j3
    exact j3
  have hsame3 := (X.same.trans hsame2).mono hmc hms
  rw [List.append_nil] at hsame3
  refine ⟨t, a1, o, b1, b2, Or.inr ⟨E, q, ce, locs, hEs, ho, hWs, hsame3, hS.2.2, hce, hcv, hcls, hQt t hWs.alike f1 f2, ?_⟩⟩
  exact ⟨Nat.le_trans hS.1 f1, fun z hz hA => by rw [f2 z (Nat.lt_of_lt_of_le hz hS.1)]; exact hS.2.1 z hz hA⟩
end TYB
section TYC
variable {p : Program} {l : Launch} {e : Env} {R : Room} {s : State} {m : MethodId} {args : Array Value} {below : List Frame} {meth : Method} {c : Code} {H : Heap} {locs : List Loc} {cells slots : Nat} {Q : State → Prop}
  {Ts ws ws' : List Cond} {cc bytes : ByteArray} {nL maxL index n mc ms : Nat} {own C : String} {y : MethodName} {ret : Option FieldType} {rm : Room} {Pc : Array Value → State → Prop} {b : Addr} {As rest : List Value}
  {Qr : Array Value → State → Outcome → State → Prop} {Es : List String} {Qt : State → Prop} {A0 A1 : Nat → Prop} {H0 : Heap}
/-- the state behind a callee: its heap, its book of slots, its tables, and the caller's frames -/
def ty_back (T : State) (t : State) : State := (({ T with heap := t.heap, slotsUsed := t.slotsUsed } : State).setVm t.vm)
/-- a virtual call of a method that comes back or throws -/
theorem ty_run {pc : Nat} {ls : Array Slot} (S : CallFix p m c cc nL s args Ts own) (hM : ty_Met l y ws rm Pc Qr Es Qt A1 mc ms) (cw : CallW R s args own C index y bytes maxL ret ws rm mc ms n) (hp : PreV s H C b Pc As)
    (hn : As.length = n) (hsize : ls.size = nL) (hW : 2 * (F0 m pc ls rest).monitorRoom + (rest.map fun v => v.category).sum ≤ 8) (hdg : decode cc pc = .ok (.invokevirtual index, 3)) (hf : cells + mc ≤ R.cells ∧ slots + ms ≤ R.slots)
    (hS : va_S A0 H0 H locs) (hA : ∀ q, A1 q → A0 q) (hQF : ∀ a st o t, Qr a st o t → va_F A1 st t)
    (kr : ∀ (v : Option Value) (st₀ t : State) (locs1 : List Loc), st₀.heap = H → s.vm.Alike t.vm → Qr (Value.ref b :: As).toArray st₀ (.returned v) t → H.size ≤ t.heap.size → (∀ z : Nat, z < H.size → ¬ A1 z → t.heap[z]? = H[z]?) → va_S A0 H0 t.heap locs1 → W p l e R s m args below meth c t.heap locs1 (cells + mc) (slots + ms) Q (F0 m (pc + 3) ls (v.toList ++ rest)))
    (kt : ∀ (E : String) (q : Addr) (ce : Cell) (t : State) (locs1 : List Loc), E ∈ Es → s.vm.Alike t.vm → t.heap[q]? = some ce → ce.vm = .none → s.vm.findClass E = some ce.cls → Qt t → H.size ≤ t.heap.size → (∀ z : Nat, z < H.size → ¬ A1 z → t.heap[z]? = H[z]?) → va_S A0 H0 t.heap locs1 →
      ∀ U : State, U.heap = t.heap → Stand p l e R s m args below meth c U locs1 (cells + mc) (slots + ms) → ∃ t', Steps p.tables e below ((U.setTop (F0 m pc ls rest)).pushFrame (.throwing q)) t' ∧ Q t') :
    W p l e R s m args below meth c H locs cells slots Q (F0 m pc ls (As.reverse ++ .ref b :: rest)) := by
  obtain ⟨⟨hrc, hrs, hfr, hlo, hws, hcw, hcode, hini, hy, hlen, hl⟩, hinst, hsel⟩ := cw
  obtain ⟨hx, hb, hml, hown, -⟩ := S
  obtain ⟨hblind, ⟨cellB, hcB, hoB, hclB⟩, hPc⟩ := hp
  intro T hT X
  subst hb
  obtain ⟨mk, methM, hnamed, hmethM, hstM, habM⟩ := Cond.instanceMethod_spec hinst
  obtain ⟨methM', cM, hmethM', hcM, -, hlM, -, -, -, hsigM⟩ := Cond.code_spec hnamed hcode
  cases hmethM.symm.trans hmethM'
  obtain ⟨c2, r2, m2, q1, q2, q3, q4, kP, hkP, hkPi⟩ := Cond.selects_spec hsel
  cases hclB.symm.trans q1
  cases (State.methodFound?_of_named hnamed hy).symm.trans q2
  cases hnamed.symm.trans q3
  have hselP : selectMethod e.platform s.vm cellB.cls mk = .method mk := by rw [Launch.admits_selectMethod X.admits]; exact q4
  obtain ⟨vm₁, X₁, hstep₁⟩ := X.invokevirtual hx hown hl hnamed hmethM hstM hkP hkPi hy (a := b) (cell := cellB) (by rw [hT]; exact hcB)
    (fun z h => by rw [h] at hoB; cases hoB) hselP hmethM habM hkP hkPi (g := F0 m pc ls (As.reverse ++ .ref b :: rest)) rfl (argsL := As) (rest := rest) (hn.trans (hlen _ hsigM)) rfl hdg
  have hcode₁ : (Cond.code y bytes maxL ret).before (Value.ref b :: As).toArray (T.setVm vm₁) = true := hws _ hcw _ _ X₁.warmed
  have hn₁ : (T.setVm vm₁).methodNamed? y = some mk := X₁.named hnamed
  obtain ⟨methY, cY, hmY, hcY, -, hlY, -, -, -, -⟩ := Cond.code_spec hn₁ hcode₁
  obtain ⟨kY, hkY, -⟩ := className_of_methodNamed hn₁
  have hinitY : kY.init = .initialized := Cond.initialized_spec (findClass_of_methodNamed hn₁) hkY (word_at (a' := #[]) X₁.warmed (Or.inl (by first | rfl | simp [Cond.onTables, Cond.keeps, Cond.steady])) hini)
  have h : At (T.setVm vm₁) m c below := X₁.here
  have hW : 2 * (F0 m pc ls rest).monitorRoom + ((F0 m pc ls rest).stack.map fun v => v.category).sum ≤ 8 := hW
  have hwsA : (headSpec ws rm).pre.before (Value.ref b :: As).toArray (T.setVm vm₁) = true := atoms_intro fun w hw => hws w hw _ _ X₁.warmed
  have happ : (headSpec ws rm).appliesLoose y e.platform ((T.setVm vm₁).calling (F0 m pc ls rest) mk (Value.ref b :: As).toArray) = true :=
    Spec.appliesLoose_calling (g := F0 m pc ls rest) h hdg hn₁ hkY hinitY
      (X₁.room_calling (g := F0 m pc ls rest) (R' := rm) (hsize.trans hml.symm) hmY hcY hfr (by rw [hlY]; omega) (by rw [hrc]; exact hf.1) (by rw [hrs]; exact hf.2)) hwsA
  obtain ⟨mid, hmid⟩ := h.above
  have hfrm : ((T.setVm vm₁).setTop (F0 m pc ls rest)).frames = (.java (F0 m pc ls rest) :: mid) ++ below := by rw [State.frames_setTop' _ h.top, hmid]; rfl
  obtain ⟨o, s₂, hsteps, -, hend, hq⟩ := Steps.callFree hM p X₁.admits X₁.cas X₁.clock (acts := []) hfrm happ (hblind _ _ _ _ (hPc (T.setVm vm₁) hT X₁.warmed)) trivial
  have hq' : ty_Q Qr Es Qt A1 mc ms (Value.ref b :: As).toArray ((T.setVm vm₁).calling (F0 m pc ls rest) mk (Value.ref b :: As).toArray) o s₂ := hq
  rw [State.frames_setTop' _ h.top] at hend
  have hc0 : ((T.setVm vm₁).calling (F0 m pc ls rest) mk (Value.ref b :: As).toArray).heap = H := hT
  obtain ⟨g₀, hg0⟩ := Option.isSome_iff_exists.mp h.top
  obtain ⟨r, hr⟩ := State.topJava?_eq_some.mp hg0
  -- what both ends share
  have both : ∀ (L : List Loc), ((T.setVm vm₁).calling (F0 m pc ls rest) mk (Value.ref b :: As).toArray).WarmedH s₂.vm → ((T.setVm vm₁).calling (F0 m pc ls rest) mk (Value.ref b :: As).toArray).sameButNew ({ s₂ with vm := ((T.setVm vm₁).calling (F0 m pc ls rest) mk (Value.ref b :: As).toArray).vm } : State) L mc ms →
      Stand p l e R s m args below meth c (ty_back (T.setVm vm₁) s₂) (locs ++ L) (cells + mc) (slots + ms) ∧ s₂ = (ty_back (T.setVm vm₁) s₂).setFrames s₂.frames := by
    intro L hW₂ hsm
    obtain ⟨e2, q2', q3', q4', q5', q6'⟩ := id hsm
    have hW' : (T.setVm vm₁).WarmedH s₂.vm := hW₂
    have hsame : (T.setVm vm₁).sameButNew ({ (T.setVm vm₁) with heap := s₂.heap, slotsUsed := s₂.slotsUsed } : State) L mc ms := by
      refine ⟨?_, q2', q3', q4', q5', q6'⟩
      obtain ⟨t, ht, -⟩ := State.frames_cons hr
      show ({ (T.setVm vm₁) with heap := s₂.heap, slotsUsed := s₂.slotsUsed } : State) = { (T.setVm vm₁).setFrames (T.setVm vm₁).frames with heap := s₂.heap, slotsUsed := s₂.slotsUsed }
      rw [State.setFrames_self ht]
    refine ⟨⟨X₁.admits, X₁.cas, X₁.clock, X₁.frames, X₁.room, X₁.hears, X₁.method, X₁.code, (X₁.here.setHeapUsed s₂.heap s₂.slotsUsed).setVm hW'.alike, X₁.tail, State.WarmedH.trans X₁.warmed hW', X₁.limits, X₁.bytes, X₁.same.trans (hsame.setVm s.vm)⟩, ?_⟩
    have e3 : s₂ = ({ ((T.setVm vm₁).calling (F0 m pc ls rest) mk (Value.ref b :: As).toArray).setFrames s₂.frames with heap := s₂.heap, slotsUsed := s₂.slotsUsed } : State).setVm s₂.vm := by
      have : s₂ = ({ s₂ with vm := ((T.setVm vm₁).calling (F0 m pc ls rest) mk (Value.ref b :: As).toArray).vm } : State).setVm s₂.vm := rfl
      rw [e2] at this
      exact this
    refine e3.trans ?_
    rw [State.calling_eq h.top, State.setFrames_setFrames]
    rfl
  have hkeep : ∀ L : List Loc, va_F A1 ((T.setVm vm₁).calling (F0 m pc ls rest) mk (Value.ref b :: As).toArray) s₂ → (∀ z ∈ L, A1 z.base) → va_S A0 H0 s₂.heap (locs ++ L) := by
    intro L hF hL
    rw [va_F, hc0] at hF
    refine ⟨Nat.le_trans hS.1 hF.1, fun q h1 h2 => ?_, fun z hz => ?_⟩
    · rw [hF.2 q (Nat.lt_of_lt_of_le h1 hS.1) (fun w => h2 (hA q w))]; exact hS.2.1 q h1 h2
    · rcases List.mem_append.mp hz with h9 | h9
      · exact hS.2.2 z h9
      · exact hA _ (hL z h9)
  rcases hq' with ⟨hqr, L, ⟨⟨v, rfl⟩, hW₂, hsm⟩, hL⟩ | ⟨E, q, ce, L, hE, rfl, hW₂, hsm, hL, hce, hcv, hcls, hQt, hF⟩
  · obtain ⟨XU, hs₂⟩ := both L hW₂ hsm
    obtain ⟨c₂, i₂, len₂, hc₂, hd₂, hf₂⟩ := hend
    have hW' : (T.setVm vm₁).WarmedH s₂.vm := hW₂
    have hcc : c₂ = c := by
      have h1 : s₂.code? m = (T.setVm vm₁).code? m := by rw [State.code?_eq, State.code?_eq, hW'.alike.method?]
      exact Option.some.inj (hc₂.symm.trans (h1.trans h.code))
    subst hcc
    have hlen3 : len₂ = 3 := by
      have h9 : decode c₂.code pc = .ok (i₂, len₂) := hd₂
      rw [hdg] at h9; cases h9; rfl
    subst hlen3
    have hsT : s₂ = (ty_back (T.setVm vm₁) s₂).setTop (F0 m (pc + 3) ls (v.toList ++ rest)) := by
      have hrU : (ty_back (T.setVm vm₁) s₂).frames = .java g₀ :: r := hr
      refine hs₂.trans ?_
      rw [hf₂, State.setTop_of_frames _ hrU]
      have hr2 : (T.setVm vm₁).frames = .java g₀ :: r := hr
      rw [hr2]
      rfl
    have hal : s.vm.Alike s₂.vm := (State.WarmedH.trans X₁.warmed hW').alike
    have hF := hQF _ _ _ _ hqr
    have hF9 := hF
    rw [va_F, hc0] at hF9
    obtain ⟨t, a1, b1⟩ := kr v _ s₂ (locs ++ L) hc0 hal hqr hF9.1 hF9.2 (hkeep L hF hL) (ty_back (T.setVm vm₁) s₂) rfl XU
    refine ⟨t, hstep₁ _ (fun acts => ?_), b1⟩
    rw [doInvoke_state]
    refine hsteps.trans ?_
    rw [hsT]
    exact a1
  · obtain ⟨XU, hs₂⟩ := both L hW₂ hsm
    have hf₂ : s₂.frames = .throwing q :: .java (F0 m pc ls rest) :: (T.setVm vm₁).frames.tail := hend
    have hW' : (T.setVm vm₁).WarmedH s₂.vm := hW₂
    have hal : s.vm.Alike s₂.vm := (State.WarmedH.trans X₁.warmed hW').alike
    have hsT : s₂ = ((ty_back (T.setVm vm₁) s₂).setTop (F0 m pc ls rest)).pushFrame (.throwing q) := by
      have hrU : (ty_back (T.setVm vm₁) s₂).frames = .java g₀ :: r := hr
      refine hs₂.trans ?_
      rw [hf₂, State.pushFrame, State.frames_setTop _ hrU, State.setTop_of_frames _ hrU, State.setFrames_setFrames]
      have hr2 : (T.setVm vm₁).frames = .java g₀ :: r := hr
      rw [hr2]
      rfl
    have hcls9 : s.vm.findClass E = some ce.cls := by
      have h1 : vm₁.findClass E = some ce.cls := hcls
      have h2 := X₁.warmed.alike.findClass E
      exact (h2 _).symm.trans h1
    have hF9 := hF
    rw [va_F, hc0] at hF9
    obtain ⟨t, a1, b1⟩ := kt E q ce s₂ (locs ++ L) hE hal hce hcv hcls9 hQt hF9.1 hF9.2 (hkeep L hF hL) (ty_back (T.setVm vm₁) s₂) rfl XU
    refine ⟨t, hstep₁ _ (fun acts => ?_), b1⟩
    rw [doInvoke_state]
    refine hsteps.trans ?_
    rw [hsT]
    exact a1
end TYC
section TYD
/-- the second row of a table takes it, the first does not -/
theorem ty_found2 {e : Env} {s : State} {f : JFrame} {a : Addr} {meth : Method} {code : Code} (hm : s.vm.method? f.method = some meth) (hc : meth.code = some code) {x1 x : ExceptionTableEntry} {rest : List ExceptionTableEntry} (hsplit : code.exceptionTable.toList = x1 :: x :: rest) (hx1 : covers x1 f.pc = true) (h01 : x1.catchType ≠ 0) (hx : covers x f.pc = true) (h0 : x.catchType ≠ 0) {c1 ct : ClassId} {cell : Cell}
    (hl1 : s.vm.ClassLinks e.platform f.method.cls x1.catchType c1) (hl : ∀ vm' : Vm, vm' = s.vm.noted f.method.cls x1.catchType (.cls c1) → vm'.ClassLinks e.platform f.method.cls x.catchType ct) (hcell : s.heap[a]? = some cell) (hobj : ∀ k, cell.vm ≠ .statics k) (hk : ∃ k, s.vm.classes[cell.cls]? = some k) (hc1 : ∃ k, s.vm.classes[c1]? = some k) (hct : ∃ k, s.vm.classes[ct]? = some k) (hno : s.vm.assignable cell.cls c1 = false) (hfit : s.vm.assignable cell.cls ct = true)
    (Q : Handler → Pre) (E : CtlPost) (d : Bool) (acts : List Action) : wp (findHandler f a) Q E e d acts s ↔ Q (.found x.handlerPc) d acts (s.setVm ((s.vm.noted f.method.cls x1.catchType (.cls c1)).noted f.method.cls x.catchType (.cls ct))) := by
  rw [Jvm.W.findHandler_eq hm hc, hsplit]
  simp only [covers] at hx1 hx
  have hlx := hl _ rfl
  obtain ⟨ha1, ht1⟩ := (resolveClass_links e.toSetting hl1).op (op := VmOp.resolveClass f.method.cls x1.catchType) rfl
  obtain ⟨ha, ht⟩ := (resolveClass_links e.toSetting hlx).op (op := VmOp.resolveClass f.method.cls x.catchType) rfl
  have hal1 : s.vm.Alike (s.vm.noted f.method.cls x1.catchType (.cls c1)) := (Vm.Alike.refl s.vm).noted _ _ _
  have hal : s.vm.Alike ((s.vm.noted f.method.cls x1.catchType (.cls c1)).noted f.method.cls x.catchType (.cls ct)) := hal1.noted _ _ _
  obtain ⟨k1, hk1⟩ := hk
  obtain ⟨k2, hk2⟩ := hct
  obtain ⟨k3, hk3⟩ := hc1
  obtain ⟨k1', hk1', -⟩ := hal1.2.2 _ _ hk1
  obtain ⟨k3', hk3', -⟩ := hal1.2.2 _ _ hk3
  obtain ⟨k1'', hk1'', -⟩ := hal.2.2 _ _ hk1
  obtain ⟨k2'', hk2'', -⟩ := hal.2.2 _ _ hk2
  have hno' : (s.vm.noted f.method.cls x1.catchType (.cls c1)).assignable cell.cls c1 = false := by rw [hal1.assignable]; exact hno
  have hfit' : ((s.vm.noted f.method.cls x1.catchType (.cls c1)).noted f.method.cls x.catchType (.cls ct)).assignable cell.cls ct = true := by rw [hal.assignable]; exact hfit
  simp [findHandler.go, hx1, h01, ha1, ht1, hx, h0, ha, ht, hcell, hobj, hk1', hk3', hno', hk1'', hk2'', hfit', VmOp.dirties, VmOp.acts]
  exact Iff.rfl
variable {p : Program} {l : Launch} {e : Env} {R : Room} {s : State} {m : MethodId} {args : Array Value} {below : List Frame} {meth : Method} {c : Code} {H : Heap} {locs : List Loc} {cells slots : Nat} {Q : State → Prop} {own : String}
/-- caught by the first row -/
theorem ty_catch1 {E nm : String} {x : ExceptionTableEntry} {suf : List ExceptionTableEntry} {pc : Nat} {ls : Array Slot} {rest : List Value} {q : Addr} {ce : Cell} {U : State} (hown : s.vm.findClass own = some m.cls) (hUh : U.heap = H) (XU : Stand p l e R s m args below meth c U locs cells slots) (hce : H[q]? = some ce) (hcv : ce.vm = .none) (hcls : s.vm.findClass E = some ce.cls)
    (hsplit : c.exceptionTable.toList = x :: suf) (hcov : covers x pc = true) (h0 : x.catchType ≠ 0) (hlink : (Cond.classLink own x.catchType nm).before args s = true) (hcast : (Cond.castable E nm).before args s = true)
    (kk : W p l e R s m args below meth c H locs cells slots Q (F0 m x.handlerPc ls [.ref q])) : ∃ t, Steps p.tables e below ((U.setTop (F0 m pc ls rest)).pushFrame (.throwing q)) t ∧ Q t := by
  have hpl : e.platform.magicAccessors = ({} : Platform).magicAccessors := by rw [XU.admits.platform]
  obtain ⟨c3, c4, hc3, hc4, hasg⟩ := Cond.castable_spec hcast
  cases Option.some.inj (hc3.symm.trans hcls)
  obtain ⟨c5, hc5, hcl5⟩ := Cond.classLink_spec hown hlink e.platform hpl
  cases Option.some.inj (hc4.symm.trans hc5)
  have hWU : s.WarmedH U.vm := XU.warmed
  obtain ⟨dk, _, _, kt, hd, _, _, _, _, hkt, _, hopen⟩ := hcl5.here
  have hWn : s.WarmedH (U.vm.noted m.cls x.catchType (.cls c4)) := hWU.noted hd hopen (State.rightAt_cls hcl5)
  have hk1 : ∃ k, U.vm.classes[ce.cls]? = some k := by
    obtain ⟨k, hk⟩ := Vm.classAt_of_findClass hcls
    obtain ⟨k', h', -⟩ := hWU.alike.2.2 _ _ hk
    exact ⟨k', h'⟩
  have hk2 : ∃ k, U.vm.classes[c4]? = some k := by
    obtain ⟨k', h', -⟩ := hWU.alike.2.2 _ _ hkt
    exact ⟨k', h'⟩
  have hvmS : ((U.setTop (F0 m pc ls rest)).pushFrame (.throwing q)).vm = U.vm := Stand.throwing_vm U (F0 m pc ls rest) q
  have hfind := tx_found (e := e) (s := (U.setTop (F0 m pc ls rest)).pushFrame (.throwing q)) (f := F0 m pc ls rest) (a := q) (meth := meth) (code := c) (by rw [hvmS]; exact XU.method') XU.code hsplit hcov h0 (ct := c4) (cell := ce) (by rw [hvmS]; exact hWU.classLinks hcl5) (by rw [Stand.throwing_heap, hUh]; exact hce) (fun k => by rw [hcv]; intro h; cases h) (by rw [hvmS]; exact hk1) (by rw [hvmS]; exact hk2) (by rw [hvmS, hWU.alike.assignable]; exact hasg)
  rw [hvmS] at hfind
  obtain ⟨t, a1, b1⟩ := kk (U.setVm (U.vm.noted m.cls x.catchType (.cls c4))) hUh (XU.noted hWn)
  exact ⟨t, tx_caught XU.here hfind a1, b1⟩
/-- caught by the second row: the first names a class that it is not of -/
theorem ty_catch2 {E nm nm1 : String} {x1 x : ExceptionTableEntry} {suf : List ExceptionTableEntry} {pc : Nat} {ls : Array Slot} {rest : List Value} {q : Addr} {ce : Cell} {U : State} (hown : s.vm.findClass own = some m.cls) (hUh : U.heap = H) (XU : Stand p l e R s m args below meth c U locs cells slots) (hce : H[q]? = some ce) (hcv : ce.vm = .none) (hcls : s.vm.findClass E = some ce.cls)
    (hsplit : c.exceptionTable.toList = x1 :: x :: suf) (hcov1 : covers x1 pc = true) (h01 : x1.catchType ≠ 0) (hcov : covers x pc = true) (h0 : x.catchType ≠ 0) (hlink1 : (Cond.classLink own x1.catchType nm1).before args s = true) (hlink : (Cond.classLink own x.catchType nm).before args s = true) (hno : (Cond.not (.castable E nm1)).before args s = true) (hcast : (Cond.castable E nm).before args s = true)
    (kk : W p l e R s m args below meth c H locs cells slots Q (F0 m x.handlerPc ls [.ref q])) : ∃ t, Steps p.tables e below ((U.setTop (F0 m pc ls rest)).pushFrame (.throwing q)) t ∧ Q t := by
  have hpl : e.platform.magicAccessors = ({} : Platform).magicAccessors := by rw [XU.admits.platform]
  obtain ⟨c3, c4, hc3, hc4, hasg⟩ := Cond.castable_spec hcast
  cases Option.some.inj (hc3.symm.trans hcls)
  obtain ⟨c5, hc5, hcl5⟩ := Cond.classLink_spec hown hlink e.platform hpl
  cases Option.some.inj (hc4.symm.trans hc5)
  obtain ⟨c6, hc6, hcl6⟩ := Cond.classLink_spec hown hlink1 e.platform hpl
  have hno9 : s.vm.assignable ce.cls c6 = false := by
    have h1 := Cond.holds_not_iff.mp hno
    simp only [Cond.value, hcls, hc6] at h1
    simpa using h1
  have hWU : s.WarmedH U.vm := XU.warmed
  obtain ⟨dk1, _, _, kt1, hd1, _, _, _, _, hkt1, _, hopen1⟩ := hcl6.here
  have hWn1 : s.WarmedH (U.vm.noted m.cls x1.catchType (.cls c6)) := hWU.noted hd1 hopen1 (State.rightAt_cls hcl6)
  obtain ⟨dk, _, _, kt, hd, _, _, _, _, hkt, _, hopen⟩ := hcl5.here
  have hWn : s.WarmedH ((U.vm.noted m.cls x1.catchType (.cls c6)).noted m.cls x.catchType (.cls c4)) := hWn1.noted hd hopen (State.rightAt_cls hcl5)
  have hk1 : ∃ k, U.vm.classes[ce.cls]? = some k := by
    obtain ⟨k, hk⟩ := Vm.classAt_of_findClass hcls
    obtain ⟨k', h', -⟩ := hWU.alike.2.2 _ _ hk
    exact ⟨k', h'⟩
  have hk2 : ∃ k, U.vm.classes[c4]? = some k := by
    obtain ⟨k', h', -⟩ := hWU.alike.2.2 _ _ hkt
    exact ⟨k', h'⟩
  have hk3 : ∃ k, U.vm.classes[c6]? = some k := by
    obtain ⟨k', h', -⟩ := hWU.alike.2.2 _ _ hkt1
    exact ⟨k', h'⟩
  have hvmS : ((U.setTop (F0 m pc ls rest)).pushFrame (.throwing q)).vm = U.vm := Stand.throwing_vm U (F0 m pc ls rest) q
  have hfind := ty_found2 (e := e) (s := (U.setTop (F0 m pc ls rest)).pushFrame (.throwing q)) (f := F0 m pc ls rest) (a := q) (meth := meth) (code := c) (by rw [hvmS]; exact XU.method') XU.code hsplit hcov1 h01 hcov h0 (c1 := c6) (ct := c4) (cell := ce) (by rw [hvmS]; exact hWU.classLinks hcl6) (fun vm' hv => by rw [hv, hvmS]; exact hWn1.classLinks hcl5) (by rw [Stand.throwing_heap, hUh]; exact hce) (fun k => by rw [hcv]; intro h; cases h) (by rw [hvmS]; exact hk1) (by rw [hvmS]; exact hk3) (by rw [hvmS]; exact hk2) (by rw [hvmS, hWU.alike.assignable]; exact hno9) (by rw [hvmS, hWU.alike.assignable]; exact hasg)
  rw [hvmS] at hfind
  obtain ⟨t, a1, b1⟩ := kk (U.setVm ((U.vm.noted m.cls x1.catchType (.cls c6)).noted m.cls x.catchType (.cls c4))) hUh (XU.noted hWn)
  exact ⟨t, tx_caught XU.here hfind a1, b1⟩
end TYD
