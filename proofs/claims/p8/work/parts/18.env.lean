/-! what the methods need beside the tables' words, carried as one premise: statics of Throwable, castables, the constant texts, the two constant rows -/
theorem cx_warm {s U : State} (hv : U.vm = s.vm) : s.WarmedH U.vm := by rw [hv]; exact State.WarmedH.refl s
theorem cx_hz {args : Array Value} {s U : State} (hz : ∀ w ∈ wz, w.before args s = true) (hv : U.vm = s.vm) : ∀ w ∈ wz, w.before args U = true := fun w h => word_at (cx_warm hv) (zgood w h).2 (hz w h)
theorem cx_grown {D : va_G} {cl : List vw_C} {ws : va_W} {H H1 : Heap} (h : va_P D cl ws H) (hs : ∀ q : Nat, q < H.size → H1[q]? = H[q]?) : va_P D cl ws H1 := h.kept fun k q hk => hs _ (h k q hk).lt
def tz_L (C n d : String) (A : Nat → Prop) (U : State) (H : Heap) : Prop := ∃ (c : ClassId) (k : Class) (i : Nat) (f : Field) (q : Nat) (cell : Cell) (v : Value), U.vm.findClass C = some c ∧ U.fieldFound? C n d = some (c, k, i, f) ∧ f.isStatic = true ∧ k.statics = some q ∧ H[q]? = some cell ∧ cell.vm.isStatics = true ∧ cell.cls = c ∧ f.slot < cell.slots.size ∧ k.staticTypes[f.slot]? = some f.type ∧ cell.slots[f.slot]? = some v ∧ v.isRef = true ∧ ¬ A q
theorem tz_L.moved {C n d : String} {A : Nat → Prop} {u U : State} {H : Heap} (hvm : u.vm.Alike U.vm) (h : tz_L C n d A u H) : tz_L C n d A U H := by
  obtain ⟨c, k, i, f, q, cell, v, h1, h2, h3, h4, h5, h6, h7, h8, h9, h10, h11, h12⟩ := h
  obtain ⟨k', hi', he⟩ := State.fieldFound?_setVm hvm h2
  exact ⟨c, k', i, f, q, cell, v, by rw [hvm.findClass]; exact h1, hi', h3, by rw [he]; exact h4, h5, h6, h7, h8, by rw [he]; exact h9, h10, h11, h12⟩
theorem tz_L.kept {C n d : String} {A : Nat → Prop} {U : State} {H H1 : Heap} (h : tz_L C n d A U H) (hq : ∀ a : Nat, a < H.size → ¬ A a → H1[a]? = H[a]?) : tz_L C n d A U H1 := by
  obtain ⟨c, k, i, f, q, cell, v, h1, h2, h3, h4, h5, h6, h7, h8, h9, h10, h11, h12⟩ := h
  exact ⟨c, k, i, f, q, cell, v, h1, h2, h3, h4, by rw [hq q (Array.getElem?_eq_some_iff.mp h5).1 h12]; exact h5, h6, h7, h8, h9, h10, h11, h12⟩
theorem tz_L.narrow {C n d : String} {A B : Nat → Prop} {U : State} {H : Heap} (h : tz_L C n d A U H) (hAB : ∀ q, B q → A q) : tz_L C n d B U H := by
  obtain ⟨c, k, i, f, q, cell, v, h1, h2, h3, h4, h5, h6, h7, h8, h9, h10, h11, h12⟩ := h
  exact ⟨c, k, i, f, q, cell, v, h1, h2, h3, h4, h5, h6, h7, h8, h9, h10, h11, fun z => h12 (hAB q z)⟩
theorem tz_L.lays {C n d : String} {A : Nat → Prop} {U : State} {args : Array Value} (h : tz_L C n d A U U.heap) : (Cond.laysStatic C n d).before args U = true := by
  obtain ⟨c, k, i, f, q, cell, v, h1, h2, h3, h4, h5, h6, h7, h8, h9, h10, h11, -⟩ := h
  simp [Cond.before, Cond.holds, Cond.value, h1, h2, h3, h4, h5, h6, h7, h8, h9]
theorem tz_L.isRef {C n d : String} {A : Nat → Prop} {U : State} {args : Array Value} (h : tz_L C n d A U U.heap) : (Cond.isRef (.static C n d)).before args U = true := by
  obtain ⟨c, k, i, f, q, cell, v, h1, h2, h3, h4, h5, h6, h7, h8, h9, h10, h11, -⟩ := h
  have e : (Term.static C n d).eval args U none [] U = some v := by simp [Term.eval, State.fieldNamed?, h2, h3, h4, h5, h6, h10]
  simp only [Cond.before, Cond.holds, Cond.value, e]
  cases v <;> simp_all [Value.isRef]
def cx_T (a n : Nat) (f : Nat → Int64) (A : Nat → Prop) (U : State) (H : Heap) : Prop := va_T .long a n (fun j => .long (f j)) A U H
theorem cx_T.same {a n : Nat} {f : Nat → Int64} {A : Nat → Prop} {u U : State} {H : Heap} (hv : U.vm = u.vm) (h : cx_T a n f A u H) : cx_T a n f A U H := va_T.moved (by rw [hv]; exact Vm.Alike.refl _) h
theorem cx_T.to {a n : Nat} {f : Nat → Int64} {A B : Nat → Prop} {s U : State} {H : Heap} {locs : List Loc} (hW : s.WarmedH U.vm) (hS : va_S A s.heap H locs) (hF : ∀ q, B q → A q) (h : cx_T a n f A s s.heap) : cx_T a n f B U H := va_T.moved hW.alike (va_T.narrow (va_T.kept h hS.2.1) hF)
/-! the contents of the constant rows and texts -/
def wWd : Nat → Int64 := fun j => ([7628140, 435710945399, 28516, 26223, 28265, 26217, 1852139636, 1702063205, 1702060387] : List Int64).getD j 0
def wRs : Nat → Int64 := fun j => ([61, 15917, 11580, 124, 14906, 15933, 92, 64, 126, 11822] : List Int64).getD j 0
def bt1 : Nat → Int32 := fun j => ([33, 35, 36, 37, 38, 42, 43, 46, 47, 60, 61, 62, 63, 64, 92, 94, 124, 45, 126, 58] : List Int32).getD j 0
def bt2 : Nat → Int32 := fun j => ([40, 41, 91, 93, 123, 125, 44, 59, 96] : List Int32).getD j 0
def cx_A (nm : String) (idx N : Nat) (f : Nat → Int64) (A : Nat → Prop) (U : State) (H : Heap) : Prop := ∃ (a : Nat), va_Nw (.fieldLinkNest R_Tokens idx "LayoutFront" nm "[J" "LayoutFront") U ∧ va_Z "LayoutFront" nm "[J" (.ref a) A U H ∧ cx_T a N f A U H
theorem cx_A.warm {nm : String} {idx N : Nat} {f : Nat → Int64} {A : Nat → Prop} {s U : State} {H : Heap} (hW : s.WarmedH U.vm) (h : cx_A nm idx N f A s H) : cx_A nm idx N f A U H := by
  obtain ⟨a, h1, h2, h3⟩ := h
  exact ⟨a, va_Nw.warmF hW h1, va_Z.moved hW.alike h2, va_T.moved hW.alike h3⟩
theorem cx_A.kept {nm : String} {idx N : Nat} {f : Nat → Int64} {A : Nat → Prop} {U : State} {H H1 : Heap} (h : cx_A nm idx N f A U H) (hq : ∀ a : Nat, a < H.size → ¬ A a → H1[a]? = H[a]?) : cx_A nm idx N f A U H1 := by
  obtain ⟨a, h1, h2, h3⟩ := h
  exact ⟨a, h1, h2.kept hq, va_T.kept h3 hq⟩
theorem cx_A.narrow {nm : String} {idx N : Nat} {f : Nat → Int64} {A B : Nat → Prop} {U : State} {H : Heap} (h : cx_A nm idx N f A U H) (hAB : ∀ q, B q → A q) : cx_A nm idx N f B U H := by
  obtain ⟨a, h1, h2, h3⟩ := h
  exact ⟨a, h1, h2.narrow hAB, va_T.narrow h3 hAB⟩
/-- a constant text, in one byte a character -/
def cx_O (q v n : Nat) (f : Nat → Int32) (A : Nat → Prop) (U : State) (H : Heap) : Prop := va_O "java/lang/String" q A U H ∧ va_OF "java/lang/String" "coder" "B" (.int 0) q A U H ∧ va_OF "java/lang/String" "value" "[B" (.ref v) q A U H ∧ va_T .byte v n (fun j => .int (f j)) A U H ∧ va_Z "java/lang/String" "COMPACT_STRINGS" "Z" (.int 1) A U H
theorem cx_O.moved {q v n : Nat} {f : Nat → Int32} {A : Nat → Prop} {u U : State} {H : Heap} (hvm : u.vm.Alike U.vm) (h : cx_O q v n f A u H) : cx_O q v n f A U H := ⟨va_O.moved hvm h.1, va_OF.moved hvm h.2.1, va_OF.moved hvm h.2.2.1, va_T.moved hvm h.2.2.2.1, va_Z.moved hvm h.2.2.2.2⟩
theorem cx_O.kept {q v n : Nat} {f : Nat → Int32} {A : Nat → Prop} {U : State} {H H1 : Heap} (h : cx_O q v n f A U H) (hq : ∀ a : Nat, a < H.size → ¬ A a → H1[a]? = H[a]?) : cx_O q v n f A U H1 := ⟨h.1.kept hq, h.2.1.kept hq, h.2.2.1.kept hq, h.2.2.2.1.kept hq, h.2.2.2.2.kept hq⟩
theorem cx_O.narrow {q v n : Nat} {f : Nat → Int32} {A B : Nat → Prop} {U : State} {H : Heap} (h : cx_O q v n f A U H) (hAB : ∀ q, B q → A q) : cx_O q v n f B U H := ⟨h.1.narrow hAB, h.2.1.narrow hAB, h.2.2.1.narrow hAB, h.2.2.2.1.narrow hAB, h.2.2.2.2.narrow hAB⟩
theorem cx_O.same {q v n : Nat} {f : Nat → Int32} {A : Nat → Prop} {u U : State} {H : Heap} (hv : U.vm = u.vm) (h : cx_O q v n f A u H) : cx_O q v n f A U H := cx_O.moved (by rw [hv]; exact Vm.Alike.refl _) h
theorem cx_O.to {q v n : Nat} {f : Nat → Int32} {A B : Nat → Prop} {s U : State} {H : Heap} {locs : List Loc} (hW : s.WarmedH U.vm) (hS : va_S A s.heap H locs) (hF : ∀ q, B q → A q) (h : cx_O q v n f A s s.heap) : cx_O q v n f B U H := cx_O.moved hW.alike (cx_O.narrow (cx_O.kept h hS.2.1) hF)
def cx_S (k : Nat) (tx : String) (n : Nat) (f : Nat → Int32) (A : Nat → Prop) (U : State) (H : Heap) : Prop := ∃ (q v : Nat), vk_R R_Cutter k tx q U ∧ cx_O q v n f A U H
theorem cx_S.warm {k n : Nat} {tx : String} {f : Nat → Int32} {A : Nat → Prop} {s U : State} {H : Heap} (hW : s.WarmedH U.vm) (h : cx_S k tx n f A s H) : cx_S k tx n f A U H := by
  obtain ⟨q, v, h1, h2⟩ := h
  exact ⟨q, v, h1.warm hW, h2.moved hW.alike⟩
theorem cx_S.kept {k n : Nat} {tx : String} {f : Nat → Int32} {A : Nat → Prop} {U : State} {H H1 : Heap} (h : cx_S k tx n f A U H) (hq : ∀ a : Nat, a < H.size → ¬ A a → H1[a]? = H[a]?) : cx_S k tx n f A U H1 := by
  obtain ⟨q, v, h1, h2⟩ := h
  exact ⟨q, v, h1, h2.kept hq⟩
theorem cx_S.narrow {k n : Nat} {tx : String} {f : Nat → Int32} {A B : Nat → Prop} {U : State} {H : Heap} (h : cx_S k tx n f A U H) (hAB : ∀ q, B q → A q) : cx_S k tx n f B U H := by
  obtain ⟨q, v, h1, h2⟩ := h
  exact ⟨q, v, h1, h2.narrow hAB⟩
def cx_t1 : String := "!#$%&*+./<=>?@\\^|-~:"
def cx_t2 : String := "()[]{},;`"
def cx_E (A : Nat → Prop) (U : State) (H : Heap) : Prop :=
  (tz_L Bundle.tN "UNASSIGNED_STACK" Bundle.steD A U H ∧ tz_L Bundle.tN "SUPPRESSED_SENTINEL" Bundle.listD A U H) ∧ (∀ w ∈ tx_on, va_Nw w U) ∧ va_Nw tx_no U ∧ (∀ z ∈ tx_str, ∃ q, vk_R R_LF z.1 z.2 q U) ∧ cx_A "WORDS" 35 9 wWd A U H ∧ cx_A "RESERVED" 42 10 wRs A U H ∧ cx_S 122 cx_t1 20 bt1 A U H ∧ cx_S 129 cx_t2 9 bt2 A U H
theorem cx_E.warm {A : Nat → Prop} {s U : State} {H : Heap} (hW : s.WarmedH U.vm) (h : cx_E A s H) : cx_E A U H := by
  obtain ⟨⟨h1, h2⟩, h3, h4, h5, h6, h7, h8, h9⟩ := h
  refine ⟨⟨h1.moved hW.alike, h2.moved hW.alike⟩, fun w hw => ?_, tx_no_moved hW.alike h4, fun z hz => (h5 z hz).imp fun q hq => hq.warm hW, h6.warm hW, h7.warm hW, h8.warm hW, h9.warm hW⟩
  have g := h3 w hw
  simp only [tx_on, List.mem_cons, List.not_mem_nil, or_false] at hw
  rcases hw with rfl | rfl | rfl | rfl | rfl | rfl
  · exact va_Nw.warmC hW g
  · exact va_Nw.warmC hW g
  · exact va_Nw.warmC hW g
  · exact va_Nw.warmD hW g
  · exact va_Nw.warmD hW g
  · exact va_Nw.warmD hW g
theorem cx_E.kept {A : Nat → Prop} {U : State} {H H1 : Heap} (h : cx_E A U H) (hq : ∀ a : Nat, a < H.size → ¬ A a → H1[a]? = H[a]?) : cx_E A U H1 := by
  obtain ⟨⟨h1, h2⟩, h3, h4, h5, h6, h7, h8, h9⟩ := h
  exact ⟨⟨h1.kept hq, h2.kept hq⟩, h3, h4, h5, h6.kept hq, h7.kept hq, h8.kept hq, h9.kept hq⟩
theorem cx_E.narrow {A B : Nat → Prop} {U : State} {H : Heap} (h : cx_E A U H) (hAB : ∀ q, B q → A q) : cx_E B U H := by
  obtain ⟨⟨h1, h2⟩, h3, h4, h5, h6, h7, h8, h9⟩ := h
  exact ⟨⟨h1.narrow hAB, h2.narrow hAB⟩, h3, h4, h5, h6.narrow hAB, h7.narrow hAB, h8.narrow hAB, h9.narrow hAB⟩
theorem cx_E.same {A : Nat → Prop} {u U : State} {H : Heap} (hv : U.vm = u.vm) (h : cx_E A u H) : cx_E A U H := cx_E.warm (cx_warm hv) h
theorem cx_E.to {A B : Nat → Prop} {s U : State} {H : Heap} {locs : List Loc} (hW : s.WarmedH U.vm) (hS : va_S A s.heap H locs) (hF : ∀ q, B q → A q) (h : cx_E A s s.heap) : cx_E B U H := cx_E.warm hW (cx_E.narrow (cx_E.kept h hS.2.1) hF)
theorem cx_E.at {A : Nat → Prop} {s U : State} {H : Heap} {locs : List Loc} (h : cx_E A s s.heap) (hS : va_S A s.heap H locs) (hv : U.vm = s.vm) (hh : U.heap = H) : cx_E A U U.heap := by
  rw [hh]; exact cx_E.same hv (cx_E.kept h hS.2.1)
theorem cx_E.msg {A : Nat → Prop} {U : State} {H : Heap} (h : cx_E A U H) : ∀ z ∈ tx_str, ∃ q, vk_R R_LF z.1 z.2 q U := h.2.2.2.1
theorem cx_E.words {A : Nat → Prop} {U : State} {H : Heap} (h : cx_E A U H) : cx_A "WORDS" 35 9 wWd A U H := h.2.2.2.2.1
theorem cx_E.reserved {A : Nat → Prop} {U : State} {H : Heap} (h : cx_E A U H) : cx_A "RESERVED" 42 10 wRs A U H := h.2.2.2.2.2.1
theorem cx_E.str122 {A : Nat → Prop} {U : State} {H : Heap} (h : cx_E A U H) : cx_S 122 cx_t1 20 bt1 A U H := h.2.2.2.2.2.2.1
theorem cx_E.str129 {A : Nat → Prop} {U : State} {H : Heap} (h : cx_E A U H) : cx_S 129 cx_t2 9 bt2 A U H := h.2.2.2.2.2.2.2
theorem cx_hat {A : Nat → Prop} {args : Array Value} {s : State} (hz : ∀ w ∈ wz, w.before args s = true) (h : cx_E A s s.heap) : ∀ w ∈ xat, w.before args s = true := by
  intro w hw
  by_cases hg : goodWord w = true
  · exact hz w (zx hw hg)
  · have h1 : w ∈ tx_st ++ tx_on := tx_rest w (List.mem_filter.mpr ⟨hw, by simpa using hg⟩)
    rcases List.mem_append.mp h1 with h2 | h2
    · simp only [tx_st, List.mem_cons, List.not_mem_nil, or_false] at h2
      rcases h2 with rfl | rfl | rfl | rfl
      · exact h.1.1.lays
      · exact h.1.2.lays
      · exact h.1.1.isRef
      · exact h.1.2.isRef
    · have h3 := h.2.1 w h2
      simp only [tx_on, List.mem_cons, List.not_mem_nil, or_false] at h2
      rcases h2 with rfl | rfl | rfl | rfl | rfl | rfl <;> exact va_Nw.use rfl h3
theorem cx_xIAE {A : Nat → Prop} {args : Array Value} {s : State} (hz : ∀ w ∈ wz, w.before args s = true) (h : cx_E A s s.heap) : ∀ w ∈ Bundle.ownAtoms R_LF 69 xIAE xup, w.before args s = true := fun w hw => cx_hat hz h w (List.mem_append_left _ hw)
theorem cx_xIOB {A : Nat → Prop} {args : Array Value} {s : State} (hz : ∀ w ∈ wz, w.before args s = true) (h : cx_E A s s.heap) : ∀ w ∈ Bundle.ownAtoms R_LF 165 xIOB xup, w.before args s = true := fun w hw => cx_hat hz h w (List.mem_append_right _ (List.mem_append_left _ hw))
theorem cx_xISE {A : Nat → Prop} {args : Array Value} {s : State} (hz : ∀ w ∈ wz, w.before args s = true) (h : cx_E A s s.heap) : ∀ w ∈ Bundle.ownAtoms R_LF 80 xISE xup, w.before args s = true := fun w hw => cx_hat hz h w (List.mem_append_right _ (List.mem_append_right _ hw))
def cx_B (a n : Nat) (f : Nat → Int32) (A : Nat → Prop) (U : State) (H : Heap) : Prop := va_T .byte a n (fun j => .int (f j)) A U H
theorem cx_B.same {a n : Nat} {f : Nat → Int32} {A : Nat → Prop} {u U : State} {H : Heap} (hv : U.vm = u.vm) (h : cx_B a n f A u H) : cx_B a n f A U H := va_T.moved (by rw [hv]; exact Vm.Alike.refl _) h
theorem cx_B.to {a n : Nat} {f : Nat → Int32} {A B : Nat → Prop} {s U : State} {H : Heap} {locs : List Loc} (hW : s.WarmedH U.vm) (hS : va_S A s.heap H locs) (hF : ∀ q, B q → A q) (h : cx_B a n f A s s.heap) : cx_B a n f B U H := va_T.moved hW.alike (va_T.narrow (va_T.kept h hS.2.1) hF)
theorem cx_recv {q v n : Nat} {f : Nat → Int32} {A : Nat → Prop} {s : State} {H : Heap} {locs : List Loc} (h : cx_O q v n f A s s.heap) (hS : va_S A s.heap H locs) : ∃ cell : Cell, H[q]? = some cell ∧ cell.vm.isStatics = false ∧ s.vm.findClass "java/lang/String" = some cell.cls := by
  obtain ⟨cell, h1, h2, h3, -⟩ := h.1.kept hS.2.1
  exact ⟨cell, h1, h2, h3⟩
/-! methods that come back or throw, from a heap that has changed, and the catch in their caller: my own rows -/
section TYA
def ty_T (Es : List String) (Qt : State → Prop) (A : Nat → Prop) (mc ms : Nat) (st : State) (o : Outcome) (t : State) : Prop :=
  ∃ (E : String) (q : Addr) (ce : Cell) (L : List Loc), E ∈ Es ∧ o = .threw q ∧ st.WarmedH t.vm ∧ st.sameButNew ({ t with vm := st.vm } : State) L mc ms ∧ (∀ z ∈ L, A z.base) ∧ t.heap[q]? = some ce ∧ ce.vm = .none ∧ st.vm.findClass E = some ce.cls ∧ Qt t ∧ va_F A st t
def ty_Q (Qr : Array Value → State → Outcome → State → Prop) (Es : List String) (Qt : State → Prop) (A : Nat → Prop) (mc ms : Nat) : Array Value → State → Outcome → State → Prop := fun a st o t =>
  (Qr a st o t ∧ ∃ L, FrameEnd st o t L mc ms ∧ ∀ q ∈ L, A q.base) ∨ ty_T Es Qt A mc ms st o t
def ty_Met (l : Launch) (y : MethodName) (ws : List Cond) (rm : Room) (Pc : Array Value → State → Prop) (Qr : Array Value → State → Outcome → State → Prop) (Es : List String) (Qt : State → Prop) (A : Nat → Prop) (mc ms : Nat) : Prop :=
  MetFree l y (headSpec ws rm) Pc (fun _ _ _ _ _ => True) (ty_Q Qr Es Qt A mc ms)
def ty_Z (below : List Frame) (Q : Array Value → State → Outcome → State → Prop) (a : Array Value) (s : State) : State → Prop := fun t => ∃ o, t.status = .running ∧ Ended t below o ∧ Q a s o t
theorem ty_ofW {l : Launch} {y : MethodName} {ws ws' : List Cond} {rm : Room} {Pc : Array Value → State → Prop} {Qr : Array Value → State → Outcome → State → Prop} {Es : List String} {Qt : State → Prop} {A : Nat → Prop} {mc ms : Nat} {cc : ByteArray} {maxL : Nat} {ret : Option FieldType}
    (hy : plainName y.cls = true) (hw : ws = Cond.code y cc maxL ret :: ws')
    (body : ∀ p e s m args below meth c s₁, BodyLoose p l y (headSpec ws rm) cc maxL ret e s m args below meth c s₁ → c.maxLocals = maxL → Pc args s →
      W p l e (headSpec ws rm).room s m args below meth c s.heap [] 0 0 (ty_Z below (ty_Q Qr Es Qt A mc ms) args s) (entryFrame m args maxL)) : ty_Met l y ws rm Pc Qr Es Qt A mc ms := by
  refine MetFree.of_bodyS (code := cc) (maxLocals := maxL) (ret := ret) hy ?_ ?_
  · intro args s m h hn
    obtain ⟨meth, c, h1, h2, h3, h4, h5, h6, -, -⟩ := Cond.code_spec hn (atoms_spec (ws := ws) h _ (by rw [hw]; exact List.mem_cons_self))
    exact ⟨meth, c, h1, h2, h3, h4, h5, h6⟩
  · intro p e s m args below meth c s₁ B hml hP _
    have hh0 : s₁.heap = s.heap := by rw [B.state]; rfl
    obtain ⟨t, a1, o, b1, b2, b3⟩ := body p e s m args below meth c s₁ B hml hP s₁ hh0 (Stand.of_body B)
    exact ⟨t, o, a1, b1, b2, b3⟩
end TYA
section TYB
variable {p : Program} {l : Launch} {e : Env} {R : Room} {s : State} {m : MethodId} {args : Array Value} {below : List Frame} {meth : Method} {c : Code} {H : Heap} {locs : List Loc} {cells slots : Nat}
  {Qr : Array Value → State → Outcome → State → Prop} {Es : List String} {Qt : State → Prop} {A : Nat → Prop} {mc ms : Nat}
theorem ty_ret {g : JFrame} (hc : cells ≤ mc) (hs : slots ≤ ms) (k : W p l e R s m args below meth c H locs cells slots (MQ below Qr args s cells slots A) g) : W p l e R s m args below meth c H locs cells slots (ty_Z below (ty_Q Qr Es Qt A mc ms) args s) g := by
  intro T hT X
  obtain ⟨t, a1, o, b1, b2, b3, L, ⟨hv, hw, hm⟩, hL⟩ := k T hT X
  exact ⟨t, a1, o, b1, b2, Or.inl ⟨b3, L, ⟨hv, hw, hm.mono hc hs⟩, hL⟩⟩
/-- the walk's own state, as a state at which the method is called -/
def ty_at (s : State) (m : MethodId) (args : Array Value) (below : List Frame) (T : State) : State := (T.setVm s.vm).setFrames (.invoking m args :: below)
theorem ty_base {T : State} (X : Stand p l e R s m args below meth c T locs cells slots) (hc : cells + 1 ≤ R.cells) (hs : slots + 6 ≤ R.slots) :
    Stand p l e { frames := R.frames, locals := R.locals, cells := 1, slots := 6 } (ty_at s m args below T) m args below meth c T [] 0 0 := by
  have ht : (T.setVm s.vm).topJava?.isSome := X.here.top
  obtain ⟨g, hg⟩ := Option.isSome_iff_exists.mp ht
  obtain ⟨r, hr⟩ := State.topJava?_eq_some.mp hg
  have hfs : (ty_at s m args below T).frames = .invoking m args :: below := State.frames_setFrames _ (State.cur_lt_of_top ht)
  have hlim : e.platform.stackLimits (T.setVm s.vm).me = e.platform.stackLimits s.me := X.limits
  have hbyt : (T.setVm s.vm).me.stackBytes = s.me.stackBytes := X.bytes
  have huse : (ty_at s m args below T).localsInUse = s.localsInUse := by
    rw [State.localsInUse_invoking hfs (meth := meth) (c := c) X.method X.code, State.localsInUse_invoking X.frames X.method X.code]
  have hsz := X.heapSize
  have hus := X.used
  have hbk := X.book
  have hrm : (ty_at s m args below T).hasRoom e.platform { frames := R.frames, locals := R.locals, cells := 1, slots := 6 } = true := by
    have h0 := X.room
    simp only [State.hasRoom, Bool.and_eq_true, decide_eq_true_eq] at h0 ⊢
    obtain ⟨⟨⟨⟨i1, i2, i3, i4, i5, i6⟩, i7⟩, i8⟩, i9⟩ := h0
    rw [X.frames] at i2 i3
    rw [hfs, huse]
    have j1 : e.platform.stackLimits (ty_at s m args below T).me = e.platform.stackLimits s.me := by unfold ty_at; rw [State.stackLimits_setFrames]; exact hlim
    have j2 : (ty_at s m args below T).me.stackBytes = s.me.stackBytes := by unfold ty_at; rw [State.stackBytes_setFrames]; exact hbyt
    rw [j1, j2]
    have j3 : (ty_at s m args below T).heap = T.heap := rfl
    have j4 : (ty_at s m args below T).slotsUsed = T.slotsUsed := rfl
    rw [j3, j4]
    exact ⟨⟨⟨⟨i1, i2, i3, i4, i5, i6⟩, by omega⟩, by omega⟩, hbk⟩
  refine ⟨X.admits, X.cas, X.clock, hfs, hrm, X.hears, X.method, X.code, X.here, X.tail, X.warmed, ?_, ?_, ?_⟩
  · unfold ty_at; rw [State.stackLimits_setFrames]; rfl
  · unfold ty_at; rw [State.stackBytes_setFrames]; rfl
  · have hnil : T.heap.toList.drop T.heap.size = [] := List.drop_eq_nil_of_le (Nat.le_of_eq Array.length_toList)
    refine ⟨?_, Nat.le_refl _, Nat.le_refl _, ?_, ?_, fun a c9 h9 => ⟨c9, h9, rfl, rfl, fun _ _ => rfl⟩⟩
    · obtain ⟨t, ht9, -⟩ := State.frames_cons hr
      show T.setVm s.vm = { ((T.setVm s.vm).setFrames (.invoking m args :: below)).setFrames (T.setVm s.vm).frames with heap := T.heap, slotsUsed := T.slotsUsed }
      rw [State.setFrames_setFrames, State.setFrames_self ht9]
      rfl
    · show T.slotsUsed = T.slotsUsed + ((T.heap.toList.drop T.heap.size).map (·.slots.size)).sum
      rw [hnil]; rfl
    · show ((T.heap.toList.drop T.heap.size).map (·.slots.size)).sum ≤ 0
      rw [hnil]; exact Nat.le_refl _
theorem ty_throw {cc : ByteArray} {pc : Nat} {ls : Array Slot} (hx : p.tables.exec = Jvm.exec) (hb : c.code = cc) (hl : l.stackTraces = false) (hlocks : meth.locks = false) (hsize : ls.size = c.maxLocals)
    {own E tx : String} {names : List String} {ik is ic sa : Nat} (hown : s.vm.findClass own = some m.cls) (hE : Bundle.fit E = true) (hN : ∀ n ∈ names, Bundle.fit n = true)
    (hat : ∀ U : State, U.vm = s.vm → U.heap = H → ∀ w ∈ Bundle.ownAtoms own ic E names, w.before args U = true) (hcl : ∀ U : State, U.vm = s.vm → (Cond.classLink own ik E).before args U = true) (hins : ∀ U : State, U.vm = s.vm → (Cond.instantiable E 6).before args U = true) (hini : ∀ U : State, U.vm = s.vm → (Cond.initialized E).before args U = true) (hZ : vk_R own is tx sa s)
    (hd0 : decode cc pc = .ok (.new ik, 3)) (hd3 : decode cc (pc + 3) = .ok (.dup, 1)) (hd4 : decode cc (pc + 3 + 1) = .ok (.ldc is, 2)) (hd6 : decode cc (pc + 3 + 1 + 2) = .ok (.invokespecial ic, 3)) (hd9 : decode cc (pc + 3 + 1 + 2 + 3) = .ok (.athrow, 1))
    (hout : ∀ x ∈ c.exceptionTable.toList, covers x (pc + 3 + 1 + 2 + 3) = false) (hRc : cells + 1 ≤ R.cells) (hRs : slots + 6 ≤ R.slots) (hRf : names.length + 3 < R.frames) (hRl : 1 + (13 * (names.length + 1) + 42) ≤ R.locals)
    (hS : va_S A s.heap H locs) (hmc : cells + 1 ≤ mc) (hms : slots + 6 ≤ ms) (hEs : E ∈ Es) (hQt : ∀ t : State, s.vm.Alike t.vm → H.size ≤ t.heap.size → (∀ q : Nat, q < H.size → t.heap[q]? = H[q]?) → Qt t) :
    W p l e R s m args below meth c H locs cells slots (ty_Z below (ty_Q Qr Es Qt A mc ms) args s) (F0 m pc ls []) := by
  intro T hT X
  have Y := ty_base X hRc hRs
  have hv : (ty_at s m args below T).vm = s.vm := rfl
  have hh : (ty_at s m args below T).heap = H := hT
  obtain ⟨t, a1, o, b1, b2, q, ce, ho, hW, hsame, hce, hcv, hcls⟩ := tx_throw (R := { frames := R.frames, locals := R.locals, cells := 1, slots := 6 }) (s := ty_at s m args below T) (below := below) (H := H) (cells := 0) (slots := 0) hx hb hl hlocks hsize (by rw [hh]; exact Nat.le_refl _) hown hE hN (hat _ hv hh) (hcl _ hv) (hins _ hv) (hini _ hv) (hZ.same (U := ty_at s m args below T) rfl) hd0 hd3 hd4 hd6 hd9 hout (Nat.le_refl 1) (Nat.le_refl 6) hRf hRl T hT Y
  obtain ⟨f1, f2⟩ := tx_frame hsame
  rw [hh] at f1 f2
  have hWs : s.WarmedH t.vm := State.WarmedH.trans (t := ty_at s m args below T) (State.WarmedH.refl s) hW
  have hsame2 : (T.setVm s.vm).sameButNew ({ t with vm := s.vm } : State) [] 1 6 := by
    obtain ⟨j1, j2⟩ := hsame
    refine ⟨?_, j2⟩
    have j3 := j1
    unfold ty_at at j3
    rw [State.setFrames_setFrames] at j3
    exact j3
  have hsame3 := (X.same.trans hsame2).mono hmc hms
  rw [List.append_nil] at hsame3
  refine ⟨t, a1, o, b1, b2, Or.inr ⟨E, q, ce, locs, hEs, ho, hWs, hsame3, hS.2.2, hce, hcv, hcls, hQt t hWs.alike f1 f2, ?_⟩⟩
  exact ⟨Nat.le_trans hS.1 f1, fun z hz hA => by rw [f2 z (Nat.lt_of_lt_of_le hz hS.1)]; exact hS.2.1 z hz hA⟩
end TYB
section TYC
variable {p : Program} {l : Launch} {e : Env} {R : Room} {s : State} {m : MethodId} {args : Array Value} {below : List Frame} {meth : Method} {c : Code} {H : Heap} {locs : List Loc} {cells slots : Nat} {Q : State → Prop}
  {Ts ws ws' : List Cond} {cc bytes : ByteArray} {nL maxL index n mc ms : Nat} {own C : String} {y : MethodName} {ret : Option FieldType} {rm : Room} {Pc : Array Value → State → Prop} {b : Addr} {As rest : List Value}
  {Qr : Array Value → State → Outcome → State → Prop} {Es : List String} {Qt : State → Prop} {A0 A1 : Nat → Prop} {H0 : Heap}
/-- the state behind a callee: its heap, its book of slots, its tables, and the caller's frames -/
def ty_back (T : State) (t : State) : State := (({ T with heap := t.heap, slotsUsed := t.slotsUsed } : State).setVm t.vm)
/-- a virtual call of a method that comes back or throws -/
theorem ty_run {pc : Nat} {ls : Array Slot} (S : CallFix p m c cc nL s args Ts own) (hM : ty_Met l y ws rm Pc Qr Es Qt A1 mc ms) (cw : CallW R s args own C index y bytes maxL ret ws rm mc ms n) (hp : PreV s H C b Pc As)
    (hn : As.length = n) (hsize : ls.size = nL) (hW : 2 * (F0 m pc ls rest).monitorRoom + (rest.map fun v => v.category).sum ≤ 8) (hdg : decode cc pc = .ok (.invokevirtual index, 3)) (hf : cells + mc ≤ R.cells ∧ slots + ms ≤ R.slots)
    (hS : va_S A0 H0 H locs) (hA : ∀ q, A1 q → A0 q) (hQF : ∀ a st o t, Qr a st o t → va_F A1 st t)
    (kr : ∀ (v : Option Value) (st₀ t : State) (locs1 : List Loc), st₀.heap = H → s.vm.Alike t.vm → Qr (Value.ref b :: As).toArray st₀ (.returned v) t → H.size ≤ t.heap.size → (∀ z : Nat, z < H.size → ¬ A1 z → t.heap[z]? = H[z]?) → va_S A0 H0 t.heap locs1 → W p l e R s m args below meth c t.heap locs1 (cells + mc) (slots + ms) Q (F0 m (pc + 3) ls (v.toList ++ rest)))
    (kt : ∀ (E : String) (q : Addr) (ce : Cell) (t : State) (locs1 : List Loc), E ∈ Es → s.vm.Alike t.vm → t.heap[q]? = some ce → ce.vm = .none → s.vm.findClass E = some ce.cls → Qt t → H.size ≤ t.heap.size → (∀ z : Nat, z < H.size → ¬ A1 z → t.heap[z]? = H[z]?) → va_S A0 H0 t.heap locs1 →
      ∀ U : State, U.heap = t.heap → Stand p l e R s m args below meth c U locs1 (cells + mc) (slots + ms) → ∃ t', Steps p.tables e below ((U.setTop (F0 m pc ls rest)).pushFrame (.throwing q)) t' ∧ Q t') :
    W p l e R s m args below meth c H locs cells slots Q (F0 m pc ls (As.reverse ++ .ref b :: rest)) := by
  obtain ⟨⟨hrc, hrs, hfr, hlo, hws, hcw, hcode, hini, hy, hlen, hl⟩, hinst, hsel⟩ := cw
  obtain ⟨hx, hb, hml, hown, -⟩ := S
  obtain ⟨hblind, ⟨cellB, hcB, hoB, hclB⟩, hPc⟩ := hp
  intro T hT X
  subst hb
  obtain ⟨mk, methM, hnamed, hmethM, hstM, habM⟩ := Cond.instanceMethod_spec hinst
  obtain ⟨methM', cM, hmethM', hcM, -, hlM, -, -, -, hsigM⟩ := Cond.code_spec hnamed hcode
  cases hmethM.symm.trans hmethM'
  obtain ⟨c2, r2, m2, q1, q2, q3, q4, kP, hkP, hkPi⟩ := Cond.selects_spec hsel
  cases hclB.symm.trans q1
  cases (State.methodFound?_of_named hnamed hy).symm.trans q2
  cases hnamed.symm.trans q3
  have hselP : selectMethod e.platform s.vm cellB.cls mk = .method mk := by rw [Launch.admits_selectMethod X.admits]; exact q4
  obtain ⟨vm₁, X₁, hstep₁⟩ := X.invokevirtual hx hown hl hnamed hmethM hstM hkP hkPi hy (a := b) (cell := cellB) (by rw [hT]; exact hcB)
    (fun z h => by rw [h] at hoB; cases hoB) hselP hmethM habM hkP hkPi (g := F0 m pc ls (As.reverse ++ .ref b :: rest)) rfl (argsL := As) (rest := rest) (hn.trans (hlen _ hsigM)) rfl hdg
  have hcode₁ : (Cond.code y bytes maxL ret).before (Value.ref b :: As).toArray (T.setVm vm₁) = true := hws _ hcw _ _ X₁.warmed
  have hn₁ : (T.setVm vm₁).methodNamed? y = some mk := X₁.named hnamed
  obtain ⟨methY, cY, hmY, hcY, -, hlY, -, -, -, -⟩ := Cond.code_spec hn₁ hcode₁
  obtain ⟨kY, hkY, -⟩ := className_of_methodNamed hn₁
  have hinitY : kY.init = .initialized := Cond.initialized_spec (findClass_of_methodNamed hn₁) hkY (word_at (a' := #[]) X₁.warmed (Or.inl (by first | rfl | simp [Cond.onTables, Cond.keeps, Cond.steady])) hini)
  have h : At (T.setVm vm₁) m c below := X₁.here
  have hW : 2 * (F0 m pc ls rest).monitorRoom + ((F0 m pc ls rest).stack.map fun v => v.category).sum ≤ 8 := hW
  have hwsA : (headSpec ws rm).pre.before (Value.ref b :: As).toArray (T.setVm vm₁) = true := atoms_intro fun w hw => hws w hw _ _ X₁.warmed
  have happ : (headSpec ws rm).appliesLoose y e.platform ((T.setVm vm₁).calling (F0 m pc ls rest) mk (Value.ref b :: As).toArray) = true :=
    Spec.appliesLoose_calling (g := F0 m pc ls rest) h hdg hn₁ hkY hinitY
      (X₁.room_calling (g := F0 m pc ls rest) (R' := rm) (hsize.trans hml.symm) hmY hcY hfr (by rw [hlY]; omega) (by rw [hrc]; exact hf.1) (by rw [hrs]; exact hf.2)) hwsA
  obtain ⟨mid, hmid⟩ := h.above
  have hfrm : ((T.setVm vm₁).setTop (F0 m pc ls rest)).frames = (.java (F0 m pc ls rest) :: mid) ++ below := by rw [State.frames_setTop' _ h.top, hmid]; rfl
  obtain ⟨o, s₂, hsteps, -, hend, hq⟩ := Steps.callFree hM p X₁.admits X₁.cas X₁.clock (acts := []) hfrm happ (hblind _ _ _ _ (hPc (T.setVm vm₁) hT X₁.warmed)) trivial
  have hq' : ty_Q Qr Es Qt A1 mc ms (Value.ref b :: As).toArray ((T.setVm vm₁).calling (F0 m pc ls rest) mk (Value.ref b :: As).toArray) o s₂ := hq
  rw [State.frames_setTop' _ h.top] at hend
  have hc0 : ((T.setVm vm₁).calling (F0 m pc ls rest) mk (Value.ref b :: As).toArray).heap = H := hT
  obtain ⟨g₀, hg0⟩ := Option.isSome_iff_exists.mp h.top
  obtain ⟨r, hr⟩ := State.topJava?_eq_some.mp hg0
  -- what both ends share
  have both : ∀ (L : List Loc), ((T.setVm vm₁).calling (F0 m pc ls rest) mk (Value.ref b :: As).toArray).WarmedH s₂.vm → ((T.setVm vm₁).calling (F0 m pc ls rest) mk (Value.ref b :: As).toArray).sameButNew ({ s₂ with vm := ((T.setVm vm₁).calling (F0 m pc ls rest) mk (Value.ref b :: As).toArray).vm } : State) L mc ms →
      Stand p l e R s m args below meth c (ty_back (T.setVm vm₁) s₂) (locs ++ L) (cells + mc) (slots + ms) ∧ s₂ = (ty_back (T.setVm vm₁) s₂).setFrames s₂.frames := by
    intro L hW₂ hsm
    obtain ⟨e2, q2', q3', q4', q5', q6'⟩ := id hsm
    have hW' : (T.setVm vm₁).WarmedH s₂.vm := hW₂
    have hsame : (T.setVm vm₁).sameButNew ({ (T.setVm vm₁) with heap := s₂.heap, slotsUsed := s₂.slotsUsed } : State) L mc ms := by
      refine ⟨?_, q2', q3', q4', q5', q6'⟩
      obtain ⟨t, ht, -⟩ := State.frames_cons hr
      show ({ (T.setVm vm₁) with heap := s₂.heap, slotsUsed := s₂.slotsUsed } : State) = { (T.setVm vm₁).setFrames (T.setVm vm₁).frames with heap := s₂.heap, slotsUsed := s₂.slotsUsed }
      rw [State.setFrames_self ht]
    refine ⟨⟨X₁.admits, X₁.cas, X₁.clock, X₁.frames, X₁.room, X₁.hears, X₁.method, X₁.code, (X₁.here.setHeapUsed s₂.heap s₂.slotsUsed).setVm hW'.alike, X₁.tail, State.WarmedH.trans X₁.warmed hW', X₁.limits, X₁.bytes, X₁.same.trans (hsame.setVm s.vm)⟩, ?_⟩
    have e3 : s₂ = ({ ((T.setVm vm₁).calling (F0 m pc ls rest) mk (Value.ref b :: As).toArray).setFrames s₂.frames with heap := s₂.heap, slotsUsed := s₂.slotsUsed } : State).setVm s₂.vm := by
      have : s₂ = ({ s₂ with vm := ((T.setVm vm₁).calling (F0 m pc ls rest) mk (Value.ref b :: As).toArray).vm } : State).setVm s₂.vm := rfl
      rw [e2] at this
      exact this
    refine e3.trans ?_
    rw [State.calling_eq h.top, State.setFrames_setFrames]
    rfl
  have hkeep : ∀ L : List Loc, va_F A1 ((T.setVm vm₁).calling (F0 m pc ls rest) mk (Value.ref b :: As).toArray) s₂ → (∀ z ∈ L, A1 z.base) → va_S A0 H0 s₂.heap (locs ++ L) := by
    intro L hF hL
    rw [va_F, hc0] at hF
    refine ⟨Nat.le_trans hS.1 hF.1, fun q h1 h2 => ?_, fun z hz => ?_⟩
    · rw [hF.2 q (Nat.lt_of_lt_of_le h1 hS.1) (fun w => h2 (hA q w))]; exact hS.2.1 q h1 h2
    · rcases List.mem_append.mp hz with h9 | h9
      · exact hS.2.2 z h9
      · exact hA _ (hL z h9)
  rcases hq' with ⟨hqr, L, ⟨⟨v, rfl⟩, hW₂, hsm⟩, hL⟩ | ⟨E, q, ce, L, hE, rfl, hW₂, hsm, hL, hce, hcv, hcls, hQt, hF⟩
  · obtain ⟨XU, hs₂⟩ := both L hW₂ hsm
    obtain ⟨c₂, i₂, len₂, hc₂, hd₂, hf₂⟩ := hend
    have hW' : (T.setVm vm₁).WarmedH s₂.vm := hW₂
    have hcc : c₂ = c := by
      have h1 : s₂.code? m = (T.setVm vm₁).code? m := by rw [State.code?_eq, State.code?_eq, hW'.alike.method?]
      exact Option.some.inj (hc₂.symm.trans (h1.trans h.code))
    subst hcc
    have hlen3 : len₂ = 3 := by
      have h9 : decode c₂.code pc = .ok (i₂, len₂) := hd₂
      rw [hdg] at h9; cases h9; rfl
    subst hlen3
    have hsT : s₂ = (ty_back (T.setVm vm₁) s₂).setTop (F0 m (pc + 3) ls (v.toList ++ rest)) := by
      have hrU : (ty_back (T.setVm vm₁) s₂).frames = .java g₀ :: r := hr
      refine hs₂.trans ?_
      rw [hf₂, State.setTop_of_frames _ hrU]
      have hr2 : (T.setVm vm₁).frames = .java g₀ :: r := hr
      rw [hr2]
      rfl
    have hal : s.vm.Alike s₂.vm := (State.WarmedH.trans X₁.warmed hW').alike
    have hF := hQF _ _ _ _ hqr
    have hF9 := hF
    rw [va_F, hc0] at hF9
    obtain ⟨t, a1, b1⟩ := kr v _ s₂ (locs ++ L) hc0 hal hqr hF9.1 hF9.2 (hkeep L hF hL) (ty_back (T.setVm vm₁) s₂) rfl XU
    refine ⟨t, hstep₁ _ (fun acts => ?_), b1⟩
    rw [doInvoke_state]
    refine hsteps.trans ?_
    rw [hsT]
    exact a1
  · obtain ⟨XU, hs₂⟩ := both L hW₂ hsm
    have hf₂ : s₂.frames = .throwing q :: .java (F0 m pc ls rest) :: (T.setVm vm₁).frames.tail := hend
    have hW' : (T.setVm vm₁).WarmedH s₂.vm := hW₂
    have hal : s.vm.Alike s₂.vm := (State.WarmedH.trans X₁.warmed hW').alike
    have hsT : s₂ = ((ty_back (T.setVm vm₁) s₂).setTop (F0 m pc ls rest)).pushFrame (.throwing q) := by
      have hrU : (ty_back (T.setVm vm₁) s₂).frames = .java g₀ :: r := hr
      refine hs₂.trans ?_
      rw [hf₂, State.pushFrame, State.frames_setTop _ hrU, State.setTop_of_frames _ hrU, State.setFrames_setFrames]
      have hr2 : (T.setVm vm₁).frames = .java g₀ :: r := hr
      rw [hr2]
      rfl
    have hcls9 : s.vm.findClass E = some ce.cls := by
      have h1 : vm₁.findClass E = some ce.cls := hcls
      have h2 := X₁.warmed.alike.findClass E
      exact (h2 _).symm.trans h1
    have hF9 := hF
    rw [va_F, hc0] at hF9
    obtain ⟨t, a1, b1⟩ := kt E q ce s₂ (locs ++ L) hE hal hce hcv hcls9 hQt hF9.1 hF9.2 (hkeep L hF hL) (ty_back (T.setVm vm₁) s₂) rfl XU
    refine ⟨t, hstep₁ _ (fun acts => ?_), b1⟩
    rw [doInvoke_state]
    refine hsteps.trans ?_
    rw [hsT]
    exact a1
end TYC
section TYD
/-- the second row of a table takes it, the first does not -/
theorem ty_found2 {e : Env} {s : State} {f : JFrame} {a : Addr} {meth : Method} {code : Code} (hm : s.vm.method? f.method = some meth) (hc : meth.code = some code) {x1 x : ExceptionTableEntry} {rest : List ExceptionTableEntry} (hsplit : code.exceptionTable.toList = x1 :: x :: rest) (hx1 : covers x1 f.pc = true) (h01 : x1.catchType ≠ 0) (hx : covers x f.pc = true) (h0 : x.catchType ≠ 0) {c1 ct : ClassId} {cell : Cell}
    (hl1 : s.vm.ClassLinks e.platform f.method.cls x1.catchType c1) (hl : ∀ vm' : Vm, vm' = s.vm.noted f.method.cls x1.catchType (.cls c1) → vm'.ClassLinks e.platform f.method.cls x.catchType ct) (hcell : s.heap[a]? = some cell) (hobj : ∀ k, cell.vm ≠ .statics k) (hk : ∃ k, s.vm.classes[cell.cls]? = some k) (hc1 : ∃ k, s.vm.classes[c1]? = some k) (hct : ∃ k, s.vm.classes[ct]? = some k) (hno : s.vm.assignable cell.cls c1 = false) (hfit : s.vm.assignable cell.cls ct = true)
    (Q : Handler → Pre) (E : CtlPost) (d : Bool) (acts : List Action) : wp (findHandler f a) Q E e d acts s ↔ Q (.found x.handlerPc) d acts (s.setVm ((s.vm.noted f.method.cls x1.catchType (.cls c1)).noted f.method.cls x.catchType (.cls ct))) := by
  rw [Jvm.W.findHandler_eq hm hc, hsplit]
  simp only [covers] at hx1 hx
  have hlx := hl _ rfl
  obtain ⟨ha1, ht1⟩ := (resolveClass_links e.toSetting hl1).op (op := VmOp.resolveClass f.method.cls x1.catchType) rfl
  obtain ⟨ha, ht⟩ := (resolveClass_links e.toSetting hlx).op (op := VmOp.resolveClass f.method.cls x.catchType) rfl
  have hal1 : s.vm.Alike (s.vm.noted f.method.cls x1.catchType (.cls c1)) := (Vm.Alike.refl s.vm).noted _ _ _
  have hal : s.vm.Alike ((s.vm.noted f.method.cls x1.catchType (.cls c1)).noted f.method.cls x.catchType (.cls ct)) := hal1.noted _ _ _
  obtain ⟨k1, hk1⟩ := hk
  obtain ⟨k2, hk2⟩ := hct
  obtain ⟨k3, hk3⟩ := hc1
  obtain ⟨k1', hk1', -⟩ := hal1.2.2 _ _ hk1
  obtain ⟨k3', hk3', -⟩ := hal1.2.2 _ _ hk3
  obtain ⟨k1'', hk1'', -⟩ := hal.2.2 _ _ hk1
  obtain ⟨k2'', hk2'', -⟩ := hal.2.2 _ _ hk2
  have hno' : (s.vm.noted f.method.cls x1.catchType (.cls c1)).assignable cell.cls c1 = false := by rw [hal1.assignable]; exact hno
  have hfit' : ((s.vm.noted f.method.cls x1.catchType (.cls c1)).noted f.method.cls x.catchType (.cls ct)).assignable cell.cls ct = true := by rw [hal.assignable]; exact hfit
  simp [findHandler.go, hx1, h01, ha1, ht1, hx, h0, ha, ht, hcell, hobj, hk1', hk3', hno', hk1'', hk2'', hfit', VmOp.dirties, VmOp.acts]
  exact Iff.rfl
variable {p : Program} {l : Launch} {e : Env} {R : Room} {s : State} {m : MethodId} {args : Array Value} {below : List Frame} {meth : Method} {c : Code} {H : Heap} {locs : List Loc} {cells slots : Nat} {Q : State → Prop} {own : String}
/-- caught by the first row -/
theorem ty_catch1 {E nm : String} {x : ExceptionTableEntry} {suf : List ExceptionTableEntry} {pc : Nat} {ls : Array Slot} {rest : List Value} {q : Addr} {ce : Cell} {U : State} (hown : s.vm.findClass own = some m.cls) (hUh : U.heap = H) (XU : Stand p l e R s m args below meth c U locs cells slots) (hce : H[q]? = some ce) (hcv : ce.vm = .none) (hcls : s.vm.findClass E = some ce.cls)
    (hsplit : c.exceptionTable.toList = x :: suf) (hcov : covers x pc = true) (h0 : x.catchType ≠ 0) (hlink : (Cond.classLink own x.catchType nm).before args s = true) (hcast : (Cond.castable E nm).before args s = true)
    (kk : W p l e R s m args below meth c H locs cells slots Q (F0 m x.handlerPc ls [.ref q])) : ∃ t, Steps p.tables e below ((U.setTop (F0 m pc ls rest)).pushFrame (.throwing q)) t ∧ Q t := by
  have hpl : e.platform.magicAccessors = ({} : Platform).magicAccessors := by rw [XU.admits.platform]
  obtain ⟨c3, c4, hc3, hc4, hasg⟩ := Cond.castable_spec hcast
  cases Option.some.inj (hc3.symm.trans hcls)
  obtain ⟨c5, hc5, hcl5⟩ := Cond.classLink_spec hown hlink e.platform hpl
  cases Option.some.inj (hc4.symm.trans hc5)
  have hWU : s.WarmedH U.vm := XU.warmed
  obtain ⟨dk, _, _, kt, hd, _, _, _, _, hkt, _, hopen⟩ := hcl5.here
  have hWn : s.WarmedH (U.vm.noted m.cls x.catchType (.cls c4)) := hWU.noted hd hopen (State.rightAt_cls hcl5)
  have hk1 : ∃ k, U.vm.classes[ce.cls]? = some k := by
    obtain ⟨k, hk⟩ := Vm.classAt_of_findClass hcls
    obtain ⟨k', h', -⟩ := hWU.alike.2.2 _ _ hk
    exact ⟨k', h'⟩
  have hk2 : ∃ k, U.vm.classes[c4]? = some k := by
    obtain ⟨k', h', -⟩ := hWU.alike.2.2 _ _ hkt
    exact ⟨k', h'⟩
  have hvmS : ((U.setTop (F0 m pc ls rest)).pushFrame (.throwing q)).vm = U.vm := Stand.throwing_vm U (F0 m pc ls rest) q
  have hfind := tx_found (e := e) (s := (U.setTop (F0 m pc ls rest)).pushFrame (.throwing q)) (f := F0 m pc ls rest) (a := q) (meth := meth) (code := c) (by rw [hvmS]; exact XU.method') XU.code hsplit hcov h0 (ct := c4) (cell := ce) (by rw [hvmS]; exact hWU.classLinks hcl5) (by rw [Stand.throwing_heap, hUh]; exact hce) (fun k => by rw [hcv]; intro h; cases h) (by rw [hvmS]; exact hk1) (by rw [hvmS]; exact hk2) (by rw [hvmS, hWU.alike.assignable]; exact hasg)
  rw [hvmS] at hfind
  obtain ⟨t, a1, b1⟩ := kk (U.setVm (U.vm.noted m.cls x.catchType (.cls c4))) hUh (XU.noted hWn)
  exact ⟨t, tx_caught XU.here hfind a1, b1⟩
/-- caught by the second row: the first names a class that it is not of -/
theorem ty_catch2 {E nm nm1 : String} {x1 x : ExceptionTableEntry} {suf : List ExceptionTableEntry} {pc : Nat} {ls : Array Slot} {rest : List Value} {q : Addr} {ce : Cell} {U : State} (hown : s.vm.findClass own = some m.cls) (hUh : U.heap = H) (XU : Stand p l e R s m args below meth c U locs cells slots) (hce : H[q]? = some ce) (hcv : ce.vm = .none) (hcls : s.vm.findClass E = some ce.cls)
    (hsplit : c.exceptionTable.toList = x1 :: x :: suf) (hcov1 : covers x1 pc = true) (h01 : x1.catchType ≠ 0) (hcov : covers x pc = true) (h0 : x.catchType ≠ 0) (hlink1 : (Cond.classLink own x1.catchType nm1).before args s = true) (hlink : (Cond.classLink own x.catchType nm).before args s = true) (hno : (Cond.not (.castable E nm1)).before args s = true) (hcast : (Cond.castable E nm).before args s = true)
    (kk : W p l e R s m args below meth c H locs cells slots Q (F0 m x.handlerPc ls [.ref q])) : ∃ t, Steps p.tables e below ((U.setTop (F0 m pc ls rest)).pushFrame (.throwing q)) t ∧ Q t := by
  have hpl : e.platform.magicAccessors = ({} : Platform).magicAccessors := by rw [XU.admits.platform]
  obtain ⟨c3, c4, hc3, hc4, hasg⟩ := Cond.castable_spec hcast
  cases Option.some.inj (hc3.symm.trans hcls)
  obtain ⟨c5, hc5, hcl5⟩ := Cond.classLink_spec hown hlink e.platform hpl
  cases Option.some.inj (hc4.symm.trans hc5)
  obtain ⟨c6, hc6, hcl6⟩ := Cond.classLink_spec hown hlink1 e.platform hpl
  have hno9 : s.vm.assignable ce.cls c6 = false := by
    have h1 := Cond.holds_not_iff.mp hno
    simp only [Cond.value, hcls, hc6] at h1
    simpa using h1
  have hWU : s.WarmedH U.vm := XU.warmed
  obtain ⟨dk1, _, _, kt1, hd1, _, _, _, _, hkt1, _, hopen1⟩ := hcl6.here
  have hWn1 : s.WarmedH (U.vm.noted m.cls x1.catchType (.cls c6)) := hWU.noted hd1 hopen1 (State.rightAt_cls hcl6)
  obtain ⟨dk, _, _, kt, hd, _, _, _, _, hkt, _, hopen⟩ := hcl5.here
  have hWn : s.WarmedH ((U.vm.noted m.cls x1.catchType (.cls c6)).noted m.cls x.catchType (.cls c4)) := hWn1.noted hd hopen (State.rightAt_cls hcl5)
  have hk1 : ∃ k, U.vm.classes[ce.cls]? = some k := by
    obtain ⟨k, hk⟩ := Vm.classAt_of_findClass hcls
    obtain ⟨k', h', -⟩ := hWU.alike.2.2 _ _ hk
    exact ⟨k', h'⟩
  have hk2 : ∃ k, U.vm.classes[c4]? = some k := by
    obtain ⟨k', h', -⟩ := hWU.alike.2.2 _ _ hkt
    exact ⟨k', h'⟩
  have hk3 : ∃ k, U.vm.classes[c6]? = some k := by
    obtain ⟨k', h', -⟩ := hWU.alike.2.2 _ _ hkt1
    exact ⟨k', h'⟩
  have hvmS : ((U.setTop (F0 m pc ls rest)).pushFrame (.throwing q)).vm = U.vm := Stand.throwing_vm U (F0 m pc ls rest) q
  have hfind := ty_found2 (e := e) (s := (U.setTop (F0 m pc ls rest)).pushFrame (.throwing q)) (f := F0 m pc ls rest) (a := q) (meth := meth) (code := c) (by rw [hvmS]; exact XU.method') XU.code hsplit hcov1 h01 hcov h0 (c1 := c6) (ct := c4) (cell := ce) (by rw [hvmS]; exact hWU.classLinks hcl6) (fun vm' hv => by rw [hv, hvmS]; exact hWn1.classLinks hcl5) (by rw [Stand.throwing_heap, hUh]; exact hce) (fun k => by rw [hcv]; intro h; cases h) (by rw [hvmS]; exact hk1) (by rw [hvmS]; exact hk3) (by rw [hvmS]; exact hk2) (by rw [hvmS, hWU.alike.assignable]; exact hno9) (by rw [hvmS, hWU.alike.assignable]; exact hasg)
  rw [hvmS] at hfind
  obtain ⟨t, a1, b1⟩ := kk (U.setVm ((U.vm.noted m.cls x1.catchType (.cls c6)).noted m.cls x.catchType (.cls c4))) hUh (XU.noted hWn)
  exact ⟨t, tx_caught XU.here hfind a1, b1⟩
end TYD
theorem xr_inr {i : Int32} {n cap : Nat} (h0 : 0 ≤ i) (h1 : i < nI n) (hn : n ≤ cap) (hc : cap < 2 ^ 31) : vp_in i cap := by
  rw [vp_in_iff]
  have a1 := Int32.le_iff_toInt_le.mp h0
  have a2 := Int32.lt_iff_toInt_lt.mp h1
  rw [nI_toInt (by omega)] at a2
  have a3 : (0 : Int32).toInt = 0 := by decide
  omega
theorem xr_upc {f : Nat → Int32} {i : Nat} {x : Int32} (h : ∀ j, narrow .char (.int (f j)) = .int (f j)) : ∀ j, narrow .char (.int (upd f i (vp_nar .char x) j)) = .int (upd f i (vp_nar .char x) j) := by
  intro j
  unfold upd
  split
  · simp [vp_nar, narrow]
    exact congrArg UInt32.toInt32 (UInt32.toNat_inj.mp (by rw [UInt32.toNat_mod, UInt32.toNat_mod]; exact Nat.mod_mod _ _))
  · exact h j
theorem xr_nb {r : Int32} (h : r = 0 ∨ r = 1) : narrow .boolean (.int r) = .int r := by
  rcases h with rfl | rfl <;> decide
theorem xr_mu {x y : Int32} (h : ¬ y ≤ x) : (2147483647 - (x + 1).toInt).toNat < (2147483647 - x.toInt).toNat := by
  have h1 := Int32.lt_iff_toInt_lt.mp (Int32.not_le.mp h)
  have h2 := Int32.toInt_lt y
  have h3 := Int32.le_toInt x
  have h4 : (x + 1).toInt = x.toInt + 1 := by
    rw [Int32.toInt_add]
    have h5 : (1 : Int32).toInt = 1 := by decide
    rw [h5]
    exact Int.bmod_eq_of_le (by omega) (by omega)
  omega
theorem xr_upn {f : Nat → Int32} {i : Nat} {x c : Int32} (h : ∀ j, ¬ f j = c) (hx : ¬ x = c) : ∀ j, ¬ upd f i x j = c := by
  intro j
  unfold upd
  split
  · exact hx
  · exact h j
theorem xr_upr {f : Nat → Int32} {b i q : Nat} (h : ∀ j, ∃ q, q < b ∧ f j = nI q) (hq : q < b) : ∀ j, ∃ q', q' < b ∧ upd f i (nI q) j = nI q' := by
  intro j
  unfold upd
  split
  · exact ⟨q, hq, rfl⟩
  · exact h j
theorem xr_min {p : Program} {l : Launch} {e : Env} {R : Room} {s : State} {m : MethodId} {args : Array Value} {below : List Frame} {meth : Method} {c : Code} {H : Heap} {locs : List Loc} {cells slots : Nat} {Q : State → Prop} {cc : ByteArray} {pc : Nat} {ls : Array Slot} {rest : List Value} (hx : p.tables.exec = Jvm.exec) (hb : c.code = cc) (hml : c.maxLocals = ls.size) {own : String} {index : Nat} (hown : s.vm.findClass own = some m.cls) (hlink : (Cond.methodLink own index Lib.Math.min.name).before args s = true) (hstat : (Cond.static Lib.Math.min.name).before args s = true) (hini : (Cond.initialized "java/lang/Math").before args s = true) (hcode : (Cond.code Lib.Math.min.name Lib.Math.min.code 2 (some .int)).before args s = true)
    (hframes : 1 ≤ R.frames) (hlocals : (rest.map fun v => v.category).sum + 13 ≤ R.locals) (hc : cells ≤ R.cells) (hs : slots ≤ R.slots) {x y v : Int32} (hdg : decode cc pc = .ok (.invokestatic index, 3)) (hv : (if y < x then y else x) = v)
    (kk : W p l e R s m args below meth c H locs cells slots Q (F0 m (pc + 3) ls (.int v :: rest))) : W p l e R s m args below meth c H locs cells slots Q (F0 m pc ls (.int y :: .int x :: rest)) := by
  subst hv; exact va_mmin hx hb hml hown hlink hstat hini hcode hframes hlocals hc hs hdg kk
theorem xr_minn {a b : Nat} (ha : a ≤ 2147483647) (hb : b ≤ 2147483647) : (if nI b < nI a then nI b else nI a) = nI (min a b) := by
  split
  · rename_i h
    have h := (nI_ltI (a := b) (b := a) (by omega) (by omega)).mp h
    rw [Nat.min_eq_right (by omega)]
  · rename_i h
    have h : ¬ b < a := fun q => h ((nI_ltI (a := b) (b := a) (by omega) (by omega)).mpr q)
    rw [Nat.min_eq_left (by omega)]
set_option maxHeartbeats 4000000 in
set_option maxRecDepth 100000 in
theorem s_Tokens_size (l : Launch) (dC : Nat → ClassId) (dI : Nat → Nat → Nat) (sz : Nat) (a_t : Nat) (a_kinds : Nat) (a_values : Nat) (n_size : Nat) : Met l y_Tokens_size w_Tokens_size ({ frames := 0, cells := 0, slots := 0, locals := 0 }) (va_Pc [.ref a_t] (fun U => U.heap.size = sz ∧ va_P (dC, dI) vcl [(a_t, .inr (11, [.ref a_kinds, .ref a_values, .int (nI n_size)]))] U.heap ∧ va_K (dC, dI) vcl [] U ∧ va_D (fun _ => True) [(a_t, .inr (11, [.ref a_kinds, .ref a_values, .int (nI n_size)]))])) (va_Qi (fun (r : Int32) (_ : Unit) => r = (nI n_size)) (fun _ t => va_P (dC, dI) vcl [(a_t, .inr (11, [.ref a_kinds, .ref a_values, .int (nI n_size)]))] t.heap ∧ va_K (dC, dI) vcl [] t ∧ va_D (va_A [(a_t, .inr (11, [.ref a_kinds, .ref a_values, .int (nI n_size)]))] sz) [(a_t, .inr (11, [.ref a_kinds, .ref a_values, .int (nI n_size)]))]) (va_A [(a_t, .inr (11, [.ref a_kinds, .ref a_values, .int (nI n_size)]))] sz)) 0 0 (va_A [(a_t, .inr (11, [.ref a_kinds, .ref a_values, .int (nI n_size)]))] sz) := by
  refine Met.ofW (cc := b_Tokens_size) (maxL := 1) (ret := (some .int)) (by decide) rfl ?_
  intro p e s m args below meth c s₁ B hml hv
  obtain ⟨rfl, hsz, hP, hK, hD0⟩ := hv
  have hx := B.exec
  have hb := B.bytes
  have hr := B.returns
  have hts := atoms_spec (ws := w_Tokens_size) B.pre
  have hz : ∀ w ∈ wz, w.before _ s = true := fun w h => hts w (List.mem_cons_of_mem _ h)
  have hown : s.vm.findClass R_Tokens = some m.cls := findClass_of_methodNamed B.named
  have hlocks := B.notSynchronized
  subst hsz
  have hD := hD0.self (sz := s.heap.size)
  generalize hAe : va_A [(a_t, .inr (11, [.ref a_kinds, .ref a_values, .int (nI n_size)]))] s.heap.size = A at hD ⊢
  have hA : ∀ q : Nat, s.heap.size ≤ q → A q := fun q h => by rw [← hAe]; exact Or.inr h
  have hS : va_S A s.heap s.heap [] := va_S.rf
  have hP : va_P (dC, dI) vcl [(a_t, .inr (11, [.ref a_kinds, .ref a_values, .int (nI n_size)]))] s.heap := hP
  have hl := lv_entry ([.ref a_t]) (n := 1) (Nat.le_of_ble_eq_true rfl)
  rw [lg_entry_eq]
  generalize (lg_sl ([.ref a_t]) ++ List.replicate (1 - (lg_sl ([.ref a_t])).length) Slot.unset).toArray = ls at hl ⊢
  have hl : lv_has ls 1 [(0, .ref a_t)] := hl
  refine lv_aload_n hx hb d_Tokens_size_0 rfl (lv_at hl 0 rfl) ?_
  refine va_get (D := (dC, dI)) (ci := 11) (v := .int (nI n_size)) (C := R_Tokens) (T := F_Tokens) (N := 3) hx hb hz zu_Tokens hown hK hP 0 rfl rfl 2 (by decide) (hz (.fieldLink R_Tokens 19 "LayoutFront$Tokens" "size" "I") zm_31) (fun _ h9 => h9) rfl d_Tokens_size_1 ?_
  have hP9 := hP.sub (ws' := [(a_t, .inr (11, [.ref a_kinds, .ref a_values, .int (nI n_size)]))]) [0] rfl
  have hD9 := hD.sub (ws' := [(a_t, .inr (11, [.ref a_kinds, .ref a_values, .int (nI n_size)]))]) [0] (by decide) rfl
  exact W.iret (v := (nI n_size)) hx hb hr (fun t ht hW => ⟨⟨(nI n_size), (), rfl, rfl, by rw [ht]; exact hP9, va_K.moved hW.alike hK, hD9⟩, hS.F ht⟩) hS.2.2 d_Tokens_size_4
set_option maxHeartbeats 4000000 in
set_option maxRecDepth 100000 in
theorem s_Tokens_has (l : Launch) (dC : Nat → ClassId) (dI : Nat → Nat → Nat) (sz : Nat) (a_t : Nat) (a_kinds : Nat) (a_values : Nat) (n_size : Nat) (y0 : Int32) : Met l y_Tokens_has w_Tokens_has ({ frames := 0, cells := 0, slots := 0, locals := 0 }) (va_Pc [.ref a_t, .int y0] (fun U => U.heap.size = sz ∧ va_P (dC, dI) vcl [(a_t, .inr (11, [.ref a_kinds, .ref a_values, .int (nI n_size)]))] U.heap ∧ va_K (dC, dI) vcl [] U ∧ va_D (fun _ => True) [(a_t, .inr (11, [.ref a_kinds, .ref a_values, .int (nI n_size)]))])) (va_Qi (fun (r : Int32) (_ : Unit) => (r = 0 ∨ r = 1) ∧ (¬ r = 0 → 0 ≤ y0 ∧ y0 < (nI n_size))) (fun _ t => va_P (dC, dI) vcl [(a_t, .inr (11, [.ref a_kinds, .ref a_values, .int (nI n_size)]))] t.heap ∧ va_K (dC, dI) vcl [] t ∧ va_D (va_A [(a_t, .inr (11, [.ref a_kinds, .ref a_values, .int (nI n_size)]))] sz) [(a_t, .inr (11, [.ref a_kinds, .ref a_values, .int (nI n_size)]))]) (va_A [(a_t, .inr (11, [.ref a_kinds, .ref a_values, .int (nI n_size)]))] sz)) 0 0 (va_A [(a_t, .inr (11, [.ref a_kinds, .ref a_values, .int (nI n_size)]))] sz) := by
  refine Met.ofW (cc := b_Tokens_has) (maxL := 2) (ret := (some .boolean)) (by decide) rfl ?_
  intro p e s m args below meth c s₁ B hml hv
  obtain ⟨rfl, hsz, hP, hK, hD0⟩ := hv
  have hx := B.exec
  have hb := B.bytes
  have hr := B.returns
  have hts := atoms_spec (ws := w_Tokens_has) B.pre
  have hz : ∀ w ∈ wz, w.before _ s = true := fun w h => hts w (List.mem_cons_of_mem _ h)
  have hown : s.vm.findClass R_Tokens = some m.cls := findClass_of_methodNamed B.named
  have hlocks := B.notSynchronized
  subst hsz
  have hD := hD0.self (sz := s.heap.size)
  generalize hAe : va_A [(a_t, .inr (11, [.ref a_kinds, .ref a_values, .int (nI n_size)]))] s.heap.size = A at hD ⊢
  have hA : ∀ q : Nat, s.heap.size ≤ q → A q := fun q h => by rw [← hAe]; exact Or.inr h
  have hS : va_S A s.heap s.heap [] := va_S.rf
  have hP : va_P (dC, dI) vcl [(a_t, .inr (11, [.ref a_kinds, .ref a_values, .int (nI n_size)]))] s.heap := hP
  have hl := lv_entry ([.ref a_t, .int y0]) (n := 2) (Nat.le_of_ble_eq_true rfl)
  rw [lg_entry_eq]
  generalize (lg_sl ([.ref a_t, .int y0]) ++ List.replicate (2 - (lg_sl ([.ref a_t, .int y0])).length) Slot.unset).toArray = ls at hl ⊢
  have hl : lv_has ls 2 [(0, .ref a_t), (1, .int y0)] := hl
  refine lv_iload_n hx hb d_Tokens_has_0 rfl (lv_at hl 1 rfl) ?_
  refine lv_if_lt (tgt := 16) hx hb d_Tokens_has_1 (by decide) (fun h1 => ?_) (fun h1 => ?_)
  · refine lv_iconst (v := 0) hx hb d_Tokens_has_16 (by decide) ?_
    have hP9 := hP.sub (ws' := [(a_t, .inr (11, [.ref a_kinds, .ref a_values, .int (nI n_size)]))]) [0] rfl
    have hD9 := hD.sub (ws' := [(a_t, .inr (11, [.ref a_kinds, .ref a_values, .int (nI n_size)]))]) [0] (by decide) rfl
    exact W.zret (v := 0) hx hb hr (by decide +kernel) (fun t ht hW => ⟨⟨0, (), rfl, ⟨(by first | assumption | exact Or.inl rfl | exact Or.inr rfl), fun h => absurd rfl h⟩, by rw [ht]; exact hP9, va_K.moved hW.alike hK, hD9⟩, hS.F ht⟩) hS.2.2 d_Tokens_has_17
  · refine lv_iload_n hx hb d_Tokens_has_4 rfl (lv_at hl 1 rfl) ?_
    refine lv_aload_n hx hb d_Tokens_has_5 rfl (lv_at hl 0 rfl) ?_
    refine va_get (D := (dC, dI)) (ci := 11) (v := .int (nI n_size)) (C := R_Tokens) (T := F_Tokens) (N := 3) hx hb hz zu_Tokens hown hK hP 0 rfl rfl 2 (by decide) (hz (.fieldLink R_Tokens 19 "LayoutFront$Tokens" "size" "I") zm_31) (fun _ h9 => h9) rfl d_Tokens_has_6 ?_
    refine lv_icmp_ge (tgt := 16) hx hb d_Tokens_has_9 (by decide) (fun h2 => ?_) (fun h2 => ?_)
    · refine lv_iconst (v := 0) hx hb d_Tokens_has_16 (by decide) ?_
      have hP9 := hP.sub (ws' := [(a_t, .inr (11, [.ref a_kinds, .ref a_values, .int (nI n_size)]))]) [0] rfl
      have hD9 := hD.sub (ws' := [(a_t, .inr (11, [.ref a_kinds, .ref a_values, .int (nI n_size)]))]) [0] (by decide) rfl
      exact W.zret (v := 0) hx hb hr (by decide +kernel) (fun t ht hW => ⟨⟨0, (), rfl, ⟨(by first | assumption | exact Or.inl rfl | exact Or.inr rfl), fun h => absurd rfl h⟩, by rw [ht]; exact hP9, va_K.moved hW.alike hK, hD9⟩, hS.F ht⟩) hS.2.2 d_Tokens_has_17
    · refine lv_iconst (v := 1) hx hb d_Tokens_has_12 (by decide) ?_
      refine lv_goto (tgt := 17) hx hb d_Tokens_has_13 (by decide) ?_
      have hP9 := hP.sub (ws' := [(a_t, .inr (11, [.ref a_kinds, .ref a_values, .int (nI n_size)]))]) [0] rfl
      have hD9 := hD.sub (ws' := [(a_t, .inr (11, [.ref a_kinds, .ref a_values, .int (nI n_size)]))]) [0] (by decide) rfl
      exact W.zret (v := 1) hx hb hr (by decide +kernel) (fun t ht hW => ⟨⟨1, (), rfl, ⟨(by first | assumption | exact Or.inl rfl | exact Or.inr rfl), fun _ => ⟨(xr_ge0 h1), (Int32.not_le.mp h2)⟩⟩, by rw [ht]; exact hP9, va_K.moved hW.alike hK, hD9⟩, hS.F ht⟩) hS.2.2 d_Tokens_has_17
set_option maxHeartbeats 4000000 in
set_option maxRecDepth 100000 in
theorem s_Tokens_kindAt (l : Launch) (dC : Nat → ClassId) (dI : Nat → Nat → Nat) (sz : Nat) (cap : Nat) (a_t : Nat) (a_kinds : Nat) (f_kinds : Nat → Int32) (a_values : Nat) (n_size : Nat) (y0 : Int32) (ka_kinds : ClassId) (bcap : cap ≤ 600) (b_size : n_size ≤ cap) : Met l y_Tokens_kindAt w_Tokens_kindAt ({ frames := 1, cells := 0, slots := 0, locals := 21 }) (va_Pc [.ref a_t, .int y0] (fun U => U.heap.size = sz ∧ va_P (dC, dI) vcl [(a_t, .inr (11, [.ref a_kinds, .ref a_values, .int (nI n_size)])), (a_kinds, .inl (ka_kinds, cap, .inl f_kinds))] U.heap ∧ va_K (dC, dI) vcl [(ka_kinds, .int)] U ∧ va_D (fun _ => True) [(a_t, .inr (11, [.ref a_kinds, .ref a_values, .int (nI n_size)])), (a_kinds, .inl (ka_kinds, cap, .inl f_kinds))])) (va_Qi (fun (r : Int32) (_ : Unit) => True) (fun _ t => va_P (dC, dI) vcl [(a_t, .inr (11, [.ref a_kinds, .ref a_values, .int (nI n_size)])), (a_kinds, .inl (ka_kinds, cap, .inl f_kinds))] t.heap ∧ va_K (dC, dI) vcl [(ka_kinds, .int)] t ∧ va_D (va_A [(a_t, .inr (11, [.ref a_kinds, .ref a_values, .int (nI n_size)])), (a_kinds, .inl (ka_kinds, cap, .inl f_kinds))] sz) [(a_t, .inr (11, [.ref a_kinds, .ref a_values, .int (nI n_size)])), (a_kinds, .inl (ka_kinds, cap, .inl f_kinds))]) (va_A [(a_t, .inr (11, [.ref a_kinds, .ref a_values, .int (nI n_size)])), (a_kinds, .inl (ka_kinds, cap, .inl f_kinds))] sz)) 0 0 (va_A [(a_t, .inr (11, [.ref a_kinds, .ref a_values, .int (nI n_size)])), (a_kinds, .inl (ka_kinds, cap, .inl f_kinds))] sz) := by
  refine Met.ofW (cc := b_Tokens_kindAt) (maxL := 2) (ret := (some .int)) (by decide) rfl ?_
  intro p e s m args below meth c s₁ B hml hv
  obtain ⟨rfl, hsz, hP, hK, hD0⟩ := hv
  have hx := B.exec
  have hb := B.bytes
  have hr := B.returns
  have hts := atoms_spec (ws := w_Tokens_kindAt) B.pre
  have hz : ∀ w ∈ wz, w.before _ s = true := fun w h => hts w (List.mem_cons_of_mem _ h)
  have hown : s.vm.findClass R_Tokens = some m.cls := findClass_of_methodNamed B.named
  have hlocks := B.notSynchronized
  subst hsz
  have hD := hD0.self (sz := s.heap.size)
  generalize hAe : va_A [(a_t, .inr (11, [.ref a_kinds, .ref a_values, .int (nI n_size)])), (a_kinds, .inl (ka_kinds, cap, .inl f_kinds))] s.heap.size = A at hD ⊢
  have hA : ∀ q : Nat, s.heap.size ≤ q → A q := fun q h => by rw [← hAe]; exact Or.inr h
  have hS : va_S A s.heap s.heap [] := va_S.rf
  have hP : va_P (dC, dI) vcl [(a_t, .inr (11, [.ref a_kinds, .ref a_values, .int (nI n_size)])), (a_kinds, .inl (ka_kinds, cap, .inl f_kinds))] s.heap := hP
  have hl := lv_entry ([.ref a_t, .int y0]) (n := 2) (Nat.le_of_ble_eq_true rfl)
  rw [lg_entry_eq]
  generalize (lg_sl ([.ref a_t, .int y0]) ++ List.replicate (2 - (lg_sl ([.ref a_t, .int y0])).length) Slot.unset).toArray = ls at hl ⊢
  have hl : lv_has ls 2 [(0, .ref a_t), (1, .int y0)] := hl
  refine lv_aload_n hx hb d_Tokens_kindAt_0 rfl (lv_at hl 0 rfl) ?_
  refine lv_iload_n hx hb d_Tokens_kindAt_1 rfl (lv_at hl 1 rfl) ?_
  have hPc := hP.sub (ws' := [(a_t, .inr (11, [.ref a_kinds, .ref a_values, .int (nI n_size)]))]) [0] rfl
  have hDc := hD.sub (ws' := [(a_t, .inr (11, [.ref a_kinds, .ref a_values, .int (nI n_size)]))]) [0] (by decide) rfl
  have hKc := hK.sub (tys' := []) [] rfl
  have hFc := va_free (wc := [(a_t, .inr (11, [.ref a_kinds, .ref a_values, .int (nI n_size)]))]) hD hS hA [0] rfl
  refine va_calli (va_runV (As := [.int y0]) (rest := []) ⟨hx, hb, hml, hown, hz⟩ (s_Tokens_has l dC dI s.heap.size a_t a_kinds a_values n_size y0) (cwV 1 hz (zV zm_37 zm_38 zm_39 zm_35 zm_40) rfl rfl rfl (by decide +kernel) ⟨Nat.le_of_ble_eq_true rfl, Nat.le_of_ble_eq_true rfl⟩) ⟨fun a U g mk q => by obtain ⟨q0, q1, qP, qK, qD⟩ := q; exact ⟨q0, q1, qP, va_K.moved (u := U) (U := U.calling g mk a) (Vm.Alike.refl U.vm) qK, qD⟩, va_recv (q := (R_Tokens, F_Tokens, 3)) (q0 := 0) (ci := 11) hK hP rfl rfl, fun U hU hW => ⟨rfl, by rw [hU], by rw [hU]; exact hPc, va_K.moved hW.alike hKc, hDc.weaken (fun _ _ _ _ => trivial)⟩⟩ rfl rfl hl.1 rfl (lv_room (Nat.le_of_ble_eq_true rfl)) d_Tokens_kindAt_2 ⟨Nat.zero_le _, Nat.zero_le _⟩) hS (fun q _ h => hFc q h) hFc (fun x1 u t H1 locs ht hvm hw_x1 hB hz1 hk1 hS => ?_)
  obtain ⟨hP1, hK1, hD1⟩ := hB
  have hb_x1 := hw_x1.1
  rw [ht] at hP1
  obtain ⟨hP, hD⟩ := va_join (wr := [(a_kinds, .inl (ka_kinds, cap, .inl f_kinds))]) (w1 := [(a_t, .inr (11, [.ref a_kinds, .ref a_values, .int (nI n_size)]))]) hP hD [0] [1] rfl rfl (by decide) (by decide) hk1 hFc hP1 hD1
  generalize H1 = H at hP hS ⊢
  have hP : va_P (dC, dI) vcl [(a_kinds, .inl (ka_kinds, cap, .inl f_kinds)), (a_t, .inr (11, [.ref a_kinds, .ref a_values, .int (nI n_size)]))] H := hP
  have hD : va_D A [(a_kinds, .inl (ka_kinds, cap, .inl f_kinds)), (a_t, .inr (11, [.ref a_kinds, .ref a_values, .int (nI n_size)]))] := hD
  refine lv_if_eq (tgt := 17) hx hb d_Tokens_kindAt_5 (by decide) (fun h2 => ?_) (fun h2 => ?_)
  · refine lv_iconst (v := (-1)) hx hb d_Tokens_kindAt_17 (by decide) ?_
    have hP9 := hP.sub (ws' := [(a_t, .inr (11, [.ref a_kinds, .ref a_values, .int (nI n_size)])), (a_kinds, .inl (ka_kinds, cap, .inl f_kinds))]) [1, 0] rfl
    have hD9 := hD.sub (ws' := [(a_t, .inr (11, [.ref a_kinds, .ref a_values, .int (nI n_size)])), (a_kinds, .inl (ka_kinds, cap, .inl f_kinds))]) [1, 0] (by decide) rfl
    exact W.iret (v := (-1)) hx hb hr (fun t ht hW => ⟨⟨(-1), (), rfl, trivial, by rw [ht]; exact hP9, va_K.moved hW.alike hK, hD9⟩, hS.F ht⟩) hS.2.2 d_Tokens_kindAt_18
  · refine lv_aload_n hx hb d_Tokens_kindAt_8 rfl (lv_at hl 0 rfl) ?_
    refine va_get (D := (dC, dI)) (ci := 11) (v := .ref a_kinds) (C := R_Tokens) (T := F_Tokens) (N := 3) hx hb hz zu_Tokens hown hK hP 1 rfl rfl 0 (by decide) (hz (.fieldLink R_Tokens 9 "LayoutFront$Tokens" "kinds" "[I") zm_28) (fun _ h9 => h9) rfl d_Tokens_kindAt_9 ?_
    refine lv_iload_n hx hb d_Tokens_kindAt_12 rfl (lv_at hl 1 rfl) ?_
    refine va_iald hx hb hK hP 0 0 rfl rfl (xr_inr (hw_x1.2 h2).1 (hw_x1.2 h2).2 (by omega) (by omega)) d_Tokens_kindAt_13 ?_
    refine lv_topi (fun x3 e_x3 => ?_)
    refine lv_goto (tgt := 18) hx hb d_Tokens_kindAt_14 (by decide) ?_
    have hP9 := hP.sub (ws' := [(a_t, .inr (11, [.ref a_kinds, .ref a_values, .int (nI n_size)])), (a_kinds, .inl (ka_kinds, cap, .inl f_kinds))]) [1, 0] rfl
    have hD9 := hD.sub (ws' := [(a_t, .inr (11, [.ref a_kinds, .ref a_values, .int (nI n_size)])), (a_kinds, .inl (ka_kinds, cap, .inl f_kinds))]) [1, 0] (by decide) rfl
    exact W.iret (v := x3) hx hb hr (fun t ht hW => ⟨⟨x3, (), rfl, trivial, by rw [ht]; exact hP9, va_K.moved hW.alike hK, hD9⟩, hS.F ht⟩) hS.2.2 d_Tokens_kindAt_18
set_option maxHeartbeats 4000000 in
set_option maxRecDepth 100000 in
theorem s_Open_size (l : Launch) (dC : Nat → ClassId) (dI : Nat → Nat → Nat) (sz : Nat) (a_t : Nat) (a_things : Nat) (n_size : Nat) (z_most : Int32) (b_size : n_size ≤ 181) : Met l y_Open_size w_Open_size ({ frames := 0, cells := 0, slots := 0, locals := 0 }) (va_Pc [.ref a_t] (fun U => U.heap.size = sz ∧ va_P (dC, dI) vcl [(a_t, .inr (6, [.ref a_things, .int (nI n_size), .int z_most]))] U.heap ∧ va_K (dC, dI) vcl [] U ∧ va_D (fun _ => True) [(a_t, .inr (6, [.ref a_things, .int (nI n_size), .int z_most]))])) (va_Qi (fun (r : Int32) (_ : Unit) => r = (nI n_size)) (fun _ t => va_P (dC, dI) vcl [(a_t, .inr (6, [.ref a_things, .int (nI n_size), .int z_most]))] t.heap ∧ va_K (dC, dI) vcl [] t ∧ va_D (va_A [(a_t, .inr (6, [.ref a_things, .int (nI n_size), .int z_most]))] sz) [(a_t, .inr (6, [.ref a_things, .int (nI n_size), .int z_most]))]) (va_A [(a_t, .inr (6, [.ref a_things, .int (nI n_size), .int z_most]))] sz)) 0 0 (va_A [(a_t, .inr (6, [.ref a_things, .int (nI n_size), .int z_most]))] sz) := by
  refine Met.ofW (cc := b_Open_size) (maxL := 1) (ret := (some .int)) (by decide) rfl ?_
  intro p e s m args below meth c s₁ B hml hv
  obtain ⟨rfl, hsz, hP, hK, hD0⟩ := hv
  have hx := B.exec
  have hb := B.bytes
  have hr := B.returns
  have hts := atoms_spec (ws := w_Open_size) B.pre
  have hz : ∀ w ∈ wz, w.before _ s = true := fun w h => hts w (List.mem_cons_of_mem _ h)
  have hown : s.vm.findClass R_Open = some m.cls := findClass_of_methodNamed B.named
  have hlocks := B.notSynchronized
  subst hsz
  have hD := hD0.self (sz := s.heap.size)
  generalize hAe : va_A [(a_t, .inr (6, [.ref a_things, .int (nI n_size), .int z_most]))] s.heap.size = A at hD ⊢
  have hA : ∀ q : Nat, s.heap.size ≤ q → A q := fun q h => by rw [← hAe]; exact Or.inr h
  have hS : va_S A s.heap s.heap [] := va_S.rf
  have hP : va_P (dC, dI) vcl [(a_t, .inr (6, [.ref a_things, .int (nI n_size), .int z_most]))] s.heap := hP
  have hl := lv_entry ([.ref a_t]) (n := 1) (Nat.le_of_ble_eq_true rfl)
  rw [lg_entry_eq]
  generalize (lg_sl ([.ref a_t]) ++ List.replicate (1 - (lg_sl ([.ref a_t])).length) Slot.unset).toArray = ls at hl ⊢
  have hl : lv_has ls 1 [(0, .ref a_t)] := hl
  refine lv_aload_n hx hb d_Open_size_0 rfl (lv_at hl 0 rfl) ?_
  refine va_get (D := (dC, dI)) (ci := 6) (v := .int (nI n_size)) (C := R_Open) (T := F_Open) (N := 3) hx hb hz zu_Open hown hK hP 0 rfl rfl 1 (by decide) (hz (.fieldLink R_Open 15 "LayoutFront$Open" "size" "I") zm_171) (fun _ h9 => h9) rfl d_Open_size_1 ?_
  have hP9 := hP.sub (ws' := [(a_t, .inr (6, [.ref a_things, .int (nI n_size), .int z_most]))]) [0] rfl
  have hD9 := hD.sub (ws' := [(a_t, .inr (6, [.ref a_things, .int (nI n_size), .int z_most]))]) [0] (by decide) rfl
  exact W.iret (v := (nI n_size)) hx hb hr (fun t ht hW => ⟨⟨(nI n_size), (), rfl, rfl, by rw [ht]; exact hP9, va_K.moved hW.alike hK, hD9⟩, hS.F ht⟩) hS.2.2 d_Open_size_4
set_option maxHeartbeats 4000000 in
set_option maxRecDepth 100000 in
theorem s_Open_most (l : Launch) (dC : Nat → ClassId) (dI : Nat → Nat → Nat) (sz : Nat) (a_t : Nat) (a_things : Nat) (n_size : Nat) (z_most : Int32) (b_size : n_size ≤ 181) : Met l y_Open_most w_Open_most ({ frames := 0, cells := 0, slots := 0, locals := 0 }) (va_Pc [.ref a_t] (fun U => U.heap.size = sz ∧ va_P (dC, dI) vcl [(a_t, .inr (6, [.ref a_things, .int (nI n_size), .int z_most]))] U.heap ∧ va_K (dC, dI) vcl [] U ∧ va_D (fun _ => True) [(a_t, .inr (6, [.ref a_things, .int (nI n_size), .int z_most]))])) (va_Qi (fun (r : Int32) (_ : Unit) => True) (fun _ t => va_P (dC, dI) vcl [(a_t, .inr (6, [.ref a_things, .int (nI n_size), .int z_most]))] t.heap ∧ va_K (dC, dI) vcl [] t ∧ va_D (va_A [(a_t, .inr (6, [.ref a_things, .int (nI n_size), .int z_most]))] sz) [(a_t, .inr (6, [.ref a_things, .int (nI n_size), .int z_most]))]) (va_A [(a_t, .inr (6, [.ref a_things, .int (nI n_size), .int z_most]))] sz)) 0 0 (va_A [(a_t, .inr (6, [.ref a_things, .int (nI n_size), .int z_most]))] sz) := by
  refine Met.ofW (cc := b_Open_most) (maxL := 1) (ret := (some .int)) (by decide) rfl ?_
  intro p e s m args below meth c s₁ B hml hv
  obtain ⟨rfl, hsz, hP, hK, hD0⟩ := hv
  have hx := B.exec
  have hb := B.bytes
  have hr := B.returns
  have hts := atoms_spec (ws := w_Open_most) B.pre
  have hz : ∀ w ∈ wz, w.before _ s = true := fun w h => hts w (List.mem_cons_of_mem _ h)
  have hown : s.vm.findClass R_Open = some m.cls := findClass_of_methodNamed B.named
  have hlocks := B.notSynchronized
  subst hsz
  have hD := hD0.self (sz := s.heap.size)
  generalize hAe : va_A [(a_t, .inr (6, [.ref a_things, .int (nI n_size), .int z_most]))] s.heap.size = A at hD ⊢
  have hA : ∀ q : Nat, s.heap.size ≤ q → A q := fun q h => by rw [← hAe]; exact Or.inr h
  have hS : va_S A s.heap s.heap [] := va_S.rf
  have hP : va_P (dC, dI) vcl [(a_t, .inr (6, [.ref a_things, .int (nI n_size), .int z_most]))] s.heap := hP
  have hl := lv_entry ([.ref a_t]) (n := 1) (Nat.le_of_ble_eq_true rfl)
  rw [lg_entry_eq]
  generalize (lg_sl ([.ref a_t]) ++ List.replicate (1 - (lg_sl ([.ref a_t])).length) Slot.unset).toArray = ls at hl ⊢
  have hl : lv_has ls 1 [(0, .ref a_t)] := hl
  refine lv_aload_n hx hb d_Open_most_0 rfl (lv_at hl 0 rfl) ?_
  refine va_get (D := (dC, dI)) (ci := 6) (v := .int z_most) (C := R_Open) (T := F_Open) (N := 3) hx hb hz zu_Open hown hK hP 0 rfl rfl 2 (by decide) (hz (.fieldLink R_Open 19 "LayoutFront$Open" "most" "I") zm_172) (fun _ h9 => h9) rfl d_Open_most_1 ?_
  have hP9 := hP.sub (ws' := [(a_t, .inr (6, [.ref a_things, .int (nI n_size), .int z_most]))]) [0] rfl
  have hD9 := hD.sub (ws' := [(a_t, .inr (6, [.ref a_things, .int (nI n_size), .int z_most]))]) [0] (by decide) rfl
  exact W.iret (v := z_most) hx hb hr (fun t ht hW => ⟨⟨z_most, (), rfl, trivial, by rw [ht]; exact hP9, va_K.moved hW.alike hK, hD9⟩, hS.F ht⟩) hS.2.2 d_Open_most_4
set_option maxHeartbeats 4000000 in
set_option maxRecDepth 100000 in
theorem s_Row_size (l : Launch) (dC : Nat → ClassId) (dI : Nat → Nat → Nat) (sz : Nat) (a_t : Nat) (a_parts : Nat) (a_firsts : Nat) (a_lasts : Nat) (n_size : Nat) (z_operates : Int32) (z_lacksOperand : Int32) (b_size : n_size ≤ 90) : Met l y_Row_size w_Row_size ({ frames := 0, cells := 0, slots := 0, locals := 0 }) (va_Pc [.ref a_t] (fun U => U.heap.size = sz ∧ va_P (dC, dI) vcl [(a_t, .inr (8, [.ref a_parts, .ref a_firsts, .ref a_lasts, .int (nI n_size), .int z_operates, .int z_lacksOperand]))] U.heap ∧ va_K (dC, dI) vcl [] U ∧ va_D (fun _ => True) [(a_t, .inr (8, [.ref a_parts, .ref a_firsts, .ref a_lasts, .int (nI n_size), .int z_operates, .int z_lacksOperand]))])) (va_Qi (fun (r : Int32) (_ : Unit) => r = (nI n_size)) (fun _ t => va_P (dC, dI) vcl [(a_t, .inr (8, [.ref a_parts, .ref a_firsts, .ref a_lasts, .int (nI n_size), .int z_operates, .int z_lacksOperand]))] t.heap ∧ va_K (dC, dI) vcl [] t ∧ va_D (va_A [(a_t, .inr (8, [.ref a_parts, .ref a_firsts, .ref a_lasts, .int (nI n_size), .int z_operates, .int z_lacksOperand]))] sz) [(a_t, .inr (8, [.ref a_parts, .ref a_firsts, .ref a_lasts, .int (nI n_size), .int z_operates, .int z_lacksOperand]))]) (va_A [(a_t, .inr (8, [.ref a_parts, .ref a_firsts, .ref a_lasts, .int (nI n_size), .int z_operates, .int z_lacksOperand]))] sz)) 0 0 (va_A [(a_t, .inr (8, [.ref a_parts, .ref a_firsts, .ref a_lasts, .int (nI n_size), .int z_operates, .int z_lacksOperand]))] sz) := by
  refine Met.ofW (cc := b_Row_size) (maxL := 1) (ret := (some .int)) (by decide) rfl ?_
  intro p e s m args below meth c s₁ B hml hv
  obtain ⟨rfl, hsz, hP, hK, hD0⟩ := hv
  have hx := B.exec
  have hb := B.bytes
  have hr := B.returns
  have hts := atoms_spec (ws := w_Row_size) B.pre
  have hz : ∀ w ∈ wz, w.before _ s = true := fun w h => hts w (List.mem_cons_of_mem _ h)
  have hown : s.vm.findClass R_Row = some m.cls := findClass_of_methodNamed B.named
  have hlocks := B.notSynchronized
  subst hsz
  have hD := hD0.self (sz := s.heap.size)
  generalize hAe : va_A [(a_t, .inr (8, [.ref a_parts, .ref a_firsts, .ref a_lasts, .int (nI n_size), .int z_operates, .int z_lacksOperand]))] s.heap.size = A at hD ⊢
  have hA : ∀ q : Nat, s.heap.size ≤ q → A q := fun q h => by rw [← hAe]; exact Or.inr h
  have hS : va_S A s.heap s.heap [] := va_S.rf
  have hP : va_P (dC, dI) vcl [(a_t, .inr (8, [.ref a_parts, .ref a_firsts, .ref a_lasts, .int (nI n_size), .int z_operates, .int z_lacksOperand]))] s.heap := hP
  have hl := lv_entry ([.ref a_t]) (n := 1) (Nat.le_of_ble_eq_true rfl)
  rw [lg_entry_eq]
  generalize (lg_sl ([.ref a_t]) ++ List.replicate (1 - (lg_sl ([.ref a_t])).length) Slot.unset).toArray = ls at hl ⊢
  have hl : lv_has ls 1 [(0, .ref a_t)] := hl
  refine lv_aload_n hx hb d_Row_size_0 rfl (lv_at hl 0 rfl) ?_
  refine va_get (D := (dC, dI)) (ci := 8) (v := .int (nI n_size)) (C := R_Row) (T := F_Row) (N := 6) hx hb hz zu_Row hown hK hP 0 rfl rfl 3 (by decide) (hz (.fieldLink R_Row 21 "LayoutFront$Row" "size" "I") zm_312) (fun _ h9 => h9) rfl d_Row_size_1 ?_
  have hP9 := hP.sub (ws' := [(a_t, .inr (8, [.ref a_parts, .ref a_firsts, .ref a_lasts, .int (nI n_size), .int z_operates, .int z_lacksOperand]))]) [0] rfl
  have hD9 := hD.sub (ws' := [(a_t, .inr (8, [.ref a_parts, .ref a_firsts, .ref a_lasts, .int (nI n_size), .int z_operates, .int z_lacksOperand]))]) [0] (by decide) rfl
  exact W.iret (v := (nI n_size)) hx hb hr (fun t ht hW => ⟨⟨(nI n_size), (), rfl, rfl, by rw [ht]; exact hP9, va_K.moved hW.alike hK, hD9⟩, hS.F ht⟩) hS.2.2 d_Row_size_4
set_option maxHeartbeats 4000000 in
set_option maxRecDepth 100000 in
theorem s_Text_length (l : Launch) (dC : Nat → ClassId) (dI : Nat → Nat → Nat) (sz : Nat) (a_t : Nat) (a_characters : Nat) (n_length : Nat) (b_length : n_length ≤ 240) : Met l y_Text_length w_Text_length ({ frames := 0, cells := 0, slots := 0, locals := 0 }) (va_Pc [.ref a_t] (fun U => U.heap.size = sz ∧ va_P (dC, dI) vcl [(a_t, .inr (10, [.ref a_characters, .int (nI n_length)]))] U.heap ∧ va_K (dC, dI) vcl [] U ∧ va_D (fun _ => True) [(a_t, .inr (10, [.ref a_characters, .int (nI n_length)]))])) (va_Qi (fun (r : Int32) (_ : Unit) => r = (nI n_length)) (fun _ t => va_P (dC, dI) vcl [(a_t, .inr (10, [.ref a_characters, .int (nI n_length)]))] t.heap ∧ va_K (dC, dI) vcl [] t ∧ va_D (va_A [(a_t, .inr (10, [.ref a_characters, .int (nI n_length)]))] sz) [(a_t, .inr (10, [.ref a_characters, .int (nI n_length)]))]) (va_A [(a_t, .inr (10, [.ref a_characters, .int (nI n_length)]))] sz)) 0 0 (va_A [(a_t, .inr (10, [.ref a_characters, .int (nI n_length)]))] sz) := by
  refine Met.ofW (cc := b_Text_length) (maxL := 1) (ret := (some .int)) (by decide) rfl ?_
  intro p e s m args below meth c s₁ B hml hv
  obtain ⟨rfl, hsz, hP, hK, hD0⟩ := hv
  have hx := B.exec
  have hb := B.bytes
  have hr := B.returns
  have hts := atoms_spec (ws := w_Text_length) B.pre
  have hz : ∀ w ∈ wz, w.before _ s = true := fun w h => hts w (List.mem_cons_of_mem _ h)
  have hown : s.vm.findClass R_Text = some m.cls := findClass_of_methodNamed B.named
  have hlocks := B.notSynchronized
  subst hsz
  have hD := hD0.self (sz := s.heap.size)
  generalize hAe : va_A [(a_t, .inr (10, [.ref a_characters, .int (nI n_length)]))] s.heap.size = A at hD ⊢
  have hA : ∀ q : Nat, s.heap.size ≤ q → A q := fun q h => by rw [← hAe]; exact Or.inr h
  have hS : va_S A s.heap s.heap [] := va_S.rf
  have hP : va_P (dC, dI) vcl [(a_t, .inr (10, [.ref a_characters, .int (nI n_length)]))] s.heap := hP
  have hl := lv_entry ([.ref a_t]) (n := 1) (Nat.le_of_ble_eq_true rfl)
  rw [lg_entry_eq]
  generalize (lg_sl ([.ref a_t]) ++ List.replicate (1 - (lg_sl ([.ref a_t])).length) Slot.unset).toArray = ls at hl ⊢
  have hl : lv_has ls 1 [(0, .ref a_t)] := hl
  refine lv_aload_n hx hb d_Text_length_0 rfl (lv_at hl 0 rfl) ?_
  refine va_get (D := (dC, dI)) (ci := 10) (v := .int (nI n_length)) (C := R_Text) (T := F_Text) (N := 2) hx hb hz zu_Text hown hK hP 0 rfl rfl 1 (by decide) (hz (.fieldLink R_Text 19 "LayoutFront$Text" "length" "I") zm_9) (fun _ h9 => h9) rfl d_Text_length_1 ?_
  have hP9 := hP.sub (ws' := [(a_t, .inr (10, [.ref a_characters, .int (nI n_length)]))]) [0] rfl
  have hD9 := hD.sub (ws' := [(a_t, .inr (10, [.ref a_characters, .int (nI n_length)]))]) [0] (by decide) rfl
  exact W.iret (v := (nI n_length)) hx hb hr (fun t ht hW => ⟨⟨(nI n_length), (), rfl, rfl, by rw [ht]; exact hP9, va_K.moved hW.alike hK, hD9⟩, hS.F ht⟩) hS.2.2 d_Text_length_4
set_option maxHeartbeats 4000000 in
set_option maxRecDepth 100000 in
theorem s_Fixities_size (l : Launch) (dC : Nat → ClassId) (dI : Nat → Nat → Nat) (sz : Nat) (a_t : Nat) (a_names : Nat) (a_sides : Nat) (a_levels : Nat) (n_size : Nat) (b_size : n_size ≤ 12) : Met l y_Fixities_size w_Fixities_size ({ frames := 0, cells := 0, slots := 0, locals := 0 }) (va_Pc [.ref a_t] (fun U => U.heap.size = sz ∧ va_P (dC, dI) vcl [(a_t, .inr (4, [.ref a_names, .ref a_sides, .ref a_levels, .int (nI n_size)]))] U.heap ∧ va_K (dC, dI) vcl [] U ∧ va_D (fun _ => True) [(a_t, .inr (4, [.ref a_names, .ref a_sides, .ref a_levels, .int (nI n_size)]))])) (va_Qi (fun (r : Int32) (_ : Unit) => r = (nI n_size)) (fun _ t => va_P (dC, dI) vcl [(a_t, .inr (4, [.ref a_names, .ref a_sides, .ref a_levels, .int (nI n_size)]))] t.heap ∧ va_K (dC, dI) vcl [] t ∧ va_D (va_A [(a_t, .inr (4, [.ref a_names, .ref a_sides, .ref a_levels, .int (nI n_size)]))] sz) [(a_t, .inr (4, [.ref a_names, .ref a_sides, .ref a_levels, .int (nI n_size)]))]) (va_A [(a_t, .inr (4, [.ref a_names, .ref a_sides, .ref a_levels, .int (nI n_size)]))] sz)) 0 0 (va_A [(a_t, .inr (4, [.ref a_names, .ref a_sides, .ref a_levels, .int (nI n_size)]))] sz) := by
  refine Met.ofW (cc := b_Fixities_size) (maxL := 1) (ret := (some .int)) (by decide) rfl ?_
  intro p e s m args below meth c s₁ B hml hv
  obtain ⟨rfl, hsz, hP, hK, hD0⟩ := hv
  have hx := B.exec
  have hb := B.bytes
  have hr := B.returns
  have hts := atoms_spec (ws := w_Fixities_size) B.pre
  have hz : ∀ w ∈ wz, w.before _ s = true := fun w h => hts w (List.mem_cons_of_mem _ h)
  have hown : s.vm.findClass R_Fixities = some m.cls := findClass_of_methodNamed B.named
  have hlocks := B.notSynchronized
  subst hsz
  have hD := hD0.self (sz := s.heap.size)
  generalize hAe : va_A [(a_t, .inr (4, [.ref a_names, .ref a_sides, .ref a_levels, .int (nI n_size)]))] s.heap.size = A at hD ⊢
  have hA : ∀ q : Nat, s.heap.size ≤ q → A q := fun q h => by rw [← hAe]; exact Or.inr h
  have hS : va_S A s.heap s.heap [] := va_S.rf
  have hP : va_P (dC, dI) vcl [(a_t, .inr (4, [.ref a_names, .ref a_sides, .ref a_levels, .int (nI n_size)]))] s.heap := hP
  have hl := lv_entry ([.ref a_t]) (n := 1) (Nat.le_of_ble_eq_true rfl)
  rw [lg_entry_eq]
  generalize (lg_sl ([.ref a_t]) ++ List.replicate (1 - (lg_sl ([.ref a_t])).length) Slot.unset).toArray = ls at hl ⊢
  have hl : lv_has ls 1 [(0, .ref a_t)] := hl
  refine lv_aload_n hx hb d_Fixities_size_0 rfl (lv_at hl 0 rfl) ?_
  refine va_get (D := (dC, dI)) (ci := 4) (v := .int (nI n_size)) (C := R_Fixities) (T := F_Fixities) (N := 4) hx hb hz zu_Fixities hown hK hP 0 rfl rfl 3 (by decide) (hz (.fieldLink R_Fixities 22 "LayoutFront$Fixities" "size" "I") zm_21) (fun _ h9 => h9) rfl d_Fixities_size_1 ?_
  have hP9 := hP.sub (ws' := [(a_t, .inr (4, [.ref a_names, .ref a_sides, .ref a_levels, .int (nI n_size)]))]) [0] rfl
  have hD9 := hD.sub (ws' := [(a_t, .inr (4, [.ref a_names, .ref a_sides, .ref a_levels, .int (nI n_size)]))]) [0] (by decide) rfl
  exact W.iret (v := (nI n_size)) hx hb hr (fun t ht hW => ⟨⟨(nI n_size), (), rfl, rfl, by rw [ht]; exact hP9, va_K.moved hW.alike hK, hD9⟩, hS.F ht⟩) hS.2.2 d_Fixities_size_4
set_option maxHeartbeats 4000000 in
set_option maxRecDepth 100000 in
theorem s_Lexemes_size (l : Launch) (dC : Nat → ClassId) (dI : Nat → Nat → Nat) (sz : Nat) (a_t : Nat) (a_tokens : Nat) (a_tokens_kinds : Nat) (a_tokens_values : Nat) (n_tokens_size : Nat) (a_places : Nat) (a_columns : Nat) (a_lineFirsts : Nat) (b_tokens_size : n_tokens_size ≤ 90) : Met l y_Lexemes_size w_Lexemes_size ({ frames := 1, cells := 0, slots := 0, locals := 20 }) (va_Pc [.ref a_t] (fun U => U.heap.size = sz ∧ va_P (dC, dI) vcl [(a_t, .inr (5, [.ref a_tokens, .ref a_places, .ref a_columns, .ref a_lineFirsts])), (a_tokens, .inr (11, [.ref a_tokens_kinds, .ref a_tokens_values, .int (nI n_tokens_size)]))] U.heap ∧ va_K (dC, dI) vcl [] U ∧ va_D (fun _ => True) [(a_t, .inr (5, [.ref a_tokens, .ref a_places, .ref a_columns, .ref a_lineFirsts])), (a_tokens, .inr (11, [.ref a_tokens_kinds, .ref a_tokens_values, .int (nI n_tokens_size)]))])) (va_Qi (fun (r : Int32) (_ : Unit) => r = (nI n_tokens_size)) (fun _ t => va_P (dC, dI) vcl [(a_t, .inr (5, [.ref a_tokens, .ref a_places, .ref a_columns, .ref a_lineFirsts])), (a_tokens, .inr (11, [.ref a_tokens_kinds, .ref a_tokens_values, .int (nI n_tokens_size)]))] t.heap ∧ va_K (dC, dI) vcl [] t ∧ va_D (va_A [(a_t, .inr (5, [.ref a_tokens, .ref a_places, .ref a_columns, .ref a_lineFirsts])), (a_tokens, .inr (11, [.ref a_tokens_kinds, .ref a_tokens_values, .int (nI n_tokens_size)]))] sz) [(a_t, .inr (5, [.ref a_tokens, .ref a_places, .ref a_columns, .ref a_lineFirsts])), (a_tokens, .inr (11, [.ref a_tokens_kinds, .ref a_tokens_values, .int (nI n_tokens_size)]))]) (va_A [(a_t, .inr (5, [.ref a_tokens, .ref a_places, .ref a_columns, .ref a_lineFirsts])), (a_tokens, .inr (11, [.ref a_tokens_kinds, .ref a_tokens_values, .int (nI n_tokens_size)]))] sz)) 0 0 (va_A [(a_t, .inr (5, [.ref a_tokens, .ref a_places, .ref a_columns, .ref a_lineFirsts])), (a_tokens, .inr (11, [.ref a_tokens_kinds, .ref a_tokens_values, .int (nI n_tokens_size)]))] sz) := by
  refine Met.ofW (cc := b_Lexemes_size) (maxL := 1) (ret := (some .int)) (by decide) rfl ?_
  intro p e s m args below meth c s₁ B hml hv
  obtain ⟨rfl, hsz, hP, hK, hD0⟩ := hv
  have hx := B.exec
  have hb := B.bytes
  have hr := B.returns
  have hts := atoms_spec (ws := w_Lexemes_size) B.pre
  have hz : ∀ w ∈ wz, w.before _ s = true := fun w h => hts w (List.mem_cons_of_mem _ h)
  have hown : s.vm.findClass R_Lexemes = some m.cls := findClass_of_methodNamed B.named
  have hlocks := B.notSynchronized
  subst hsz
  have hD := hD0.self (sz := s.heap.size)
  generalize hAe : va_A [(a_t, .inr (5, [.ref a_tokens, .ref a_places, .ref a_columns, .ref a_lineFirsts])), (a_tokens, .inr (11, [.ref a_tokens_kinds, .ref a_tokens_values, .int (nI n_tokens_size)]))] s.heap.size = A at hD ⊢
  have hA : ∀ q : Nat, s.heap.size ≤ q → A q := fun q h => by rw [← hAe]; exact Or.inr h
  have hS : va_S A s.heap s.heap [] := va_S.rf
  have hP : va_P (dC, dI) vcl [(a_t, .inr (5, [.ref a_tokens, .ref a_places, .ref a_columns, .ref a_lineFirsts])), (a_tokens, .inr (11, [.ref a_tokens_kinds, .ref a_tokens_values, .int (nI n_tokens_size)]))] s.heap := hP
  have hl := lv_entry ([.ref a_t]) (n := 1) (Nat.le_of_ble_eq_true rfl)
  rw [lg_entry_eq]
  generalize (lg_sl ([.ref a_t]) ++ List.replicate (1 - (lg_sl ([.ref a_t])).length) Slot.unset).toArray = ls at hl ⊢
  have hl : lv_has ls 1 [(0, .ref a_t)] := hl
  refine lv_aload_n hx hb d_Lexemes_size_0 rfl (lv_at hl 0 rfl) ?_
  refine va_get (D := (dC, dI)) (ci := 5) (v := .ref a_tokens) (C := R_Lexemes) (T := F_Lexemes) (N := 4) hx hb hz zu_Lexemes hown hK hP 0 rfl rfl 0 (by decide) (hz (.fieldLink R_Lexemes 14 "LayoutFront$Lexemes" "tokens" "LLayoutFront$Tokens;") zm_53) (fun _ h9 => h9) rfl d_Lexemes_size_1 ?_
  have hPc := hP.sub (ws' := [(a_tokens, .inr (11, [.ref a_tokens_kinds, .ref a_tokens_values, .int (nI n_tokens_size)]))]) [1] rfl
  have hDc := hD.sub (ws' := [(a_tokens, .inr (11, [.ref a_tokens_kinds, .ref a_tokens_values, .int (nI n_tokens_size)]))]) [1] (by decide) rfl
  have hKc := hK.sub (tys' := []) [] rfl
  have hFc := va_free (wc := [(a_tokens, .inr (11, [.ref a_tokens_kinds, .ref a_tokens_values, .int (nI n_tokens_size)]))]) hD hS hA [1] rfl
  refine va_calli (va_runV (As := []) (rest := []) ⟨hx, hb, hml, hown, hz⟩ (s_Tokens_size l dC dI s.heap.size a_tokens a_tokens_kinds a_tokens_values n_tokens_size) (cwV 0 hz (zV zm_63 zm_64 zm_65 zm_35 zm_66) rfl rfl rfl (by decide +kernel) ⟨Nat.le_of_ble_eq_true rfl, Nat.le_of_ble_eq_true rfl⟩) ⟨fun a U g mk q => by obtain ⟨q0, q1, qP, qK, qD⟩ := q; exact ⟨q0, q1, qP, va_K.moved (u := U) (U := U.calling g mk a) (Vm.Alike.refl U.vm) qK, qD⟩, va_recv (q := (R_Tokens, F_Tokens, 3)) (q0 := 1) (ci := 11) hK hP rfl rfl, fun U hU hW => ⟨rfl, by rw [hU], by rw [hU]; exact hPc, va_K.moved hW.alike hKc, hDc.weaken (fun _ _ _ _ => trivial)⟩⟩ rfl rfl hl.1 rfl (lv_room (Nat.le_of_ble_eq_true rfl)) d_Lexemes_size_4 ⟨Nat.zero_le _, Nat.zero_le _⟩) hS (fun q _ h => hFc q h) hFc (fun r u t H1 locs ht hvm hw hB hz1 hk1 hS => ?_)
  obtain ⟨hP1, hK1, hD1⟩ := hB
  subst r
  rw [ht] at hP1
  obtain ⟨hP, hD⟩ := va_join (wr := [(a_t, .inr (5, [.ref a_tokens, .ref a_places, .ref a_columns, .ref a_lineFirsts]))]) (w1 := [(a_tokens, .inr (11, [.ref a_tokens_kinds, .ref a_tokens_values, .int (nI n_tokens_size)]))]) hP hD [1] [0] rfl rfl (by decide) (by decide) hk1 hFc hP1 hD1
  generalize H1 = H at hP hS ⊢
  have hP : va_P (dC, dI) vcl [(a_t, .inr (5, [.ref a_tokens, .ref a_places, .ref a_columns, .ref a_lineFirsts])), (a_tokens, .inr (11, [.ref a_tokens_kinds, .ref a_tokens_values, .int (nI n_tokens_size)]))] H := hP
  have hD : va_D A [(a_t, .inr (5, [.ref a_tokens, .ref a_places, .ref a_columns, .ref a_lineFirsts])), (a_tokens, .inr (11, [.ref a_tokens_kinds, .ref a_tokens_values, .int (nI n_tokens_size)]))] := hD
  have hP9 := hP.sub (ws' := [(a_t, .inr (5, [.ref a_tokens, .ref a_places, .ref a_columns, .ref a_lineFirsts])), (a_tokens, .inr (11, [.ref a_tokens_kinds, .ref a_tokens_values, .int (nI n_tokens_size)]))]) [0, 1] rfl
  have hD9 := hD.sub (ws' := [(a_t, .inr (5, [.ref a_tokens, .ref a_places, .ref a_columns, .ref a_lineFirsts])), (a_tokens, .inr (11, [.ref a_tokens_kinds, .ref a_tokens_values, .int (nI n_tokens_size)]))]) [0, 1] (by decide) rfl
  exact W.iret (v := (nI n_tokens_size)) hx hb hr (fun t ht hW => ⟨⟨(nI n_tokens_size), (), rfl, rfl, by rw [ht]; exact hP9, va_K.moved hW.alike hK, hD9⟩, hS.F ht⟩) hS.2.2 d_Lexemes_size_7
set_option maxHeartbeats 4000000 in
set_option maxRecDepth 100000 in
theorem s_Lexemes_tokens (l : Launch) (dC : Nat → ClassId) (dI : Nat → Nat → Nat) (sz : Nat) (a_t : Nat) (a_tokens : Nat) (a_places : Nat) (a_columns : Nat) (a_lineFirsts : Nat) : Met l y_Lexemes_tokens w_Lexemes_tokens ({ frames := 0, cells := 0, slots := 0, locals := 0 }) (va_Pc [.ref a_t] (fun U => U.heap.size = sz ∧ va_P (dC, dI) vcl [(a_t, .inr (5, [.ref a_tokens, .ref a_places, .ref a_columns, .ref a_lineFirsts]))] U.heap ∧ va_K (dC, dI) vcl [] U ∧ va_D (fun _ => True) [(a_t, .inr (5, [.ref a_tokens, .ref a_places, .ref a_columns, .ref a_lineFirsts]))])) (va_Qr (fun (_ : Unit) => True) (fun _ ra t => ra = a_tokens ∧ va_P (dC, dI) vcl [(a_t, .inr (5, [.ref a_tokens, .ref a_places, .ref a_columns, .ref a_lineFirsts]))] t.heap ∧ va_K (dC, dI) vcl [] t ∧ va_D (va_A [(a_t, .inr (5, [.ref a_tokens, .ref a_places, .ref a_columns, .ref a_lineFirsts]))] sz) [(a_t, .inr (5, [.ref a_tokens, .ref a_places, .ref a_columns, .ref a_lineFirsts]))]) (va_A [(a_t, .inr (5, [.ref a_tokens, .ref a_places, .ref a_columns, .ref a_lineFirsts]))] sz)) 0 0 (va_A [(a_t, .inr (5, [.ref a_tokens, .ref a_places, .ref a_columns, .ref a_lineFirsts]))] sz) := by
  refine Met.ofW (cc := b_Lexemes_tokens) (maxL := 1) (ret := (some (.object "LayoutFront$Tokens"))) (by decide) rfl ?_
  intro p e s m args below meth c s₁ B hml hv
  obtain ⟨rfl, hsz, hP, hK, hD0⟩ := hv
  have hx := B.exec
  have hb := B.bytes
  have hr := B.returns
  have hts := atoms_spec (ws := w_Lexemes_tokens) B.pre
  have hz : ∀ w ∈ wz, w.before _ s = true := fun w h => hts w (List.mem_cons_of_mem _ h)
  have hown : s.vm.findClass R_Lexemes = some m.cls := findClass_of_methodNamed B.named
  have hlocks := B.notSynchronized
  subst hsz
  have hD := hD0.self (sz := s.heap.size)
  generalize hAe : va_A [(a_t, .inr (5, [.ref a_tokens, .ref a_places, .ref a_columns, .ref a_lineFirsts]))] s.heap.size = A at hD ⊢
  have hA : ∀ q : Nat, s.heap.size ≤ q → A q := fun q h => by rw [← hAe]; exact Or.inr h
  have hS : va_S A s.heap s.heap [] := va_S.rf
  have hP : va_P (dC, dI) vcl [(a_t, .inr (5, [.ref a_tokens, .ref a_places, .ref a_columns, .ref a_lineFirsts]))] s.heap := hP
  have hl := lv_entry ([.ref a_t]) (n := 1) (Nat.le_of_ble_eq_true rfl)
  rw [lg_entry_eq]
  generalize (lg_sl ([.ref a_t]) ++ List.replicate (1 - (lg_sl ([.ref a_t])).length) Slot.unset).toArray = ls at hl ⊢
  have hl : lv_has ls 1 [(0, .ref a_t)] := hl
  refine lv_aload_n hx hb d_Lexemes_tokens_0 rfl (lv_at hl 0 rfl) ?_
  refine va_get (D := (dC, dI)) (ci := 5) (v := .ref a_tokens) (C := R_Lexemes) (T := F_Lexemes) (N := 4) hx hb hz zu_Lexemes hown hK hP 0 rfl rfl 0 (by decide) (hz (.fieldLink R_Lexemes 14 "LayoutFront$Lexemes" "tokens" "LLayoutFront$Tokens;") zm_53) (fun _ h9 => h9) rfl d_Lexemes_tokens_1 ?_
  have hP9 := hP.sub (ws' := [(a_t, .inr (5, [.ref a_tokens, .ref a_places, .ref a_columns, .ref a_lineFirsts]))]) [0] rfl
  have hD9 := hD.sub (ws' := [(a_t, .inr (5, [.ref a_tokens, .ref a_places, .ref a_columns, .ref a_lineFirsts]))]) [0] (by decide) rfl
  exact W.aret (v := .ref a_tokens) hx hb hr (Or.inl ⟨_, rfl⟩) (Or.inr ⟨_, rfl⟩) (fun t ht hW => ⟨⟨(), a_tokens, rfl, trivial, rfl, by rw [ht]; exact hP9, va_K.moved hW.alike hK, hD9⟩, hS.F ht⟩) hS.2.2 d_Lexemes_tokens_4
theorem xr_loop {p : Program} {l : Launch} {e : Env} {R : Room} {s : State} {m : MethodId} {args : Array Value} {below : List Frame} {meth : Method} {c : Code} {cells slots : Nat} {Q : State → Prop} {pc : Nat} {α : Type} (μ : α → Nat) (I : α → Heap → List Loc → Array Slot → Prop)
    (body : ∀ a, (∀ b, μ b < μ a → ∀ H locs ls, I b H locs ls → W p l e R s m args below meth c H locs cells slots Q (F0 m pc ls [])) → ∀ H locs ls, I a H locs ls → W p l e R s m args below meth c H locs cells slots Q (F0 m pc ls [])) :
    ∀ a H locs ls, I a H locs ls → W p l e R s m args below meth c H locs cells slots Q (F0 m pc ls []) := by
  have key : ∀ n a, μ a < n → ∀ H locs ls, I a H locs ls → W p l e R s m args below meth c H locs cells slots Q (F0 m pc ls []) := by
    intro n
    induction n with
    | zero => intro a h; exact absurd h (Nat.not_lt_zero _)
    | succ n ih => intro a h; exact body a (fun b hb => ih b (by omega))
  exact fun a => key (μ a + 1) a (Nat.lt_succ_self _)
theorem xr_dec {k : Nat} (h : 1 ≤ k) : nI k + (-1) = nI (k - 1) := by
  have h1 : nI k - 1 = nI (k - 1) := pk_sub (a := k) (b := 1) (by omega)
  rw [← h1, Int32.sub_eq_add_neg]
theorem xr_nat {x : Int32} {n : Nat} (h : 0 ≤ x ∧ x < nI n) (hn : n ≤ 2147483647) : ∃ j, j < n ∧ x = nI j := by
  have a1 := Int32.le_iff_toInt_le.mp h.1
  have a2 := Int32.lt_iff_toInt_lt.mp h.2
  rw [nI_toInt (by omega)] at a2
  have a3 : (0 : Int32).toInt = 0 := by decide
  refine ⟨x.toInt.toNat, by omega, ?_⟩
  apply Int32.toInt_inj.mp
  rw [nI_toInt (by omega)]
  omega
theorem xr_maxn {a b : Nat} (ha : a ≤ 2147483647) (hb : b ≤ 2147483647) : (if nI a < nI b then nI b else nI a) = nI (max a b) := by
  split
  · rename_i h
    have h := (nI_ltI (a := a) (b := b) (by omega) (by omega)).mp h
    rw [Nat.max_eq_right (by omega)]
  · rename_i h
    have h : ¬ a < b := fun q => h ((nI_ltI (a := a) (b := b) (by omega) (by omega)).mpr q)
    rw [Nat.max_eq_left (by omega)]
theorem xr_up {y : Int32} {k : Nat} (h : ¬ y ≤ nI k) (hk : k ≤ 2147483647) : k + 1 ≤ 2147483647 := by
  have h1 := Int32.lt_iff_toInt_lt.mp (Int32.not_le.mp h)
  rw [nI_toInt (by omega)] at h1
  have h2 := Int32.toInt_lt y
  omega
theorem xr_dec2 (x : Int32) : x + (-1) = x - 1 := by
  rw [Int32.sub_eq_add_neg]
theorem xr_pred_lt {k : Nat} (hk : k ≤ 2147483647) : nI k - 1 < 0 ↔ k = 0 := by
  constructor
  · intro h
    apply Nat.eq_zero_of_not_pos
    intro hp
    have e : nI k - 1 = nI (k - 1) := pk_sub (a := k) (b := 1) (by omega)
    rw [e] at h
    have h1 := Int32.lt_iff_toInt_lt.mp h
    rw [nI_toInt (by omega)] at h1
    have a3 : (0 : Int32).toInt = 0 := by decide
    omega
  · intro h
    subst h
    decide
set_option maxHeartbeats 4000000 in
set_option maxRecDepth 100000 in
theorem s_Blocks_laid (l : Launch) (dC : Nat → ClassId) (dI : Nat → Nat → Nat) (sz : Nat) (a_t : Nat) (a_open : Nat) (a_laid : Nat) (z_begun : Int32) : Met l y_Blocks_laid w_Blocks_laid ({ frames := 0, cells := 0, slots := 0, locals := 0 }) (va_Pc [.ref a_t] (fun U => U.heap.size = sz ∧ va_P (dC, dI) vcl [(a_t, .inr (2, [.ref a_open, .ref a_laid, .int z_begun]))] U.heap ∧ va_K (dC, dI) vcl [] U ∧ va_D (fun _ => True) [(a_t, .inr (2, [.ref a_open, .ref a_laid, .int z_begun]))])) (va_Qr (fun (_ : Unit) => True) (fun _ ra t => ra = a_laid ∧ va_P (dC, dI) vcl [(a_t, .inr (2, [.ref a_open, .ref a_laid, .int z_begun]))] t.heap ∧ va_K (dC, dI) vcl [] t ∧ va_D (va_A [(a_t, .inr (2, [.ref a_open, .ref a_laid, .int z_begun]))] sz) [(a_t, .inr (2, [.ref a_open, .ref a_laid, .int z_begun]))]) (va_A [(a_t, .inr (2, [.ref a_open, .ref a_laid, .int z_begun]))] sz)) 0 0 (va_A [(a_t, .inr (2, [.ref a_open, .ref a_laid, .int z_begun]))] sz) := by
  refine Met.ofW (cc := b_Blocks_laid) (maxL := 1) (ret := (some (.object "LayoutFront$Tokens"))) (by decide) rfl ?_
  intro p e s m args below meth c s₁ B hml hv
  obtain ⟨rfl, hsz, hP, hK, hD0⟩ := hv
  have hx := B.exec
  have hb := B.bytes
  have hr := B.returns
  have hts := atoms_spec (ws := w_Blocks_laid) B.pre
  have hz : ∀ w ∈ wz, w.before _ s = true := fun w h => hts w (List.mem_cons_of_mem _ h)
  have hown : s.vm.findClass R_Blocks = some m.cls := findClass_of_methodNamed B.named
  have hlocks := B.notSynchronized
  subst hsz
  have hD := hD0.self (sz := s.heap.size)
  generalize hAe : va_A [(a_t, .inr (2, [.ref a_open, .ref a_laid, .int z_begun]))] s.heap.size = A at hD ⊢
  have hA : ∀ q : Nat, s.heap.size ≤ q → A q := fun q h => by rw [← hAe]; exact Or.inr h
  have hS : va_S A s.heap s.heap [] := va_S.rf
  have hP : va_P (dC, dI) vcl [(a_t, .inr (2, [.ref a_open, .ref a_laid, .int z_begun]))] s.heap := hP
  have hl := lv_entry ([.ref a_t]) (n := 1) (Nat.le_of_ble_eq_true rfl)
  rw [lg_entry_eq]
  generalize (lg_sl ([.ref a_t]) ++ List.replicate (1 - (lg_sl ([.ref a_t])).length) Slot.unset).toArray = ls at hl ⊢
  have hl : lv_has ls 1 [(0, .ref a_t)] := hl
  refine lv_aload_n hx hb d_Blocks_laid_0 rfl (lv_at hl 0 rfl) ?_
  refine va_get (D := (dC, dI)) (ci := 2) (v := .ref a_laid) (C := R_Blocks) (T := F_Blocks) (N := 3) hx hb hz zu_Blocks hown hK hP 0 rfl rfl 1 (by decide) (hz (.fieldLink R_Blocks 23 "LayoutFront$Blocks" "laid" "LLayoutFront$Tokens;") zm_186) (fun _ h9 => h9) rfl d_Blocks_laid_1 ?_
  have hP9 := hP.sub (ws' := [(a_t, .inr (2, [.ref a_open, .ref a_laid, .int z_begun]))]) [0] rfl
  have hD9 := hD.sub (ws' := [(a_t, .inr (2, [.ref a_open, .ref a_laid, .int z_begun]))]) [0] (by decide) rfl
  exact W.aret (v := .ref a_laid) hx hb hr (Or.inl ⟨_, rfl⟩) (Or.inr ⟨_, rfl⟩) (fun t ht hW => ⟨⟨(), a_laid, rfl, trivial, rfl, by rw [ht]; exact hP9, va_K.moved hW.alike hK, hD9⟩, hS.F ht⟩) hS.2.2 d_Blocks_laid_4
set_option maxHeartbeats 4000000 in
set_option maxRecDepth 100000 in
theorem s_Blocks_begun (l : Launch) (dC : Nat → ClassId) (dI : Nat → Nat → Nat) (sz : Nat) (a_t : Nat) (a_open : Nat) (a_laid : Nat) (z_begun : Int32) : Met l y_Blocks_begun w_Blocks_begun ({ frames := 0, cells := 0, slots := 0, locals := 0 }) (va_Pc [.ref a_t] (fun U => U.heap.size = sz ∧ va_P (dC, dI) vcl [(a_t, .inr (2, [.ref a_open, .ref a_laid, .int z_begun]))] U.heap ∧ va_K (dC, dI) vcl [] U ∧ va_D (fun _ => True) [(a_t, .inr (2, [.ref a_open, .ref a_laid, .int z_begun]))])) (va_Qi (fun (r : Int32) (_ : Unit) => True) (fun _ t => va_P (dC, dI) vcl [(a_t, .inr (2, [.ref a_open, .ref a_laid, .int z_begun]))] t.heap ∧ va_K (dC, dI) vcl [] t ∧ va_D (va_A [(a_t, .inr (2, [.ref a_open, .ref a_laid, .int z_begun]))] sz) [(a_t, .inr (2, [.ref a_open, .ref a_laid, .int z_begun]))]) (va_A [(a_t, .inr (2, [.ref a_open, .ref a_laid, .int z_begun]))] sz)) 0 0 (va_A [(a_t, .inr (2, [.ref a_open, .ref a_laid, .int z_begun]))] sz) := by
  refine Met.ofW (cc := b_Blocks_begun) (maxL := 1) (ret := (some .int)) (by decide) rfl ?_
  intro p e s m args below meth c s₁ B hml hv
  obtain ⟨rfl, hsz, hP, hK, hD0⟩ := hv
  have hx := B.exec
  have hb := B.bytes
  have hr := B.returns
  have hts := atoms_spec (ws := w_Blocks_begun) B.pre
  have hz : ∀ w ∈ wz, w.before _ s = true := fun w h => hts w (List.mem_cons_of_mem _ h)
  have hown : s.vm.findClass R_Blocks = some m.cls := findClass_of_methodNamed B.named
  have hlocks := B.notSynchronized
  subst hsz
  have hD := hD0.self (sz := s.heap.size)
  generalize hAe : va_A [(a_t, .inr (2, [.ref a_open, .ref a_laid, .int z_begun]))] s.heap.size = A at hD ⊢
  have hA : ∀ q : Nat, s.heap.size ≤ q → A q := fun q h => by rw [← hAe]; exact Or.inr h
  have hS : va_S A s.heap s.heap [] := va_S.rf
  have hP : va_P (dC, dI) vcl [(a_t, .inr (2, [.ref a_open, .ref a_laid, .int z_begun]))] s.heap := hP
  have hl := lv_entry ([.ref a_t]) (n := 1) (Nat.le_of_ble_eq_true rfl)
  rw [lg_entry_eq]
  generalize (lg_sl ([.ref a_t]) ++ List.replicate (1 - (lg_sl ([.ref a_t])).length) Slot.unset).toArray = ls at hl ⊢
  have hl : lv_has ls 1 [(0, .ref a_t)] := hl
  refine lv_aload_n hx hb d_Blocks_begun_0 rfl (lv_at hl 0 rfl) ?_
  refine va_get (D := (dC, dI)) (ci := 2) (v := .int z_begun) (C := R_Blocks) (T := F_Blocks) (N := 3) hx hb hz zu_Blocks hown hK hP 0 rfl rfl 2 (by decide) (hz (.fieldLink R_Blocks 27 "LayoutFront$Blocks" "begun" "I") zm_188) (fun _ h9 => h9) rfl d_Blocks_begun_1 ?_
  have hP9 := hP.sub (ws' := [(a_t, .inr (2, [.ref a_open, .ref a_laid, .int z_begun]))]) [0] rfl
  have hD9 := hD.sub (ws' := [(a_t, .inr (2, [.ref a_open, .ref a_laid, .int z_begun]))]) [0] (by decide) rfl
  exact W.iret (v := z_begun) hx hb hr (fun t ht hW => ⟨⟨z_begun, (), rfl, trivial, by rw [ht]; exact hP9, va_K.moved hW.alike hK, hD9⟩, hS.F ht⟩) hS.2.2 d_Blocks_begun_4
set_option maxHeartbeats 4000000 in
set_option maxRecDepth 100000 in
theorem s_Blocks_mostOpen (l : Launch) (dC : Nat → ClassId) (dI : Nat → Nat → Nat) (sz : Nat) (a_t : Nat) (a_open : Nat) (a_open_things : Nat) (n_open_size : Nat) (z_open_most : Int32) (a_laid : Nat) (z_begun : Int32) (b_open_size : n_open_size ≤ 181) : Met l y_Blocks_mostOpen w_Blocks_mostOpen ({ frames := 1, cells := 0, slots := 0, locals := 20 }) (va_Pc [.ref a_t] (fun U => U.heap.size = sz ∧ va_P (dC, dI) vcl [(a_t, .inr (2, [.ref a_open, .ref a_laid, .int z_begun])), (a_open, .inr (6, [.ref a_open_things, .int (nI n_open_size), .int z_open_most]))] U.heap ∧ va_K (dC, dI) vcl [] U ∧ va_D (fun _ => True) [(a_t, .inr (2, [.ref a_open, .ref a_laid, .int z_begun])), (a_open, .inr (6, [.ref a_open_things, .int (nI n_open_size), .int z_open_most]))])) (va_Qi (fun (r : Int32) (_ : Unit) => True) (fun _ t => va_P (dC, dI) vcl [(a_t, .inr (2, [.ref a_open, .ref a_laid, .int z_begun])), (a_open, .inr (6, [.ref a_open_things, .int (nI n_open_size), .int z_open_most]))] t.heap ∧ va_K (dC, dI) vcl [] t ∧ va_D (va_A [(a_t, .inr (2, [.ref a_open, .ref a_laid, .int z_begun])), (a_open, .inr (6, [.ref a_open_things, .int (nI n_open_size), .int z_open_most]))] sz) [(a_t, .inr (2, [.ref a_open, .ref a_laid, .int z_begun])), (a_open, .inr (6, [.ref a_open_things, .int (nI n_open_size), .int z_open_most]))]) (va_A [(a_t, .inr (2, [.ref a_open, .ref a_laid, .int z_begun])), (a_open, .inr (6, [.ref a_open_things, .int (nI n_open_size), .int z_open_most]))] sz)) 0 0 (va_A [(a_t, .inr (2, [.ref a_open, .ref a_laid, .int z_begun])), (a_open, .inr (6, [.ref a_open_things, .int (nI n_open_size), .int z_open_most]))] sz) := by
  refine Met.ofW (cc := b_Blocks_mostOpen) (maxL := 1) (ret := (some .int)) (by decide) rfl ?_
  intro p e s m args below meth c s₁ B hml hv
  obtain ⟨rfl, hsz, hP, hK, hD0⟩ := hv
  have hx := B.exec
  have hb := B.bytes
  have hr := B.returns
  have hts := atoms_spec (ws := w_Blocks_mostOpen) B.pre
  have hz : ∀ w ∈ wz, w.before _ s = true := fun w h => hts w (List.mem_cons_of_mem _ h)
  have hown : s.vm.findClass R_Blocks = some m.cls := findClass_of_methodNamed B.named
  have hlocks := B.notSynchronized
  subst hsz
  have hD := hD0.self (sz := s.heap.size)
  generalize hAe : va_A [(a_t, .inr (2, [.ref a_open, .ref a_laid, .int z_begun])), (a_open, .inr (6, [.ref a_open_things, .int (nI n_open_size), .int z_open_most]))] s.heap.size = A at hD ⊢
  have hA : ∀ q : Nat, s.heap.size ≤ q → A q := fun q h => by rw [← hAe]; exact Or.inr h
  have hS : va_S A s.heap s.heap [] := va_S.rf
  have hP : va_P (dC, dI) vcl [(a_t, .inr (2, [.ref a_open, .ref a_laid, .int z_begun])), (a_open, .inr (6, [.ref a_open_things, .int (nI n_open_size), .int z_open_most]))] s.heap := hP
  have hl := lv_entry ([.ref a_t]) (n := 1) (Nat.le_of_ble_eq_true rfl)
  rw [lg_entry_eq]
  generalize (lg_sl ([.ref a_t]) ++ List.replicate (1 - (lg_sl ([.ref a_t])).length) Slot.unset).toArray = ls at hl ⊢
  have hl : lv_has ls 1 [(0, .ref a_t)] := hl
  refine lv_aload_n hx hb d_Blocks_mostOpen_0 rfl (lv_at hl 0 rfl) ?_
  refine va_get (D := (dC, dI)) (ci := 2) (v := .ref a_open) (C := R_Blocks) (T := F_Blocks) (N := 3) hx hb hz zu_Blocks hown hK hP 0 rfl rfl 0 (by decide) (hz (.fieldLink R_Blocks 12 "LayoutFront$Blocks" "open" "LLayoutFront$Open;") zm_183) (fun _ h9 => h9) rfl d_Blocks_mostOpen_1 ?_
  have hPc := hP.sub (ws' := [(a_open, .inr (6, [.ref a_open_things, .int (nI n_open_size), .int z_open_most]))]) [1] rfl
  have hDc := hD.sub (ws' := [(a_open, .inr (6, [.ref a_open_things, .int (nI n_open_size), .int z_open_most]))]) [1] (by decide) rfl
  have hKc := hK.sub (tys' := []) [] rfl
  have hFc := va_free (wc := [(a_open, .inr (6, [.ref a_open_things, .int (nI n_open_size), .int z_open_most]))]) hD hS hA [1] rfl
  refine va_calli (va_runV (As := []) (rest := []) ⟨hx, hb, hml, hown, hz⟩ (s_Open_most l dC dI s.heap.size a_open a_open_things n_open_size z_open_most (by first | omega | assumption | exact Or.inl rfl | exact Or.inr rfl)) (cwV 0 hz (zV zm_189 zm_190 zm_191 zm_177 zm_192) rfl rfl rfl (by decide +kernel) ⟨Nat.le_of_ble_eq_true rfl, Nat.le_of_ble_eq_true rfl⟩) ⟨fun a U g mk q => by obtain ⟨q0, q1, qP, qK, qD⟩ := q; exact ⟨q0, q1, qP, va_K.moved (u := U) (U := U.calling g mk a) (Vm.Alike.refl U.vm) qK, qD⟩, va_recv (q := (R_Open, F_Open, 3)) (q0 := 1) (ci := 6) hK hP rfl rfl, fun U hU hW => ⟨rfl, by rw [hU], by rw [hU]; exact hPc, va_K.moved hW.alike hKc, hDc.weaken (fun _ _ _ _ => trivial)⟩⟩ rfl rfl hl.1 rfl (lv_room (Nat.le_of_ble_eq_true rfl)) d_Blocks_mostOpen_4 ⟨Nat.zero_le _, Nat.zero_le _⟩) hS (fun q _ h => hFc q h) hFc (fun x1 u t H1 locs ht hvm hw hB hz1 hk1 hS => ?_)
  obtain ⟨hP1, hK1, hD1⟩ := hB
  rw [ht] at hP1
  obtain ⟨hP, hD⟩ := va_join (wr := [(a_t, .inr (2, [.ref a_open, .ref a_laid, .int z_begun]))]) (w1 := [(a_open, .inr (6, [.ref a_open_things, .int (nI n_open_size), .int z_open_most]))]) hP hD [1] [0] rfl rfl (by decide) (by decide) hk1 hFc hP1 hD1
  generalize H1 = H at hP hS ⊢
  have hP : va_P (dC, dI) vcl [(a_t, .inr (2, [.ref a_open, .ref a_laid, .int z_begun])), (a_open, .inr (6, [.ref a_open_things, .int (nI n_open_size), .int z_open_most]))] H := hP
  have hD : va_D A [(a_t, .inr (2, [.ref a_open, .ref a_laid, .int z_begun])), (a_open, .inr (6, [.ref a_open_things, .int (nI n_open_size), .int z_open_most]))] := hD
  have hP9 := hP.sub (ws' := [(a_t, .inr (2, [.ref a_open, .ref a_laid, .int z_begun])), (a_open, .inr (6, [.ref a_open_things, .int (nI n_open_size), .int z_open_most]))]) [0, 1] rfl
  have hD9 := hD.sub (ws' := [(a_t, .inr (2, [.ref a_open, .ref a_laid, .int z_begun])), (a_open, .inr (6, [.ref a_open_things, .int (nI n_open_size), .int z_open_most]))]) [0, 1] (by decide) rfl
  exact W.iret (v := x1) hx hb hr (fun t ht hW => ⟨⟨x1, (), rfl, trivial, by rw [ht]; exact hP9, va_K.moved hW.alike hK, hD9⟩, hS.F ht⟩) hS.2.2 d_Blocks_mostOpen_7
set_option maxHeartbeats 4000000 in
set_option maxRecDepth 100000 in
theorem s_Rows_together (l : Launch) (dC : Nat → ClassId) (dI : Nat → Nat → Nat) (sz : Nat) (a_t : Nat) (a_closers : Nat) (a_openers : Nat) (a_opened : Nat) (a_closed : Nat) (a_row : Nat) (a_resolver : Nat) (z_together : Int32) (z_inConflict : Int32) : Met l y_Rows_together w_Rows_together ({ frames := 0, cells := 0, slots := 0, locals := 0 }) (va_Pc [.ref a_t] (fun U => U.heap.size = sz ∧ va_P (dC, dI) vcl [(a_t, .inr (9, [.ref a_closers, .ref a_openers, .ref a_opened, .ref a_closed, .ref a_row, .ref a_resolver, .int z_together, .int z_inConflict]))] U.heap ∧ va_K (dC, dI) vcl [] U ∧ va_D (fun _ => True) [(a_t, .inr (9, [.ref a_closers, .ref a_openers, .ref a_opened, .ref a_closed, .ref a_row, .ref a_resolver, .int z_together, .int z_inConflict]))])) (va_Qi (fun (r : Int32) (_ : Unit) => True) (fun _ t => va_P (dC, dI) vcl [(a_t, .inr (9, [.ref a_closers, .ref a_openers, .ref a_opened, .ref a_closed, .ref a_row, .ref a_resolver, .int z_together, .int z_inConflict]))] t.heap ∧ va_K (dC, dI) vcl [] t ∧ va_D (va_A [(a_t, .inr (9, [.ref a_closers, .ref a_openers, .ref a_opened, .ref a_closed, .ref a_row, .ref a_resolver, .int z_together, .int z_inConflict]))] sz) [(a_t, .inr (9, [.ref a_closers, .ref a_openers, .ref a_opened, .ref a_closed, .ref a_row, .ref a_resolver, .int z_together, .int z_inConflict]))]) (va_A [(a_t, .inr (9, [.ref a_closers, .ref a_openers, .ref a_opened, .ref a_closed, .ref a_row, .ref a_resolver, .int z_together, .int z_inConflict]))] sz)) 0 0 (va_A [(a_t, .inr (9, [.ref a_closers, .ref a_openers, .ref a_opened, .ref a_closed, .ref a_row, .ref a_resolver, .int z_together, .int z_inConflict]))] sz) := by
  refine Met.ofW (cc := b_Rows_together) (maxL := 1) (ret := (some .int)) (by decide) rfl ?_
  intro p e s m args below meth c s₁ B hml hv
  obtain ⟨rfl, hsz, hP, hK, hD0⟩ := hv
  have hx := B.exec
  have hb := B.bytes
  have hr := B.returns
  have hts := atoms_spec (ws := w_Rows_together) B.pre
  have hz : ∀ w ∈ wz, w.before _ s = true := fun w h => hts w (List.mem_cons_of_mem _ h)
  have hown : s.vm.findClass R_Rows = some m.cls := findClass_of_methodNamed B.named
  have hlocks := B.notSynchronized
  subst hsz
  have hD := hD0.self (sz := s.heap.size)
  generalize hAe : va_A [(a_t, .inr (9, [.ref a_closers, .ref a_openers, .ref a_opened, .ref a_closed, .ref a_row, .ref a_resolver, .int z_together, .int z_inConflict]))] s.heap.size = A at hD ⊢
  have hA : ∀ q : Nat, s.heap.size ≤ q → A q := fun q h => by rw [← hAe]; exact Or.inr h
  have hS : va_S A s.heap s.heap [] := va_S.rf
  have hP : va_P (dC, dI) vcl [(a_t, .inr (9, [.ref a_closers, .ref a_openers, .ref a_opened, .ref a_closed, .ref a_row, .ref a_resolver, .int z_together, .int z_inConflict]))] s.heap := hP
  have hl := lv_entry ([.ref a_t]) (n := 1) (Nat.le_of_ble_eq_true rfl)
  rw [lg_entry_eq]
  generalize (lg_sl ([.ref a_t]) ++ List.replicate (1 - (lg_sl ([.ref a_t])).length) Slot.unset).toArray = ls at hl ⊢
  have hl : lv_has ls 1 [(0, .ref a_t)] := hl
  refine lv_aload_n hx hb d_Rows_together_0 rfl (lv_at hl 0 rfl) ?_
  refine va_get (D := (dC, dI)) (ci := 9) (v := .int z_together) (C := R_Rows) (T := F_Rows) (N := 8) hx hb hz zu_Rows hown hK hP 0 rfl rfl 6 (by decide) (hz (.fieldLink R_Rows 38 "LayoutFront$Rows" "together" "I") zm_368) (fun _ h9 => h9) rfl d_Rows_together_1 ?_
  have hP9 := hP.sub (ws' := [(a_t, .inr (9, [.ref a_closers, .ref a_openers, .ref a_opened, .ref a_closed, .ref a_row, .ref a_resolver, .int z_together, .int z_inConflict]))]) [0] rfl
  have hD9 := hD.sub (ws' := [(a_t, .inr (9, [.ref a_closers, .ref a_openers, .ref a_opened, .ref a_closed, .ref a_row, .ref a_resolver, .int z_together, .int z_inConflict]))]) [0] (by decide) rfl
  exact W.iret (v := z_together) hx hb hr (fun t ht hW => ⟨⟨z_together, (), rfl, trivial, by rw [ht]; exact hP9, va_K.moved hW.alike hK, hD9⟩, hS.F ht⟩) hS.2.2 d_Rows_together_4
set_option maxHeartbeats 4000000 in
set_option maxRecDepth 100000 in
theorem s_Rows_inConflict (l : Launch) (dC : Nat → ClassId) (dI : Nat → Nat → Nat) (sz : Nat) (a_t : Nat) (a_closers : Nat) (a_openers : Nat) (a_opened : Nat) (a_closed : Nat) (a_row : Nat) (a_resolver : Nat) (z_together : Int32) (z_inConflict : Int32) : Met l y_Rows_inConflict w_Rows_inConflict ({ frames := 0, cells := 0, slots := 0, locals := 0 }) (va_Pc [.ref a_t] (fun U => U.heap.size = sz ∧ va_P (dC, dI) vcl [(a_t, .inr (9, [.ref a_closers, .ref a_openers, .ref a_opened, .ref a_closed, .ref a_row, .ref a_resolver, .int z_together, .int z_inConflict]))] U.heap ∧ va_K (dC, dI) vcl [] U ∧ va_D (fun _ => True) [(a_t, .inr (9, [.ref a_closers, .ref a_openers, .ref a_opened, .ref a_closed, .ref a_row, .ref a_resolver, .int z_together, .int z_inConflict]))])) (va_Qi (fun (r : Int32) (_ : Unit) => True) (fun _ t => va_P (dC, dI) vcl [(a_t, .inr (9, [.ref a_closers, .ref a_openers, .ref a_opened, .ref a_closed, .ref a_row, .ref a_resolver, .int z_together, .int z_inConflict]))] t.heap ∧ va_K (dC, dI) vcl [] t ∧ va_D (va_A [(a_t, .inr (9, [.ref a_closers, .ref a_openers, .ref a_opened, .ref a_closed, .ref a_row, .ref a_resolver, .int z_together, .int z_inConflict]))] sz) [(a_t, .inr (9, [.ref a_closers, .ref a_openers, .ref a_opened, .ref a_closed, .ref a_row, .ref a_resolver, .int z_together, .int z_inConflict]))]) (va_A [(a_t, .inr (9, [.ref a_closers, .ref a_openers, .ref a_opened, .ref a_closed, .ref a_row, .ref a_resolver, .int z_together, .int z_inConflict]))] sz)) 0 0 (va_A [(a_t, .inr (9, [.ref a_closers, .ref a_openers, .ref a_opened, .ref a_closed, .ref a_row, .ref a_resolver, .int z_together, .int z_inConflict]))] sz) := by
  refine Met.ofW (cc := b_Rows_inConflict) (maxL := 1) (ret := (some .int)) (by decide) rfl ?_
  intro p e s m args below meth c s₁ B hml hv
  obtain ⟨rfl, hsz, hP, hK, hD0⟩ := hv
  have hx := B.exec
  have hb := B.bytes
  have hr := B.returns
  have hts := atoms_spec (ws := w_Rows_inConflict) B.pre
  have hz : ∀ w ∈ wz, w.before _ s = true := fun w h => hts w (List.mem_cons_of_mem _ h)
  have hown : s.vm.findClass R_Rows = some m.cls := findClass_of_methodNamed B.named
  have hlocks := B.notSynchronized
  subst hsz
  have hD := hD0.self (sz := s.heap.size)
  generalize hAe : va_A [(a_t, .inr (9, [.ref a_closers, .ref a_openers, .ref a_opened, .ref a_closed, .ref a_row, .ref a_resolver, .int z_together, .int z_inConflict]))] s.heap.size = A at hD ⊢
  have hA : ∀ q : Nat, s.heap.size ≤ q → A q := fun q h => by rw [← hAe]; exact Or.inr h
  have hS : va_S A s.heap s.heap [] := va_S.rf
  have hP : va_P (dC, dI) vcl [(a_t, .inr (9, [.ref a_closers, .ref a_openers, .ref a_opened, .ref a_closed, .ref a_row, .ref a_resolver, .int z_together, .int z_inConflict]))] s.heap := hP
  have hl := lv_entry ([.ref a_t]) (n := 1) (Nat.le_of_ble_eq_true rfl)
  rw [lg_entry_eq]
  generalize (lg_sl ([.ref a_t]) ++ List.replicate (1 - (lg_sl ([.ref a_t])).length) Slot.unset).toArray = ls at hl ⊢
  have hl : lv_has ls 1 [(0, .ref a_t)] := hl
  refine lv_aload_n hx hb d_Rows_inConflict_0 rfl (lv_at hl 0 rfl) ?_
  refine va_get (D := (dC, dI)) (ci := 9) (v := .int z_inConflict) (C := R_Rows) (T := F_Rows) (N := 8) hx hb hz zu_Rows hown hK hP 0 rfl rfl 7 (by decide) (hz (.fieldLink R_Rows 42 "LayoutFront$Rows" "inConflict" "I") zm_369) (fun _ h9 => h9) rfl d_Rows_inConflict_1 ?_
  have hP9 := hP.sub (ws' := [(a_t, .inr (9, [.ref a_closers, .ref a_openers, .ref a_opened, .ref a_closed, .ref a_row, .ref a_resolver, .int z_together, .int z_inConflict]))]) [0] rfl
  have hD9 := hD.sub (ws' := [(a_t, .inr (9, [.ref a_closers, .ref a_openers, .ref a_opened, .ref a_closed, .ref a_row, .ref a_resolver, .int z_together, .int z_inConflict]))]) [0] (by decide) rfl
  exact W.iret (v := z_inConflict) hx hb hr (fun t ht hW => ⟨⟨z_inConflict, (), rfl, trivial, by rw [ht]; exact hP9, va_K.moved hW.alike hK, hD9⟩, hS.F ht⟩) hS.2.2 d_Rows_inConflict_4
theorem xr_pred_ltn {k y : Nat} (hk : k ≤ 2147483647) (hy : y ≤ 2147483647) : nI k - 1 < nI y ↔ k ≤ y := by
  by_cases h0 : k = 0
  · subst h0
    refine ⟨fun _ => Nat.zero_le _, fun _ => ?_⟩
    apply Int32.lt_iff_toInt_lt.mpr
    rw [nI_toInt (by omega)]
    have a3 : (nI 0 - 1).toInt = -1 := by decide
    omega
  · have e : nI k - 1 = nI (k - 1) := pk_sub (a := k) (b := 1) (by omega)
    rw [e]
    exact (nI_ltI (a := k - 1) (b := y) (by omega) (by omega)).trans ⟨fun _ => by omega, fun _ => by omega⟩
theorem xr_max0 {a : Nat} (ha : a ≤ 2147483647) : (if nI a < 0 then 0 else nI a) = nI (max a 0) := xr_maxn (a := a) (b := 0) ha (by omega)
set_option maxHeartbeats 4000000 in
set_option maxRecDepth 100000 in
theorem s_Cutter_lexemes (l : Launch) (dC : Nat → ClassId) (dI : Nat → Nat → Nat) (sz : Nat) (a_t : Nat) (a_lexemes : Nat) (n_at : Nat) (z_lineStart : Int32) (z_lineIsFresh : Int32) (z_wrongPlace : Int32) (z_tooMany : Int32) (b_at : n_at ≤ 241) (b_tooMany : z_tooMany = 0 ∨ z_tooMany = 1) : Met l y_Cutter_lexemes w_Cutter_lexemes ({ frames := 0, cells := 0, slots := 0, locals := 0 }) (va_Pc [.ref a_t] (fun U => U.heap.size = sz ∧ va_P (dC, dI) vcl [(a_t, .inr (3, [.ref a_lexemes, .int (nI n_at), .int z_lineStart, .int z_lineIsFresh, .int z_wrongPlace, .int z_tooMany]))] U.heap ∧ va_K (dC, dI) vcl [] U ∧ va_D (fun _ => True) [(a_t, .inr (3, [.ref a_lexemes, .int (nI n_at), .int z_lineStart, .int z_lineIsFresh, .int z_wrongPlace, .int z_tooMany]))])) (va_Qr (fun (_ : Unit) => True) (fun _ ra t => ra = a_lexemes ∧ va_P (dC, dI) vcl [(a_t, .inr (3, [.ref a_lexemes, .int (nI n_at), .int z_lineStart, .int z_lineIsFresh, .int z_wrongPlace, .int z_tooMany]))] t.heap ∧ va_K (dC, dI) vcl [] t ∧ va_D (va_A [(a_t, .inr (3, [.ref a_lexemes, .int (nI n_at), .int z_lineStart, .int z_lineIsFresh, .int z_wrongPlace, .int z_tooMany]))] sz) [(a_t, .inr (3, [.ref a_lexemes, .int (nI n_at), .int z_lineStart, .int z_lineIsFresh, .int z_wrongPlace, .int z_tooMany]))]) (va_A [(a_t, .inr (3, [.ref a_lexemes, .int (nI n_at), .int z_lineStart, .int z_lineIsFresh, .int z_wrongPlace, .int z_tooMany]))] sz)) 0 0 (va_A [(a_t, .inr (3, [.ref a_lexemes, .int (nI n_at), .int z_lineStart, .int z_lineIsFresh, .int z_wrongPlace, .int z_tooMany]))] sz) := by
  refine Met.ofW (cc := b_Cutter_lexemes) (maxL := 1) (ret := (some (.object "LayoutFront$Lexemes"))) (by decide) rfl ?_
  intro p e s m args below meth c s₁ B hml hv
  obtain ⟨rfl, hsz, hP, hK, hD0⟩ := hv
  have hx := B.exec
  have hb := B.bytes
  have hr := B.returns
  have hts := atoms_spec (ws := w_Cutter_lexemes) B.pre
  have hz : ∀ w ∈ wz, w.before _ s = true := fun w h => hts w (List.mem_cons_of_mem _ h)
  have hown : s.vm.findClass R_Cutter = some m.cls := findClass_of_methodNamed B.named
  have hlocks := B.notSynchronized
  subst hsz
  have hD := hD0.self (sz := s.heap.size)
  generalize hAe : va_A [(a_t, .inr (3, [.ref a_lexemes, .int (nI n_at), .int z_lineStart, .int z_lineIsFresh, .int z_wrongPlace, .int z_tooMany]))] s.heap.size = A at hD ⊢
  have hA : ∀ q : Nat, s.heap.size ≤ q → A q := fun q h => by rw [← hAe]; exact Or.inr h
  have hS : va_S A s.heap s.heap [] := va_S.rf
  have hP : va_P (dC, dI) vcl [(a_t, .inr (3, [.ref a_lexemes, .int (nI n_at), .int z_lineStart, .int z_lineIsFresh, .int z_wrongPlace, .int z_tooMany]))] s.heap := hP
  have hl := lv_entry ([.ref a_t]) (n := 1) (Nat.le_of_ble_eq_true rfl)
  rw [lg_entry_eq]
  generalize (lg_sl ([.ref a_t]) ++ List.replicate (1 - (lg_sl ([.ref a_t])).length) Slot.unset).toArray = ls at hl ⊢
  have hl : lv_has ls 1 [(0, .ref a_t)] := hl
  refine lv_aload_n hx hb d_Cutter_lexemes_0 rfl (lv_at hl 0 rfl) ?_
  refine va_get (D := (dC, dI)) (ci := 3) (v := .ref a_lexemes) (C := R_Cutter) (T := F_Cutter) (N := 6) hx hb hz zu_Cutter hown hK hP 0 rfl rfl 0 (by decide) (hz (.fieldLink R_Cutter 12 "LayoutFront$Cutter" "lexemes" "LLayoutFront$Lexemes;") zm_74) (fun _ h9 => h9) rfl d_Cutter_lexemes_1 ?_
  have hP9 := hP.sub (ws' := [(a_t, .inr (3, [.ref a_lexemes, .int (nI n_at), .int z_lineStart, .int z_lineIsFresh, .int z_wrongPlace, .int z_tooMany]))]) [0] rfl
  have hD9 := hD.sub (ws' := [(a_t, .inr (3, [.ref a_lexemes, .int (nI n_at), .int z_lineStart, .int z_lineIsFresh, .int z_wrongPlace, .int z_tooMany]))]) [0] (by decide) rfl
  exact W.aret (v := .ref a_lexemes) hx hb hr (Or.inl ⟨_, rfl⟩) (Or.inr ⟨_, rfl⟩) (fun t ht hW => ⟨⟨(), a_lexemes, rfl, trivial, rfl, by rw [ht]; exact hP9, va_K.moved hW.alike hK, hD9⟩, hS.F ht⟩) hS.2.2 d_Cutter_lexemes_4
set_option maxHeartbeats 4000000 in
set_option maxRecDepth 100000 in
theorem s_LF_keepCounts (l : Launch) (dC : Nat → ClassId) (dI : Nat → Nat → Nat) (sz : Nat) (a_t : Nat) (a_text : Nat) (a_fixities : Nat) (a_cutter : Nat) (a_cutter_lexemes : Nat) (a_cutter_lexemes_tokens : Nat) (a_cutter_lexemes_tokens_kinds : Nat) (a_cutter_lexemes_tokens_values : Nat) (n_cutter_lexemes_tokens_size : Nat) (a_cutter_lexemes_places : Nat) (a_cutter_lexemes_columns : Nat) (a_cutter_lexemes_lineFirsts : Nat) (n_cutter_at : Nat) (z_cutter_lineStart : Int32) (z_cutter_lineIsFresh : Int32) (z_cutter_wrongPlace : Int32) (z_cutter_tooMany : Int32) (a_blocks : Nat) (a_blocks_open : Nat) (a_blocks_open_things : Nat) (n_blocks_open_size : Nat) (z_blocks_open_most : Int32) (a_blocks_laid : Nat) (z_blocks_begun : Int32) (a_rows : Nat) (a_rows_closers : Nat) (a_rows_openers : Nat) (a_rows_opened : Nat) (a_rows_closed : Nat) (a_rows_row : Nat) (a_rows_resolver : Nat) (z_rows_together : Int32) (z_rows_inConflict : Int32) (a_tokens : Nat) (a_counts : Nat) (f_counts : Nat → Int32) (z_wrongPlace : Int32) (ka_counts : ClassId) (b_cutter_lexemes_tokens_size : n_cutter_lexemes_tokens_size ≤ 90) (b_cutter_at : n_cutter_at ≤ 241) (b_cutter_tooMany : z_cutter_tooMany = 0 ∨ z_cutter_tooMany = 1) (b_blocks_open_size : n_blocks_open_size ≤ 181) : Met l y_LF_keepCounts w_LF_keepCounts ({ frames := 2, cells := 0, slots := 0, locals := 40 }) (va_Pc [.ref a_t] (fun U => U.heap.size = sz ∧ va_P (dC, dI) vcl [(a_t, .inr (0, [.ref a_text, .ref a_fixities, .ref a_cutter, .ref a_blocks, .ref a_rows, .ref a_tokens, .ref a_counts, .int z_wrongPlace])), (a_cutter, .inr (3, [.ref a_cutter_lexemes, .int (nI n_cutter_at), .int z_cutter_lineStart, .int z_cutter_lineIsFresh, .int z_cutter_wrongPlace, .int z_cutter_tooMany])), (a_cutter_lexemes, .inr (5, [.ref a_cutter_lexemes_tokens, .ref a_cutter_lexemes_places, .ref a_cutter_lexemes_columns, .ref a_cutter_lexemes_lineFirsts])), (a_cutter_lexemes_tokens, .inr (11, [.ref a_cutter_lexemes_tokens_kinds, .ref a_cutter_lexemes_tokens_values, .int (nI n_cutter_lexemes_tokens_size)])), (a_blocks, .inr (2, [.ref a_blocks_open, .ref a_blocks_laid, .int z_blocks_begun])), (a_blocks_open, .inr (6, [.ref a_blocks_open_things, .int (nI n_blocks_open_size), .int z_blocks_open_most])), (a_rows, .inr (9, [.ref a_rows_closers, .ref a_rows_openers, .ref a_rows_opened, .ref a_rows_closed, .ref a_rows_row, .ref a_rows_resolver, .int z_rows_together, .int z_rows_inConflict])), (a_counts, .inl (ka_counts, 5, .inl f_counts))] U.heap ∧ va_K (dC, dI) vcl [(ka_counts, .int)] U ∧ va_D (fun _ => True) [(a_t, .inr (0, [.ref a_text, .ref a_fixities, .ref a_cutter, .ref a_blocks, .ref a_rows, .ref a_tokens, .ref a_counts, .int z_wrongPlace])), (a_cutter, .inr (3, [.ref a_cutter_lexemes, .int (nI n_cutter_at), .int z_cutter_lineStart, .int z_cutter_lineIsFresh, .int z_cutter_wrongPlace, .int z_cutter_tooMany])), (a_cutter_lexemes, .inr (5, [.ref a_cutter_lexemes_tokens, .ref a_cutter_lexemes_places, .ref a_cutter_lexemes_columns, .ref a_cutter_lexemes_lineFirsts])), (a_cutter_lexemes_tokens, .inr (11, [.ref a_cutter_lexemes_tokens_kinds, .ref a_cutter_lexemes_tokens_values, .int (nI n_cutter_lexemes_tokens_size)])), (a_blocks, .inr (2, [.ref a_blocks_open, .ref a_blocks_laid, .int z_blocks_begun])), (a_blocks_open, .inr (6, [.ref a_blocks_open_things, .int (nI n_blocks_open_size), .int z_blocks_open_most])), (a_rows, .inr (9, [.ref a_rows_closers, .ref a_rows_openers, .ref a_rows_opened, .ref a_rows_closed, .ref a_rows_row, .ref a_rows_resolver, .int z_rows_together, .int z_rows_inConflict])), (a_counts, .inl (ka_counts, 5, .inl f_counts))])) (va_Qv (fun (_ : Unit) => True) (fun _ t => ∃ (w_f_counts : Nat → Int32), va_P (dC, dI) vcl [(a_t, .inr (0, [.ref a_text, .ref a_fixities, .ref a_cutter, .ref a_blocks, .ref a_rows, .ref a_tokens, .ref a_counts, .int z_wrongPlace])), (a_cutter, .inr (3, [.ref a_cutter_lexemes, .int (nI n_cutter_at), .int z_cutter_lineStart, .int z_cutter_lineIsFresh, .int z_cutter_wrongPlace, .int z_cutter_tooMany])), (a_cutter_lexemes, .inr (5, [.ref a_cutter_lexemes_tokens, .ref a_cutter_lexemes_places, .ref a_cutter_lexemes_columns, .ref a_cutter_lexemes_lineFirsts])), (a_cutter_lexemes_tokens, .inr (11, [.ref a_cutter_lexemes_tokens_kinds, .ref a_cutter_lexemes_tokens_values, .int (nI n_cutter_lexemes_tokens_size)])), (a_blocks, .inr (2, [.ref a_blocks_open, .ref a_blocks_laid, .int z_blocks_begun])), (a_blocks_open, .inr (6, [.ref a_blocks_open_things, .int (nI n_blocks_open_size), .int z_blocks_open_most])), (a_rows, .inr (9, [.ref a_rows_closers, .ref a_rows_openers, .ref a_rows_opened, .ref a_rows_closed, .ref a_rows_row, .ref a_rows_resolver, .int z_rows_together, .int z_rows_inConflict])), (a_counts, .inl (ka_counts, 5, .inl w_f_counts))] t.heap ∧ va_K (dC, dI) vcl [(ka_counts, .int)] t ∧ va_D (va_A [(a_t, .inr (0, [.ref a_text, .ref a_fixities, .ref a_cutter, .ref a_blocks, .ref a_rows, .ref a_tokens, .ref a_counts, .int z_wrongPlace])), (a_cutter, .inr (3, [.ref a_cutter_lexemes, .int (nI n_cutter_at), .int z_cutter_lineStart, .int z_cutter_lineIsFresh, .int z_cutter_wrongPlace, .int z_cutter_tooMany])), (a_cutter_lexemes, .inr (5, [.ref a_cutter_lexemes_tokens, .ref a_cutter_lexemes_places, .ref a_cutter_lexemes_columns, .ref a_cutter_lexemes_lineFirsts])), (a_cutter_lexemes_tokens, .inr (11, [.ref a_cutter_lexemes_tokens_kinds, .ref a_cutter_lexemes_tokens_values, .int (nI n_cutter_lexemes_tokens_size)])), (a_blocks, .inr (2, [.ref a_blocks_open, .ref a_blocks_laid, .int z_blocks_begun])), (a_blocks_open, .inr (6, [.ref a_blocks_open_things, .int (nI n_blocks_open_size), .int z_blocks_open_most])), (a_rows, .inr (9, [.ref a_rows_closers, .ref a_rows_openers, .ref a_rows_opened, .ref a_rows_closed, .ref a_rows_row, .ref a_rows_resolver, .int z_rows_together, .int z_rows_inConflict])), (a_counts, .inl (ka_counts, 5, .inl f_counts))] sz) [(a_t, .inr (0, [.ref a_text, .ref a_fixities, .ref a_cutter, .ref a_blocks, .ref a_rows, .ref a_tokens, .ref a_counts, .int z_wrongPlace])), (a_cutter, .inr (3, [.ref a_cutter_lexemes, .int (nI n_cutter_at), .int z_cutter_lineStart, .int z_cutter_lineIsFresh, .int z_cutter_wrongPlace, .int z_cutter_tooMany])), (a_cutter_lexemes, .inr (5, [.ref a_cutter_lexemes_tokens, .ref a_cutter_lexemes_places, .ref a_cutter_lexemes_columns, .ref a_cutter_lexemes_lineFirsts])), (a_cutter_lexemes_tokens, .inr (11, [.ref a_cutter_lexemes_tokens_kinds, .ref a_cutter_lexemes_tokens_values, .int (nI n_cutter_lexemes_tokens_size)])), (a_blocks, .inr (2, [.ref a_blocks_open, .ref a_blocks_laid, .int z_blocks_begun])), (a_blocks_open, .inr (6, [.ref a_blocks_open_things, .int (nI n_blocks_open_size), .int z_blocks_open_most])), (a_rows, .inr (9, [.ref a_rows_closers, .ref a_rows_openers, .ref a_rows_opened, .ref a_rows_closed, .ref a_rows_row, .ref a_rows_resolver, .int z_rows_together, .int z_rows_inConflict])), (a_counts, .inl (ka_counts, 5, .inl w_f_counts))]) (va_A [(a_t, .inr (0, [.ref a_text, .ref a_fixities, .ref a_cutter, .ref a_blocks, .ref a_rows, .ref a_tokens, .ref a_counts, .int z_wrongPlace])), (a_cutter, .inr (3, [.ref a_cutter_lexemes, .int (nI n_cutter_at), .int z_cutter_lineStart, .int z_cutter_lineIsFresh, .int z_cutter_wrongPlace, .int z_cutter_tooMany])), (a_cutter_lexemes, .inr (5, [.ref a_cutter_lexemes_tokens, .ref a_cutter_lexemes_places, .ref a_cutter_lexemes_columns, .ref a_cutter_lexemes_lineFirsts])), (a_cutter_lexemes_tokens, .inr (11, [.ref a_cutter_lexemes_tokens_kinds, .ref a_cutter_lexemes_tokens_values, .int (nI n_cutter_lexemes_tokens_size)])), (a_blocks, .inr (2, [.ref a_blocks_open, .ref a_blocks_laid, .int z_blocks_begun])), (a_blocks_open, .inr (6, [.ref a_blocks_open_things, .int (nI n_blocks_open_size), .int z_blocks_open_most])), (a_rows, .inr (9, [.ref a_rows_closers, .ref a_rows_openers, .ref a_rows_opened, .ref a_rows_closed, .ref a_rows_row, .ref a_rows_resolver, .int z_rows_together, .int z_rows_inConflict])), (a_counts, .inl (ka_counts, 5, .inl f_counts))] sz)) 0 0 (va_A [(a_t, .inr (0, [.ref a_text, .ref a_fixities, .ref a_cutter, .ref a_blocks, .ref a_rows, .ref a_tokens, .ref a_counts, .int z_wrongPlace])), (a_cutter, .inr (3, [.ref a_cutter_lexemes, .int (nI n_cutter_at), .int z_cutter_lineStart, .int z_cutter_lineIsFresh, .int z_cutter_wrongPlace, .int z_cutter_tooMany])), (a_cutter_lexemes, .inr (5, [.ref a_cutter_lexemes_tokens, .ref a_cutter_lexemes_places, .ref a_cutter_lexemes_columns, .ref a_cutter_lexemes_lineFirsts])), (a_cutter_lexemes_tokens, .inr (11, [.ref a_cutter_lexemes_tokens_kinds, .ref a_cutter_lexemes_tokens_values, .int (nI n_cutter_lexemes_tokens_size)])), (a_blocks, .inr (2, [.ref a_blocks_open, .ref a_blocks_laid, .int z_blocks_begun])), (a_blocks_open, .inr (6, [.ref a_blocks_open_things, .int (nI n_blocks_open_size), .int z_blocks_open_most])), (a_rows, .inr (9, [.ref a_rows_closers, .ref a_rows_openers, .ref a_rows_opened, .ref a_rows_closed, .ref a_rows_row, .ref a_rows_resolver, .int z_rows_together, .int z_rows_inConflict])), (a_counts, .inl (ka_counts, 5, .inl f_counts))] sz) := by
  refine Met.ofW (cc := b_LF_keepCounts) (maxL := 1) (ret := none) (by decide) rfl ?_
  intro p e s m args below meth c s₁ B hml hv
  obtain ⟨rfl, hsz, hP, hK, hD0⟩ := hv
  have hx := B.exec
  have hb := B.bytes
  have hr := B.returns
  have hts := atoms_spec (ws := w_LF_keepCounts) B.pre
  have hz : ∀ w ∈ wz, w.before _ s = true := fun w h => hts w (List.mem_cons_of_mem _ h)
  have hown : s.vm.findClass R_LF = some m.cls := findClass_of_methodNamed B.named
  have hlocks := B.notSynchronized
  subst hsz
  have hD := hD0.self (sz := s.heap.size)
  generalize hAe : va_A [(a_t, .inr (0, [.ref a_text, .ref a_fixities, .ref a_cutter, .ref a_blocks, .ref a_rows, .ref a_tokens, .ref a_counts, .int z_wrongPlace])), (a_cutter, .inr (3, [.ref a_cutter_lexemes, .int (nI n_cutter_at), .int z_cutter_lineStart, .int z_cutter_lineIsFresh, .int z_cutter_wrongPlace, .int z_cutter_tooMany])), (a_cutter_lexemes, .inr (5, [.ref a_cutter_lexemes_tokens, .ref a_cutter_lexemes_places, .ref a_cutter_lexemes_columns, .ref a_cutter_lexemes_lineFirsts])), (a_cutter_lexemes_tokens, .inr (11, [.ref a_cutter_lexemes_tokens_kinds, .ref a_cutter_lexemes_tokens_values, .int (nI n_cutter_lexemes_tokens_size)])), (a_blocks, .inr (2, [.ref a_blocks_open, .ref a_blocks_laid, .int z_blocks_begun])), (a_blocks_open, .inr (6, [.ref a_blocks_open_things, .int (nI n_blocks_open_size), .int z_blocks_open_most])), (a_rows, .inr (9, [.ref a_rows_closers, .ref a_rows_openers, .ref a_rows_opened, .ref a_rows_closed, .ref a_rows_row, .ref a_rows_resolver, .int z_rows_together, .int z_rows_inConflict])), (a_counts, .inl (ka_counts, 5, .inl f_counts))] s.heap.size = A at hD ⊢
  have hA : ∀ q : Nat, s.heap.size ≤ q → A q := fun q h => by rw [← hAe]; exact Or.inr h
  have hS : va_S A s.heap s.heap [] := va_S.rf
  have hP : va_P (dC, dI) vcl [(a_t, .inr (0, [.ref a_text, .ref a_fixities, .ref a_cutter, .ref a_blocks, .ref a_rows, .ref a_tokens, .ref a_counts, .int z_wrongPlace])), (a_cutter, .inr (3, [.ref a_cutter_lexemes, .int (nI n_cutter_at), .int z_cutter_lineStart, .int z_cutter_lineIsFresh, .int z_cutter_wrongPlace, .int z_cutter_tooMany])), (a_cutter_lexemes, .inr (5, [.ref a_cutter_lexemes_tokens, .ref a_cutter_lexemes_places, .ref a_cutter_lexemes_columns, .ref a_cutter_lexemes_lineFirsts])), (a_cutter_lexemes_tokens, .inr (11, [.ref a_cutter_lexemes_tokens_kinds, .ref a_cutter_lexemes_tokens_values, .int (nI n_cutter_lexemes_tokens_size)])), (a_blocks, .inr (2, [.ref a_blocks_open, .ref a_blocks_laid, .int z_blocks_begun])), (a_blocks_open, .inr (6, [.ref a_blocks_open_things, .int (nI n_blocks_open_size), .int z_blocks_open_most])), (a_rows, .inr (9, [.ref a_rows_closers, .ref a_rows_openers, .ref a_rows_opened, .ref a_rows_closed, .ref a_rows_row, .ref a_rows_resolver, .int z_rows_together, .int z_rows_inConflict])), (a_counts, .inl (ka_counts, 5, .inl f_counts))] s.heap := hP
  have hl := lv_entry ([.ref a_t]) (n := 1) (Nat.le_of_ble_eq_true rfl)
  rw [lg_entry_eq]
  generalize (lg_sl ([.ref a_t]) ++ List.replicate (1 - (lg_sl ([.ref a_t])).length) Slot.unset).toArray = ls at hl ⊢
  have hl : lv_has ls 1 [(0, .ref a_t)] := hl
  refine lv_aload_n hx hb d_LF_keepCounts_0 rfl (lv_at hl 0 rfl) ?_
  refine va_get (D := (dC, dI)) (ci := 0) (v := .ref a_counts) (C := R_LF) (T := F_LF) (N := 8) hx hb hz zu_LF hown hK hP 0 rfl rfl 6 (by decide) (hz (.fieldLink R_LF 53 "LayoutFront" "counts" "[I") zm_528) (fun _ h9 => h9) rfl d_LF_keepCounts_1 ?_
  refine lv_iconst (v := 0) hx hb d_LF_keepCounts_4 (by decide) ?_
  refine lv_aload_n hx hb d_LF_keepCounts_5 rfl (lv_at hl 0 rfl) ?_
  refine va_get (D := (dC, dI)) (ci := 0) (v := .ref a_cutter) (C := R_LF) (T := F_LF) (N := 8) hx hb hz zu_LF hown hK hP 0 rfl rfl 2 (by decide) (hz (.fieldLink R_LF 26 "LayoutFront" "cutter" "LLayoutFront$Cutter;") zm_514) (fun _ h9 => h9) rfl d_LF_keepCounts_6 ?_
  have hPc := hP.sub (ws' := [(a_cutter, .inr (3, [.ref a_cutter_lexemes, .int (nI n_cutter_at), .int z_cutter_lineStart, .int z_cutter_lineIsFresh, .int z_cutter_wrongPlace, .int z_cutter_tooMany]))]) [1] rfl
  have hDc := hD.sub (ws' := [(a_cutter, .inr (3, [.ref a_cutter_lexemes, .int (nI n_cutter_at), .int z_cutter_lineStart, .int z_cutter_lineIsFresh, .int z_cutter_wrongPlace, .int z_cutter_tooMany]))]) [1] (by decide) rfl
  have hKc := hK.sub (tys' := []) [] rfl
  have hFc := va_free (wc := [(a_cutter, .inr (3, [.ref a_cutter_lexemes, .int (nI n_cutter_at), .int z_cutter_lineStart, .int z_cutter_lineIsFresh, .int z_cutter_wrongPlace, .int z_cutter_tooMany]))]) hD hS hA [1] rfl
  refine va_callr (va_runV (As := []) (rest := [.int 0, .ref a_counts]) ⟨hx, hb, hml, hown, hz⟩ (s_Cutter_lexemes l dC dI s.heap.size a_cutter a_cutter_lexemes n_cutter_at z_cutter_lineStart z_cutter_lineIsFresh z_cutter_wrongPlace z_cutter_tooMany (by first | omega | assumption | exact Or.inl rfl | exact Or.inr rfl) (by first | omega | assumption | exact Or.inl rfl | exact Or.inr rfl)) (cwV 0 hz (zV zm_574 zm_575 zm_576 zm_92 zm_577) rfl rfl rfl (by decide +kernel) ⟨Nat.le_of_ble_eq_true rfl, Nat.le_of_ble_eq_true rfl⟩) ⟨fun a U g mk q => by obtain ⟨q0, q1, qP, qK, qD⟩ := q; exact ⟨q0, q1, qP, va_K.moved (u := U) (U := U.calling g mk a) (Vm.Alike.refl U.vm) qK, qD⟩, va_recv (q := (R_Cutter, F_Cutter, 6)) (q0 := 1) (ci := 3) hK hP rfl rfl, fun U hU hW => ⟨rfl, by rw [hU], by rw [hU]; exact hPc, va_K.moved hW.alike hKc, hDc.weaken (fun _ _ _ _ => trivial)⟩⟩ rfl rfl hl.1 rfl (lv_room (Nat.le_of_ble_eq_true rfl)) d_LF_keepCounts_9 ⟨Nat.zero_le _, Nat.zero_le _⟩) hS (fun q _ h => hFc q h) hFc (fun u ra t H1 locs ht hvm hw hB hz1 hk1 hS => ?_)
  obtain ⟨hra, hP1, hK1, hD1⟩ := hB
  subst ra
  rw [ht] at hP1
  obtain ⟨hP, hD⟩ := va_join (wr := [(a_t, .inr (0, [.ref a_text, .ref a_fixities, .ref a_cutter, .ref a_blocks, .ref a_rows, .ref a_tokens, .ref a_counts, .int z_wrongPlace])), (a_cutter_lexemes, .inr (5, [.ref a_cutter_lexemes_tokens, .ref a_cutter_lexemes_places, .ref a_cutter_lexemes_columns, .ref a_cutter_lexemes_lineFirsts])), (a_cutter_lexemes_tokens, .inr (11, [.ref a_cutter_lexemes_tokens_kinds, .ref a_cutter_lexemes_tokens_values, .int (nI n_cutter_lexemes_tokens_size)])), (a_blocks, .inr (2, [.ref a_blocks_open, .ref a_blocks_laid, .int z_blocks_begun])), (a_blocks_open, .inr (6, [.ref a_blocks_open_things, .int (nI n_blocks_open_size), .int z_blocks_open_most])), (a_rows, .inr (9, [.ref a_rows_closers, .ref a_rows_openers, .ref a_rows_opened, .ref a_rows_closed, .ref a_rows_row, .ref a_rows_resolver, .int z_rows_together, .int z_rows_inConflict])), (a_counts, .inl (ka_counts, 5, .inl f_counts))]) (w1 := [(a_cutter, .inr (3, [.ref a_cutter_lexemes, .int (nI n_cutter_at), .int z_cutter_lineStart, .int z_cutter_lineIsFresh, .int z_cutter_wrongPlace, .int z_cutter_tooMany]))]) hP hD [1] [0, 2, 3, 4, 5, 6, 7] rfl rfl (by decide) (by decide) hk1 hFc hP1 hD1
  generalize H1 = H at hP hS ⊢
  have hP : va_P (dC, dI) vcl [(a_t, .inr (0, [.ref a_text, .ref a_fixities, .ref a_cutter, .ref a_blocks, .ref a_rows, .ref a_tokens, .ref a_counts, .int z_wrongPlace])), (a_cutter_lexemes, .inr (5, [.ref a_cutter_lexemes_tokens, .ref a_cutter_lexemes_places, .ref a_cutter_lexemes_columns, .ref a_cutter_lexemes_lineFirsts])), (a_cutter_lexemes_tokens, .inr (11, [.ref a_cutter_lexemes_tokens_kinds, .ref a_cutter_lexemes_tokens_values, .int (nI n_cutter_lexemes_tokens_size)])), (a_blocks, .inr (2, [.ref a_blocks_open, .ref a_blocks_laid, .int z_blocks_begun])), (a_blocks_open, .inr (6, [.ref a_blocks_open_things, .int (nI n_blocks_open_size), .int z_blocks_open_most])), (a_rows, .inr (9, [.ref a_rows_closers, .ref a_rows_openers, .ref a_rows_opened, .ref a_rows_closed, .ref a_rows_row, .ref a_rows_resolver, .int z_rows_together, .int z_rows_inConflict])), (a_counts, .inl (ka_counts, 5, .inl f_counts)), (a_cutter, .inr (3, [.ref a_cutter_lexemes, .int (nI n_cutter_at), .int z_cutter_lineStart, .int z_cutter_lineIsFresh, .int z_cutter_wrongPlace, .int z_cutter_tooMany]))] H := hP
  have hD : va_D A [(a_t, .inr (0, [.ref a_text, .ref a_fixities, .ref a_cutter, .ref a_blocks, .ref a_rows, .ref a_tokens, .ref a_counts, .int z_wrongPlace])), (a_cutter_lexemes, .inr (5, [.ref a_cutter_lexemes_tokens, .ref a_cutter_lexemes_places, .ref a_cutter_lexemes_columns, .ref a_cutter_lexemes_lineFirsts])), (a_cutter_lexemes_tokens, .inr (11, [.ref a_cutter_lexemes_tokens_kinds, .ref a_cutter_lexemes_tokens_values, .int (nI n_cutter_lexemes_tokens_size)])), (a_blocks, .inr (2, [.ref a_blocks_open, .ref a_blocks_laid, .int z_blocks_begun])), (a_blocks_open, .inr (6, [.ref a_blocks_open_things, .int (nI n_blocks_open_size), .int z_blocks_open_most])), (a_rows, .inr (9, [.ref a_rows_closers, .ref a_rows_openers, .ref a_rows_opened, .ref a_rows_closed, .ref a_rows_row, .ref a_rows_resolver, .int z_rows_together, .int z_rows_inConflict])), (a_counts, .inl (ka_counts, 5, .inl f_counts)), (a_cutter, .inr (3, [.ref a_cutter_lexemes, .int (nI n_cutter_at), .int z_cutter_lineStart, .int z_cutter_lineIsFresh, .int z_cutter_wrongPlace, .int z_cutter_tooMany]))] := hD
  have hPc := hP.sub (ws' := [(a_cutter_lexemes, .inr (5, [.ref a_cutter_lexemes_tokens, .ref a_cutter_lexemes_places, .ref a_cutter_lexemes_columns, .ref a_cutter_lexemes_lineFirsts])), (a_cutter_lexemes_tokens, .inr (11, [.ref a_cutter_lexemes_tokens_kinds, .ref a_cutter_lexemes_tokens_values, .int (nI n_cutter_lexemes_tokens_size)]))]) [1, 2] rfl
  have hDc := hD.sub (ws' := [(a_cutter_lexemes, .inr (5, [.ref a_cutter_lexemes_tokens, .ref a_cutter_lexemes_places, .ref a_cutter_lexemes_columns, .ref a_cutter_lexemes_lineFirsts])), (a_cutter_lexemes_tokens, .inr (11, [.ref a_cutter_lexemes_tokens_kinds, .ref a_cutter_lexemes_tokens_values, .int (nI n_cutter_lexemes_tokens_size)]))]) [1, 2] (by decide) rfl
  have hKc := hK.sub (tys' := []) [] rfl
  have hFc := va_free (wc := [(a_cutter_lexemes, .inr (5, [.ref a_cutter_lexemes_tokens, .ref a_cutter_lexemes_places, .ref a_cutter_lexemes_columns, .ref a_cutter_lexemes_lineFirsts])), (a_cutter_lexemes_tokens, .inr (11, [.ref a_cutter_lexemes_tokens_kinds, .ref a_cutter_lexemes_tokens_values, .int (nI n_cutter_lexemes_tokens_size)]))]) hD hS hA [1, 2] rfl
  refine va_calli (va_runV (As := []) (rest := [.int 0, .ref a_counts]) ⟨hx, hb, hml, hown, hz⟩ (s_Lexemes_size l dC dI H.size a_cutter_lexemes a_cutter_lexemes_tokens a_cutter_lexemes_tokens_kinds a_cutter_lexemes_tokens_values n_cutter_lexemes_tokens_size a_cutter_lexemes_places a_cutter_lexemes_columns a_cutter_lexemes_lineFirsts (by first | omega | assumption | exact Or.inl rfl | exact Or.inr rfl)) (cwV 0 hz (zV zm_600 zm_199 zm_200 zm_71 zm_201) rfl rfl rfl (by decide +kernel) ⟨Nat.le_of_ble_eq_true rfl, Nat.le_of_ble_eq_true rfl⟩) ⟨fun a U g mk q => by obtain ⟨q0, q1, qP, qK, qD⟩ := q; exact ⟨q0, q1, qP, va_K.moved (u := U) (U := U.calling g mk a) (Vm.Alike.refl U.vm) qK, qD⟩, va_recv (q := (R_Lexemes, F_Lexemes, 4)) (q0 := 1) (ci := 5) hK hP rfl rfl, fun U hU hW => ⟨rfl, by rw [hU], by rw [hU]; exact hPc, va_K.moved hW.alike hKc, hDc.weaken (fun _ _ _ _ => trivial)⟩⟩ rfl rfl hl.1 rfl (lv_room (Nat.le_of_ble_eq_true rfl)) d_LF_keepCounts_12 ⟨Nat.zero_le _, Nat.zero_le _⟩) hS (fun q _ h => hFc q h) hFc (fun r u t H1 locs ht hvm hw hB hz1 hk1 hS => ?_)
  obtain ⟨hP1, hK1, hD1⟩ := hB
  subst r
  rw [ht] at hP1
  obtain ⟨hP, hD⟩ := va_join (wr := [(a_t, .inr (0, [.ref a_text, .ref a_fixities, .ref a_cutter, .ref a_blocks, .ref a_rows, .ref a_tokens, .ref a_counts, .int z_wrongPlace])), (a_blocks, .inr (2, [.ref a_blocks_open, .ref a_blocks_laid, .int z_blocks_begun])), (a_blocks_open, .inr (6, [.ref a_blocks_open_things, .int (nI n_blocks_open_size), .int z_blocks_open_most])), (a_rows, .inr (9, [.ref a_rows_closers, .ref a_rows_openers, .ref a_rows_opened, .ref a_rows_closed, .ref a_rows_row, .ref a_rows_resolver, .int z_rows_together, .int z_rows_inConflict])), (a_counts, .inl (ka_counts, 5, .inl f_counts)), (a_cutter, .inr (3, [.ref a_cutter_lexemes, .int (nI n_cutter_at), .int z_cutter_lineStart, .int z_cutter_lineIsFresh, .int z_cutter_wrongPlace, .int z_cutter_tooMany]))]) (w1 := [(a_cutter_lexemes, .inr (5, [.ref a_cutter_lexemes_tokens, .ref a_cutter_lexemes_places, .ref a_cutter_lexemes_columns, .ref a_cutter_lexemes_lineFirsts])), (a_cutter_lexemes_tokens, .inr (11, [.ref a_cutter_lexemes_tokens_kinds, .ref a_cutter_lexemes_tokens_values, .int (nI n_cutter_lexemes_tokens_size)]))]) hP hD [1, 2] [0, 3, 4, 5, 6, 7] rfl rfl (by decide) (by decide) hk1 hFc hP1 hD1
  generalize H1 = H at hP hS ⊢
  have hP : va_P (dC, dI) vcl [(a_t, .inr (0, [.ref a_text, .ref a_fixities, .ref a_cutter, .ref a_blocks, .ref a_rows, .ref a_tokens, .ref a_counts, .int z_wrongPlace])), (a_blocks, .inr (2, [.ref a_blocks_open, .ref a_blocks_laid, .int z_blocks_begun])), (a_blocks_open, .inr (6, [.ref a_blocks_open_things, .int (nI n_blocks_open_size), .int z_blocks_open_most])), (a_rows, .inr (9, [.ref a_rows_closers, .ref a_rows_openers, .ref a_rows_opened, .ref a_rows_closed, .ref a_rows_row, .ref a_rows_resolver, .int z_rows_together, .int z_rows_inConflict])), (a_counts, .inl (ka_counts, 5, .inl f_counts)), (a_cutter, .inr (3, [.ref a_cutter_lexemes, .int (nI n_cutter_at), .int z_cutter_lineStart, .int z_cutter_lineIsFresh, .int z_cutter_wrongPlace, .int z_cutter_tooMany])), (a_cutter_lexemes, .inr (5, [.ref a_cutter_lexemes_tokens, .ref a_cutter_lexemes_places, .ref a_cutter_lexemes_columns, .ref a_cutter_lexemes_lineFirsts])), (a_cutter_lexemes_tokens, .inr (11, [.ref a_cutter_lexemes_tokens_kinds, .ref a_cutter_lexemes_tokens_values, .int (nI n_cutter_lexemes_tokens_size)]))] H := hP
  have hD : va_D A [(a_t, .inr (0, [.ref a_text, .ref a_fixities, .ref a_cutter, .ref a_blocks, .ref a_rows, .ref a_tokens, .ref a_counts, .int z_wrongPlace])), (a_blocks, .inr (2, [.ref a_blocks_open, .ref a_blocks_laid, .int z_blocks_begun])), (a_blocks_open, .inr (6, [.ref a_blocks_open_things, .int (nI n_blocks_open_size), .int z_blocks_open_most])), (a_rows, .inr (9, [.ref a_rows_closers, .ref a_rows_openers, .ref a_rows_opened, .ref a_rows_closed, .ref a_rows_row, .ref a_rows_resolver, .int z_rows_together, .int z_rows_inConflict])), (a_counts, .inl (ka_counts, 5, .inl f_counts)), (a_cutter, .inr (3, [.ref a_cutter_lexemes, .int (nI n_cutter_at), .int z_cutter_lineStart, .int z_cutter_lineIsFresh, .int z_cutter_wrongPlace, .int z_cutter_tooMany])), (a_cutter_lexemes, .inr (5, [.ref a_cutter_lexemes_tokens, .ref a_cutter_lexemes_places, .ref a_cutter_lexemes_columns, .ref a_cutter_lexemes_lineFirsts])), (a_cutter_lexemes_tokens, .inr (11, [.ref a_cutter_lexemes_tokens_kinds, .ref a_cutter_lexemes_tokens_values, .int (nI n_cutter_lexemes_tokens_size)]))] := hD
  refine va_iast hx hb hK hP hD hS 4 0 rfl rfl (xr_in (by decide +kernel)) d_LF_keepCounts_15 (fun H locs hP hD hS => ?_)
  generalize upd f_counts (0 : Int32).toNatClampNeg (nI n_cutter_lexemes_tokens_size) = f1 at hP hD
  have hP : va_P (dC, dI) vcl [(a_t, .inr (0, [.ref a_text, .ref a_fixities, .ref a_cutter, .ref a_blocks, .ref a_rows, .ref a_tokens, .ref a_counts, .int z_wrongPlace])), (a_blocks, .inr (2, [.ref a_blocks_open, .ref a_blocks_laid, .int z_blocks_begun])), (a_blocks_open, .inr (6, [.ref a_blocks_open_things, .int (nI n_blocks_open_size), .int z_blocks_open_most])), (a_rows, .inr (9, [.ref a_rows_closers, .ref a_rows_openers, .ref a_rows_opened, .ref a_rows_closed, .ref a_rows_row, .ref a_rows_resolver, .int z_rows_together, .int z_rows_inConflict])), (a_counts, .inl (ka_counts, 5, .inl f1)), (a_cutter, .inr (3, [.ref a_cutter_lexemes, .int (nI n_cutter_at), .int z_cutter_lineStart, .int z_cutter_lineIsFresh, .int z_cutter_wrongPlace, .int z_cutter_tooMany])), (a_cutter_lexemes, .inr (5, [.ref a_cutter_lexemes_tokens, .ref a_cutter_lexemes_places, .ref a_cutter_lexemes_columns, .ref a_cutter_lexemes_lineFirsts])), (a_cutter_lexemes_tokens, .inr (11, [.ref a_cutter_lexemes_tokens_kinds, .ref a_cutter_lexemes_tokens_values, .int (nI n_cutter_lexemes_tokens_size)]))] H := hP
  have hD : va_D A [(a_t, .inr (0, [.ref a_text, .ref a_fixities, .ref a_cutter, .ref a_blocks, .ref a_rows, .ref a_tokens, .ref a_counts, .int z_wrongPlace])), (a_blocks, .inr (2, [.ref a_blocks_open, .ref a_blocks_laid, .int z_blocks_begun])), (a_blocks_open, .inr (6, [.ref a_blocks_open_things, .int (nI n_blocks_open_size), .int z_blocks_open_most])), (a_rows, .inr (9, [.ref a_rows_closers, .ref a_rows_openers, .ref a_rows_opened, .ref a_rows_closed, .ref a_rows_row, .ref a_rows_resolver, .int z_rows_together, .int z_rows_inConflict])), (a_counts, .inl (ka_counts, 5, .inl f1)), (a_cutter, .inr (3, [.ref a_cutter_lexemes, .int (nI n_cutter_at), .int z_cutter_lineStart, .int z_cutter_lineIsFresh, .int z_cutter_wrongPlace, .int z_cutter_tooMany])), (a_cutter_lexemes, .inr (5, [.ref a_cutter_lexemes_tokens, .ref a_cutter_lexemes_places, .ref a_cutter_lexemes_columns, .ref a_cutter_lexemes_lineFirsts])), (a_cutter_lexemes_tokens, .inr (11, [.ref a_cutter_lexemes_tokens_kinds, .ref a_cutter_lexemes_tokens_values, .int (nI n_cutter_lexemes_tokens_size)]))] := hD
  refine lv_aload_n hx hb d_LF_keepCounts_16 rfl (lv_at hl 0 rfl) ?_
  refine va_get (D := (dC, dI)) (ci := 0) (v := .ref a_counts) (C := R_LF) (T := F_LF) (N := 8) hx hb hz zu_LF hown hK hP 0 rfl rfl 6 (by decide) (hz (.fieldLink R_LF 53 "LayoutFront" "counts" "[I") zm_528) (fun _ h9 => h9) rfl d_LF_keepCounts_17 ?_
  refine lv_iconst (v := 1) hx hb d_LF_keepCounts_20 (by decide) ?_
  refine lv_aload_n hx hb d_LF_keepCounts_21 rfl (lv_at hl 0 rfl) ?_
  refine va_get (D := (dC, dI)) (ci := 0) (v := .ref a_blocks) (C := R_LF) (T := F_LF) (N := 8) hx hb hz zu_LF hown hK hP 0 rfl rfl 3 (by decide) (hz (.fieldLink R_LF 33 "LayoutFront" "blocks" "LLayoutFront$Blocks;") zm_519) (fun _ h9 => h9) rfl d_LF_keepCounts_22 ?_
  have hPc := hP.sub (ws' := [(a_blocks, .inr (2, [.ref a_blocks_open, .ref a_blocks_laid, .int z_blocks_begun]))]) [1] rfl
  have hDc := hD.sub (ws' := [(a_blocks, .inr (2, [.ref a_blocks_open, .ref a_blocks_laid, .int z_blocks_begun]))]) [1] (by decide) rfl
  have hKc := hK.sub (tys' := []) [] rfl
  have hFc := va_free (wc := [(a_blocks, .inr (2, [.ref a_blocks_open, .ref a_blocks_laid, .int z_blocks_begun]))]) hD hS hA [1] rfl
  refine va_calli (va_runV (As := []) (rest := [.int 1, .ref a_counts]) ⟨hx, hb, hml, hown, hz⟩ (s_Blocks_begun l dC dI H.size a_blocks a_blocks_open a_blocks_laid z_blocks_begun) (cwV 0 hz (zV zm_601 zm_602 zm_603 zm_205 zm_604) rfl rfl rfl (by decide +kernel) ⟨Nat.le_of_ble_eq_true rfl, Nat.le_of_ble_eq_true rfl⟩) ⟨fun a U g mk q => by obtain ⟨q0, q1, qP, qK, qD⟩ := q; exact ⟨q0, q1, qP, va_K.moved (u := U) (U := U.calling g mk a) (Vm.Alike.refl U.vm) qK, qD⟩, va_recv (q := (R_Blocks, F_Blocks, 3)) (q0 := 1) (ci := 2) hK hP rfl rfl, fun U hU hW => ⟨rfl, by rw [hU], by rw [hU]; exact hPc, va_K.moved hW.alike hKc, hDc.weaken (fun _ _ _ _ => trivial)⟩⟩ rfl rfl hl.1 rfl (lv_room (Nat.le_of_ble_eq_true rfl)) d_LF_keepCounts_25 ⟨Nat.zero_le _, Nat.zero_le _⟩) hS (fun q _ h => hFc q h) hFc (fun x2 u t H1 locs ht hvm hw hB hz1 hk1 hS => ?_)
  obtain ⟨hP1, hK1, hD1⟩ := hB
  rw [ht] at hP1
  obtain ⟨hP, hD⟩ := va_join (wr := [(a_t, .inr (0, [.ref a_text, .ref a_fixities, .ref a_cutter, .ref a_blocks, .ref a_rows, .ref a_tokens, .ref a_counts, .int z_wrongPlace])), (a_blocks_open, .inr (6, [.ref a_blocks_open_things, .int (nI n_blocks_open_size), .int z_blocks_open_most])), (a_rows, .inr (9, [.ref a_rows_closers, .ref a_rows_openers, .ref a_rows_opened, .ref a_rows_closed, .ref a_rows_row, .ref a_rows_resolver, .int z_rows_together, .int z_rows_inConflict])), (a_counts, .inl (ka_counts, 5, .inl f1)), (a_cutter, .inr (3, [.ref a_cutter_lexemes, .int (nI n_cutter_at), .int z_cutter_lineStart, .int z_cutter_lineIsFresh, .int z_cutter_wrongPlace, .int z_cutter_tooMany])), (a_cutter_lexemes, .inr (5, [.ref a_cutter_lexemes_tokens, .ref a_cutter_lexemes_places, .ref a_cutter_lexemes_columns, .ref a_cutter_lexemes_lineFirsts])), (a_cutter_lexemes_tokens, .inr (11, [.ref a_cutter_lexemes_tokens_kinds, .ref a_cutter_lexemes_tokens_values, .int (nI n_cutter_lexemes_tokens_size)]))]) (w1 := [(a_blocks, .inr (2, [.ref a_blocks_open, .ref a_blocks_laid, .int z_blocks_begun]))]) hP hD [1] [0, 2, 3, 4, 5, 6, 7] rfl rfl (by decide) (by decide) hk1 hFc hP1 hD1
  generalize H1 = H at hP hS ⊢
  have hP : va_P (dC, dI) vcl [(a_t, .inr (0, [.ref a_text, .ref a_fixities, .ref a_cutter, .ref a_blocks, .ref a_rows, .ref a_tokens, .ref a_counts, .int z_wrongPlace])), (a_blocks_open, .inr (6, [.ref a_blocks_open_things, .int (nI n_blocks_open_size), .int z_blocks_open_most])), (a_rows, .inr (9, [.ref a_rows_closers, .ref a_rows_openers, .ref a_rows_opened, .ref a_rows_closed, .ref a_rows_row, .ref a_rows_resolver, .int z_rows_together, .int z_rows_inConflict])), (a_counts, .inl (ka_counts, 5, .inl f1)), (a_cutter, .inr (3, [.ref a_cutter_lexemes, .int (nI n_cutter_at), .int z_cutter_lineStart, .int z_cutter_lineIsFresh, .int z_cutter_wrongPlace, .int z_cutter_tooMany])), (a_cutter_lexemes, .inr (5, [.ref a_cutter_lexemes_tokens, .ref a_cutter_lexemes_places, .ref a_cutter_lexemes_columns, .ref a_cutter_lexemes_lineFirsts])), (a_cutter_lexemes_tokens, .inr (11, [.ref a_cutter_lexemes_tokens_kinds, .ref a_cutter_lexemes_tokens_values, .int (nI n_cutter_lexemes_tokens_size)])), (a_blocks, .inr (2, [.ref a_blocks_open, .ref a_blocks_laid, .int z_blocks_begun]))] H := hP
  have hD : va_D A [(a_t, .inr (0, [.ref a_text, .ref a_fixities, .ref a_cutter, .ref a_blocks, .ref a_rows, .ref a_tokens, .ref a_counts, .int z_wrongPlace])), (a_blocks_open, .inr (6, [.ref a_blocks_open_things, .int (nI n_blocks_open_size), .int z_blocks_open_most])), (a_rows, .inr (9, [.ref a_rows_closers, .ref a_rows_openers, .ref a_rows_opened, .ref a_rows_closed, .ref a_rows_row, .ref a_rows_resolver, .int z_rows_together, .int z_rows_inConflict])), (a_counts, .inl (ka_counts, 5, .inl f1)), (a_cutter, .inr (3, [.ref a_cutter_lexemes, .int (nI n_cutter_at), .int z_cutter_lineStart, .int z_cutter_lineIsFresh, .int z_cutter_wrongPlace, .int z_cutter_tooMany])), (a_cutter_lexemes, .inr (5, [.ref a_cutter_lexemes_tokens, .ref a_cutter_lexemes_places, .ref a_cutter_lexemes_columns, .ref a_cutter_lexemes_lineFirsts])), (a_cutter_lexemes_tokens, .inr (11, [.ref a_cutter_lexemes_tokens_kinds, .ref a_cutter_lexemes_tokens_values, .int (nI n_cutter_lexemes_tokens_size)])), (a_blocks, .inr (2, [.ref a_blocks_open, .ref a_blocks_laid, .int z_blocks_begun]))] := hD
  refine va_iast hx hb hK hP hD hS 3 0 rfl rfl (xr_in (by decide +kernel)) d_LF_keepCounts_28 (fun H locs hP hD hS => ?_)
  generalize upd f1 (1 : Int32).toNatClampNeg x2 = f3 at hP hD
  have hP : va_P (dC, dI) vcl [(a_t, .inr (0, [.ref a_text, .ref a_fixities, .ref a_cutter, .ref a_blocks, .ref a_rows, .ref a_tokens, .ref a_counts, .int z_wrongPlace])), (a_blocks_open, .inr (6, [.ref a_blocks_open_things, .int (nI n_blocks_open_size), .int z_blocks_open_most])), (a_rows, .inr (9, [.ref a_rows_closers, .ref a_rows_openers, .ref a_rows_opened, .ref a_rows_closed, .ref a_rows_row, .ref a_rows_resolver, .int z_rows_together, .int z_rows_inConflict])), (a_counts, .inl (ka_counts, 5, .inl f3)), (a_cutter, .inr (3, [.ref a_cutter_lexemes, .int (nI n_cutter_at), .int z_cutter_lineStart, .int z_cutter_lineIsFresh, .int z_cutter_wrongPlace, .int z_cutter_tooMany])), (a_cutter_lexemes, .inr (5, [.ref a_cutter_lexemes_tokens, .ref a_cutter_lexemes_places, .ref a_cutter_lexemes_columns, .ref a_cutter_lexemes_lineFirsts])), (a_cutter_lexemes_tokens, .inr (11, [.ref a_cutter_lexemes_tokens_kinds, .ref a_cutter_lexemes_tokens_values, .int (nI n_cutter_lexemes_tokens_size)])), (a_blocks, .inr (2, [.ref a_blocks_open, .ref a_blocks_laid, .int z_blocks_begun]))] H := hP
  have hD : va_D A [(a_t, .inr (0, [.ref a_text, .ref a_fixities, .ref a_cutter, .ref a_blocks, .ref a_rows, .ref a_tokens, .ref a_counts, .int z_wrongPlace])), (a_blocks_open, .inr (6, [.ref a_blocks_open_things, .int (nI n_blocks_open_size), .int z_blocks_open_most])), (a_rows, .inr (9, [.ref a_rows_closers, .ref a_rows_openers, .ref a_rows_opened, .ref a_rows_closed, .ref a_rows_row, .ref a_rows_resolver, .int z_rows_together, .int z_rows_inConflict])), (a_counts, .inl (ka_counts, 5, .inl f3)), (a_cutter, .inr (3, [.ref a_cutter_lexemes, .int (nI n_cutter_at), .int z_cutter_lineStart, .int z_cutter_lineIsFresh, .int z_cutter_wrongPlace, .int z_cutter_tooMany])), (a_cutter_lexemes, .inr (5, [.ref a_cutter_lexemes_tokens, .ref a_cutter_lexemes_places, .ref a_cutter_lexemes_columns, .ref a_cutter_lexemes_lineFirsts])), (a_cutter_lexemes_tokens, .inr (11, [.ref a_cutter_lexemes_tokens_kinds, .ref a_cutter_lexemes_tokens_values, .int (nI n_cutter_lexemes_tokens_size)])), (a_blocks, .inr (2, [.ref a_blocks_open, .ref a_blocks_laid, .int z_blocks_begun]))] := hD
  refine lv_aload_n hx hb d_LF_keepCounts_29 rfl (lv_at hl 0 rfl) ?_
  refine va_get (D := (dC, dI)) (ci := 0) (v := .ref a_counts) (C := R_LF) (T := F_LF) (N := 8) hx hb hz zu_LF hown hK hP 0 rfl rfl 6 (by decide) (hz (.fieldLink R_LF 53 "LayoutFront" "counts" "[I") zm_528) (fun _ h9 => h9) rfl d_LF_keepCounts_30 ?_
  refine lv_iconst (v := 2) hx hb d_LF_keepCounts_33 (by decide) ?_
  refine lv_aload_n hx hb d_LF_keepCounts_34 rfl (lv_at hl 0 rfl) ?_
  refine va_get (D := (dC, dI)) (ci := 0) (v := .ref a_rows) (C := R_LF) (T := F_LF) (N := 8) hx hb hz zu_LF hown hK hP 0 rfl rfl 4 (by decide) (hz (.fieldLink R_LF 40 "LayoutFront" "rows" "LLayoutFront$Rows;") zm_524) (fun _ h9 => h9) rfl d_LF_keepCounts_35 ?_
  have hPc := hP.sub (ws' := [(a_rows, .inr (9, [.ref a_rows_closers, .ref a_rows_openers, .ref a_rows_opened, .ref a_rows_closed, .ref a_rows_row, .ref a_rows_resolver, .int z_rows_together, .int z_rows_inConflict]))]) [2] rfl
  have hDc := hD.sub (ws' := [(a_rows, .inr (9, [.ref a_rows_closers, .ref a_rows_openers, .ref a_rows_opened, .ref a_rows_closed, .ref a_rows_row, .ref a_rows_resolver, .int z_rows_together, .int z_rows_inConflict]))]) [2] (by decide) rfl
  have hKc := hK.sub (tys' := []) [] rfl
  have hFc := va_free (wc := [(a_rows, .inr (9, [.ref a_rows_closers, .ref a_rows_openers, .ref a_rows_opened, .ref a_rows_closed, .ref a_rows_row, .ref a_rows_resolver, .int z_rows_together, .int z_rows_inConflict]))]) hD hS hA [2] rfl
  refine va_calli (va_runV (As := []) (rest := [.int 2, .ref a_counts]) ⟨hx, hb, hml, hown, hz⟩ (s_Rows_together l dC dI H.size a_rows a_rows_closers a_rows_openers a_rows_opened a_rows_closed a_rows_row a_rows_resolver z_rows_together z_rows_inConflict) (cwV 0 hz (zV zm_605 zm_606 zm_607 zm_377 zm_608) rfl rfl rfl (by decide +kernel) ⟨Nat.le_of_ble_eq_true rfl, Nat.le_of_ble_eq_true rfl⟩) ⟨fun a U g mk q => by obtain ⟨q0, q1, qP, qK, qD⟩ := q; exact ⟨q0, q1, qP, va_K.moved (u := U) (U := U.calling g mk a) (Vm.Alike.refl U.vm) qK, qD⟩, va_recv (q := (R_Rows, F_Rows, 8)) (q0 := 2) (ci := 9) hK hP rfl rfl, fun U hU hW => ⟨rfl, by rw [hU], by rw [hU]; exact hPc, va_K.moved hW.alike hKc, hDc.weaken (fun _ _ _ _ => trivial)⟩⟩ rfl rfl hl.1 rfl (lv_room (Nat.le_of_ble_eq_true rfl)) d_LF_keepCounts_38 ⟨Nat.zero_le _, Nat.zero_le _⟩) hS (fun q _ h => hFc q h) hFc (fun x4 u t H1 locs ht hvm hw hB hz1 hk1 hS => ?_)
  obtain ⟨hP1, hK1, hD1⟩ := hB
  rw [ht] at hP1
  obtain ⟨hP, hD⟩ := va_join (wr := [(a_t, .inr (0, [.ref a_text, .ref a_fixities, .ref a_cutter, .ref a_blocks, .ref a_rows, .ref a_tokens, .ref a_counts, .int z_wrongPlace])), (a_blocks_open, .inr (6, [.ref a_blocks_open_things, .int (nI n_blocks_open_size), .int z_blocks_open_most])), (a_counts, .inl (ka_counts, 5, .inl f3)), (a_cutter, .inr (3, [.ref a_cutter_lexemes, .int (nI n_cutter_at), .int z_cutter_lineStart, .int z_cutter_lineIsFresh, .int z_cutter_wrongPlace, .int z_cutter_tooMany])), (a_cutter_lexemes, .inr (5, [.ref a_cutter_lexemes_tokens, .ref a_cutter_lexemes_places, .ref a_cutter_lexemes_columns, .ref a_cutter_lexemes_lineFirsts])), (a_cutter_lexemes_tokens, .inr (11, [.ref a_cutter_lexemes_tokens_kinds, .ref a_cutter_lexemes_tokens_values, .int (nI n_cutter_lexemes_tokens_size)])), (a_blocks, .inr (2, [.ref a_blocks_open, .ref a_blocks_laid, .int z_blocks_begun]))]) (w1 := [(a_rows, .inr (9, [.ref a_rows_closers, .ref a_rows_openers, .ref a_rows_opened, .ref a_rows_closed, .ref a_rows_row, .ref a_rows_resolver, .int z_rows_together, .int z_rows_inConflict]))]) hP hD [2] [0, 1, 3, 4, 5, 6, 7] rfl rfl (by decide) (by decide) hk1 hFc hP1 hD1
  generalize H1 = H at hP hS ⊢
  have hP : va_P (dC, dI) vcl [(a_t, .inr (0, [.ref a_text, .ref a_fixities, .ref a_cutter, .ref a_blocks, .ref a_rows, .ref a_tokens, .ref a_counts, .int z_wrongPlace])), (a_blocks_open, .inr (6, [.ref a_blocks_open_things, .int (nI n_blocks_open_size), .int z_blocks_open_most])), (a_counts, .inl (ka_counts, 5, .inl f3)), (a_cutter, .inr (3, [.ref a_cutter_lexemes, .int (nI n_cutter_at), .int z_cutter_lineStart, .int z_cutter_lineIsFresh, .int z_cutter_wrongPlace, .int z_cutter_tooMany])), (a_cutter_lexemes, .inr (5, [.ref a_cutter_lexemes_tokens, .ref a_cutter_lexemes_places, .ref a_cutter_lexemes_columns, .ref a_cutter_lexemes_lineFirsts])), (a_cutter_lexemes_tokens, .inr (11, [.ref a_cutter_lexemes_tokens_kinds, .ref a_cutter_lexemes_tokens_values, .int (nI n_cutter_lexemes_tokens_size)])), (a_blocks, .inr (2, [.ref a_blocks_open, .ref a_blocks_laid, .int z_blocks_begun])), (a_rows, .inr (9, [.ref a_rows_closers, .ref a_rows_openers, .ref a_rows_opened, .ref a_rows_closed, .ref a_rows_row, .ref a_rows_resolver, .int z_rows_together, .int z_rows_inConflict]))] H := hP
  have hD : va_D A [(a_t, .inr (0, [.ref a_text, .ref a_fixities, .ref a_cutter, .ref a_blocks, .ref a_rows, .ref a_tokens, .ref a_counts, .int z_wrongPlace])), (a_blocks_open, .inr (6, [.ref a_blocks_open_things, .int (nI n_blocks_open_size), .int z_blocks_open_most])), (a_counts, .inl (ka_counts, 5, .inl f3)), (a_cutter, .inr (3, [.ref a_cutter_lexemes, .int (nI n_cutter_at), .int z_cutter_lineStart, .int z_cutter_lineIsFresh, .int z_cutter_wrongPlace, .int z_cutter_tooMany])), (a_cutter_lexemes, .inr (5, [.ref a_cutter_lexemes_tokens, .ref a_cutter_lexemes_places, .ref a_cutter_lexemes_columns, .ref a_cutter_lexemes_lineFirsts])), (a_cutter_lexemes_tokens, .inr (11, [.ref a_cutter_lexemes_tokens_kinds, .ref a_cutter_lexemes_tokens_values, .int (nI n_cutter_lexemes_tokens_size)])), (a_blocks, .inr (2, [.ref a_blocks_open, .ref a_blocks_laid, .int z_blocks_begun])), (a_rows, .inr (9, [.ref a_rows_closers, .ref a_rows_openers, .ref a_rows_opened, .ref a_rows_closed, .ref a_rows_row, .ref a_rows_resolver, .int z_rows_together, .int z_rows_inConflict]))] := hD
  refine va_iast hx hb hK hP hD hS 2 0 rfl rfl (xr_in (by decide +kernel)) d_LF_keepCounts_41 (fun H locs hP hD hS => ?_)
  generalize upd f3 (2 : Int32).toNatClampNeg x4 = f5 at hP hD
  have hP : va_P (dC, dI) vcl [(a_t, .inr (0, [.ref a_text, .ref a_fixities, .ref a_cutter, .ref a_blocks, .ref a_rows, .ref a_tokens, .ref a_counts, .int z_wrongPlace])), (a_blocks_open, .inr (6, [.ref a_blocks_open_things, .int (nI n_blocks_open_size), .int z_blocks_open_most])), (a_counts, .inl (ka_counts, 5, .inl f5)), (a_cutter, .inr (3, [.ref a_cutter_lexemes, .int (nI n_cutter_at), .int z_cutter_lineStart, .int z_cutter_lineIsFresh, .int z_cutter_wrongPlace, .int z_cutter_tooMany])), (a_cutter_lexemes, .inr (5, [.ref a_cutter_lexemes_tokens, .ref a_cutter_lexemes_places, .ref a_cutter_lexemes_columns, .ref a_cutter_lexemes_lineFirsts])), (a_cutter_lexemes_tokens, .inr (11, [.ref a_cutter_lexemes_tokens_kinds, .ref a_cutter_lexemes_tokens_values, .int (nI n_cutter_lexemes_tokens_size)])), (a_blocks, .inr (2, [.ref a_blocks_open, .ref a_blocks_laid, .int z_blocks_begun])), (a_rows, .inr (9, [.ref a_rows_closers, .ref a_rows_openers, .ref a_rows_opened, .ref a_rows_closed, .ref a_rows_row, .ref a_rows_resolver, .int z_rows_together, .int z_rows_inConflict]))] H := hP
  have hD : va_D A [(a_t, .inr (0, [.ref a_text, .ref a_fixities, .ref a_cutter, .ref a_blocks, .ref a_rows, .ref a_tokens, .ref a_counts, .int z_wrongPlace])), (a_blocks_open, .inr (6, [.ref a_blocks_open_things, .int (nI n_blocks_open_size), .int z_blocks_open_most])), (a_counts, .inl (ka_counts, 5, .inl f5)), (a_cutter, .inr (3, [.ref a_cutter_lexemes, .int (nI n_cutter_at), .int z_cutter_lineStart, .int z_cutter_lineIsFresh, .int z_cutter_wrongPlace, .int z_cutter_tooMany])), (a_cutter_lexemes, .inr (5, [.ref a_cutter_lexemes_tokens, .ref a_cutter_lexemes_places, .ref a_cutter_lexemes_columns, .ref a_cutter_lexemes_lineFirsts])), (a_cutter_lexemes_tokens, .inr (11, [.ref a_cutter_lexemes_tokens_kinds, .ref a_cutter_lexemes_tokens_values, .int (nI n_cutter_lexemes_tokens_size)])), (a_blocks, .inr (2, [.ref a_blocks_open, .ref a_blocks_laid, .int z_blocks_begun])), (a_rows, .inr (9, [.ref a_rows_closers, .ref a_rows_openers, .ref a_rows_opened, .ref a_rows_closed, .ref a_rows_row, .ref a_rows_resolver, .int z_rows_together, .int z_rows_inConflict]))] := hD
  refine lv_aload_n hx hb d_LF_keepCounts_42 rfl (lv_at hl 0 rfl) ?_
  refine va_get (D := (dC, dI)) (ci := 0) (v := .ref a_counts) (C := R_LF) (T := F_LF) (N := 8) hx hb hz zu_LF hown hK hP 0 rfl rfl 6 (by decide) (hz (.fieldLink R_LF 53 "LayoutFront" "counts" "[I") zm_528) (fun _ h9 => h9) rfl d_LF_keepCounts_43 ?_
  refine lv_iconst (v := 3) hx hb d_LF_keepCounts_46 (by decide) ?_
  refine lv_aload_n hx hb d_LF_keepCounts_47 rfl (lv_at hl 0 rfl) ?_
  refine va_get (D := (dC, dI)) (ci := 0) (v := .ref a_rows) (C := R_LF) (T := F_LF) (N := 8) hx hb hz zu_LF hown hK hP 0 rfl rfl 4 (by decide) (hz (.fieldLink R_LF 40 "LayoutFront" "rows" "LLayoutFront$Rows;") zm_524) (fun _ h9 => h9) rfl d_LF_keepCounts_48 ?_
  have hPc := hP.sub (ws' := [(a_rows, .inr (9, [.ref a_rows_closers, .ref a_rows_openers, .ref a_rows_opened, .ref a_rows_closed, .ref a_rows_row, .ref a_rows_resolver, .int z_rows_together, .int z_rows_inConflict]))]) [7] rfl
  have hDc := hD.sub (ws' := [(a_rows, .inr (9, [.ref a_rows_closers, .ref a_rows_openers, .ref a_rows_opened, .ref a_rows_closed, .ref a_rows_row, .ref a_rows_resolver, .int z_rows_together, .int z_rows_inConflict]))]) [7] (by decide) rfl
  have hKc := hK.sub (tys' := []) [] rfl
  have hFc := va_free (wc := [(a_rows, .inr (9, [.ref a_rows_closers, .ref a_rows_openers, .ref a_rows_opened, .ref a_rows_closed, .ref a_rows_row, .ref a_rows_resolver, .int z_rows_together, .int z_rows_inConflict]))]) hD hS hA [7] rfl
  refine va_calli (va_runV (As := []) (rest := [.int 3, .ref a_counts]) ⟨hx, hb, hml, hown, hz⟩ (s_Rows_inConflict l dC dI H.size a_rows a_rows_closers a_rows_openers a_rows_opened a_rows_closed a_rows_row a_rows_resolver z_rows_together z_rows_inConflict) (cwV 0 hz (zV zm_609 zm_610 zm_611 zm_377 zm_612) rfl rfl rfl (by decide +kernel) ⟨Nat.le_of_ble_eq_true rfl, Nat.le_of_ble_eq_true rfl⟩) ⟨fun a U g mk q => by obtain ⟨q0, q1, qP, qK, qD⟩ := q; exact ⟨q0, q1, qP, va_K.moved (u := U) (U := U.calling g mk a) (Vm.Alike.refl U.vm) qK, qD⟩, va_recv (q := (R_Rows, F_Rows, 8)) (q0 := 7) (ci := 9) hK hP rfl rfl, fun U hU hW => ⟨rfl, by rw [hU], by rw [hU]; exact hPc, va_K.moved hW.alike hKc, hDc.weaken (fun _ _ _ _ => trivial)⟩⟩ rfl rfl hl.1 rfl (lv_room (Nat.le_of_ble_eq_true rfl)) d_LF_keepCounts_51 ⟨Nat.zero_le _, Nat.zero_le _⟩) hS (fun q _ h => hFc q h) hFc (fun x6 u t H1 locs ht hvm hw hB hz1 hk1 hS => ?_)
  obtain ⟨hP1, hK1, hD1⟩ := hB
  rw [ht] at hP1
  obtain ⟨hP, hD⟩ := va_join (wr := [(a_t, .inr (0, [.ref a_text, .ref a_fixities, .ref a_cutter, .ref a_blocks, .ref a_rows, .ref a_tokens, .ref a_counts, .int z_wrongPlace])), (a_blocks_open, .inr (6, [.ref a_blocks_open_things, .int (nI n_blocks_open_size), .int z_blocks_open_most])), (a_counts, .inl (ka_counts, 5, .inl f5)), (a_cutter, .inr (3, [.ref a_cutter_lexemes, .int (nI n_cutter_at), .int z_cutter_lineStart, .int z_cutter_lineIsFresh, .int z_cutter_wrongPlace, .int z_cutter_tooMany])), (a_cutter_lexemes, .inr (5, [.ref a_cutter_lexemes_tokens, .ref a_cutter_lexemes_places, .ref a_cutter_lexemes_columns, .ref a_cutter_lexemes_lineFirsts])), (a_cutter_lexemes_tokens, .inr (11, [.ref a_cutter_lexemes_tokens_kinds, .ref a_cutter_lexemes_tokens_values, .int (nI n_cutter_lexemes_tokens_size)])), (a_blocks, .inr (2, [.ref a_blocks_open, .ref a_blocks_laid, .int z_blocks_begun]))]) (w1 := [(a_rows, .inr (9, [.ref a_rows_closers, .ref a_rows_openers, .ref a_rows_opened, .ref a_rows_closed, .ref a_rows_row, .ref a_rows_resolver, .int z_rows_together, .int z_rows_inConflict]))]) hP hD [7] [0, 1, 2, 3, 4, 5, 6] rfl rfl (by decide) (by decide) hk1 hFc hP1 hD1
  generalize H1 = H at hP hS ⊢
  have hP : va_P (dC, dI) vcl [(a_t, .inr (0, [.ref a_text, .ref a_fixities, .ref a_cutter, .ref a_blocks, .ref a_rows, .ref a_tokens, .ref a_counts, .int z_wrongPlace])), (a_blocks_open, .inr (6, [.ref a_blocks_open_things, .int (nI n_blocks_open_size), .int z_blocks_open_most])), (a_counts, .inl (ka_counts, 5, .inl f5)), (a_cutter, .inr (3, [.ref a_cutter_lexemes, .int (nI n_cutter_at), .int z_cutter_lineStart, .int z_cutter_lineIsFresh, .int z_cutter_wrongPlace, .int z_cutter_tooMany])), (a_cutter_lexemes, .inr (5, [.ref a_cutter_lexemes_tokens, .ref a_cutter_lexemes_places, .ref a_cutter_lexemes_columns, .ref a_cutter_lexemes_lineFirsts])), (a_cutter_lexemes_tokens, .inr (11, [.ref a_cutter_lexemes_tokens_kinds, .ref a_cutter_lexemes_tokens_values, .int (nI n_cutter_lexemes_tokens_size)])), (a_blocks, .inr (2, [.ref a_blocks_open, .ref a_blocks_laid, .int z_blocks_begun])), (a_rows, .inr (9, [.ref a_rows_closers, .ref a_rows_openers, .ref a_rows_opened, .ref a_rows_closed, .ref a_rows_row, .ref a_rows_resolver, .int z_rows_together, .int z_rows_inConflict]))] H := hP
  have hD : va_D A [(a_t, .inr (0, [.ref a_text, .ref a_fixities, .ref a_cutter, .ref a_blocks, .ref a_rows, .ref a_tokens, .ref a_counts, .int z_wrongPlace])), (a_blocks_open, .inr (6, [.ref a_blocks_open_things, .int (nI n_blocks_open_size), .int z_blocks_open_most])), (a_counts, .inl (ka_counts, 5, .inl f5)), (a_cutter, .inr (3, [.ref a_cutter_lexemes, .int (nI n_cutter_at), .int z_cutter_lineStart, .int z_cutter_lineIsFresh, .int z_cutter_wrongPlace, .int z_cutter_tooMany])), (a_cutter_lexemes, .inr (5, [.ref a_cutter_lexemes_tokens, .ref a_cutter_lexemes_places, .ref a_cutter_lexemes_columns, .ref a_cutter_lexemes_lineFirsts])), (a_cutter_lexemes_tokens, .inr (11, [.ref a_cutter_lexemes_tokens_kinds, .ref a_cutter_lexemes_tokens_values, .int (nI n_cutter_lexemes_tokens_size)])), (a_blocks, .inr (2, [.ref a_blocks_open, .ref a_blocks_laid, .int z_blocks_begun])), (a_rows, .inr (9, [.ref a_rows_closers, .ref a_rows_openers, .ref a_rows_opened, .ref a_rows_closed, .ref a_rows_row, .ref a_rows_resolver, .int z_rows_together, .int z_rows_inConflict]))] := hD
  refine va_iast hx hb hK hP hD hS 2 0 rfl rfl (xr_in (by decide +kernel)) d_LF_keepCounts_54 (fun H locs hP hD hS => ?_)
  generalize upd f5 (3 : Int32).toNatClampNeg x6 = f7 at hP hD
  have hP : va_P (dC, dI) vcl [(a_t, .inr (0, [.ref a_text, .ref a_fixities, .ref a_cutter, .ref a_blocks, .ref a_rows, .ref a_tokens, .ref a_counts, .int z_wrongPlace])), (a_blocks_open, .inr (6, [.ref a_blocks_open_things, .int (nI n_blocks_open_size), .int z_blocks_open_most])), (a_counts, .inl (ka_counts, 5, .inl f7)), (a_cutter, .inr (3, [.ref a_cutter_lexemes, .int (nI n_cutter_at), .int z_cutter_lineStart, .int z_cutter_lineIsFresh, .int z_cutter_wrongPlace, .int z_cutter_tooMany])), (a_cutter_lexemes, .inr (5, [.ref a_cutter_lexemes_tokens, .ref a_cutter_lexemes_places, .ref a_cutter_lexemes_columns, .ref a_cutter_lexemes_lineFirsts])), (a_cutter_lexemes_tokens, .inr (11, [.ref a_cutter_lexemes_tokens_kinds, .ref a_cutter_lexemes_tokens_values, .int (nI n_cutter_lexemes_tokens_size)])), (a_blocks, .inr (2, [.ref a_blocks_open, .ref a_blocks_laid, .int z_blocks_begun])), (a_rows, .inr (9, [.ref a_rows_closers, .ref a_rows_openers, .ref a_rows_opened, .ref a_rows_closed, .ref a_rows_row, .ref a_rows_resolver, .int z_rows_together, .int z_rows_inConflict]))] H := hP
  have hD : va_D A [(a_t, .inr (0, [.ref a_text, .ref a_fixities, .ref a_cutter, .ref a_blocks, .ref a_rows, .ref a_tokens, .ref a_counts, .int z_wrongPlace])), (a_blocks_open, .inr (6, [.ref a_blocks_open_things, .int (nI n_blocks_open_size), .int z_blocks_open_most])), (a_counts, .inl (ka_counts, 5, .inl f7)), (a_cutter, .inr (3, [.ref a_cutter_lexemes, .int (nI n_cutter_at), .int z_cutter_lineStart, .int z_cutter_lineIsFresh, .int z_cutter_wrongPlace, .int z_cutter_tooMany])), (a_cutter_lexemes, .inr (5, [.ref a_cutter_lexemes_tokens, .ref a_cutter_lexemes_places, .ref a_cutter_lexemes_columns, .ref a_cutter_lexemes_lineFirsts])), (a_cutter_lexemes_tokens, .inr (11, [.ref a_cutter_lexemes_tokens_kinds, .ref a_cutter_lexemes_tokens_values, .int (nI n_cutter_lexemes_tokens_size)])), (a_blocks, .inr (2, [.ref a_blocks_open, .ref a_blocks_laid, .int z_blocks_begun])), (a_rows, .inr (9, [.ref a_rows_closers, .ref a_rows_openers, .ref a_rows_opened, .ref a_rows_closed, .ref a_rows_row, .ref a_rows_resolver, .int z_rows_together, .int z_rows_inConflict]))] := hD
  refine lv_aload_n hx hb d_LF_keepCounts_55 rfl (lv_at hl 0 rfl) ?_
  refine va_get (D := (dC, dI)) (ci := 0) (v := .ref a_counts) (C := R_LF) (T := F_LF) (N := 8) hx hb hz zu_LF hown hK hP 0 rfl rfl 6 (by decide) (hz (.fieldLink R_LF 53 "LayoutFront" "counts" "[I") zm_528) (fun _ h9 => h9) rfl d_LF_keepCounts_56 ?_
  refine lv_iconst (v := 4) hx hb d_LF_keepCounts_59 (by decide) ?_
  refine lv_aload_n hx hb d_LF_keepCounts_60 rfl (lv_at hl 0 rfl) ?_
  refine va_get (D := (dC, dI)) (ci := 0) (v := .ref a_blocks) (C := R_LF) (T := F_LF) (N := 8) hx hb hz zu_LF hown hK hP 0 rfl rfl 3 (by decide) (hz (.fieldLink R_LF 33 "LayoutFront" "blocks" "LLayoutFront$Blocks;") zm_519) (fun _ h9 => h9) rfl d_LF_keepCounts_61 ?_
  have hPc := hP.sub (ws' := [(a_blocks, .inr (2, [.ref a_blocks_open, .ref a_blocks_laid, .int z_blocks_begun])), (a_blocks_open, .inr (6, [.ref a_blocks_open_things, .int (nI n_blocks_open_size), .int z_blocks_open_most]))]) [6, 1] rfl
  have hDc := hD.sub (ws' := [(a_blocks, .inr (2, [.ref a_blocks_open, .ref a_blocks_laid, .int z_blocks_begun])), (a_blocks_open, .inr (6, [.ref a_blocks_open_things, .int (nI n_blocks_open_size), .int z_blocks_open_most]))]) [6, 1] (by decide) rfl
  have hKc := hK.sub (tys' := []) [] rfl
  have hFc := va_free (wc := [(a_blocks, .inr (2, [.ref a_blocks_open, .ref a_blocks_laid, .int z_blocks_begun])), (a_blocks_open, .inr (6, [.ref a_blocks_open_things, .int (nI n_blocks_open_size), .int z_blocks_open_most]))]) hD hS hA [6, 1] rfl
  refine va_calli (va_runV (As := []) (rest := [.int 4, .ref a_counts]) ⟨hx, hb, hml, hown, hz⟩ (s_Blocks_mostOpen l dC dI H.size a_blocks a_blocks_open a_blocks_open_things n_blocks_open_size z_blocks_open_most a_blocks_laid z_blocks_begun (by first | omega | assumption | exact Or.inl rfl | exact Or.inr rfl)) (cwV 0 hz (zV zm_613 zm_614 zm_615 zm_205 zm_616) rfl rfl rfl (by decide +kernel) ⟨Nat.le_of_ble_eq_true rfl, Nat.le_of_ble_eq_true rfl⟩) ⟨fun a U g mk q => by obtain ⟨q0, q1, qP, qK, qD⟩ := q; exact ⟨q0, q1, qP, va_K.moved (u := U) (U := U.calling g mk a) (Vm.Alike.refl U.vm) qK, qD⟩, va_recv (q := (R_Blocks, F_Blocks, 3)) (q0 := 6) (ci := 2) hK hP rfl rfl, fun U hU hW => ⟨rfl, by rw [hU], by rw [hU]; exact hPc, va_K.moved hW.alike hKc, hDc.weaken (fun _ _ _ _ => trivial)⟩⟩ rfl rfl hl.1 rfl (lv_room (Nat.le_of_ble_eq_true rfl)) d_LF_keepCounts_64 ⟨Nat.zero_le _, Nat.zero_le _⟩) hS (fun q _ h => hFc q h) hFc (fun x8 u t H1 locs ht hvm hw hB hz1 hk1 hS => ?_)
  obtain ⟨hP1, hK1, hD1⟩ := hB
  rw [ht] at hP1
  obtain ⟨hP, hD⟩ := va_join (wr := [(a_t, .inr (0, [.ref a_text, .ref a_fixities, .ref a_cutter, .ref a_blocks, .ref a_rows, .ref a_tokens, .ref a_counts, .int z_wrongPlace])), (a_counts, .inl (ka_counts, 5, .inl f7)), (a_cutter, .inr (3, [.ref a_cutter_lexemes, .int (nI n_cutter_at), .int z_cutter_lineStart, .int z_cutter_lineIsFresh, .int z_cutter_wrongPlace, .int z_cutter_tooMany])), (a_cutter_lexemes, .inr (5, [.ref a_cutter_lexemes_tokens, .ref a_cutter_lexemes_places, .ref a_cutter_lexemes_columns, .ref a_cutter_lexemes_lineFirsts])), (a_cutter_lexemes_tokens, .inr (11, [.ref a_cutter_lexemes_tokens_kinds, .ref a_cutter_lexemes_tokens_values, .int (nI n_cutter_lexemes_tokens_size)])), (a_rows, .inr (9, [.ref a_rows_closers, .ref a_rows_openers, .ref a_rows_opened, .ref a_rows_closed, .ref a_rows_row, .ref a_rows_resolver, .int z_rows_together, .int z_rows_inConflict]))]) (w1 := [(a_blocks, .inr (2, [.ref a_blocks_open, .ref a_blocks_laid, .int z_blocks_begun])), (a_blocks_open, .inr (6, [.ref a_blocks_open_things, .int (nI n_blocks_open_size), .int z_blocks_open_most]))]) hP hD [6, 1] [0, 2, 3, 4, 5, 7] rfl rfl (by decide) (by decide) hk1 hFc hP1 hD1
  generalize H1 = H at hP hS ⊢
  have hP : va_P (dC, dI) vcl [(a_t, .inr (0, [.ref a_text, .ref a_fixities, .ref a_cutter, .ref a_blocks, .ref a_rows, .ref a_tokens, .ref a_counts, .int z_wrongPlace])), (a_counts, .inl (ka_counts, 5, .inl f7)), (a_cutter, .inr (3, [.ref a_cutter_lexemes, .int (nI n_cutter_at), .int z_cutter_lineStart, .int z_cutter_lineIsFresh, .int z_cutter_wrongPlace, .int z_cutter_tooMany])), (a_cutter_lexemes, .inr (5, [.ref a_cutter_lexemes_tokens, .ref a_cutter_lexemes_places, .ref a_cutter_lexemes_columns, .ref a_cutter_lexemes_lineFirsts])), (a_cutter_lexemes_tokens, .inr (11, [.ref a_cutter_lexemes_tokens_kinds, .ref a_cutter_lexemes_tokens_values, .int (nI n_cutter_lexemes_tokens_size)])), (a_rows, .inr (9, [.ref a_rows_closers, .ref a_rows_openers, .ref a_rows_opened, .ref a_rows_closed, .ref a_rows_row, .ref a_rows_resolver, .int z_rows_together, .int z_rows_inConflict])), (a_blocks, .inr (2, [.ref a_blocks_open, .ref a_blocks_laid, .int z_blocks_begun])), (a_blocks_open, .inr (6, [.ref a_blocks_open_things, .int (nI n_blocks_open_size), .int z_blocks_open_most]))] H := hP
  have hD : va_D A [(a_t, .inr (0, [.ref a_text, .ref a_fixities, .ref a_cutter, .ref a_blocks, .ref a_rows, .ref a_tokens, .ref a_counts, .int z_wrongPlace])), (a_counts, .inl (ka_counts, 5, .inl f7)), (a_cutter, .inr (3, [.ref a_cutter_lexemes, .int (nI n_cutter_at), .int z_cutter_lineStart, .int z_cutter_lineIsFresh, .int z_cutter_wrongPlace, .int z_cutter_tooMany])), (a_cutter_lexemes, .inr (5, [.ref a_cutter_lexemes_tokens, .ref a_cutter_lexemes_places, .ref a_cutter_lexemes_columns, .ref a_cutter_lexemes_lineFirsts])), (a_cutter_lexemes_tokens, .inr (11, [.ref a_cutter_lexemes_tokens_kinds, .ref a_cutter_lexemes_tokens_values, .int (nI n_cutter_lexemes_tokens_size)])), (a_rows, .inr (9, [.ref a_rows_closers, .ref a_rows_openers, .ref a_rows_opened, .ref a_rows_closed, .ref a_rows_row, .ref a_rows_resolver, .int z_rows_together, .int z_rows_inConflict])), (a_blocks, .inr (2, [.ref a_blocks_open, .ref a_blocks_laid, .int z_blocks_begun])), (a_blocks_open, .inr (6, [.ref a_blocks_open_things, .int (nI n_blocks_open_size), .int z_blocks_open_most]))] := hD
  refine va_iast hx hb hK hP hD hS 1 0 rfl rfl (xr_in (by decide +kernel)) d_LF_keepCounts_67 (fun H locs hP hD hS => ?_)
  generalize upd f7 (4 : Int32).toNatClampNeg x8 = f9 at hP hD
  have hP : va_P (dC, dI) vcl [(a_t, .inr (0, [.ref a_text, .ref a_fixities, .ref a_cutter, .ref a_blocks, .ref a_rows, .ref a_tokens, .ref a_counts, .int z_wrongPlace])), (a_counts, .inl (ka_counts, 5, .inl f9)), (a_cutter, .inr (3, [.ref a_cutter_lexemes, .int (nI n_cutter_at), .int z_cutter_lineStart, .int z_cutter_lineIsFresh, .int z_cutter_wrongPlace, .int z_cutter_tooMany])), (a_cutter_lexemes, .inr (5, [.ref a_cutter_lexemes_tokens, .ref a_cutter_lexemes_places, .ref a_cutter_lexemes_columns, .ref a_cutter_lexemes_lineFirsts])), (a_cutter_lexemes_tokens, .inr (11, [.ref a_cutter_lexemes_tokens_kinds, .ref a_cutter_lexemes_tokens_values, .int (nI n_cutter_lexemes_tokens_size)])), (a_rows, .inr (9, [.ref a_rows_closers, .ref a_rows_openers, .ref a_rows_opened, .ref a_rows_closed, .ref a_rows_row, .ref a_rows_resolver, .int z_rows_together, .int z_rows_inConflict])), (a_blocks, .inr (2, [.ref a_blocks_open, .ref a_blocks_laid, .int z_blocks_begun])), (a_blocks_open, .inr (6, [.ref a_blocks_open_things, .int (nI n_blocks_open_size), .int z_blocks_open_most]))] H := hP
  have hD : va_D A [(a_t, .inr (0, [.ref a_text, .ref a_fixities, .ref a_cutter, .ref a_blocks, .ref a_rows, .ref a_tokens, .ref a_counts, .int z_wrongPlace])), (a_counts, .inl (ka_counts, 5, .inl f9)), (a_cutter, .inr (3, [.ref a_cutter_lexemes, .int (nI n_cutter_at), .int z_cutter_lineStart, .int z_cutter_lineIsFresh, .int z_cutter_wrongPlace, .int z_cutter_tooMany])), (a_cutter_lexemes, .inr (5, [.ref a_cutter_lexemes_tokens, .ref a_cutter_lexemes_places, .ref a_cutter_lexemes_columns, .ref a_cutter_lexemes_lineFirsts])), (a_cutter_lexemes_tokens, .inr (11, [.ref a_cutter_lexemes_tokens_kinds, .ref a_cutter_lexemes_tokens_values, .int (nI n_cutter_lexemes_tokens_size)])), (a_rows, .inr (9, [.ref a_rows_closers, .ref a_rows_openers, .ref a_rows_opened, .ref a_rows_closed, .ref a_rows_row, .ref a_rows_resolver, .int z_rows_together, .int z_rows_inConflict])), (a_blocks, .inr (2, [.ref a_blocks_open, .ref a_blocks_laid, .int z_blocks_begun])), (a_blocks_open, .inr (6, [.ref a_blocks_open_things, .int (nI n_blocks_open_size), .int z_blocks_open_most]))] := hD
  have hP9 := hP.sub (ws' := [(a_t, .inr (0, [.ref a_text, .ref a_fixities, .ref a_cutter, .ref a_blocks, .ref a_rows, .ref a_tokens, .ref a_counts, .int z_wrongPlace])), (a_cutter, .inr (3, [.ref a_cutter_lexemes, .int (nI n_cutter_at), .int z_cutter_lineStart, .int z_cutter_lineIsFresh, .int z_cutter_wrongPlace, .int z_cutter_tooMany])), (a_cutter_lexemes, .inr (5, [.ref a_cutter_lexemes_tokens, .ref a_cutter_lexemes_places, .ref a_cutter_lexemes_columns, .ref a_cutter_lexemes_lineFirsts])), (a_cutter_lexemes_tokens, .inr (11, [.ref a_cutter_lexemes_tokens_kinds, .ref a_cutter_lexemes_tokens_values, .int (nI n_cutter_lexemes_tokens_size)])), (a_blocks, .inr (2, [.ref a_blocks_open, .ref a_blocks_laid, .int z_blocks_begun])), (a_blocks_open, .inr (6, [.ref a_blocks_open_things, .int (nI n_blocks_open_size), .int z_blocks_open_most])), (a_rows, .inr (9, [.ref a_rows_closers, .ref a_rows_openers, .ref a_rows_opened, .ref a_rows_closed, .ref a_rows_row, .ref a_rows_resolver, .int z_rows_together, .int z_rows_inConflict])), (a_counts, .inl (ka_counts, 5, .inl f9))]) [0, 2, 3, 4, 6, 7, 5, 1] rfl
  have hD9 := hD.sub (ws' := [(a_t, .inr (0, [.ref a_text, .ref a_fixities, .ref a_cutter, .ref a_blocks, .ref a_rows, .ref a_tokens, .ref a_counts, .int z_wrongPlace])), (a_cutter, .inr (3, [.ref a_cutter_lexemes, .int (nI n_cutter_at), .int z_cutter_lineStart, .int z_cutter_lineIsFresh, .int z_cutter_wrongPlace, .int z_cutter_tooMany])), (a_cutter_lexemes, .inr (5, [.ref a_cutter_lexemes_tokens, .ref a_cutter_lexemes_places, .ref a_cutter_lexemes_columns, .ref a_cutter_lexemes_lineFirsts])), (a_cutter_lexemes_tokens, .inr (11, [.ref a_cutter_lexemes_tokens_kinds, .ref a_cutter_lexemes_tokens_values, .int (nI n_cutter_lexemes_tokens_size)])), (a_blocks, .inr (2, [.ref a_blocks_open, .ref a_blocks_laid, .int z_blocks_begun])), (a_blocks_open, .inr (6, [.ref a_blocks_open_things, .int (nI n_blocks_open_size), .int z_blocks_open_most])), (a_rows, .inr (9, [.ref a_rows_closers, .ref a_rows_openers, .ref a_rows_opened, .ref a_rows_closed, .ref a_rows_row, .ref a_rows_resolver, .int z_rows_together, .int z_rows_inConflict])), (a_counts, .inl (ka_counts, 5, .inl f9))]) [0, 2, 3, 4, 6, 7, 5, 1] (by decide) rfl
  exact W.vret hx hb hr (fun t ht hW => ⟨⟨(), rfl, trivial, f9, by rw [ht]; exact hP9, va_K.moved hW.alike hK, hD9⟩, hS.F ht⟩) hS.2.2 d_LF_keepCounts_68
set_option maxHeartbeats 4000000 in
set_option maxRecDepth 100000 in
theorem s_LF_kind (l : Launch) (hnt : l.stackTraces = false) (dC : Nat → ClassId) (dI : Nat → Nat → Nat) (sz : Nat) (a_t : Nat) (a_text : Nat) (a_fixities : Nat) (a_cutter : Nat) (a_blocks : Nat) (a_rows : Nat) (a_tokens : Nat) (a_tokens_kinds : Nat) (f_tokens_kinds : Nat → Int32) (a_tokens_values : Nat) (n_tokens_size : Nat) (a_counts : Nat) (z_wrongPlace : Int32) (y0 : Int32) (ka_tokens_kinds : ClassId) (b_tokens_size : n_tokens_size ≤ 542) : ty_Met l y_LF_kind w_LF_kind ({ frames := 7, cells := 1, slots := 6, locals := 120 }) (va_Pc [.ref a_t, .int y0] (fun U => U.heap.size = sz ∧ va_P (dC, dI) vcl [(a_t, .inr (0, [.ref a_text, .ref a_fixities, .ref a_cutter, .ref a_blocks, .ref a_rows, .ref a_tokens, .ref a_counts, .int z_wrongPlace])), (a_tokens, .inr (11, [.ref a_tokens_kinds, .ref a_tokens_values, .int (nI n_tokens_size)])), (a_tokens_kinds, .inl (ka_tokens_kinds, 542, .inl f_tokens_kinds))] U.heap ∧ va_K (dC, dI) vcl [(ka_tokens_kinds, .int)] U ∧ va_D (fun _ => True) [(a_t, .inr (0, [.ref a_text, .ref a_fixities, .ref a_cutter, .ref a_blocks, .ref a_rows, .ref a_tokens, .ref a_counts, .int z_wrongPlace])), (a_tokens, .inr (11, [.ref a_tokens_kinds, .ref a_tokens_values, .int (nI n_tokens_size)])), (a_tokens_kinds, .inl (ka_tokens_kinds, 542, .inl f_tokens_kinds))] ∧ cx_E (va_A [(a_t, .inr (0, [.ref a_text, .ref a_fixities, .ref a_cutter, .ref a_blocks, .ref a_rows, .ref a_tokens, .ref a_counts, .int z_wrongPlace])), (a_tokens, .inr (11, [.ref a_tokens_kinds, .ref a_tokens_values, .int (nI n_tokens_size)])), (a_tokens_kinds, .inl (ka_tokens_kinds, 542, .inl f_tokens_kinds))] sz) U U.heap)) (va_Qi (fun (r : Int32) (_ : Unit) => True) (fun _ t => va_P (dC, dI) vcl [(a_t, .inr (0, [.ref a_text, .ref a_fixities, .ref a_cutter, .ref a_blocks, .ref a_rows, .ref a_tokens, .ref a_counts, .int z_wrongPlace])), (a_tokens, .inr (11, [.ref a_tokens_kinds, .ref a_tokens_values, .int (nI n_tokens_size)])), (a_tokens_kinds, .inl (ka_tokens_kinds, 542, .inl f_tokens_kinds))] t.heap ∧ va_K (dC, dI) vcl [(ka_tokens_kinds, .int)] t ∧ va_D (va_A [(a_t, .inr (0, [.ref a_text, .ref a_fixities, .ref a_cutter, .ref a_blocks, .ref a_rows, .ref a_tokens, .ref a_counts, .int z_wrongPlace])), (a_tokens, .inr (11, [.ref a_tokens_kinds, .ref a_tokens_values, .int (nI n_tokens_size)])), (a_tokens_kinds, .inl (ka_tokens_kinds, 542, .inl f_tokens_kinds))] sz) [(a_t, .inr (0, [.ref a_text, .ref a_fixities, .ref a_cutter, .ref a_blocks, .ref a_rows, .ref a_tokens, .ref a_counts, .int z_wrongPlace])), (a_tokens, .inr (11, [.ref a_tokens_kinds, .ref a_tokens_values, .int (nI n_tokens_size)])), (a_tokens_kinds, .inl (ka_tokens_kinds, 542, .inl f_tokens_kinds))]) (va_A [(a_t, .inr (0, [.ref a_text, .ref a_fixities, .ref a_cutter, .ref a_blocks, .ref a_rows, .ref a_tokens, .ref a_counts, .int z_wrongPlace])), (a_tokens, .inr (11, [.ref a_tokens_kinds, .ref a_tokens_values, .int (nI n_tokens_size)])), (a_tokens_kinds, .inl (ka_tokens_kinds, 542, .inl f_tokens_kinds))] sz)) [xIOB] (fun t => va_P (dC, dI) vcl [(a_t, .inr (0, [.ref a_text, .ref a_fixities, .ref a_cutter, .ref a_blocks, .ref a_rows, .ref a_tokens, .ref a_counts, .int z_wrongPlace])), (a_tokens, .inr (11, [.ref a_tokens_kinds, .ref a_tokens_values, .int (nI n_tokens_size)])), (a_tokens_kinds, .inl (ka_tokens_kinds, 542, .inl f_tokens_kinds))] t.heap ∧ va_K (dC, dI) vcl [(ka_tokens_kinds, .int)] t ∧ va_D (va_A [(a_t, .inr (0, [.ref a_text, .ref a_fixities, .ref a_cutter, .ref a_blocks, .ref a_rows, .ref a_tokens, .ref a_counts, .int z_wrongPlace])), (a_tokens, .inr (11, [.ref a_tokens_kinds, .ref a_tokens_values, .int (nI n_tokens_size)])), (a_tokens_kinds, .inl (ka_tokens_kinds, 542, .inl f_tokens_kinds))] sz) [(a_t, .inr (0, [.ref a_text, .ref a_fixities, .ref a_cutter, .ref a_blocks, .ref a_rows, .ref a_tokens, .ref a_counts, .int z_wrongPlace])), (a_tokens, .inr (11, [.ref a_tokens_kinds, .ref a_tokens_values, .int (nI n_tokens_size)])), (a_tokens_kinds, .inl (ka_tokens_kinds, 542, .inl f_tokens_kinds))]) (va_A [(a_t, .inr (0, [.ref a_text, .ref a_fixities, .ref a_cutter, .ref a_blocks, .ref a_rows, .ref a_tokens, .ref a_counts, .int z_wrongPlace])), (a_tokens, .inr (11, [.ref a_tokens_kinds, .ref a_tokens_values, .int (nI n_tokens_size)])), (a_tokens_kinds, .inl (ka_tokens_kinds, 542, .inl f_tokens_kinds))] sz) 1 6 := by
  refine ty_ofW (cc := b_LF_kind) (maxL := 2) (ret := (some .int)) (by decide) rfl ?_
  intro p e s m args below meth c s₁ B hml hv
  obtain ⟨rfl, hsz, hP, hK, hD0, hE⟩ := hv
  have hx := B.exec
  have hb := B.bytes
  have hr := B.returns
  have hts := atoms_spec (ws := w_LF_kind) B.pre
  have hz : ∀ w ∈ wz, w.before _ s = true := fun w h => hts w (List.mem_cons_of_mem _ h)
  have hown : s.vm.findClass R_LF = some m.cls := findClass_of_methodNamed B.named
  have hlocks := B.notSynchronized
  subst hsz
  have hD := hD0.self (sz := s.heap.size)
  generalize hAe : va_A [(a_t, .inr (0, [.ref a_text, .ref a_fixities, .ref a_cutter, .ref a_blocks, .ref a_rows, .ref a_tokens, .ref a_counts, .int z_wrongPlace])), (a_tokens, .inr (11, [.ref a_tokens_kinds, .ref a_tokens_values, .int (nI n_tokens_size)])), (a_tokens_kinds, .inl (ka_tokens_kinds, 542, .inl f_tokens_kinds))] s.heap.size = A at hD hE ⊢
  have hA : ∀ q : Nat, s.heap.size ≤ q → A q := fun q h => by rw [← hAe]; exact Or.inr h
  have hS : va_S A s.heap s.heap [] := va_S.rf
  have hP : va_P (dC, dI) vcl [(a_t, .inr (0, [.ref a_text, .ref a_fixities, .ref a_cutter, .ref a_blocks, .ref a_rows, .ref a_tokens, .ref a_counts, .int z_wrongPlace])), (a_tokens, .inr (11, [.ref a_tokens_kinds, .ref a_tokens_values, .int (nI n_tokens_size)])), (a_tokens_kinds, .inl (ka_tokens_kinds, 542, .inl f_tokens_kinds))] s.heap := hP
  have hl := lv_entry ([.ref a_t, .int y0]) (n := 2) (Nat.le_of_ble_eq_true rfl)
  rw [lg_entry_eq]
  generalize (lg_sl ([.ref a_t, .int y0]) ++ List.replicate (2 - (lg_sl ([.ref a_t, .int y0])).length) Slot.unset).toArray = ls at hl ⊢
  have hl : lv_has ls 2 [(0, .ref a_t), (1, .int y0)] := hl
  refine lv_aload_n hx hb d_LF_kind_0 rfl (lv_at hl 0 rfl) ?_
  refine va_get (D := (dC, dI)) (ci := 0) (v := .ref a_tokens) (C := R_LF) (T := F_LF) (N := 8) hx hb hz zu_LF hown hK hP 0 rfl rfl 5 (by decide) (hz (.fieldLink R_LF 49 "LayoutFront" "tokens" "LLayoutFront$Tokens;") zm_527) (fun _ h9 => h9) rfl d_LF_kind_1 ?_
  refine lv_iload_n hx hb d_LF_kind_4 rfl (lv_at hl 1 rfl) ?_
  have hPc := hP.sub (ws' := [(a_tokens, .inr (11, [.ref a_tokens_kinds, .ref a_tokens_values, .int (nI n_tokens_size)]))]) [1] rfl
  have hDc := hD.sub (ws' := [(a_tokens, .inr (11, [.ref a_tokens_kinds, .ref a_tokens_values, .int (nI n_tokens_size)]))]) [1] (by decide) rfl
  have hKc := hK.sub (tys' := []) [] rfl
  have hFc := va_free (wc := [(a_tokens, .inr (11, [.ref a_tokens_kinds, .ref a_tokens_values, .int (nI n_tokens_size)]))]) hD hS hA [1] rfl
  refine va_calli (va_runV (As := [.int y0]) (rest := []) ⟨hx, hb, hml, hown, hz⟩ (s_Tokens_has l dC dI s.heap.size a_tokens a_tokens_kinds a_tokens_values n_tokens_size y0) (cwV 1 hz (zV zm_617 zm_38 zm_39 zm_35 zm_40) rfl rfl rfl (by decide +kernel) ⟨Nat.le_of_ble_eq_true rfl, Nat.le_of_ble_eq_true rfl⟩) ⟨fun a U g mk q => by obtain ⟨q0, q1, qP, qK, qD⟩ := q; exact ⟨q0, q1, qP, va_K.moved (u := U) (U := U.calling g mk a) (Vm.Alike.refl U.vm) qK, qD⟩, va_recv (q := (R_Tokens, F_Tokens, 3)) (q0 := 1) (ci := 11) hK hP rfl rfl, fun U hU hW => ⟨rfl, by rw [hU], by rw [hU]; exact hPc, va_K.moved hW.alike hKc, hDc.weaken (fun _ _ _ _ => trivial)⟩⟩ rfl rfl hl.1 rfl (lv_room (Nat.le_of_ble_eq_true rfl)) d_LF_kind_5 ⟨Nat.zero_le _, Nat.zero_le _⟩) hS (fun q _ h => hFc q h) hFc (fun x1 u t H1 locs ht hvm hw_x1 hB hz1 hk1 hS => ?_)
  obtain ⟨hP1, hK1, hD1⟩ := hB
  have hb_x1 := hw_x1.1
  rw [ht] at hP1
  obtain ⟨hP, hD⟩ := va_join (wr := [(a_t, .inr (0, [.ref a_text, .ref a_fixities, .ref a_cutter, .ref a_blocks, .ref a_rows, .ref a_tokens, .ref a_counts, .int z_wrongPlace])), (a_tokens_kinds, .inl (ka_tokens_kinds, 542, .inl f_tokens_kinds))]) (w1 := [(a_tokens, .inr (11, [.ref a_tokens_kinds, .ref a_tokens_values, .int (nI n_tokens_size)]))]) hP hD [1] [0, 2] rfl rfl (by decide) (by decide) hk1 hFc hP1 hD1
  generalize H1 = H at hP hS ⊢
  have hP : va_P (dC, dI) vcl [(a_t, .inr (0, [.ref a_text, .ref a_fixities, .ref a_cutter, .ref a_blocks, .ref a_rows, .ref a_tokens, .ref a_counts, .int z_wrongPlace])), (a_tokens_kinds, .inl (ka_tokens_kinds, 542, .inl f_tokens_kinds)), (a_tokens, .inr (11, [.ref a_tokens_kinds, .ref a_tokens_values, .int (nI n_tokens_size)]))] H := hP
  have hD : va_D A [(a_t, .inr (0, [.ref a_text, .ref a_fixities, .ref a_cutter, .ref a_blocks, .ref a_rows, .ref a_tokens, .ref a_counts, .int z_wrongPlace])), (a_tokens_kinds, .inl (ka_tokens_kinds, 542, .inl f_tokens_kinds)), (a_tokens, .inr (11, [.ref a_tokens_kinds, .ref a_tokens_values, .int (nI n_tokens_size)]))] := hD
  refine lv_if_ne (tgt := 21) hx hb d_LF_kind_8 (by decide) (fun h2 => ?_) (fun h2 => ?_)
  · refine lv_aload_n hx hb d_LF_kind_21 rfl (lv_at hl 0 rfl) ?_
    refine va_get (D := (dC, dI)) (ci := 0) (v := .ref a_tokens) (C := R_LF) (T := F_LF) (N := 8) hx hb hz zu_LF hown hK hP 0 rfl rfl 5 (by decide) (hz (.fieldLink R_LF 49 "LayoutFront" "tokens" "LLayoutFront$Tokens;") zm_527) (fun _ h9 => h9) rfl d_LF_kind_22 ?_
    refine lv_iload_n hx hb d_LF_kind_25 rfl (lv_at hl 1 rfl) ?_
    have hPc := hP.sub (ws' := [(a_tokens, .inr (11, [.ref a_tokens_kinds, .ref a_tokens_values, .int (nI n_tokens_size)])), (a_tokens_kinds, .inl (ka_tokens_kinds, 542, .inl f_tokens_kinds))]) [2, 1] rfl
    have hDc := hD.sub (ws' := [(a_tokens, .inr (11, [.ref a_tokens_kinds, .ref a_tokens_values, .int (nI n_tokens_size)])), (a_tokens_kinds, .inl (ka_tokens_kinds, 542, .inl f_tokens_kinds))]) [2, 1] (by decide) rfl
    have hKc := hK.sub (tys' := [(ka_tokens_kinds, .int)]) [0] rfl
    have hFc := va_free (wc := [(a_tokens, .inr (11, [.ref a_tokens_kinds, .ref a_tokens_values, .int (nI n_tokens_size)])), (a_tokens_kinds, .inl (ka_tokens_kinds, 542, .inl f_tokens_kinds))]) hD hS hA [2, 1] rfl
    refine va_calli (va_runV (As := [.int y0]) (rest := []) ⟨hx, hb, hml, hown, hz⟩ (s_Tokens_kindAt l dC dI H.size 542 a_tokens a_tokens_kinds f_tokens_kinds a_tokens_values n_tokens_size y0 ka_tokens_kinds (by first | omega | assumption | exact Or.inl rfl | exact Or.inr rfl) (by first | omega | assumption | exact Or.inl rfl | exact Or.inr rfl)) (cwV 1 hz (zV zm_618 zm_212 zm_213 zm_35 zm_214) rfl rfl rfl (by decide +kernel) ⟨Nat.le_of_ble_eq_true rfl, Nat.le_of_ble_eq_true rfl⟩) ⟨fun a U g mk q => by obtain ⟨q0, q1, qP, qK, qD⟩ := q; exact ⟨q0, q1, qP, va_K.moved (u := U) (U := U.calling g mk a) (Vm.Alike.refl U.vm) qK, qD⟩, va_recv (q := (R_Tokens, F_Tokens, 3)) (q0 := 2) (ci := 11) hK hP rfl rfl, fun U hU hW => ⟨rfl, by rw [hU], by rw [hU]; exact hPc, va_K.moved hW.alike hKc, hDc.weaken (fun _ _ _ _ => trivial)⟩⟩ rfl rfl hl.1 rfl (lv_room (Nat.le_of_ble_eq_true rfl)) d_LF_kind_26 ⟨Nat.zero_le _, Nat.zero_le _⟩) hS (fun q _ h => hFc q h) hFc (fun x3 u t H1 locs ht hvm hw hB hz1 hk1 hS => ?_)
    obtain ⟨hP1, hK1, hD1⟩ := hB
    rw [ht] at hP1
    obtain ⟨hP, hD⟩ := va_join (wr := [(a_t, .inr (0, [.ref a_text, .ref a_fixities, .ref a_cutter, .ref a_blocks, .ref a_rows, .ref a_tokens, .ref a_counts, .int z_wrongPlace]))]) (w1 := [(a_tokens, .inr (11, [.ref a_tokens_kinds, .ref a_tokens_values, .int (nI n_tokens_size)])), (a_tokens_kinds, .inl (ka_tokens_kinds, 542, .inl f_tokens_kinds))]) hP hD [2, 1] [0] rfl rfl (by decide) (by decide) hk1 hFc hP1 hD1
    generalize H1 = H at hP hS ⊢
    have hP : va_P (dC, dI) vcl [(a_t, .inr (0, [.ref a_text, .ref a_fixities, .ref a_cutter, .ref a_blocks, .ref a_rows, .ref a_tokens, .ref a_counts, .int z_wrongPlace])), (a_tokens, .inr (11, [.ref a_tokens_kinds, .ref a_tokens_values, .int (nI n_tokens_size)])), (a_tokens_kinds, .inl (ka_tokens_kinds, 542, .inl f_tokens_kinds))] H := hP
    have hD : va_D A [(a_t, .inr (0, [.ref a_text, .ref a_fixities, .ref a_cutter, .ref a_blocks, .ref a_rows, .ref a_tokens, .ref a_counts, .int z_wrongPlace])), (a_tokens, .inr (11, [.ref a_tokens_kinds, .ref a_tokens_values, .int (nI n_tokens_size)])), (a_tokens_kinds, .inl (ka_tokens_kinds, 542, .inl f_tokens_kinds))] := hD
    have hP9 := hP.sub (ws' := [(a_t, .inr (0, [.ref a_text, .ref a_fixities, .ref a_cutter, .ref a_blocks, .ref a_rows, .ref a_tokens, .ref a_counts, .int z_wrongPlace])), (a_tokens, .inr (11, [.ref a_tokens_kinds, .ref a_tokens_values, .int (nI n_tokens_size)])), (a_tokens_kinds, .inl (ka_tokens_kinds, 542, .inl f_tokens_kinds))]) [0, 1, 2] rfl
    have hD9 := hD.sub (ws' := [(a_t, .inr (0, [.ref a_text, .ref a_fixities, .ref a_cutter, .ref a_blocks, .ref a_rows, .ref a_tokens, .ref a_counts, .int z_wrongPlace])), (a_tokens, .inr (11, [.ref a_tokens_kinds, .ref a_tokens_values, .int (nI n_tokens_size)])), (a_tokens_kinds, .inl (ka_tokens_kinds, 542, .inl f_tokens_kinds))]) [0, 1, 2] (by decide) rfl
    refine ty_ret (Nat.zero_le _) (Nat.zero_le _) ?_
    exact W.iret (v := x3) hx hb hr (fun t ht hW => ⟨⟨x3, (), rfl, trivial, by rw [ht]; exact hP9, va_K.moved hW.alike hK, hD9⟩, hS.F ht⟩) hS.2.2 d_LF_kind_29
  · have hP9 := hP.sub (ws' := [(a_t, .inr (0, [.ref a_text, .ref a_fixities, .ref a_cutter, .ref a_blocks, .ref a_rows, .ref a_tokens, .ref a_counts, .int z_wrongPlace])), (a_tokens, .inr (11, [.ref a_tokens_kinds, .ref a_tokens_values, .int (nI n_tokens_size)])), (a_tokens_kinds, .inl (ka_tokens_kinds, 542, .inl f_tokens_kinds))]) [0, 2, 1] rfl
    have hD9 := hD.sub (ws' := [(a_t, .inr (0, [.ref a_text, .ref a_fixities, .ref a_cutter, .ref a_blocks, .ref a_rows, .ref a_tokens, .ref a_counts, .int z_wrongPlace])), (a_tokens, .inr (11, [.ref a_tokens_kinds, .ref a_tokens_values, .int (nI n_tokens_size)])), (a_tokens_kinds, .inl (ka_tokens_kinds, 542, .inl f_tokens_kinds))]) [0, 2, 1] (by decide) rfl
    obtain ⟨qs, hqs⟩ := hE.msg _ (List.mem_of_getElem? (l := tx_str) (i := 6) rfl)
    exact ty_throw hx hb hnt hlocks (hl.1.trans hml.symm) hown (by decide +kernel) (by decide +kernel) (fun U hv hh => cx_xIOB (cx_hz hz hv) (hE.at hS hv hh)) (fun U hv => word_at (cx_warm hv) (zgood _ zm_619).2 (hz _ zm_619)) (fun U hv => word_at (cx_warm hv) (zgood _ zm_620).2 (hz _ zm_620)) (fun U hv => word_at (cx_warm hv) (zgood _ zm_621).2 (hz _ zm_621)) hqs d_LF_kind_11 d_LF_kind_14 d_LF_kind_15 d_LF_kind_17 d_LF_kind_20 (covers_of_empty (B.noHandlers (hts _ List.mem_cons_self)) _) (Nat.le_of_ble_eq_true rfl) (Nat.le_of_ble_eq_true rfl) (Nat.le_of_ble_eq_true rfl) (Nat.le_of_ble_eq_true rfl) hS (Nat.le_refl _) (Nat.le_refl _) (by simp) (fun t ha h8 h9 => ⟨cx_grown hP9 h9, va_K.moved ha hK, hD9⟩)
set_option maxHeartbeats 4000000 in
set_option maxRecDepth 100000 in
theorem s_LF_count (l : Launch) (hnt : l.stackTraces = false) (dC : Nat → ClassId) (dI : Nat → Nat → Nat) (sz : Nat) (a_t : Nat) (a_text : Nat) (a_fixities : Nat) (a_cutter : Nat) (a_blocks : Nat) (a_rows : Nat) (a_tokens : Nat) (a_counts : Nat) (f_counts : Nat → Int32) (z_wrongPlace : Int32) (y0 : Int32) (ka_counts : ClassId) : ty_Met l y_LF_count w_LF_count ({ frames := 7, cells := 1, slots := 6, locals := 120 }) (va_Pc [.ref a_t, .int y0] (fun U => U.heap.size = sz ∧ va_P (dC, dI) vcl [(a_t, .inr (0, [.ref a_text, .ref a_fixities, .ref a_cutter, .ref a_blocks, .ref a_rows, .ref a_tokens, .ref a_counts, .int z_wrongPlace])), (a_counts, .inl (ka_counts, 5, .inl f_counts))] U.heap ∧ va_K (dC, dI) vcl [(ka_counts, .int)] U ∧ va_D (fun _ => True) [(a_t, .inr (0, [.ref a_text, .ref a_fixities, .ref a_cutter, .ref a_blocks, .ref a_rows, .ref a_tokens, .ref a_counts, .int z_wrongPlace])), (a_counts, .inl (ka_counts, 5, .inl f_counts))] ∧ cx_E (va_A [(a_t, .inr (0, [.ref a_text, .ref a_fixities, .ref a_cutter, .ref a_blocks, .ref a_rows, .ref a_tokens, .ref a_counts, .int z_wrongPlace])), (a_counts, .inl (ka_counts, 5, .inl f_counts))] sz) U U.heap)) (va_Qi (fun (r : Int32) (_ : Unit) => True) (fun _ t => va_P (dC, dI) vcl [(a_t, .inr (0, [.ref a_text, .ref a_fixities, .ref a_cutter, .ref a_blocks, .ref a_rows, .ref a_tokens, .ref a_counts, .int z_wrongPlace])), (a_counts, .inl (ka_counts, 5, .inl f_counts))] t.heap ∧ va_K (dC, dI) vcl [(ka_counts, .int)] t ∧ va_D (va_A [(a_t, .inr (0, [.ref a_text, .ref a_fixities, .ref a_cutter, .ref a_blocks, .ref a_rows, .ref a_tokens, .ref a_counts, .int z_wrongPlace])), (a_counts, .inl (ka_counts, 5, .inl f_counts))] sz) [(a_t, .inr (0, [.ref a_text, .ref a_fixities, .ref a_cutter, .ref a_blocks, .ref a_rows, .ref a_tokens, .ref a_counts, .int z_wrongPlace])), (a_counts, .inl (ka_counts, 5, .inl f_counts))]) (va_A [(a_t, .inr (0, [.ref a_text, .ref a_fixities, .ref a_cutter, .ref a_blocks, .ref a_rows, .ref a_tokens, .ref a_counts, .int z_wrongPlace])), (a_counts, .inl (ka_counts, 5, .inl f_counts))] sz)) [xIOB] (fun t => va_P (dC, dI) vcl [(a_t, .inr (0, [.ref a_text, .ref a_fixities, .ref a_cutter, .ref a_blocks, .ref a_rows, .ref a_tokens, .ref a_counts, .int z_wrongPlace])), (a_counts, .inl (ka_counts, 5, .inl f_counts))] t.heap ∧ va_K (dC, dI) vcl [(ka_counts, .int)] t ∧ va_D (va_A [(a_t, .inr (0, [.ref a_text, .ref a_fixities, .ref a_cutter, .ref a_blocks, .ref a_rows, .ref a_tokens, .ref a_counts, .int z_wrongPlace])), (a_counts, .inl (ka_counts, 5, .inl f_counts))] sz) [(a_t, .inr (0, [.ref a_text, .ref a_fixities, .ref a_cutter, .ref a_blocks, .ref a_rows, .ref a_tokens, .ref a_counts, .int z_wrongPlace])), (a_counts, .inl (ka_counts, 5, .inl f_counts))]) (va_A [(a_t, .inr (0, [.ref a_text, .ref a_fixities, .ref a_cutter, .ref a_blocks, .ref a_rows, .ref a_tokens, .ref a_counts, .int z_wrongPlace])), (a_counts, .inl (ka_counts, 5, .inl f_counts))] sz) 1 6 := by
  refine ty_ofW (cc := b_LF_count) (maxL := 2) (ret := (some .int)) (by decide) rfl ?_
  intro p e s m args below meth c s₁ B hml hv
  obtain ⟨rfl, hsz, hP, hK, hD0, hE⟩ := hv
  have hx := B.exec
  have hb := B.bytes
  have hr := B.returns
  have hts := atoms_spec (ws := w_LF_count) B.pre
  have hz : ∀ w ∈ wz, w.before _ s = true := fun w h => hts w (List.mem_cons_of_mem _ h)
  have hown : s.vm.findClass R_LF = some m.cls := findClass_of_methodNamed B.named
  have hlocks := B.notSynchronized
  subst hsz
  have hD := hD0.self (sz := s.heap.size)
  generalize hAe : va_A [(a_t, .inr (0, [.ref a_text, .ref a_fixities, .ref a_cutter, .ref a_blocks, .ref a_rows, .ref a_tokens, .ref a_counts, .int z_wrongPlace])), (a_counts, .inl (ka_counts, 5, .inl f_counts))] s.heap.size = A at hD hE ⊢
  have hA : ∀ q : Nat, s.heap.size ≤ q → A q := fun q h => by rw [← hAe]; exact Or.inr h
  have hS : va_S A s.heap s.heap [] := va_S.rf
  have hP : va_P (dC, dI) vcl [(a_t, .inr (0, [.ref a_text, .ref a_fixities, .ref a_cutter, .ref a_blocks, .ref a_rows, .ref a_tokens, .ref a_counts, .int z_wrongPlace])), (a_counts, .inl (ka_counts, 5, .inl f_counts))] s.heap := hP
  have hl := lv_entry ([.ref a_t, .int y0]) (n := 2) (Nat.le_of_ble_eq_true rfl)
  rw [lg_entry_eq]
  generalize (lg_sl ([.ref a_t, .int y0]) ++ List.replicate (2 - (lg_sl ([.ref a_t, .int y0])).length) Slot.unset).toArray = ls at hl ⊢
  have hl : lv_has ls 2 [(0, .ref a_t), (1, .int y0)] := hl
  refine lv_iload_n hx hb d_LF_count_0 rfl (lv_at hl 1 rfl) ?_
  refine lv_if_lt (tgt := 9) hx hb d_LF_count_1 (by decide) (fun h1 => ?_) (fun h1 => ?_)
  · have hP9 := hP.sub (ws' := [(a_t, .inr (0, [.ref a_text, .ref a_fixities, .ref a_cutter, .ref a_blocks, .ref a_rows, .ref a_tokens, .ref a_counts, .int z_wrongPlace])), (a_counts, .inl (ka_counts, 5, .inl f_counts))]) [0, 1] rfl
    have hD9 := hD.sub (ws' := [(a_t, .inr (0, [.ref a_text, .ref a_fixities, .ref a_cutter, .ref a_blocks, .ref a_rows, .ref a_tokens, .ref a_counts, .int z_wrongPlace])), (a_counts, .inl (ka_counts, 5, .inl f_counts))]) [0, 1] (by decide) rfl
    obtain ⟨qs, hqs⟩ := hE.msg _ (List.mem_of_getElem? (l := tx_str) (i := 7) rfl)
    exact ty_throw hx hb hnt hlocks (hl.1.trans hml.symm) hown (by decide +kernel) (by decide +kernel) (fun U hv hh => cx_xIOB (cx_hz hz hv) (hE.at hS hv hh)) (fun U hv => word_at (cx_warm hv) (zgood _ zm_619).2 (hz _ zm_619)) (fun U hv => word_at (cx_warm hv) (zgood _ zm_620).2 (hz _ zm_620)) (fun U hv => word_at (cx_warm hv) (zgood _ zm_621).2 (hz _ zm_621)) hqs d_LF_count_9 d_LF_count_12 d_LF_count_13 d_LF_count_15 d_LF_count_18 (covers_of_empty (B.noHandlers (hts _ List.mem_cons_self)) _) (Nat.le_of_ble_eq_true rfl) (Nat.le_of_ble_eq_true rfl) (Nat.le_of_ble_eq_true rfl) (Nat.le_of_ble_eq_true rfl) hS (Nat.le_refl _) (Nat.le_refl _) (by simp) (fun t ha h8 h9 => ⟨cx_grown hP9 h9, va_K.moved ha hK, hD9⟩)
  · refine lv_iload_n hx hb d_LF_count_4 rfl (lv_at hl 1 rfl) ?_
    refine lv_iconst (v := 5) hx hb d_LF_count_5 (by decide) ?_
    refine lv_icmp_lt (tgt := 19) hx hb d_LF_count_6 (by decide) (fun h2 => ?_) (fun h2 => ?_)
    · refine lv_aload_n hx hb d_LF_count_19 rfl (lv_at hl 0 rfl) ?_
      refine va_get (D := (dC, dI)) (ci := 0) (v := .ref a_counts) (C := R_LF) (T := F_LF) (N := 8) hx hb hz zu_LF hown hK hP 0 rfl rfl 6 (by decide) (hz (.fieldLink R_LF 53 "LayoutFront" "counts" "[I") zm_528) (fun _ h9 => h9) rfl d_LF_count_20 ?_
      refine lv_iload_n hx hb d_LF_count_23 rfl (lv_at hl 1 rfl) ?_
      refine va_iald hx hb hK hP 1 0 rfl rfl (xr_inr (n := 5) (xr_ge0 h1) h2 (by omega) (by omega)) d_LF_count_24 ?_
      refine lv_topi (fun x3 e_x3 => ?_)
      have hP9 := hP.sub (ws' := [(a_t, .inr (0, [.ref a_text, .ref a_fixities, .ref a_cutter, .ref a_blocks, .ref a_rows, .ref a_tokens, .ref a_counts, .int z_wrongPlace])), (a_counts, .inl (ka_counts, 5, .inl f_counts))]) [0, 1] rfl
      have hD9 := hD.sub (ws' := [(a_t, .inr (0, [.ref a_text, .ref a_fixities, .ref a_cutter, .ref a_blocks, .ref a_rows, .ref a_tokens, .ref a_counts, .int z_wrongPlace])), (a_counts, .inl (ka_counts, 5, .inl f_counts))]) [0, 1] (by decide) rfl
      refine ty_ret (Nat.zero_le _) (Nat.zero_le _) ?_
      exact W.iret (v := x3) hx hb hr (fun t ht hW => ⟨⟨x3, (), rfl, trivial, by rw [ht]; exact hP9, va_K.moved hW.alike hK, hD9⟩, hS.F ht⟩) hS.2.2 d_LF_count_25
    · have hP9 := hP.sub (ws' := [(a_t, .inr (0, [.ref a_text, .ref a_fixities, .ref a_cutter, .ref a_blocks, .ref a_rows, .ref a_tokens, .ref a_counts, .int z_wrongPlace])), (a_counts, .inl (ka_counts, 5, .inl f_counts))]) [0, 1] rfl
      have hD9 := hD.sub (ws' := [(a_t, .inr (0, [.ref a_text, .ref a_fixities, .ref a_cutter, .ref a_blocks, .ref a_rows, .ref a_tokens, .ref a_counts, .int z_wrongPlace])), (a_counts, .inl (ka_counts, 5, .inl f_counts))]) [0, 1] (by decide) rfl
      obtain ⟨qs, hqs⟩ := hE.msg _ (List.mem_of_getElem? (l := tx_str) (i := 7) rfl)
      exact ty_throw hx hb hnt hlocks (hl.1.trans hml.symm) hown (by decide +kernel) (by decide +kernel) (fun U hv hh => cx_xIOB (cx_hz hz hv) (hE.at hS hv hh)) (fun U hv => word_at (cx_warm hv) (zgood _ zm_619).2 (hz _ zm_619)) (fun U hv => word_at (cx_warm hv) (zgood _ zm_620).2 (hz _ zm_620)) (fun U hv => word_at (cx_warm hv) (zgood _ zm_621).2 (hz _ zm_621)) hqs d_LF_count_9 d_LF_count_12 d_LF_count_13 d_LF_count_15 d_LF_count_18 (covers_of_empty (B.noHandlers (hts _ List.mem_cons_self)) _) (Nat.le_of_ble_eq_true rfl) (Nat.le_of_ble_eq_true rfl) (Nat.le_of_ble_eq_true rfl) (Nat.le_of_ble_eq_true rfl) hS (Nat.le_refl _) (Nat.le_refl _) (by simp) (fun t ha h8 h9 => ⟨cx_grown hP9 h9, va_K.moved ha hK, hD9⟩)
/-! the reference's small functions -/
def wi (x a b : Int32) : Int32 := if x < a then 0 else if b < x then 0 else 1
def lt_ (c : Int32) : Int32 := if ¬ wi c 97 122 = 0 then 1 else if ¬ wi c 65 90 = 0 then 1 else if c = 95 then 1 else 0
def op_ (c : Int32) : Int32 := if c = 33 then 1 else if ¬ wi c 35 38 = 0 then 1 else if c = 42 then 1 else if c = 43 then 1 else if ¬ wi c 45 47 = 0 then 1 else if c = 58 then 1 else if ¬ wi c 60 64 = 0 then 1 else if c = 92 then 1 else if c = 94 then 1 else if c = 124 then 1 else if c = 126 then 1 else 0
def sg_ (c : Int32) : Int32 := if c = 40 then 1 else if c = 41 then 1 else if c = 91 then 1 else if c = 93 then 1 else if c = 123 then 1 else if c = 125 then 1 else if c = 44 then 1 else if c = 59 then 1 else if c = 96 then 1 else 0
theorem rn_post {a k n : Nat} {m r : Int32} (h1 : a ≤ k) (h2 : k ≤ n) (h3 : k = a → m = 1 ∨ r = 0) (hx : m = 0 ∨ n ≤ k) : a + (k - a) ≤ n ∧ (a < n → ¬ r = 0 → 1 ≤ k - a) := by
  refine ⟨by omega, fun q1 q2 => ?_⟩
  rcases Nat.lt_or_ge a k with q | q
  · omega
  · rcases h3 (by omega) with e | e
    · rcases hx with e2 | e2
      · rw [e] at e2; exact absurd e2 (by decide)
      · omega
    · exact absurd e q2
theorem ds_step {f : Nat → Int32} {a k : Nat} (h : f (a + k) = 45) (h2 : ¬ k = 0 → f a = 45) : f a = 45 := by
  by_cases q : k = 0
  · rw [q] at h; exact h
  · exact h2 q
theorem mu_cut {a a' : Nat} {b b' : Int32} (hb : b = 0) (ha : a ≤ 240) (h : a < a' ∨ (a ≤ a' ∧ ¬ b' = 0)) (h' : a' ≤ 240) : (240 - a') + (if b' = 0 then 1 else 0) < (240 - a) + (if b = 0 then 1 else 0) := by
  rw [if_pos hb]
  rcases h with h | ⟨h, e⟩
  · split <;> omega
  · rw [if_neg e]; omega
theorem lx_H {a g j : Nat} {b' : Int32} (h0 : ¬ b' = 0 ∨ g = a + j) (h1 : a ≤ g) (hj : 1 ≤ j) : a < g ∨ (a ≤ g ∧ ¬ b' = 0) := by
  rcases h0 with h | h
  · exact Or.inr ⟨h1, h⟩
  · exact Or.inl (by omega)
theorem da_H {f : Nat → Int32} {a u n : Nat} (h : f a = 45) (hu : a ≤ u) (hx : n ≤ u ∨ f u = 10) (ha : a < n) : a < u := by
  rcases Nat.lt_or_ge a u with q | q
  · exact q
  · have e : u = a := by omega
    rcases hx with x | x
    · omega
    · rw [e, h] at x; exact absurd x (by decide)
def rn_ (k c : Int32) : Int32 := if k = 0 then (if ¬ lt_ c = 0 then 1 else if ¬ wi c 48 57 = 0 then 1 else if c = 39 then 1 else 0) else if k = 1 then wi c 48 57 else op_ c
theorem rn0 {x : Int32} (h : ¬ lt_ x = 0) : ¬ rn_ 0 x = 0 := by
  unfold rn_; simp [h]
theorem rn1 {x : Int32} (h : ¬ wi x 48 57 = 0) : ¬ rn_ 1 x = 0 := by
  unfold rn_; simp [h]
theorem rn2 {x : Int32} (h : ¬ op_ x = 0) : ¬ rn_ 2 x = 0 := by
  unfold rn_; simp [h]
set_option maxHeartbeats 4000000 in
set_option maxRecDepth 100000 in
theorem s_Model_fail (l : Launch) (dC : Nat → ClassId) (dI : Nat → Nat → Nat) (sz : Nat) (a_t : Nat) (z_thrown : Int32) (n_length : Nat) (a_text : Nat) (z_bad : Int32) (z_place : Int32) (n_at : Nat) (n_lexemes : Nat) (a_kind : Nat) (a_value : Nat) (a_where : Nat) (a_column : Nat) (a_leads : Nat) (n_open : Nat) (z_highest : Int32) (a_row : Nat) (n_tokens : Nat) (z_blocks : Int32) (a_sort : Nat) (a_is : Nat) (a_before : Nat) (a_behind : Nat) (a_partner : Nat) (a_done : Nat) (n_all : Nat) (a_kinds : Nat) (a_values : Nat) (z_told : Int32) (z_toldBlocks : Int32) (z_toldRows : Int32) (z_toldConflicts : Int32) (z_toldHighest : Int32) (n_set : Nat) (a_names : Nat) (a_sides : Nat) (a_levels : Nat) (n_items : Nat) (n_operands : Nat) (n_waiting : Nat) (n_pairs : Nat) (z_rows : Int32) (z_conflicts : Int32) (a_from : Nat) (a_to : Nat) (a_what : Nat) (a_left : Nat) (a_right : Nat) (a_waits : Nat) (a_opens : Nat) (a_closes : Nat) (a_waitsFor : Nat) (y0 : Int32) (b_length : n_length ≤ 240) (b_bad : z_bad = 0 ∨ z_bad = 1 ∨ z_bad = 2) (b_at : n_at ≤ 240) (b_lexemes : n_lexemes ≤ 90) (b_open : n_open ≤ 200) (b_tokens : n_tokens ≤ 600) (b_all : n_all ≤ 900) (b_set : n_set ≤ 12) (b_items : n_items ≤ 96) (b_operands : n_operands ≤ 96) (b_waiting : n_waiting ≤ 96) (b_pairs : n_pairs ≤ 96) : Met l y_Model_fail w_Model_fail ({ frames := 0, cells := 0, slots := 0, locals := 0 }) (va_Pc [.ref a_t, .int y0] (fun U => U.heap.size = sz ∧ va_P (dC, dI) vcl [(a_t, .inr (1, [.int z_thrown, .int (nI n_length), .ref a_text, .int z_bad, .int z_place, .int (nI n_at), .int (nI n_lexemes), .ref a_kind, .ref a_value, .ref a_where, .ref a_column, .ref a_leads, .int (nI n_open), .int z_highest, .ref a_row, .int (nI n_tokens), .int z_blocks, .ref a_sort, .ref a_is, .ref a_before, .ref a_behind, .ref a_partner, .ref a_done, .int (nI n_all), .ref a_kinds, .ref a_values, .int z_told, .int z_toldBlocks, .int z_toldRows, .int z_toldConflicts, .int z_toldHighest, .int (nI n_set), .ref a_names, .ref a_sides, .ref a_levels, .int (nI n_items), .int (nI n_operands), .int (nI n_waiting), .int (nI n_pairs), .int z_rows, .int z_conflicts, .ref a_from, .ref a_to, .ref a_what, .ref a_left, .ref a_right, .ref a_waits, .ref a_opens, .ref a_closes, .ref a_waitsFor]))] U.heap ∧ va_K (dC, dI) vcl [] U ∧ va_D (fun _ => True) [(a_t, .inr (1, [.int z_thrown, .int (nI n_length), .ref a_text, .int z_bad, .int z_place, .int (nI n_at), .int (nI n_lexemes), .ref a_kind, .ref a_value, .ref a_where, .ref a_column, .ref a_leads, .int (nI n_open), .int z_highest, .ref a_row, .int (nI n_tokens), .int z_blocks, .ref a_sort, .ref a_is, .ref a_before, .ref a_behind, .ref a_partner, .ref a_done, .int (nI n_all), .ref a_kinds, .ref a_values, .int z_told, .int z_toldBlocks, .int z_toldRows, .int z_toldConflicts, .int z_toldHighest, .int (nI n_set), .ref a_names, .ref a_sides, .ref a_levels, .int (nI n_items), .int (nI n_operands), .int (nI n_waiting), .int (nI n_pairs), .int z_rows, .int z_conflicts, .ref a_from, .ref a_to, .ref a_what, .ref a_left, .ref a_right, .ref a_waits, .ref a_opens, .ref a_closes, .ref a_waitsFor]))])) (va_Qi (fun (r : Int32) (_ : Unit) => True) (fun _ t => ∃ (w_z_thrown : Int32), va_P (dC, dI) vcl [(a_t, .inr (1, [.int w_z_thrown, .int (nI n_length), .ref a_text, .int z_bad, .int z_place, .int (nI n_at), .int (nI n_lexemes), .ref a_kind, .ref a_value, .ref a_where, .ref a_column, .ref a_leads, .int (nI n_open), .int z_highest, .ref a_row, .int (nI n_tokens), .int z_blocks, .ref a_sort, .ref a_is, .ref a_before, .ref a_behind, .ref a_partner, .ref a_done, .int (nI n_all), .ref a_kinds, .ref a_values, .int z_told, .int z_toldBlocks, .int z_toldRows, .int z_toldConflicts, .int z_toldHighest, .int (nI n_set), .ref a_names, .ref a_sides, .ref a_levels, .int (nI n_items), .int (nI n_operands), .int (nI n_waiting), .int (nI n_pairs), .int z_rows, .int z_conflicts, .ref a_from, .ref a_to, .ref a_what, .ref a_left, .ref a_right, .ref a_waits, .ref a_opens, .ref a_closes, .ref a_waitsFor]))] t.heap ∧ va_K (dC, dI) vcl [] t ∧ va_D (va_A [(a_t, .inr (1, [.int z_thrown, .int (nI n_length), .ref a_text, .int z_bad, .int z_place, .int (nI n_at), .int (nI n_lexemes), .ref a_kind, .ref a_value, .ref a_where, .ref a_column, .ref a_leads, .int (nI n_open), .int z_highest, .ref a_row, .int (nI n_tokens), .int z_blocks, .ref a_sort, .ref a_is, .ref a_before, .ref a_behind, .ref a_partner, .ref a_done, .int (nI n_all), .ref a_kinds, .ref a_values, .int z_told, .int z_toldBlocks, .int z_toldRows, .int z_toldConflicts, .int z_toldHighest, .int (nI n_set), .ref a_names, .ref a_sides, .ref a_levels, .int (nI n_items), .int (nI n_operands), .int (nI n_waiting), .int (nI n_pairs), .int z_rows, .int z_conflicts, .ref a_from, .ref a_to, .ref a_what, .ref a_left, .ref a_right, .ref a_waits, .ref a_opens, .ref a_closes, .ref a_waitsFor]))] sz) [(a_t, .inr (1, [.int w_z_thrown, .int (nI n_length), .ref a_text, .int z_bad, .int z_place, .int (nI n_at), .int (nI n_lexemes), .ref a_kind, .ref a_value, .ref a_where, .ref a_column, .ref a_leads, .int (nI n_open), .int z_highest, .ref a_row, .int (nI n_tokens), .int z_blocks, .ref a_sort, .ref a_is, .ref a_before, .ref a_behind, .ref a_partner, .ref a_done, .int (nI n_all), .ref a_kinds, .ref a_values, .int z_told, .int z_toldBlocks, .int z_toldRows, .int z_toldConflicts, .int z_toldHighest, .int (nI n_set), .ref a_names, .ref a_sides, .ref a_levels, .int (nI n_items), .int (nI n_operands), .int (nI n_waiting), .int (nI n_pairs), .int z_rows, .int z_conflicts, .ref a_from, .ref a_to, .ref a_what, .ref a_left, .ref a_right, .ref a_waits, .ref a_opens, .ref a_closes, .ref a_waitsFor]))]) (va_A [(a_t, .inr (1, [.int z_thrown, .int (nI n_length), .ref a_text, .int z_bad, .int z_place, .int (nI n_at), .int (nI n_lexemes), .ref a_kind, .ref a_value, .ref a_where, .ref a_column, .ref a_leads, .int (nI n_open), .int z_highest, .ref a_row, .int (nI n_tokens), .int z_blocks, .ref a_sort, .ref a_is, .ref a_before, .ref a_behind, .ref a_partner, .ref a_done, .int (nI n_all), .ref a_kinds, .ref a_values, .int z_told, .int z_toldBlocks, .int z_toldRows, .int z_toldConflicts, .int z_toldHighest, .int (nI n_set), .ref a_names, .ref a_sides, .ref a_levels, .int (nI n_items), .int (nI n_operands), .int (nI n_waiting), .int (nI n_pairs), .int z_rows, .int z_conflicts, .ref a_from, .ref a_to, .ref a_what, .ref a_left, .ref a_right, .ref a_waits, .ref a_opens, .ref a_closes, .ref a_waitsFor]))] sz)) 0 0 (va_A [(a_t, .inr (1, [.int z_thrown, .int (nI n_length), .ref a_text, .int z_bad, .int z_place, .int (nI n_at), .int (nI n_lexemes), .ref a_kind, .ref a_value, .ref a_where, .ref a_column, .ref a_leads, .int (nI n_open), .int z_highest, .ref a_row, .int (nI n_tokens), .int z_blocks, .ref a_sort, .ref a_is, .ref a_before, .ref a_behind, .ref a_partner, .ref a_done, .int (nI n_all), .ref a_kinds, .ref a_values, .int z_told, .int z_toldBlocks, .int z_toldRows, .int z_toldConflicts, .int z_toldHighest, .int (nI n_set), .ref a_names, .ref a_sides, .ref a_levels, .int (nI n_items), .int (nI n_operands), .int (nI n_waiting), .int (nI n_pairs), .int z_rows, .int z_conflicts, .ref a_from, .ref a_to, .ref a_what, .ref a_left, .ref a_right, .ref a_waits, .ref a_opens, .ref a_closes, .ref a_waitsFor]))] sz) := by
  refine Met.ofW (cc := b_Model_fail) (maxL := 2) (ret := (some .int)) (by decide) rfl ?_
  intro p e s m args below meth c s₁ B hml hv
  obtain ⟨rfl, hsz, hP, hK, hD0⟩ := hv
  have hx := B.exec
  have hb := B.bytes
  have hr := B.returns
  have hts := atoms_spec (ws := w_Model_fail) B.pre
  have hz : ∀ w ∈ wz, w.before _ s = true := fun w h => hts w (List.mem_cons_of_mem _ h)
  have hown : s.vm.findClass R_Model = some m.cls := findClass_of_methodNamed B.named
  have hlocks := B.notSynchronized
  subst hsz
  have hD := hD0.self (sz := s.heap.size)
  generalize hAe : va_A [(a_t, .inr (1, [.int z_thrown, .int (nI n_length), .ref a_text, .int z_bad, .int z_place, .int (nI n_at), .int (nI n_lexemes), .ref a_kind, .ref a_value, .ref a_where, .ref a_column, .ref a_leads, .int (nI n_open), .int z_highest, .ref a_row, .int (nI n_tokens), .int z_blocks, .ref a_sort, .ref a_is, .ref a_before, .ref a_behind, .ref a_partner, .ref a_done, .int (nI n_all), .ref a_kinds, .ref a_values, .int z_told, .int z_toldBlocks, .int z_toldRows, .int z_toldConflicts, .int z_toldHighest, .int (nI n_set), .ref a_names, .ref a_sides, .ref a_levels, .int (nI n_items), .int (nI n_operands), .int (nI n_waiting), .int (nI n_pairs), .int z_rows, .int z_conflicts, .ref a_from, .ref a_to, .ref a_what, .ref a_left, .ref a_right, .ref a_waits, .ref a_opens, .ref a_closes, .ref a_waitsFor]))] s.heap.size = A at hD ⊢
  have hA : ∀ q : Nat, s.heap.size ≤ q → A q := fun q h => by rw [← hAe]; exact Or.inr h
  have hS : va_S A s.heap s.heap [] := va_S.rf
  have hP : va_P (dC, dI) vcl [(a_t, .inr (1, [.int z_thrown, .int (nI n_length), .ref a_text, .int z_bad, .int z_place, .int (nI n_at), .int (nI n_lexemes), .ref a_kind, .ref a_value, .ref a_where, .ref a_column, .ref a_leads, .int (nI n_open), .int z_highest, .ref a_row, .int (nI n_tokens), .int z_blocks, .ref a_sort, .ref a_is, .ref a_before, .ref a_behind, .ref a_partner, .ref a_done, .int (nI n_all), .ref a_kinds, .ref a_values, .int z_told, .int z_toldBlocks, .int z_toldRows, .int z_toldConflicts, .int z_toldHighest, .int (nI n_set), .ref a_names, .ref a_sides, .ref a_levels, .int (nI n_items), .int (nI n_operands), .int (nI n_waiting), .int (nI n_pairs), .int z_rows, .int z_conflicts, .ref a_from, .ref a_to, .ref a_what, .ref a_left, .ref a_right, .ref a_waits, .ref a_opens, .ref a_closes, .ref a_waitsFor]))] s.heap := hP
  have hl := lv_entry ([.ref a_t, .int y0]) (n := 2) (Nat.le_of_ble_eq_true rfl)
  rw [lg_entry_eq]
  generalize (lg_sl ([.ref a_t, .int y0]) ++ List.replicate (2 - (lg_sl ([.ref a_t, .int y0])).length) Slot.unset).toArray = ls at hl ⊢
  have hl : lv_has ls 2 [(0, .ref a_t), (1, .int y0)] := hl
  refine lv_aload_n hx hb d_Model_fail_0 rfl (lv_at hl 0 rfl) ?_
  refine lv_iload_n hx hb d_Model_fail_1 rfl (lv_at hl 1 rfl) ?_
  refine va_put (D := (dC, dI)) (ci := 1) (v := .int y0) (ty := .int) (C := R_Model) (T := F_Model) (N := 50) hx hb hz zu_Model t_Model t_Model_ok n_Model hown hK hP hD hS 0 rfl rfl 0 (by decide) (hz (.fieldLink R_Model 97 "LayoutFrontModel" "thrown" "I") zm_652) (fun _ h9 => h9) rfl (by decide +kernel) rfl rfl (Nat.le_of_ble_eq_true rfl) d_Model_fail_2 (fun H locs hP hD hS => ?_)
  have hP : va_P (dC, dI) vcl [(a_t, .inr (1, [.int y0, .int (nI n_length), .ref a_text, .int z_bad, .int z_place, .int (nI n_at), .int (nI n_lexemes), .ref a_kind, .ref a_value, .ref a_where, .ref a_column, .ref a_leads, .int (nI n_open), .int z_highest, .ref a_row, .int (nI n_tokens), .int z_blocks, .ref a_sort, .ref a_is, .ref a_before, .ref a_behind, .ref a_partner, .ref a_done, .int (nI n_all), .ref a_kinds, .ref a_values, .int z_told, .int z_toldBlocks, .int z_toldRows, .int z_toldConflicts, .int z_toldHighest, .int (nI n_set), .ref a_names, .ref a_sides, .ref a_levels, .int (nI n_items), .int (nI n_operands), .int (nI n_waiting), .int (nI n_pairs), .int z_rows, .int z_conflicts, .ref a_from, .ref a_to, .ref a_what, .ref a_left, .ref a_right, .ref a_waits, .ref a_opens, .ref a_closes, .ref a_waitsFor]))] H := hP
  have hD : va_D A [(a_t, .inr (1, [.int y0, .int (nI n_length), .ref a_text, .int z_bad, .int z_place, .int (nI n_at), .int (nI n_lexemes), .ref a_kind, .ref a_value, .ref a_where, .ref a_column, .ref a_leads, .int (nI n_open), .int z_highest, .ref a_row, .int (nI n_tokens), .int z_blocks, .ref a_sort, .ref a_is, .ref a_before, .ref a_behind, .ref a_partner, .ref a_done, .int (nI n_all), .ref a_kinds, .ref a_values, .int z_told, .int z_toldBlocks, .int z_toldRows, .int z_toldConflicts, .int z_toldHighest, .int (nI n_set), .ref a_names, .ref a_sides, .ref a_levels, .int (nI n_items), .int (nI n_operands), .int (nI n_waiting), .int (nI n_pairs), .int z_rows, .int z_conflicts, .ref a_from, .ref a_to, .ref a_what, .ref a_left, .ref a_right, .ref a_waits, .ref a_opens, .ref a_closes, .ref a_waitsFor]))] := hD
  refine lv_iconst (v := 0) hx hb d_Model_fail_5 (by decide) ?_
  have hP9 := hP.sub (ws' := [(a_t, .inr (1, [.int y0, .int (nI n_length), .ref a_text, .int z_bad, .int z_place, .int (nI n_at), .int (nI n_lexemes), .ref a_kind, .ref a_value, .ref a_where, .ref a_column, .ref a_leads, .int (nI n_open), .int z_highest, .ref a_row, .int (nI n_tokens), .int z_blocks, .ref a_sort, .ref a_is, .ref a_before, .ref a_behind, .ref a_partner, .ref a_done, .int (nI n_all), .ref a_kinds, .ref a_values, .int z_told, .int z_toldBlocks, .int z_toldRows, .int z_toldConflicts, .int z_toldHighest, .int (nI n_set), .ref a_names, .ref a_sides, .ref a_levels, .int (nI n_items), .int (nI n_operands), .int (nI n_waiting), .int (nI n_pairs), .int z_rows, .int z_conflicts, .ref a_from, .ref a_to, .ref a_what, .ref a_left, .ref a_right, .ref a_waits, .ref a_opens, .ref a_closes, .ref a_waitsFor]))]) [0] rfl
  have hD9 := hD.sub (ws' := [(a_t, .inr (1, [.int y0, .int (nI n_length), .ref a_text, .int z_bad, .int z_place, .int (nI n_at), .int (nI n_lexemes), .ref a_kind, .ref a_value, .ref a_where, .ref a_column, .ref a_leads, .int (nI n_open), .int z_highest, .ref a_row, .int (nI n_tokens), .int z_blocks, .ref a_sort, .ref a_is, .ref a_before, .ref a_behind, .ref a_partner, .ref a_done, .int (nI n_all), .ref a_kinds, .ref a_values, .int z_told, .int z_toldBlocks, .int z_toldRows, .int z_toldConflicts, .int z_toldHighest, .int (nI n_set), .ref a_names, .ref a_sides, .ref a_levels, .int (nI n_items), .int (nI n_operands), .int (nI n_waiting), .int (nI n_pairs), .int z_rows, .int z_conflicts, .ref a_from, .ref a_to, .ref a_what, .ref a_left, .ref a_right, .ref a_waits, .ref a_opens, .ref a_closes, .ref a_waitsFor]))]) [0] (by decide) rfl
  exact W.iret (v := 0) hx hb hr (fun t ht hW => ⟨⟨0, (), rfl, trivial, y0, by rw [ht]; exact hP9, va_K.moved hW.alike hK, hD9⟩, hS.F ht⟩) hS.2.2 d_Model_fail_6
set_option maxHeartbeats 4000000 in
set_option maxRecDepth 100000 in
theorem s_Model_within (l : Launch) (dC : Nat → ClassId) (dI : Nat → Nat → Nat) (sz : Nat) (y0 : Int32) (y1 : Int32) (y2 : Int32) : Met l y_Model_within w_Model_within ({ frames := 0, cells := 0, slots := 0, locals := 0 }) (va_Pc [.int y0, .int y1, .int y2] (fun U => U.heap.size = sz ∧ va_P (dC, dI) vcl [] U.heap ∧ va_K (dC, dI) vcl [] U ∧ va_D (fun _ => True) [])) (va_Qi (fun (r : Int32) (_ : Unit) => (r = 0 ∨ r = 1) ∧ (r = wi y0 y1 y2)) (fun _ t => va_P (dC, dI) vcl [] t.heap ∧ va_K (dC, dI) vcl [] t ∧ va_D (va_A [] sz) []) (va_A [] sz)) 0 0 (va_A [] sz) := by
  refine Met.ofW (cc := b_Model_within) (maxL := 3) (ret := (some .boolean)) (by decide) rfl ?_
  intro p e s m args below meth c s₁ B hml hv
  obtain ⟨rfl, hsz, hP, hK, hD0⟩ := hv
  have hx := B.exec
  have hb := B.bytes
  have hr := B.returns
  have hts := atoms_spec (ws := w_Model_within) B.pre
  have hz : ∀ w ∈ wz, w.before _ s = true := fun w h => hts w (List.mem_cons_of_mem _ h)
  have hown : s.vm.findClass R_Model = some m.cls := findClass_of_methodNamed B.named
  have hlocks := B.notSynchronized
  subst hsz
  have hD := hD0.self (sz := s.heap.size)
  generalize hAe : va_A [] s.heap.size = A at hD ⊢
  have hA : ∀ q : Nat, s.heap.size ≤ q → A q := fun q h => by rw [← hAe]; exact Or.inr h
  have hS : va_S A s.heap s.heap [] := va_S.rf
  have hP : va_P (dC, dI) vcl [] s.heap := hP
  have hl := lv_entry ([.int y0, .int y1, .int y2]) (n := 3) (Nat.le_of_ble_eq_true rfl)
  rw [lg_entry_eq]
  generalize (lg_sl ([.int y0, .int y1, .int y2]) ++ List.replicate (3 - (lg_sl ([.int y0, .int y1, .int y2])).length) Slot.unset).toArray = ls at hl ⊢
  have hl : lv_has ls 3 [(0, .int y0), (1, .int y1), (2, .int y2)] := hl
  refine lv_iload_n hx hb d_Model_within_0 rfl (lv_at hl 0 rfl) ?_
  refine lv_iload_n hx hb d_Model_within_1 rfl (lv_at hl 1 rfl) ?_
  refine lv_icmp_lt (tgt := 14) hx hb d_Model_within_2 (by decide) (fun h1 => ?_) (fun h1 => ?_)
  · refine lv_iconst (v := 0) hx hb d_Model_within_14 (by decide) ?_
    have hP9 := hP.sub (ws' := []) [] rfl
    have hD9 := hD.sub (ws' := []) [] (by decide) rfl
    exact W.zret (v := 0) hx hb hr (by decide +kernel) (fun t ht hW => ⟨⟨0, (), rfl, ⟨(by first | assumption | exact Or.inl rfl | exact Or.inr rfl), (by unfold wi; simp [*])⟩, by rw [ht]; exact hP9, va_K.moved hW.alike hK, hD9⟩, hS.F ht⟩) hS.2.2 d_Model_within_15
  · refine lv_iload_n hx hb d_Model_within_5 rfl (lv_at hl 0 rfl) ?_
    refine lv_iload_n hx hb d_Model_within_6 rfl (lv_at hl 2 rfl) ?_
    refine lv_icmp_gt (tgt := 14) hx hb d_Model_within_7 (by decide) (fun h2 => ?_) (fun h2 => ?_)
    · refine lv_iconst (v := 0) hx hb d_Model_within_14 (by decide) ?_
      have hP9 := hP.sub (ws' := []) [] rfl
      have hD9 := hD.sub (ws' := []) [] (by decide) rfl
      exact W.zret (v := 0) hx hb hr (by decide +kernel) (fun t ht hW => ⟨⟨0, (), rfl, ⟨(by first | assumption | exact Or.inl rfl | exact Or.inr rfl), (by unfold wi; simp [*])⟩, by rw [ht]; exact hP9, va_K.moved hW.alike hK, hD9⟩, hS.F ht⟩) hS.2.2 d_Model_within_15
    · refine lv_iconst (v := 1) hx hb d_Model_within_10 (by decide) ?_
      refine lv_goto (tgt := 15) hx hb d_Model_within_11 (by decide) ?_
      have hP9 := hP.sub (ws' := []) [] rfl
      have hD9 := hD.sub (ws' := []) [] (by decide) rfl
      exact W.zret (v := 1) hx hb hr (by decide +kernel) (fun t ht hW => ⟨⟨1, (), rfl, ⟨(by first | assumption | exact Or.inl rfl | exact Or.inr rfl), (by unfold wi; simp [*])⟩, by rw [ht]; exact hP9, va_K.moved hW.alike hK, hD9⟩, hS.F ht⟩) hS.2.2 d_Model_within_15
set_option maxHeartbeats 4000000 in
set_option maxRecDepth 100000 in
theorem s_Model_letter (l : Launch) (dC : Nat → ClassId) (dI : Nat → Nat → Nat) (sz : Nat) (y0 : Int32) : Met l y_Model_letter w_Model_letter ({ frames := 1, cells := 0, slots := 0, locals := 22 }) (va_Pc [.int y0] (fun U => U.heap.size = sz ∧ va_P (dC, dI) vcl [] U.heap ∧ va_K (dC, dI) vcl [] U ∧ va_D (fun _ => True) [])) (va_Qi (fun (r : Int32) (_ : Unit) => (r = 0 ∨ r = 1) ∧ (r = lt_ y0)) (fun _ t => va_P (dC, dI) vcl [] t.heap ∧ va_K (dC, dI) vcl [] t ∧ va_D (va_A [] sz) []) (va_A [] sz)) 0 0 (va_A [] sz) := by
  refine Met.ofW (cc := b_Model_letter) (maxL := 1) (ret := (some .boolean)) (by decide) rfl ?_
  intro p e s m args below meth c s₁ B hml hv
  obtain ⟨rfl, hsz, hP, hK, hD0⟩ := hv
  have hx := B.exec
  have hb := B.bytes
  have hr := B.returns
  have hts := atoms_spec (ws := w_Model_letter) B.pre
  have hz : ∀ w ∈ wz, w.before _ s = true := fun w h => hts w (List.mem_cons_of_mem _ h)
  have hown : s.vm.findClass R_Model = some m.cls := findClass_of_methodNamed B.named
  have hlocks := B.notSynchronized
  subst hsz
  have hD := hD0.self (sz := s.heap.size)
  generalize hAe : va_A [] s.heap.size = A at hD ⊢
  have hA : ∀ q : Nat, s.heap.size ≤ q → A q := fun q h => by rw [← hAe]; exact Or.inr h
  have hS : va_S A s.heap s.heap [] := va_S.rf
  have hP : va_P (dC, dI) vcl [] s.heap := hP
  have hl := lv_entry ([.int y0]) (n := 1) (Nat.le_of_ble_eq_true rfl)
  rw [lg_entry_eq]
  generalize (lg_sl ([.int y0]) ++ List.replicate (1 - (lg_sl ([.int y0])).length) Slot.unset).toArray = ls at hl ⊢
  have hl : lv_has ls 1 [(0, .int y0)] := hl
  refine lv_iload_n hx hb d_Model_letter_0 rfl (lv_at hl 0 rfl) ?_
  refine lv_bipush (v := 97) hx hb d_Model_letter_1 (by decide) ?_
  refine lv_bipush (v := 122) hx hb d_Model_letter_3 (by decide) ?_
  have hPc := hP.sub (ws' := []) [] rfl
  have hDc := hD.sub (ws' := []) [] (by decide) rfl
  have hKc := hK.sub (tys' := []) [] rfl
  have hFc := va_free (wc := []) hD hS hA [] rfl
  refine va_calli (va_runS (As := [.int y0, .int 97, .int 122]) (rest := []) ⟨hx, hb, hml, hown, hz⟩ (s_Model_within l dC dI s.heap.size y0 97 122) (cwS 3 hz (zS zm_653 zm_654 zm_655 zm_656) rfl rfl rfl (by decide +kernel) ⟨Nat.le_of_ble_eq_true rfl, Nat.le_of_ble_eq_true rfl⟩) ⟨fun a U g mk q => by obtain ⟨q0, q1, qP, qK, qD⟩ := q; exact ⟨q0, q1, qP, va_K.moved (u := U) (U := U.calling g mk a) (Vm.Alike.refl U.vm) qK, qD⟩, fun U hU hW => ⟨rfl, by rw [hU], by rw [hU]; exact hPc, va_K.moved hW.alike hKc, hDc.weaken (fun _ _ _ _ => trivial)⟩⟩ rfl rfl hl.1 rfl (lv_room (Nat.le_of_ble_eq_true rfl)) d_Model_letter_5 ⟨Nat.zero_le _, Nat.zero_le _⟩) hS (fun q _ h => hFc q h) hFc (fun r u t H1 locs ht hvm hw_r hB hz1 hk1 hS => ?_)
  obtain ⟨hP1, hK1, hD1⟩ := hB
  obtain ⟨hb_r, he_r⟩ := hw_r
  subst r
  rw [ht] at hP1
  obtain ⟨hP, hD⟩ := va_join (wr := []) (w1 := []) hP hD [] [] rfl rfl (by decide) (by decide) hk1 hFc hP1 hD1
  generalize H1 = H at hP hS ⊢
  have hP : va_P (dC, dI) vcl [] H := hP
  have hD : va_D A [] := hD
  refine lv_if_ne (tgt := 28) hx hb d_Model_letter_8 (by decide) (fun h1 => ?_) (fun h1 => ?_)
  · refine lv_iconst (v := 1) hx hb d_Model_letter_28 (by decide) ?_
    refine lv_goto (tgt := 33) hx hb d_Model_letter_29 (by decide) ?_
    have hP9 := hP.sub (ws' := []) [] rfl
    have hD9 := hD.sub (ws' := []) [] (by decide) rfl
    exact W.zret (v := 1) hx hb hr (by decide +kernel) (fun t ht hW => ⟨⟨1, (), rfl, ⟨(by first | assumption | exact Or.inl rfl | exact Or.inr rfl), (by unfold lt_; simp [*])⟩, by rw [ht]; exact hP9, va_K.moved hW.alike hK, hD9⟩, hS.F ht⟩) hS.2.2 d_Model_letter_33
  · refine lv_iload_n hx hb d_Model_letter_11 rfl (lv_at hl 0 rfl) ?_
    refine lv_bipush (v := 65) hx hb d_Model_letter_12 (by decide) ?_
    refine lv_bipush (v := 90) hx hb d_Model_letter_14 (by decide) ?_
    have hPc := hP.sub (ws' := []) [] rfl
    have hDc := hD.sub (ws' := []) [] (by decide) rfl
    have hKc := hK.sub (tys' := []) [] rfl
    have hFc := va_free (wc := []) hD hS hA [] rfl
    refine va_calli (va_runS (As := [.int y0, .int 65, .int 90]) (rest := []) ⟨hx, hb, hml, hown, hz⟩ (s_Model_within l dC dI H.size y0 65 90) (cwS 3 hz (zS zm_653 zm_654 zm_655 zm_656) rfl rfl rfl (by decide +kernel) ⟨Nat.le_of_ble_eq_true rfl, Nat.le_of_ble_eq_true rfl⟩) ⟨fun a U g mk q => by obtain ⟨q0, q1, qP, qK, qD⟩ := q; exact ⟨q0, q1, qP, va_K.moved (u := U) (U := U.calling g mk a) (Vm.Alike.refl U.vm) qK, qD⟩, fun U hU hW => ⟨rfl, by rw [hU], by rw [hU]; exact hPc, va_K.moved hW.alike hKc, hDc.weaken (fun _ _ _ _ => trivial)⟩⟩ rfl rfl hl.1 rfl (lv_room (Nat.le_of_ble_eq_true rfl)) d_Model_letter_16 ⟨Nat.zero_le _, Nat.zero_le _⟩) hS (fun q _ h => hFc q h) hFc (fun r u t H1 locs ht hvm hw_r hB hz1 hk1 hS => ?_)
    obtain ⟨hP1, hK1, hD1⟩ := hB
    obtain ⟨hb_r, he_r⟩ := hw_r
    subst r
    rw [ht] at hP1
    obtain ⟨hP, hD⟩ := va_join (wr := []) (w1 := []) hP hD [] [] rfl rfl (by decide) (by decide) hk1 hFc hP1 hD1
    generalize H1 = H at hP hS ⊢
    have hP : va_P (dC, dI) vcl [] H := hP
    have hD : va_D A [] := hD
    refine lv_if_ne (tgt := 28) hx hb d_Model_letter_19 (by decide) (fun h2 => ?_) (fun h2 => ?_)
    · refine lv_iconst (v := 1) hx hb d_Model_letter_28 (by decide) ?_
      refine lv_goto (tgt := 33) hx hb d_Model_letter_29 (by decide) ?_
      have hP9 := hP.sub (ws' := []) [] rfl
      have hD9 := hD.sub (ws' := []) [] (by decide) rfl
      exact W.zret (v := 1) hx hb hr (by decide +kernel) (fun t ht hW => ⟨⟨1, (), rfl, ⟨(by first | assumption | exact Or.inl rfl | exact Or.inr rfl), (by unfold lt_; simp [*])⟩, by rw [ht]; exact hP9, va_K.moved hW.alike hK, hD9⟩, hS.F ht⟩) hS.2.2 d_Model_letter_33
    · refine lv_iload_n hx hb d_Model_letter_22 rfl (lv_at hl 0 rfl) ?_
      refine lv_bipush (v := 95) hx hb d_Model_letter_23 (by decide) ?_
      refine lv_icmp_ne (tgt := 32) hx hb d_Model_letter_25 (by decide) (fun h3 => ?_) (fun h3 => ?_)
      · refine lv_iconst (v := 0) hx hb d_Model_letter_32 (by decide) ?_
        have hP9 := hP.sub (ws' := []) [] rfl
        have hD9 := hD.sub (ws' := []) [] (by decide) rfl
        exact W.zret (v := 0) hx hb hr (by decide +kernel) (fun t ht hW => ⟨⟨0, (), rfl, ⟨(by first | assumption | exact Or.inl rfl | exact Or.inr rfl), (by unfold lt_; simp [*])⟩, by rw [ht]; exact hP9, va_K.moved hW.alike hK, hD9⟩, hS.F ht⟩) hS.2.2 d_Model_letter_33
      · refine lv_iconst (v := 1) hx hb d_Model_letter_28 (by decide) ?_
        refine lv_goto (tgt := 33) hx hb d_Model_letter_29 (by decide) ?_
        have hP9 := hP.sub (ws' := []) [] rfl
        have hD9 := hD.sub (ws' := []) [] (by decide) rfl
        exact W.zret (v := 1) hx hb hr (by decide +kernel) (fun t ht hW => ⟨⟨1, (), rfl, ⟨(by first | assumption | exact Or.inl rfl | exact Or.inr rfl), (by unfold lt_; simp [*])⟩, by rw [ht]; exact hP9, va_K.moved hW.alike hK, hD9⟩, hS.F ht⟩) hS.2.2 d_Model_letter_33
set_option maxHeartbeats 4000000 in
set_option maxRecDepth 100000 in
theorem s_Model_digit (l : Launch) (dC : Nat → ClassId) (dI : Nat → Nat → Nat) (sz : Nat) (y0 : Int32) : Met l y_Model_digit w_Model_digit ({ frames := 1, cells := 0, slots := 0, locals := 22 }) (va_Pc [.int y0] (fun U => U.heap.size = sz ∧ va_P (dC, dI) vcl [] U.heap ∧ va_K (dC, dI) vcl [] U ∧ va_D (fun _ => True) [])) (va_Qi (fun (r : Int32) (_ : Unit) => (r = 0 ∨ r = 1) ∧ (r = wi y0 48 57)) (fun _ t => va_P (dC, dI) vcl [] t.heap ∧ va_K (dC, dI) vcl [] t ∧ va_D (va_A [] sz) []) (va_A [] sz)) 0 0 (va_A [] sz) := by
  refine Met.ofW (cc := b_Model_digit) (maxL := 1) (ret := (some .boolean)) (by decide) rfl ?_
  intro p e s m args below meth c s₁ B hml hv
  obtain ⟨rfl, hsz, hP, hK, hD0⟩ := hv
  have hx := B.exec
  have hb := B.bytes
  have hr := B.returns
  have hts := atoms_spec (ws := w_Model_digit) B.pre
  have hz : ∀ w ∈ wz, w.before _ s = true := fun w h => hts w (List.mem_cons_of_mem _ h)
  have hown : s.vm.findClass R_Model = some m.cls := findClass_of_methodNamed B.named
  have hlocks := B.notSynchronized
  subst hsz
  have hD := hD0.self (sz := s.heap.size)
  generalize hAe : va_A [] s.heap.size = A at hD ⊢
  have hA : ∀ q : Nat, s.heap.size ≤ q → A q := fun q h => by rw [← hAe]; exact Or.inr h
  have hS : va_S A s.heap s.heap [] := va_S.rf
  have hP : va_P (dC, dI) vcl [] s.heap := hP
  have hl := lv_entry ([.int y0]) (n := 1) (Nat.le_of_ble_eq_true rfl)
  rw [lg_entry_eq]
  generalize (lg_sl ([.int y0]) ++ List.replicate (1 - (lg_sl ([.int y0])).length) Slot.unset).toArray = ls at hl ⊢
  have hl : lv_has ls 1 [(0, .int y0)] := hl
  refine lv_iload_n hx hb d_Model_digit_0 rfl (lv_at hl 0 rfl) ?_
  refine lv_bipush (v := 48) hx hb d_Model_digit_1 (by decide) ?_
  refine lv_bipush (v := 57) hx hb d_Model_digit_3 (by decide) ?_
  have hPc := hP.sub (ws' := []) [] rfl
  have hDc := hD.sub (ws' := []) [] (by decide) rfl
  have hKc := hK.sub (tys' := []) [] rfl
  have hFc := va_free (wc := []) hD hS hA [] rfl
  refine va_calli (va_runS (As := [.int y0, .int 48, .int 57]) (rest := []) ⟨hx, hb, hml, hown, hz⟩ (s_Model_within l dC dI s.heap.size y0 48 57) (cwS 3 hz (zS zm_653 zm_654 zm_655 zm_656) rfl rfl rfl (by decide +kernel) ⟨Nat.le_of_ble_eq_true rfl, Nat.le_of_ble_eq_true rfl⟩) ⟨fun a U g mk q => by obtain ⟨q0, q1, qP, qK, qD⟩ := q; exact ⟨q0, q1, qP, va_K.moved (u := U) (U := U.calling g mk a) (Vm.Alike.refl U.vm) qK, qD⟩, fun U hU hW => ⟨rfl, by rw [hU], by rw [hU]; exact hPc, va_K.moved hW.alike hKc, hDc.weaken (fun _ _ _ _ => trivial)⟩⟩ rfl rfl hl.1 rfl (lv_room (Nat.le_of_ble_eq_true rfl)) d_Model_digit_5 ⟨Nat.zero_le _, Nat.zero_le _⟩) hS (fun q _ h => hFc q h) hFc (fun r u t H1 locs ht hvm hw_r hB hz1 hk1 hS => ?_)
  obtain ⟨hP1, hK1, hD1⟩ := hB
  obtain ⟨hb_r, he_r⟩ := hw_r
  subst r
  rw [ht] at hP1
  obtain ⟨hP, hD⟩ := va_join (wr := []) (w1 := []) hP hD [] [] rfl rfl (by decide) (by decide) hk1 hFc hP1 hD1
  generalize H1 = H at hP hS ⊢
  have hP : va_P (dC, dI) vcl [] H := hP
  have hD : va_D A [] := hD
  have hP9 := hP.sub (ws' := []) [] rfl
  have hD9 := hD.sub (ws' := []) [] (by decide) rfl
  exact W.zret (v := (wi y0 48 57)) hx hb hr (xr_nb (by first | assumption | exact Or.inl rfl | exact Or.inr rfl)) (fun t ht hW => ⟨⟨(wi y0 48 57), (), rfl, ⟨(by first | assumption | exact Or.inl rfl | exact Or.inr rfl), (by rfl)⟩, by rw [ht]; exact hP9, va_K.moved hW.alike hK, hD9⟩, hS.F ht⟩) hS.2.2 d_Model_digit_8
set_option maxHeartbeats 4000000 in
set_option maxRecDepth 100000 in
theorem s_Model_operator (l : Launch) (dC : Nat → ClassId) (dI : Nat → Nat → Nat) (sz : Nat) (y0 : Int32) : Met l y_Model_operator w_Model_operator ({ frames := 1, cells := 0, slots := 0, locals := 22 }) (va_Pc [.int y0] (fun U => U.heap.size = sz ∧ va_P (dC, dI) vcl [] U.heap ∧ va_K (dC, dI) vcl [] U ∧ va_D (fun _ => True) [])) (va_Qi (fun (r : Int32) (_ : Unit) => (r = 0 ∨ r = 1) ∧ (r = op_ y0)) (fun _ t => va_P (dC, dI) vcl [] t.heap ∧ va_K (dC, dI) vcl [] t ∧ va_D (va_A [] sz) []) (va_A [] sz)) 0 0 (va_A [] sz) := by
  refine Met.ofW (cc := b_Model_operator) (maxL := 1) (ret := (some .boolean)) (by decide) rfl ?_
  intro p e s m args below meth c s₁ B hml hv
  obtain ⟨rfl, hsz, hP, hK, hD0⟩ := hv
  have hx := B.exec
  have hb := B.bytes
  have hr := B.returns
  have hts := atoms_spec (ws := w_Model_operator) B.pre
  have hz : ∀ w ∈ wz, w.before _ s = true := fun w h => hts w (List.mem_cons_of_mem _ h)
  have hown : s.vm.findClass R_Model = some m.cls := findClass_of_methodNamed B.named
  have hlocks := B.notSynchronized
  subst hsz
  have hD := hD0.self (sz := s.heap.size)
  generalize hAe : va_A [] s.heap.size = A at hD ⊢
  have hA : ∀ q : Nat, s.heap.size ≤ q → A q := fun q h => by rw [← hAe]; exact Or.inr h
  have hS : va_S A s.heap s.heap [] := va_S.rf
  have hP : va_P (dC, dI) vcl [] s.heap := hP
  have hl := lv_entry ([.int y0]) (n := 1) (Nat.le_of_ble_eq_true rfl)
  rw [lg_entry_eq]
  generalize (lg_sl ([.int y0]) ++ List.replicate (1 - (lg_sl ([.int y0])).length) Slot.unset).toArray = ls at hl ⊢
  have hl : lv_has ls 1 [(0, .int y0)] := hl
  refine lv_iload_n hx hb d_Model_operator_0 rfl (lv_at hl 0 rfl) ?_
  refine lv_bipush (v := 33) hx hb d_Model_operator_1 (by decide) ?_
  refine lv_icmp_eq (tgt := 81) hx hb d_Model_operator_3 (by decide) (fun h1 => ?_) (fun h1 => ?_)
  · refine lv_iconst (v := 1) hx hb d_Model_operator_81 (by decide) ?_
    refine lv_goto (tgt := 86) hx hb d_Model_operator_82 (by decide) ?_
    have hP9 := hP.sub (ws' := []) [] rfl
    have hD9 := hD.sub (ws' := []) [] (by decide) rfl
    exact W.zret (v := 1) hx hb hr (by decide +kernel) (fun t ht hW => ⟨⟨1, (), rfl, ⟨(by first | assumption | exact Or.inl rfl | exact Or.inr rfl), (by unfold op_; simp [*])⟩, by rw [ht]; exact hP9, va_K.moved hW.alike hK, hD9⟩, hS.F ht⟩) hS.2.2 d_Model_operator_86
  · refine lv_iload_n hx hb d_Model_operator_6 rfl (lv_at hl 0 rfl) ?_
    refine lv_bipush (v := 35) hx hb d_Model_operator_7 (by decide) ?_
    refine lv_bipush (v := 38) hx hb d_Model_operator_9 (by decide) ?_
    have hPc := hP.sub (ws' := []) [] rfl
    have hDc := hD.sub (ws' := []) [] (by decide) rfl
    have hKc := hK.sub (tys' := []) [] rfl
    have hFc := va_free (wc := []) hD hS hA [] rfl
    refine va_calli (va_runS (As := [.int y0, .int 35, .int 38]) (rest := []) ⟨hx, hb, hml, hown, hz⟩ (s_Model_within l dC dI s.heap.size y0 35 38) (cwS 3 hz (zS zm_653 zm_654 zm_655 zm_656) rfl rfl rfl (by decide +kernel) ⟨Nat.le_of_ble_eq_true rfl, Nat.le_of_ble_eq_true rfl⟩) ⟨fun a U g mk q => by obtain ⟨q0, q1, qP, qK, qD⟩ := q; exact ⟨q0, q1, qP, va_K.moved (u := U) (U := U.calling g mk a) (Vm.Alike.refl U.vm) qK, qD⟩, fun U hU hW => ⟨rfl, by rw [hU], by rw [hU]; exact hPc, va_K.moved hW.alike hKc, hDc.weaken (fun _ _ _ _ => trivial)⟩⟩ rfl rfl hl.1 rfl (lv_room (Nat.le_of_ble_eq_true rfl)) d_Model_operator_11 ⟨Nat.zero_le _, Nat.zero_le _⟩) hS (fun q _ h => hFc q h) hFc (fun r u t H1 locs ht hvm hw_r hB hz1 hk1 hS => ?_)
    obtain ⟨hP1, hK1, hD1⟩ := hB
    obtain ⟨hb_r, he_r⟩ := hw_r
    subst r
    rw [ht] at hP1
    obtain ⟨hP, hD⟩ := va_join (wr := []) (w1 := []) hP hD [] [] rfl rfl (by decide) (by decide) hk1 hFc hP1 hD1
    generalize H1 = H at hP hS ⊢
    have hP : va_P (dC, dI) vcl [] H := hP
    have hD : va_D A [] := hD
    refine lv_if_ne (tgt := 81) hx hb d_Model_operator_14 (by decide) (fun h2 => ?_) (fun h2 => ?_)
    · refine lv_iconst (v := 1) hx hb d_Model_operator_81 (by decide) ?_
      refine lv_goto (tgt := 86) hx hb d_Model_operator_82 (by decide) ?_
      have hP9 := hP.sub (ws' := []) [] rfl
      have hD9 := hD.sub (ws' := []) [] (by decide) rfl
      exact W.zret (v := 1) hx hb hr (by decide +kernel) (fun t ht hW => ⟨⟨1, (), rfl, ⟨(by first | assumption | exact Or.inl rfl | exact Or.inr rfl), (by unfold op_; simp [*])⟩, by rw [ht]; exact hP9, va_K.moved hW.alike hK, hD9⟩, hS.F ht⟩) hS.2.2 d_Model_operator_86
    · refine lv_iload_n hx hb d_Model_operator_17 rfl (lv_at hl 0 rfl) ?_
      refine lv_bipush (v := 42) hx hb d_Model_operator_18 (by decide) ?_
      refine lv_icmp_eq (tgt := 81) hx hb d_Model_operator_20 (by decide) (fun h3 => ?_) (fun h3 => ?_)
      · refine lv_iconst (v := 1) hx hb d_Model_operator_81 (by decide) ?_
        refine lv_goto (tgt := 86) hx hb d_Model_operator_82 (by decide) ?_
        have hP9 := hP.sub (ws' := []) [] rfl
        have hD9 := hD.sub (ws' := []) [] (by decide) rfl
        exact W.zret (v := 1) hx hb hr (by decide +kernel) (fun t ht hW => ⟨⟨1, (), rfl, ⟨(by first | assumption | exact Or.inl rfl | exact Or.inr rfl), (by unfold op_; simp [*])⟩, by rw [ht]; exact hP9, va_K.moved hW.alike hK, hD9⟩, hS.F ht⟩) hS.2.2 d_Model_operator_86
      · refine lv_iload_n hx hb d_Model_operator_23 rfl (lv_at hl 0 rfl) ?_
        refine lv_bipush (v := 43) hx hb d_Model_operator_24 (by decide) ?_
        refine lv_icmp_eq (tgt := 81) hx hb d_Model_operator_26 (by decide) (fun h4 => ?_) (fun h4 => ?_)
        · refine lv_iconst (v := 1) hx hb d_Model_operator_81 (by decide) ?_
          refine lv_goto (tgt := 86) hx hb d_Model_operator_82 (by decide) ?_
          have hP9 := hP.sub (ws' := []) [] rfl
          have hD9 := hD.sub (ws' := []) [] (by decide) rfl
          exact W.zret (v := 1) hx hb hr (by decide +kernel) (fun t ht hW => ⟨⟨1, (), rfl, ⟨(by first | assumption | exact Or.inl rfl | exact Or.inr rfl), (by unfold op_; simp [*])⟩, by rw [ht]; exact hP9, va_K.moved hW.alike hK, hD9⟩, hS.F ht⟩) hS.2.2 d_Model_operator_86
        · refine lv_iload_n hx hb d_Model_operator_29 rfl (lv_at hl 0 rfl) ?_
          refine lv_bipush (v := 45) hx hb d_Model_operator_30 (by decide) ?_
          refine lv_bipush (v := 47) hx hb d_Model_operator_32 (by decide) ?_
          have hPc := hP.sub (ws' := []) [] rfl
          have hDc := hD.sub (ws' := []) [] (by decide) rfl
          have hKc := hK.sub (tys' := []) [] rfl
          have hFc := va_free (wc := []) hD hS hA [] rfl
          refine va_calli (va_runS (As := [.int y0, .int 45, .int 47]) (rest := []) ⟨hx, hb, hml, hown, hz⟩ (s_Model_within l dC dI H.size y0 45 47) (cwS 3 hz (zS zm_653 zm_654 zm_655 zm_656) rfl rfl rfl (by decide +kernel) ⟨Nat.le_of_ble_eq_true rfl, Nat.le_of_ble_eq_true rfl⟩) ⟨fun a U g mk q => by obtain ⟨q0, q1, qP, qK, qD⟩ := q; exact ⟨q0, q1, qP, va_K.moved (u := U) (U := U.calling g mk a) (Vm.Alike.refl U.vm) qK, qD⟩, fun U hU hW => ⟨rfl, by rw [hU], by rw [hU]; exact hPc, va_K.moved hW.alike hKc, hDc.weaken (fun _ _ _ _ => trivial)⟩⟩ rfl rfl hl.1 rfl (lv_room (Nat.le_of_ble_eq_true rfl)) d_Model_operator_34 ⟨Nat.zero_le _, Nat.zero_le _⟩) hS (fun q _ h => hFc q h) hFc (fun r u t H1 locs ht hvm hw_r hB hz1 hk1 hS => ?_)
          obtain ⟨hP1, hK1, hD1⟩ := hB
          obtain ⟨hb_r, he_r⟩ := hw_r
          subst r
          rw [ht] at hP1
          obtain ⟨hP, hD⟩ := va_join (wr := []) (w1 := []) hP hD [] [] rfl rfl (by decide) (by decide) hk1 hFc hP1 hD1
          generalize H1 = H at hP hS ⊢
          have hP : va_P (dC, dI) vcl [] H := hP
          have hD : va_D A [] := hD
          refine lv_if_ne (tgt := 81) hx hb d_Model_operator_37 (by decide) (fun h5 => ?_) (fun h5 => ?_)
          · refine lv_iconst (v := 1) hx hb d_Model_operator_81 (by decide) ?_
            refine lv_goto (tgt := 86) hx hb d_Model_operator_82 (by decide) ?_
            have hP9 := hP.sub (ws' := []) [] rfl
            have hD9 := hD.sub (ws' := []) [] (by decide) rfl
            exact W.zret (v := 1) hx hb hr (by decide +kernel) (fun t ht hW => ⟨⟨1, (), rfl, ⟨(by first | assumption | exact Or.inl rfl | exact Or.inr rfl), (by unfold op_; simp [*])⟩, by rw [ht]; exact hP9, va_K.moved hW.alike hK, hD9⟩, hS.F ht⟩) hS.2.2 d_Model_operator_86
          · refine lv_iload_n hx hb d_Model_operator_40 rfl (lv_at hl 0 rfl) ?_
            refine lv_bipush (v := 58) hx hb d_Model_operator_41 (by decide) ?_
            refine lv_icmp_eq (tgt := 81) hx hb d_Model_operator_43 (by decide) (fun h6 => ?_) (fun h6 => ?_)
            · refine lv_iconst (v := 1) hx hb d_Model_operator_81 (by decide) ?_
              refine lv_goto (tgt := 86) hx hb d_Model_operator_82 (by decide) ?_
              have hP9 := hP.sub (ws' := []) [] rfl
              have hD9 := hD.sub (ws' := []) [] (by decide) rfl
              exact W.zret (v := 1) hx hb hr (by decide +kernel) (fun t ht hW => ⟨⟨1, (), rfl, ⟨(by first | assumption | exact Or.inl rfl | exact Or.inr rfl), (by unfold op_; simp [*])⟩, by rw [ht]; exact hP9, va_K.moved hW.alike hK, hD9⟩, hS.F ht⟩) hS.2.2 d_Model_operator_86
            · refine lv_iload_n hx hb d_Model_operator_46 rfl (lv_at hl 0 rfl) ?_
              refine lv_bipush (v := 60) hx hb d_Model_operator_47 (by decide) ?_
              refine lv_bipush (v := 64) hx hb d_Model_operator_49 (by decide) ?_
              have hPc := hP.sub (ws' := []) [] rfl
              have hDc := hD.sub (ws' := []) [] (by decide) rfl
              have hKc := hK.sub (tys' := []) [] rfl
              have hFc := va_free (wc := []) hD hS hA [] rfl
              refine va_calli (va_runS (As := [.int y0, .int 60, .int 64]) (rest := []) ⟨hx, hb, hml, hown, hz⟩ (s_Model_within l dC dI H.size y0 60 64) (cwS 3 hz (zS zm_653 zm_654 zm_655 zm_656) rfl rfl rfl (by decide +kernel) ⟨Nat.le_of_ble_eq_true rfl, Nat.le_of_ble_eq_true rfl⟩) ⟨fun a U g mk q => by obtain ⟨q0, q1, qP, qK, qD⟩ := q; exact ⟨q0, q1, qP, va_K.moved (u := U) (U := U.calling g mk a) (Vm.Alike.refl U.vm) qK, qD⟩, fun U hU hW => ⟨rfl, by rw [hU], by rw [hU]; exact hPc, va_K.moved hW.alike hKc, hDc.weaken (fun _ _ _ _ => trivial)⟩⟩ rfl rfl hl.1 rfl (lv_room (Nat.le_of_ble_eq_true rfl)) d_Model_operator_51 ⟨Nat.zero_le _, Nat.zero_le _⟩) hS (fun q _ h => hFc q h) hFc (fun r u t H1 locs ht hvm hw_r hB hz1 hk1 hS => ?_)
              obtain ⟨hP1, hK1, hD1⟩ := hB
              obtain ⟨hb_r, he_r⟩ := hw_r
              subst r
              rw [ht] at hP1
              obtain ⟨hP, hD⟩ := va_join (wr := []) (w1 := []) hP hD [] [] rfl rfl (by decide) (by decide) hk1 hFc hP1 hD1
              generalize H1 = H at hP hS ⊢
              have hP : va_P (dC, dI) vcl [] H := hP
              have hD : va_D A [] := hD
              refine lv_if_ne (tgt := 81) hx hb d_Model_operator_54 (by decide) (fun h7 => ?_) (fun h7 => ?_)
              · refine lv_iconst (v := 1) hx hb d_Model_operator_81 (by decide) ?_
                refine lv_goto (tgt := 86) hx hb d_Model_operator_82 (by decide) ?_
                have hP9 := hP.sub (ws' := []) [] rfl
                have hD9 := hD.sub (ws' := []) [] (by decide) rfl
                exact W.zret (v := 1) hx hb hr (by decide +kernel) (fun t ht hW => ⟨⟨1, (), rfl, ⟨(by first | assumption | exact Or.inl rfl | exact Or.inr rfl), (by unfold op_; simp [*])⟩, by rw [ht]; exact hP9, va_K.moved hW.alike hK, hD9⟩, hS.F ht⟩) hS.2.2 d_Model_operator_86
              · refine lv_iload_n hx hb d_Model_operator_57 rfl (lv_at hl 0 rfl) ?_
                refine lv_bipush (v := 92) hx hb d_Model_operator_58 (by decide) ?_
                refine lv_icmp_eq (tgt := 81) hx hb d_Model_operator_60 (by decide) (fun h8 => ?_) (fun h8 => ?_)
                · refine lv_iconst (v := 1) hx hb d_Model_operator_81 (by decide) ?_
                  refine lv_goto (tgt := 86) hx hb d_Model_operator_82 (by decide) ?_
                  have hP9 := hP.sub (ws' := []) [] rfl
                  have hD9 := hD.sub (ws' := []) [] (by decide) rfl
                  exact W.zret (v := 1) hx hb hr (by decide +kernel) (fun t ht hW => ⟨⟨1, (), rfl, ⟨(by first | assumption | exact Or.inl rfl | exact Or.inr rfl), (by unfold op_; simp [*])⟩, by rw [ht]; exact hP9, va_K.moved hW.alike hK, hD9⟩, hS.F ht⟩) hS.2.2 d_Model_operator_86
                · refine lv_iload_n hx hb d_Model_operator_63 rfl (lv_at hl 0 rfl) ?_
                  refine lv_bipush (v := 94) hx hb d_Model_operator_64 (by decide) ?_
                  refine lv_icmp_eq (tgt := 81) hx hb d_Model_operator_66 (by decide) (fun h9 => ?_) (fun h9 => ?_)
                  · refine lv_iconst (v := 1) hx hb d_Model_operator_81 (by decide) ?_
                    refine lv_goto (tgt := 86) hx hb d_Model_operator_82 (by decide) ?_
                    have hP9 := hP.sub (ws' := []) [] rfl
                    have hD9 := hD.sub (ws' := []) [] (by decide) rfl
                    exact W.zret (v := 1) hx hb hr (by decide +kernel) (fun t ht hW => ⟨⟨1, (), rfl, ⟨(by first | assumption | exact Or.inl rfl | exact Or.inr rfl), (by unfold op_; simp [*])⟩, by rw [ht]; exact hP9, va_K.moved hW.alike hK, hD9⟩, hS.F ht⟩) hS.2.2 d_Model_operator_86
                  · refine lv_iload_n hx hb d_Model_operator_69 rfl (lv_at hl 0 rfl) ?_
                    refine lv_bipush (v := 124) hx hb d_Model_operator_70 (by decide) ?_
                    refine lv_icmp_eq (tgt := 81) hx hb d_Model_operator_72 (by decide) (fun h10 => ?_) (fun h10 => ?_)
                    · refine lv_iconst (v := 1) hx hb d_Model_operator_81 (by decide) ?_
                      refine lv_goto (tgt := 86) hx hb d_Model_operator_82 (by decide) ?_
                      have hP9 := hP.sub (ws' := []) [] rfl
                      have hD9 := hD.sub (ws' := []) [] (by decide) rfl
                      exact W.zret (v := 1) hx hb hr (by decide +kernel) (fun t ht hW => ⟨⟨1, (), rfl, ⟨(by first | assumption | exact Or.inl rfl | exact Or.inr rfl), (by unfold op_; simp [*])⟩, by rw [ht]; exact hP9, va_K.moved hW.alike hK, hD9⟩, hS.F ht⟩) hS.2.2 d_Model_operator_86
                    · refine lv_iload_n hx hb d_Model_operator_75 rfl (lv_at hl 0 rfl) ?_
                      refine lv_bipush (v := 126) hx hb d_Model_operator_76 (by decide) ?_
                      refine lv_icmp_ne (tgt := 85) hx hb d_Model_operator_78 (by decide) (fun h11 => ?_) (fun h11 => ?_)
                      · refine lv_iconst (v := 0) hx hb d_Model_operator_85 (by decide) ?_
                        have hP9 := hP.sub (ws' := []) [] rfl
                        have hD9 := hD.sub (ws' := []) [] (by decide) rfl
                        exact W.zret (v := 0) hx hb hr (by decide +kernel) (fun t ht hW => ⟨⟨0, (), rfl, ⟨(by first | assumption | exact Or.inl rfl | exact Or.inr rfl), (by unfold op_; simp [*])⟩, by rw [ht]; exact hP9, va_K.moved hW.alike hK, hD9⟩, hS.F ht⟩) hS.2.2 d_Model_operator_86
                      · refine lv_iconst (v := 1) hx hb d_Model_operator_81 (by decide) ?_
                        refine lv_goto (tgt := 86) hx hb d_Model_operator_82 (by decide) ?_
                        have hP9 := hP.sub (ws' := []) [] rfl
                        have hD9 := hD.sub (ws' := []) [] (by decide) rfl
                        exact W.zret (v := 1) hx hb hr (by decide +kernel) (fun t ht hW => ⟨⟨1, (), rfl, ⟨(by first | assumption | exact Or.inl rfl | exact Or.inr rfl), (by unfold op_; simp [*])⟩, by rw [ht]; exact hP9, va_K.moved hW.alike hK, hD9⟩, hS.F ht⟩) hS.2.2 d_Model_operator_86
set_option maxHeartbeats 4000000 in
set_option maxRecDepth 100000 in
theorem s_Model_sign (l : Launch) (dC : Nat → ClassId) (dI : Nat → Nat → Nat) (sz : Nat) (y0 : Int32) : Met l y_Model_sign w_Model_sign ({ frames := 0, cells := 0, slots := 0, locals := 0 }) (va_Pc [.int y0] (fun U => U.heap.size = sz ∧ va_P (dC, dI) vcl [] U.heap ∧ va_K (dC, dI) vcl [] U ∧ va_D (fun _ => True) [])) (va_Qi (fun (r : Int32) (_ : Unit) => (r = 0 ∨ r = 1) ∧ (r = sg_ y0)) (fun _ t => va_P (dC, dI) vcl [] t.heap ∧ va_K (dC, dI) vcl [] t ∧ va_D (va_A [] sz) []) (va_A [] sz)) 0 0 (va_A [] sz) := by
  refine Met.ofW (cc := b_Model_sign) (maxL := 1) (ret := (some .boolean)) (by decide) rfl ?_
  intro p e s m args below meth c s₁ B hml hv
  obtain ⟨rfl, hsz, hP, hK, hD0⟩ := hv
  have hx := B.exec
  have hb := B.bytes
  have hr := B.returns
  have hts := atoms_spec (ws := w_Model_sign) B.pre
  have hz : ∀ w ∈ wz, w.before _ s = true := fun w h => hts w (List.mem_cons_of_mem _ h)
  have hown : s.vm.findClass R_Model = some m.cls := findClass_of_methodNamed B.named
  have hlocks := B.notSynchronized
  subst hsz
  have hD := hD0.self (sz := s.heap.size)
  generalize hAe : va_A [] s.heap.size = A at hD ⊢
  have hA : ∀ q : Nat, s.heap.size ≤ q → A q := fun q h => by rw [← hAe]; exact Or.inr h
  have hS : va_S A s.heap s.heap [] := va_S.rf
  have hP : va_P (dC, dI) vcl [] s.heap := hP
  have hl := lv_entry ([.int y0]) (n := 1) (Nat.le_of_ble_eq_true rfl)
  rw [lg_entry_eq]
  generalize (lg_sl ([.int y0]) ++ List.replicate (1 - (lg_sl ([.int y0])).length) Slot.unset).toArray = ls at hl ⊢
  have hl : lv_has ls 1 [(0, .int y0)] := hl
  refine lv_iload_n hx hb d_Model_sign_0 rfl (lv_at hl 0 rfl) ?_
  refine lv_bipush (v := 40) hx hb d_Model_sign_1 (by decide) ?_
  refine lv_icmp_eq (tgt := 54) hx hb d_Model_sign_3 (by decide) (fun h1 => ?_) (fun h1 => ?_)
  · refine lv_iconst (v := 1) hx hb d_Model_sign_54 (by decide) ?_
    refine lv_goto (tgt := 59) hx hb d_Model_sign_55 (by decide) ?_
    have hP9 := hP.sub (ws' := []) [] rfl
    have hD9 := hD.sub (ws' := []) [] (by decide) rfl
    exact W.zret (v := 1) hx hb hr (by decide +kernel) (fun t ht hW => ⟨⟨1, (), rfl, ⟨(by first | assumption | exact Or.inl rfl | exact Or.inr rfl), (by unfold sg_; simp [*])⟩, by rw [ht]; exact hP9, va_K.moved hW.alike hK, hD9⟩, hS.F ht⟩) hS.2.2 d_Model_sign_59
  · refine lv_iload_n hx hb d_Model_sign_6 rfl (lv_at hl 0 rfl) ?_
    refine lv_bipush (v := 41) hx hb d_Model_sign_7 (by decide) ?_
    refine lv_icmp_eq (tgt := 54) hx hb d_Model_sign_9 (by decide) (fun h2 => ?_) (fun h2 => ?_)
    · refine lv_iconst (v := 1) hx hb d_Model_sign_54 (by decide) ?_
      refine lv_goto (tgt := 59) hx hb d_Model_sign_55 (by decide) ?_
      have hP9 := hP.sub (ws' := []) [] rfl
      have hD9 := hD.sub (ws' := []) [] (by decide) rfl
      exact W.zret (v := 1) hx hb hr (by decide +kernel) (fun t ht hW => ⟨⟨1, (), rfl, ⟨(by first | assumption | exact Or.inl rfl | exact Or.inr rfl), (by unfold sg_; simp [*])⟩, by rw [ht]; exact hP9, va_K.moved hW.alike hK, hD9⟩, hS.F ht⟩) hS.2.2 d_Model_sign_59
    · refine lv_iload_n hx hb d_Model_sign_12 rfl (lv_at hl 0 rfl) ?_
      refine lv_bipush (v := 91) hx hb d_Model_sign_13 (by decide) ?_
      refine lv_icmp_eq (tgt := 54) hx hb d_Model_sign_15 (by decide) (fun h3 => ?_) (fun h3 => ?_)
      · refine lv_iconst (v := 1) hx hb d_Model_sign_54 (by decide) ?_
        refine lv_goto (tgt := 59) hx hb d_Model_sign_55 (by decide) ?_
        have hP9 := hP.sub (ws' := []) [] rfl
        have hD9 := hD.sub (ws' := []) [] (by decide) rfl
        exact W.zret (v := 1) hx hb hr (by decide +kernel) (fun t ht hW => ⟨⟨1, (), rfl, ⟨(by first | assumption | exact Or.inl rfl | exact Or.inr rfl), (by unfold sg_; simp [*])⟩, by rw [ht]; exact hP9, va_K.moved hW.alike hK, hD9⟩, hS.F ht⟩) hS.2.2 d_Model_sign_59
      · refine lv_iload_n hx hb d_Model_sign_18 rfl (lv_at hl 0 rfl) ?_
        refine lv_bipush (v := 93) hx hb d_Model_sign_19 (by decide) ?_
        refine lv_icmp_eq (tgt := 54) hx hb d_Model_sign_21 (by decide) (fun h4 => ?_) (fun h4 => ?_)
        · refine lv_iconst (v := 1) hx hb d_Model_sign_54 (by decide) ?_
          refine lv_goto (tgt := 59) hx hb d_Model_sign_55 (by decide) ?_
          have hP9 := hP.sub (ws' := []) [] rfl
          have hD9 := hD.sub (ws' := []) [] (by decide) rfl
          exact W.zret (v := 1) hx hb hr (by decide +kernel) (fun t ht hW => ⟨⟨1, (), rfl, ⟨(by first | assumption | exact Or.inl rfl | exact Or.inr rfl), (by unfold sg_; simp [*])⟩, by rw [ht]; exact hP9, va_K.moved hW.alike hK, hD9⟩, hS.F ht⟩) hS.2.2 d_Model_sign_59
        · refine lv_iload_n hx hb d_Model_sign_24 rfl (lv_at hl 0 rfl) ?_
          refine lv_bipush (v := 123) hx hb d_Model_sign_25 (by decide) ?_
          refine lv_icmp_eq (tgt := 54) hx hb d_Model_sign_27 (by decide) (fun h5 => ?_) (fun h5 => ?_)
          · refine lv_iconst (v := 1) hx hb d_Model_sign_54 (by decide) ?_
            refine lv_goto (tgt := 59) hx hb d_Model_sign_55 (by decide) ?_
            have hP9 := hP.sub (ws' := []) [] rfl
            have hD9 := hD.sub (ws' := []) [] (by decide) rfl
            exact W.zret (v := 1) hx hb hr (by decide +kernel) (fun t ht hW => ⟨⟨1, (), rfl, ⟨(by first | assumption | exact Or.inl rfl | exact Or.inr rfl), (by unfold sg_; simp [*])⟩, by rw [ht]; exact hP9, va_K.moved hW.alike hK, hD9⟩, hS.F ht⟩) hS.2.2 d_Model_sign_59
          · refine lv_iload_n hx hb d_Model_sign_30 rfl (lv_at hl 0 rfl) ?_
            refine lv_bipush (v := 125) hx hb d_Model_sign_31 (by decide) ?_
            refine lv_icmp_eq (tgt := 54) hx hb d_Model_sign_33 (by decide) (fun h6 => ?_) (fun h6 => ?_)
            · refine lv_iconst (v := 1) hx hb d_Model_sign_54 (by decide) ?_
              refine lv_goto (tgt := 59) hx hb d_Model_sign_55 (by decide) ?_
              have hP9 := hP.sub (ws' := []) [] rfl
              have hD9 := hD.sub (ws' := []) [] (by decide) rfl
              exact W.zret (v := 1) hx hb hr (by decide +kernel) (fun t ht hW => ⟨⟨1, (), rfl, ⟨(by first | assumption | exact Or.inl rfl | exact Or.inr rfl), (by unfold sg_; simp [*])⟩, by rw [ht]; exact hP9, va_K.moved hW.alike hK, hD9⟩, hS.F ht⟩) hS.2.2 d_Model_sign_59
            · refine lv_iload_n hx hb d_Model_sign_36 rfl (lv_at hl 0 rfl) ?_
              refine lv_bipush (v := 44) hx hb d_Model_sign_37 (by decide) ?_
              refine lv_icmp_eq (tgt := 54) hx hb d_Model_sign_39 (by decide) (fun h7 => ?_) (fun h7 => ?_)
              · refine lv_iconst (v := 1) hx hb d_Model_sign_54 (by decide) ?_
                refine lv_goto (tgt := 59) hx hb d_Model_sign_55 (by decide) ?_
                have hP9 := hP.sub (ws' := []) [] rfl
                have hD9 := hD.sub (ws' := []) [] (by decide) rfl
                exact W.zret (v := 1) hx hb hr (by decide +kernel) (fun t ht hW => ⟨⟨1, (), rfl, ⟨(by first | assumption | exact Or.inl rfl | exact Or.inr rfl), (by unfold sg_; simp [*])⟩, by rw [ht]; exact hP9, va_K.moved hW.alike hK, hD9⟩, hS.F ht⟩) hS.2.2 d_Model_sign_59
              · refine lv_iload_n hx hb d_Model_sign_42 rfl (lv_at hl 0 rfl) ?_
                refine lv_bipush (v := 59) hx hb d_Model_sign_43 (by decide) ?_
                refine lv_icmp_eq (tgt := 54) hx hb d_Model_sign_45 (by decide) (fun h8 => ?_) (fun h8 => ?_)
                · refine lv_iconst (v := 1) hx hb d_Model_sign_54 (by decide) ?_
                  refine lv_goto (tgt := 59) hx hb d_Model_sign_55 (by decide) ?_
                  have hP9 := hP.sub (ws' := []) [] rfl
                  have hD9 := hD.sub (ws' := []) [] (by decide) rfl
                  exact W.zret (v := 1) hx hb hr (by decide +kernel) (fun t ht hW => ⟨⟨1, (), rfl, ⟨(by first | assumption | exact Or.inl rfl | exact Or.inr rfl), (by unfold sg_; simp [*])⟩, by rw [ht]; exact hP9, va_K.moved hW.alike hK, hD9⟩, hS.F ht⟩) hS.2.2 d_Model_sign_59
                · refine lv_iload_n hx hb d_Model_sign_48 rfl (lv_at hl 0 rfl) ?_
                  refine lv_bipush (v := 96) hx hb d_Model_sign_49 (by decide) ?_
                  refine lv_icmp_ne (tgt := 58) hx hb d_Model_sign_51 (by decide) (fun h9 => ?_) (fun h9 => ?_)
                  · refine lv_iconst (v := 0) hx hb d_Model_sign_58 (by decide) ?_
                    have hP9 := hP.sub (ws' := []) [] rfl
                    have hD9 := hD.sub (ws' := []) [] (by decide) rfl
                    exact W.zret (v := 0) hx hb hr (by decide +kernel) (fun t ht hW => ⟨⟨0, (), rfl, ⟨(by first | assumption | exact Or.inl rfl | exact Or.inr rfl), (by unfold sg_; simp [*])⟩, by rw [ht]; exact hP9, va_K.moved hW.alike hK, hD9⟩, hS.F ht⟩) hS.2.2 d_Model_sign_59
                  · refine lv_iconst (v := 1) hx hb d_Model_sign_54 (by decide) ?_
                    refine lv_goto (tgt := 59) hx hb d_Model_sign_55 (by decide) ?_
                    have hP9 := hP.sub (ws' := []) [] rfl
                    have hD9 := hD.sub (ws' := []) [] (by decide) rfl
                    exact W.zret (v := 1) hx hb hr (by decide +kernel) (fun t ht hW => ⟨⟨1, (), rfl, ⟨(by first | assumption | exact Or.inl rfl | exact Or.inr rfl), (by unfold sg_; simp [*])⟩, by rw [ht]; exact hP9, va_K.moved hW.alike hK, hD9⟩, hS.F ht⟩) hS.2.2 d_Model_sign_59
set_option maxHeartbeats 4000000 in
set_option maxRecDepth 100000 in
theorem s_Model_here (l : Launch) (dC : Nat → ClassId) (dI : Nat → Nat → Nat) (sz : Nat) (a_t : Nat) (z_thrown : Int32) (n_length : Nat) (a_text : Nat) (f_text : Nat → Int32) (z_bad : Int32) (z_place : Int32) (n_at : Nat) (n_lexemes : Nat) (a_kind : Nat) (a_value : Nat) (a_where : Nat) (a_column : Nat) (a_leads : Nat) (n_open : Nat) (z_highest : Int32) (a_row : Nat) (n_tokens : Nat) (z_blocks : Int32) (a_sort : Nat) (a_is : Nat) (a_before : Nat) (a_behind : Nat) (a_partner : Nat) (a_done : Nat) (n_all : Nat) (a_kinds : Nat) (a_values : Nat) (z_told : Int32) (z_toldBlocks : Int32) (z_toldRows : Int32) (z_toldConflicts : Int32) (z_toldHighest : Int32) (n_set : Nat) (a_names : Nat) (a_sides : Nat) (a_levels : Nat) (n_items : Nat) (n_operands : Nat) (n_waiting : Nat) (n_pairs : Nat) (z_rows : Int32) (z_conflicts : Int32) (a_from : Nat) (a_to : Nat) (a_what : Nat) (a_left : Nat) (a_right : Nat) (a_waits : Nat) (a_opens : Nat) (a_closes : Nat) (a_waitsFor : Nat) (ka_text : ClassId) (b_length : n_length ≤ 240) (b_bad : z_bad = 0 ∨ z_bad = 1 ∨ z_bad = 2) (b_at : n_at ≤ 240) (b_lexemes : n_lexemes ≤ 90) (b_open : n_open ≤ 200) (b_tokens : n_tokens ≤ 600) (b_all : n_all ≤ 900) (b_set : n_set ≤ 12) (b_items : n_items ≤ 96) (b_operands : n_operands ≤ 96) (b_waiting : n_waiting ≤ 96) (b_pairs : n_pairs ≤ 96) : Met l y_Model_here w_Model_here ({ frames := 0, cells := 0, slots := 0, locals := 0 }) (va_Pc [.ref a_t] (fun U => U.heap.size = sz ∧ va_P (dC, dI) vcl [(a_t, .inr (1, [.int z_thrown, .int (nI n_length), .ref a_text, .int z_bad, .int z_place, .int (nI n_at), .int (nI n_lexemes), .ref a_kind, .ref a_value, .ref a_where, .ref a_column, .ref a_leads, .int (nI n_open), .int z_highest, .ref a_row, .int (nI n_tokens), .int z_blocks, .ref a_sort, .ref a_is, .ref a_before, .ref a_behind, .ref a_partner, .ref a_done, .int (nI n_all), .ref a_kinds, .ref a_values, .int z_told, .int z_toldBlocks, .int z_toldRows, .int z_toldConflicts, .int z_toldHighest, .int (nI n_set), .ref a_names, .ref a_sides, .ref a_levels, .int (nI n_items), .int (nI n_operands), .int (nI n_waiting), .int (nI n_pairs), .int z_rows, .int z_conflicts, .ref a_from, .ref a_to, .ref a_what, .ref a_left, .ref a_right, .ref a_waits, .ref a_opens, .ref a_closes, .ref a_waitsFor])), (a_text, .inl (ka_text, 240, .inl f_text))] U.heap ∧ va_K (dC, dI) vcl [(ka_text, .int)] U ∧ va_D (fun _ => True) [(a_t, .inr (1, [.int z_thrown, .int (nI n_length), .ref a_text, .int z_bad, .int z_place, .int (nI n_at), .int (nI n_lexemes), .ref a_kind, .ref a_value, .ref a_where, .ref a_column, .ref a_leads, .int (nI n_open), .int z_highest, .ref a_row, .int (nI n_tokens), .int z_blocks, .ref a_sort, .ref a_is, .ref a_before, .ref a_behind, .ref a_partner, .ref a_done, .int (nI n_all), .ref a_kinds, .ref a_values, .int z_told, .int z_toldBlocks, .int z_toldRows, .int z_toldConflicts, .int z_toldHighest, .int (nI n_set), .ref a_names, .ref a_sides, .ref a_levels, .int (nI n_items), .int (nI n_operands), .int (nI n_waiting), .int (nI n_pairs), .int z_rows, .int z_conflicts, .ref a_from, .ref a_to, .ref a_what, .ref a_left, .ref a_right, .ref a_waits, .ref a_opens, .ref a_closes, .ref a_waitsFor])), (a_text, .inl (ka_text, 240, .inl f_text))])) (va_Qi (fun (r : Int32) (_ : Unit) => r = if n_at < n_length then f_text n_at else (-1)) (fun _ t => va_P (dC, dI) vcl [(a_t, .inr (1, [.int z_thrown, .int (nI n_length), .ref a_text, .int z_bad, .int z_place, .int (nI n_at), .int (nI n_lexemes), .ref a_kind, .ref a_value, .ref a_where, .ref a_column, .ref a_leads, .int (nI n_open), .int z_highest, .ref a_row, .int (nI n_tokens), .int z_blocks, .ref a_sort, .ref a_is, .ref a_before, .ref a_behind, .ref a_partner, .ref a_done, .int (nI n_all), .ref a_kinds, .ref a_values, .int z_told, .int z_toldBlocks, .int z_toldRows, .int z_toldConflicts, .int z_toldHighest, .int (nI n_set), .ref a_names, .ref a_sides, .ref a_levels, .int (nI n_items), .int (nI n_operands), .int (nI n_waiting), .int (nI n_pairs), .int z_rows, .int z_conflicts, .ref a_from, .ref a_to, .ref a_what, .ref a_left, .ref a_right, .ref a_waits, .ref a_opens, .ref a_closes, .ref a_waitsFor])), (a_text, .inl (ka_text, 240, .inl f_text))] t.heap ∧ va_K (dC, dI) vcl [(ka_text, .int)] t ∧ va_D (va_A [(a_t, .inr (1, [.int z_thrown, .int (nI n_length), .ref a_text, .int z_bad, .int z_place, .int (nI n_at), .int (nI n_lexemes), .ref a_kind, .ref a_value, .ref a_where, .ref a_column, .ref a_leads, .int (nI n_open), .int z_highest, .ref a_row, .int (nI n_tokens), .int z_blocks, .ref a_sort, .ref a_is, .ref a_before, .ref a_behind, .ref a_partner, .ref a_done, .int (nI n_all), .ref a_kinds, .ref a_values, .int z_told, .int z_toldBlocks, .int z_toldRows, .int z_toldConflicts, .int z_toldHighest, .int (nI n_set), .ref a_names, .ref a_sides, .ref a_levels, .int (nI n_items), .int (nI n_operands), .int (nI n_waiting), .int (nI n_pairs), .int z_rows, .int z_conflicts, .ref a_from, .ref a_to, .ref a_what, .ref a_left, .ref a_right, .ref a_waits, .ref a_opens, .ref a_closes, .ref a_waitsFor])), (a_text, .inl (ka_text, 240, .inl f_text))] sz) [(a_t, .inr (1, [.int z_thrown, .int (nI n_length), .ref a_text, .int z_bad, .int z_place, .int (nI n_at), .int (nI n_lexemes), .ref a_kind, .ref a_value, .ref a_where, .ref a_column, .ref a_leads, .int (nI n_open), .int z_highest, .ref a_row, .int (nI n_tokens), .int z_blocks, .ref a_sort, .ref a_is, .ref a_before, .ref a_behind, .ref a_partner, .ref a_done, .int (nI n_all), .ref a_kinds, .ref a_values, .int z_told, .int z_toldBlocks, .int z_toldRows, .int z_toldConflicts, .int z_toldHighest, .int (nI n_set), .ref a_names, .ref a_sides, .ref a_levels, .int (nI n_items), .int (nI n_operands), .int (nI n_waiting), .int (nI n_pairs), .int z_rows, .int z_conflicts, .ref a_from, .ref a_to, .ref a_what, .ref a_left, .ref a_right, .ref a_waits, .ref a_opens, .ref a_closes, .ref a_waitsFor])), (a_text, .inl (ka_text, 240, .inl f_text))]) (va_A [(a_t, .inr (1, [.int z_thrown, .int (nI n_length), .ref a_text, .int z_bad, .int z_place, .int (nI n_at), .int (nI n_lexemes), .ref a_kind, .ref a_value, .ref a_where, .ref a_column, .ref a_leads, .int (nI n_open), .int z_highest, .ref a_row, .int (nI n_tokens), .int z_blocks, .ref a_sort, .ref a_is, .ref a_before, .ref a_behind, .ref a_partner, .ref a_done, .int (nI n_all), .ref a_kinds, .ref a_values, .int z_told, .int z_toldBlocks, .int z_toldRows, .int z_toldConflicts, .int z_toldHighest, .int (nI n_set), .ref a_names, .ref a_sides, .ref a_levels, .int (nI n_items), .int (nI n_operands), .int (nI n_waiting), .int (nI n_pairs), .int z_rows, .int z_conflicts, .ref a_from, .ref a_to, .ref a_what, .ref a_left, .ref a_right, .ref a_waits, .ref a_opens, .ref a_closes, .ref a_waitsFor])), (a_text, .inl (ka_text, 240, .inl f_text))] sz)) 0 0 (va_A [(a_t, .inr (1, [.int z_thrown, .int (nI n_length), .ref a_text, .int z_bad, .int z_place, .int (nI n_at), .int (nI n_lexemes), .ref a_kind, .ref a_value, .ref a_where, .ref a_column, .ref a_leads, .int (nI n_open), .int z_highest, .ref a_row, .int (nI n_tokens), .int z_blocks, .ref a_sort, .ref a_is, .ref a_before, .ref a_behind, .ref a_partner, .ref a_done, .int (nI n_all), .ref a_kinds, .ref a_values, .int z_told, .int z_toldBlocks, .int z_toldRows, .int z_toldConflicts, .int z_toldHighest, .int (nI n_set), .ref a_names, .ref a_sides, .ref a_levels, .int (nI n_items), .int (nI n_operands), .int (nI n_waiting), .int (nI n_pairs), .int z_rows, .int z_conflicts, .ref a_from, .ref a_to, .ref a_what, .ref a_left, .ref a_right, .ref a_waits, .ref a_opens, .ref a_closes, .ref a_waitsFor])), (a_text, .inl (ka_text, 240, .inl f_text))] sz) := by
  refine Met.ofW (cc := b_Model_here) (maxL := 1) (ret := (some .int)) (by decide) rfl ?_
  intro p e s m args below meth c s₁ B hml hv
  obtain ⟨rfl, hsz, hP, hK, hD0⟩ := hv
  have hx := B.exec
  have hb := B.bytes
  have hr := B.returns
  have hts := atoms_spec (ws := w_Model_here) B.pre
  have hz : ∀ w ∈ wz, w.before _ s = true := fun w h => hts w (List.mem_cons_of_mem _ h)
  have hown : s.vm.findClass R_Model = some m.cls := findClass_of_methodNamed B.named
  have hlocks := B.notSynchronized
  subst hsz
  have hD := hD0.self (sz := s.heap.size)
  generalize hAe : va_A [(a_t, .inr (1, [.int z_thrown, .int (nI n_length), .ref a_text, .int z_bad, .int z_place, .int (nI n_at), .int (nI n_lexemes), .ref a_kind, .ref a_value, .ref a_where, .ref a_column, .ref a_leads, .int (nI n_open), .int z_highest, .ref a_row, .int (nI n_tokens), .int z_blocks, .ref a_sort, .ref a_is, .ref a_before, .ref a_behind, .ref a_partner, .ref a_done, .int (nI n_all), .ref a_kinds, .ref a_values, .int z_told, .int z_toldBlocks, .int z_toldRows, .int z_toldConflicts, .int z_toldHighest, .int (nI n_set), .ref a_names, .ref a_sides, .ref a_levels, .int (nI n_items), .int (nI n_operands), .int (nI n_waiting), .int (nI n_pairs), .int z_rows, .int z_conflicts, .ref a_from, .ref a_to, .ref a_what, .ref a_left, .ref a_right, .ref a_waits, .ref a_opens, .ref a_closes, .ref a_waitsFor])), (a_text, .inl (ka_text, 240, .inl f_text))] s.heap.size = A at hD ⊢
  have hA : ∀ q : Nat, s.heap.size ≤ q → A q := fun q h => by rw [← hAe]; exact Or.inr h
  have hS : va_S A s.heap s.heap [] := va_S.rf
  have hP : va_P (dC, dI) vcl [(a_t, .inr (1, [.int z_thrown, .int (nI n_length), .ref a_text, .int z_bad, .int z_place, .int (nI n_at), .int (nI n_lexemes), .ref a_kind, .ref a_value, .ref a_where, .ref a_column, .ref a_leads, .int (nI n_open), .int z_highest, .ref a_row, .int (nI n_tokens), .int z_blocks, .ref a_sort, .ref a_is, .ref a_before, .ref a_behind, .ref a_partner, .ref a_done, .int (nI n_all), .ref a_kinds, .ref a_values, .int z_told, .int z_toldBlocks, .int z_toldRows, .int z_toldConflicts, .int z_toldHighest, .int (nI n_set), .ref a_names, .ref a_sides, .ref a_levels, .int (nI n_items), .int (nI n_operands), .int (nI n_waiting), .int (nI n_pairs), .int z_rows, .int z_conflicts, .ref a_from, .ref a_to, .ref a_what, .ref a_left, .ref a_right, .ref a_waits, .ref a_opens, .ref a_closes, .ref a_waitsFor])), (a_text, .inl (ka_text, 240, .inl f_text))] s.heap := hP
  have hl := lv_entry ([.ref a_t]) (n := 1) (Nat.le_of_ble_eq_true rfl)
  rw [lg_entry_eq]
  generalize (lg_sl ([.ref a_t]) ++ List.replicate (1 - (lg_sl ([.ref a_t])).length) Slot.unset).toArray = ls at hl ⊢
  have hl : lv_has ls 1 [(0, .ref a_t)] := hl
  refine lv_aload_n hx hb d_Model_here_0 rfl (lv_at hl 0 rfl) ?_
  refine va_get (D := (dC, dI)) (ci := 1) (v := .int (nI n_at)) (C := R_Model) (T := F_Model) (N := 50) hx hb hz zu_Model hown hK hP 0 rfl rfl 5 (by decide) (hz (.fieldLink R_Model 120 "LayoutFrontModel" "at" "I") zm_668) (fun _ h9 => h9) rfl d_Model_here_1 ?_
  refine lv_aload_n hx hb d_Model_here_4 rfl (lv_at hl 0 rfl) ?_
  refine va_get (D := (dC, dI)) (ci := 1) (v := .int (nI n_length)) (C := R_Model) (T := F_Model) (N := 50) hx hb hz zu_Model hown hK hP 0 rfl rfl 1 (by decide) (hz (.fieldLink R_Model 110 "LayoutFrontModel" "length" "I") zm_662) (fun _ h9 => h9) rfl d_Model_here_5 ?_
  refine lv_icmp_ge (tgt := 23) hx hb d_Model_here_8 (by decide) (fun h1 => ?_) (fun h1 => ?_)
  · have h1 : n_length ≤ n_at := (nI_leI (a := n_length) (b := n_at) (by omega) (by omega)).mp h1
    refine lv_iconst (v := (-1)) hx hb d_Model_here_23 (by decide) ?_
    have hP9 := hP.sub (ws' := [(a_t, .inr (1, [.int z_thrown, .int (nI n_length), .ref a_text, .int z_bad, .int z_place, .int (nI n_at), .int (nI n_lexemes), .ref a_kind, .ref a_value, .ref a_where, .ref a_column, .ref a_leads, .int (nI n_open), .int z_highest, .ref a_row, .int (nI n_tokens), .int z_blocks, .ref a_sort, .ref a_is, .ref a_before, .ref a_behind, .ref a_partner, .ref a_done, .int (nI n_all), .ref a_kinds, .ref a_values, .int z_told, .int z_toldBlocks, .int z_toldRows, .int z_toldConflicts, .int z_toldHighest, .int (nI n_set), .ref a_names, .ref a_sides, .ref a_levels, .int (nI n_items), .int (nI n_operands), .int (nI n_waiting), .int (nI n_pairs), .int z_rows, .int z_conflicts, .ref a_from, .ref a_to, .ref a_what, .ref a_left, .ref a_right, .ref a_waits, .ref a_opens, .ref a_closes, .ref a_waitsFor])), (a_text, .inl (ka_text, 240, .inl f_text))]) [0, 1] rfl
    have hD9 := hD.sub (ws' := [(a_t, .inr (1, [.int z_thrown, .int (nI n_length), .ref a_text, .int z_bad, .int z_place, .int (nI n_at), .int (nI n_lexemes), .ref a_kind, .ref a_value, .ref a_where, .ref a_column, .ref a_leads, .int (nI n_open), .int z_highest, .ref a_row, .int (nI n_tokens), .int z_blocks, .ref a_sort, .ref a_is, .ref a_before, .ref a_behind, .ref a_partner, .ref a_done, .int (nI n_all), .ref a_kinds, .ref a_values, .int z_told, .int z_toldBlocks, .int z_toldRows, .int z_toldConflicts, .int z_toldHighest, .int (nI n_set), .ref a_names, .ref a_sides, .ref a_levels, .int (nI n_items), .int (nI n_operands), .int (nI n_waiting), .int (nI n_pairs), .int z_rows, .int z_conflicts, .ref a_from, .ref a_to, .ref a_what, .ref a_left, .ref a_right, .ref a_waits, .ref a_opens, .ref a_closes, .ref a_waitsFor])), (a_text, .inl (ka_text, 240, .inl f_text))]) [0, 1] (by decide) rfl
    exact W.iret (v := (-1)) hx hb hr (fun t ht hW => ⟨⟨(-1), (), rfl, (by first | rfl | (rw [if_pos (by omega)]) | (rw [if_neg (by omega)]) | simp_all), by rw [ht]; exact hP9, va_K.moved hW.alike hK, hD9⟩, hS.F ht⟩) hS.2.2 d_Model_here_24
  · have h1 : ¬ n_length ≤ n_at := fun q => h1 ((nI_leI (a := n_length) (b := n_at) (by omega) (by omega)).mpr q)
    refine lv_aload_n hx hb d_Model_here_11 rfl (lv_at hl 0 rfl) ?_
    refine va_get (D := (dC, dI)) (ci := 1) (v := .ref a_text) (C := R_Model) (T := F_Model) (N := 50) hx hb hz zu_Model hown hK hP 0 rfl rfl 2 (by decide) (hz (.fieldLink R_Model 7 "LayoutFrontModel" "text" "[I") zm_623) (fun _ h9 => h9) rfl d_Model_here_12 ?_
    refine lv_aload_n hx hb d_Model_here_15 rfl (lv_at hl 0 rfl) ?_
    refine va_get (D := (dC, dI)) (ci := 1) (v := .int (nI n_at)) (C := R_Model) (T := F_Model) (N := 50) hx hb hz zu_Model hown hK hP 0 rfl rfl 5 (by decide) (hz (.fieldLink R_Model 120 "LayoutFrontModel" "at" "I") zm_668) (fun _ h9 => h9) rfl d_Model_here_16 ?_
    refine xr_iald (v := (f_text n_at)) hx hb hK hP 1 0 rfl rfl (vp_in_nI (by omega) (by omega)) (congrArg _ (nI_clamp (by omega))) d_Model_here_19 ?_
    refine lv_goto (tgt := 24) hx hb d_Model_here_20 (by decide) ?_
    have hP9 := hP.sub (ws' := [(a_t, .inr (1, [.int z_thrown, .int (nI n_length), .ref a_text, .int z_bad, .int z_place, .int (nI n_at), .int (nI n_lexemes), .ref a_kind, .ref a_value, .ref a_where, .ref a_column, .ref a_leads, .int (nI n_open), .int z_highest, .ref a_row, .int (nI n_tokens), .int z_blocks, .ref a_sort, .ref a_is, .ref a_before, .ref a_behind, .ref a_partner, .ref a_done, .int (nI n_all), .ref a_kinds, .ref a_values, .int z_told, .int z_toldBlocks, .int z_toldRows, .int z_toldConflicts, .int z_toldHighest, .int (nI n_set), .ref a_names, .ref a_sides, .ref a_levels, .int (nI n_items), .int (nI n_operands), .int (nI n_waiting), .int (nI n_pairs), .int z_rows, .int z_conflicts, .ref a_from, .ref a_to, .ref a_what, .ref a_left, .ref a_right, .ref a_waits, .ref a_opens, .ref a_closes, .ref a_waitsFor])), (a_text, .inl (ka_text, 240, .inl f_text))]) [0, 1] rfl
    have hD9 := hD.sub (ws' := [(a_t, .inr (1, [.int z_thrown, .int (nI n_length), .ref a_text, .int z_bad, .int z_place, .int (nI n_at), .int (nI n_lexemes), .ref a_kind, .ref a_value, .ref a_where, .ref a_column, .ref a_leads, .int (nI n_open), .int z_highest, .ref a_row, .int (nI n_tokens), .int z_blocks, .ref a_sort, .ref a_is, .ref a_before, .ref a_behind, .ref a_partner, .ref a_done, .int (nI n_all), .ref a_kinds, .ref a_values, .int z_told, .int z_toldBlocks, .int z_toldRows, .int z_toldConflicts, .int z_toldHighest, .int (nI n_set), .ref a_names, .ref a_sides, .ref a_levels, .int (nI n_items), .int (nI n_operands), .int (nI n_waiting), .int (nI n_pairs), .int z_rows, .int z_conflicts, .ref a_from, .ref a_to, .ref a_what, .ref a_left, .ref a_right, .ref a_waits, .ref a_opens, .ref a_closes, .ref a_waitsFor])), (a_text, .inl (ka_text, 240, .inl f_text))]) [0, 1] (by decide) rfl
    exact W.iret (v := (f_text n_at)) hx hb hr (fun t ht hW => ⟨⟨(f_text n_at), (), rfl, (by first | rfl | (rw [if_pos (by omega)]) | (rw [if_neg (by omega)]) | simp_all), by rw [ht]; exact hP9, va_K.moved hW.alike hK, hD9⟩, hS.F ht⟩) hS.2.2 d_Model_here_24
set_option maxHeartbeats 4000000 in
set_option maxRecDepth 100000 in
theorem s_Model_wrong (l : Launch) (dC : Nat → ClassId) (dI : Nat → Nat → Nat) (sz : Nat) (a_t : Nat) (z_thrown : Int32) (n_length : Nat) (a_text : Nat) (z_bad : Int32) (z_place : Int32) (n_at : Nat) (n_lexemes : Nat) (a_kind : Nat) (a_value : Nat) (a_where : Nat) (a_column : Nat) (a_leads : Nat) (n_open : Nat) (z_highest : Int32) (a_row : Nat) (n_tokens : Nat) (z_blocks : Int32) (a_sort : Nat) (a_is : Nat) (a_before : Nat) (a_behind : Nat) (a_partner : Nat) (a_done : Nat) (n_all : Nat) (a_kinds : Nat) (a_values : Nat) (z_told : Int32) (z_toldBlocks : Int32) (z_toldRows : Int32) (z_toldConflicts : Int32) (z_toldHighest : Int32) (n_set : Nat) (a_names : Nat) (a_sides : Nat) (a_levels : Nat) (n_items : Nat) (n_operands : Nat) (n_waiting : Nat) (n_pairs : Nat) (z_rows : Int32) (z_conflicts : Int32) (a_from : Nat) (a_to : Nat) (a_what : Nat) (a_left : Nat) (a_right : Nat) (a_waits : Nat) (a_opens : Nat) (a_closes : Nat) (a_waitsFor : Nat) (y0 : Int32) (y1 : Int32) (b_length : n_length ≤ 240) (b_bad : z_bad = 0 ∨ z_bad = 1 ∨ z_bad = 2) (b_at : n_at ≤ 240) (b_lexemes : n_lexemes ≤ 90) (b_open : n_open ≤ 200) (b_tokens : n_tokens ≤ 600) (b_all : n_all ≤ 900) (b_set : n_set ≤ 12) (b_items : n_items ≤ 96) (b_operands : n_operands ≤ 96) (b_waiting : n_waiting ≤ 96) (b_pairs : n_pairs ≤ 96) (hp0 : y0 = 1 ∨ y0 = 2) : Met l y_Model_wrong w_Model_wrong ({ frames := 0, cells := 0, slots := 0, locals := 0 }) (va_Pc [.ref a_t, .int y0, .int y1] (fun U => U.heap.size = sz ∧ va_P (dC, dI) vcl [(a_t, .inr (1, [.int z_thrown, .int (nI n_length), .ref a_text, .int z_bad, .int z_place, .int (nI n_at), .int (nI n_lexemes), .ref a_kind, .ref a_value, .ref a_where, .ref a_column, .ref a_leads, .int (nI n_open), .int z_highest, .ref a_row, .int (nI n_tokens), .int z_blocks, .ref a_sort, .ref a_is, .ref a_before, .ref a_behind, .ref a_partner, .ref a_done, .int (nI n_all), .ref a_kinds, .ref a_values, .int z_told, .int z_toldBlocks, .int z_toldRows, .int z_toldConflicts, .int z_toldHighest, .int (nI n_set), .ref a_names, .ref a_sides, .ref a_levels, .int (nI n_items), .int (nI n_operands), .int (nI n_waiting), .int (nI n_pairs), .int z_rows, .int z_conflicts, .ref a_from, .ref a_to, .ref a_what, .ref a_left, .ref a_right, .ref a_waits, .ref a_opens, .ref a_closes, .ref a_waitsFor]))] U.heap ∧ va_K (dC, dI) vcl [] U ∧ va_D (fun _ => True) [(a_t, .inr (1, [.int z_thrown, .int (nI n_length), .ref a_text, .int z_bad, .int z_place, .int (nI n_at), .int (nI n_lexemes), .ref a_kind, .ref a_value, .ref a_where, .ref a_column, .ref a_leads, .int (nI n_open), .int z_highest, .ref a_row, .int (nI n_tokens), .int z_blocks, .ref a_sort, .ref a_is, .ref a_before, .ref a_behind, .ref a_partner, .ref a_done, .int (nI n_all), .ref a_kinds, .ref a_values, .int z_told, .int z_toldBlocks, .int z_toldRows, .int z_toldConflicts, .int z_toldHighest, .int (nI n_set), .ref a_names, .ref a_sides, .ref a_levels, .int (nI n_items), .int (nI n_operands), .int (nI n_waiting), .int (nI n_pairs), .int z_rows, .int z_conflicts, .ref a_from, .ref a_to, .ref a_what, .ref a_left, .ref a_right, .ref a_waits, .ref a_opens, .ref a_closes, .ref a_waitsFor]))])) (va_Qv (fun (_ : Unit) => True) (fun _ t => ∃ (w_z_bad : Int32) (w_z_place : Int32), (w_z_bad = 0 ∨ w_z_bad = 1 ∨ w_z_bad = 2) ∧ (z_bad = 0 → w_z_bad = y0) ∧ (¬ z_bad = 0 → w_z_bad = z_bad) ∧ (z_bad = 0 → w_z_place = y1) ∧ va_P (dC, dI) vcl [(a_t, .inr (1, [.int z_thrown, .int (nI n_length), .ref a_text, .int w_z_bad, .int w_z_place, .int (nI n_at), .int (nI n_lexemes), .ref a_kind, .ref a_value, .ref a_where, .ref a_column, .ref a_leads, .int (nI n_open), .int z_highest, .ref a_row, .int (nI n_tokens), .int z_blocks, .ref a_sort, .ref a_is, .ref a_before, .ref a_behind, .ref a_partner, .ref a_done, .int (nI n_all), .ref a_kinds, .ref a_values, .int z_told, .int z_toldBlocks, .int z_toldRows, .int z_toldConflicts, .int z_toldHighest, .int (nI n_set), .ref a_names, .ref a_sides, .ref a_levels, .int (nI n_items), .int (nI n_operands), .int (nI n_waiting), .int (nI n_pairs), .int z_rows, .int z_conflicts, .ref a_from, .ref a_to, .ref a_what, .ref a_left, .ref a_right, .ref a_waits, .ref a_opens, .ref a_closes, .ref a_waitsFor]))] t.heap ∧ va_K (dC, dI) vcl [] t ∧ va_D (va_A [(a_t, .inr (1, [.int z_thrown, .int (nI n_length), .ref a_text, .int z_bad, .int z_place, .int (nI n_at), .int (nI n_lexemes), .ref a_kind, .ref a_value, .ref a_where, .ref a_column, .ref a_leads, .int (nI n_open), .int z_highest, .ref a_row, .int (nI n_tokens), .int z_blocks, .ref a_sort, .ref a_is, .ref a_before, .ref a_behind, .ref a_partner, .ref a_done, .int (nI n_all), .ref a_kinds, .ref a_values, .int z_told, .int z_toldBlocks, .int z_toldRows, .int z_toldConflicts, .int z_toldHighest, .int (nI n_set), .ref a_names, .ref a_sides, .ref a_levels, .int (nI n_items), .int (nI n_operands), .int (nI n_waiting), .int (nI n_pairs), .int z_rows, .int z_conflicts, .ref a_from, .ref a_to, .ref a_what, .ref a_left, .ref a_right, .ref a_waits, .ref a_opens, .ref a_closes, .ref a_waitsFor]))] sz) [(a_t, .inr (1, [.int z_thrown, .int (nI n_length), .ref a_text, .int w_z_bad, .int w_z_place, .int (nI n_at), .int (nI n_lexemes), .ref a_kind, .ref a_value, .ref a_where, .ref a_column, .ref a_leads, .int (nI n_open), .int z_highest, .ref a_row, .int (nI n_tokens), .int z_blocks, .ref a_sort, .ref a_is, .ref a_before, .ref a_behind, .ref a_partner, .ref a_done, .int (nI n_all), .ref a_kinds, .ref a_values, .int z_told, .int z_toldBlocks, .int z_toldRows, .int z_toldConflicts, .int z_toldHighest, .int (nI n_set), .ref a_names, .ref a_sides, .ref a_levels, .int (nI n_items), .int (nI n_operands), .int (nI n_waiting), .int (nI n_pairs), .int z_rows, .int z_conflicts, .ref a_from, .ref a_to, .ref a_what, .ref a_left, .ref a_right, .ref a_waits, .ref a_opens, .ref a_closes, .ref a_waitsFor]))]) (va_A [(a_t, .inr (1, [.int z_thrown, .int (nI n_length), .ref a_text, .int z_bad, .int z_place, .int (nI n_at), .int (nI n_lexemes), .ref a_kind, .ref a_value, .ref a_where, .ref a_column, .ref a_leads, .int (nI n_open), .int z_highest, .ref a_row, .int (nI n_tokens), .int z_blocks, .ref a_sort, .ref a_is, .ref a_before, .ref a_behind, .ref a_partner, .ref a_done, .int (nI n_all), .ref a_kinds, .ref a_values, .int z_told, .int z_toldBlocks, .int z_toldRows, .int z_toldConflicts, .int z_toldHighest, .int (nI n_set), .ref a_names, .ref a_sides, .ref a_levels, .int (nI n_items), .int (nI n_operands), .int (nI n_waiting), .int (nI n_pairs), .int z_rows, .int z_conflicts, .ref a_from, .ref a_to, .ref a_what, .ref a_left, .ref a_right, .ref a_waits, .ref a_opens, .ref a_closes, .ref a_waitsFor]))] sz)) 0 0 (va_A [(a_t, .inr (1, [.int z_thrown, .int (nI n_length), .ref a_text, .int z_bad, .int z_place, .int (nI n_at), .int (nI n_lexemes), .ref a_kind, .ref a_value, .ref a_where, .ref a_column, .ref a_leads, .int (nI n_open), .int z_highest, .ref a_row, .int (nI n_tokens), .int z_blocks, .ref a_sort, .ref a_is, .ref a_before, .ref a_behind, .ref a_partner, .ref a_done, .int (nI n_all), .ref a_kinds, .ref a_values, .int z_told, .int z_toldBlocks, .int z_toldRows, .int z_toldConflicts, .int z_toldHighest, .int (nI n_set), .ref a_names, .ref a_sides, .ref a_levels, .int (nI n_items), .int (nI n_operands), .int (nI n_waiting), .int (nI n_pairs), .int z_rows, .int z_conflicts, .ref a_from, .ref a_to, .ref a_what, .ref a_left, .ref a_right, .ref a_waits, .ref a_opens, .ref a_closes, .ref a_waitsFor]))] sz) := by
  refine Met.ofW (cc := b_Model_wrong) (maxL := 3) (ret := none) (by decide) rfl ?_
  intro p e s m args below meth c s₁ B hml hv
  obtain ⟨rfl, hsz, hP, hK, hD0⟩ := hv
  have hx := B.exec
  have hb := B.bytes
  have hr := B.returns
  have hts := atoms_spec (ws := w_Model_wrong) B.pre
  have hz : ∀ w ∈ wz, w.before _ s = true := fun w h => hts w (List.mem_cons_of_mem _ h)
  have hown : s.vm.findClass R_Model = some m.cls := findClass_of_methodNamed B.named
  have hlocks := B.notSynchronized
  subst hsz
  have hD := hD0.self (sz := s.heap.size)
  generalize hAe : va_A [(a_t, .inr (1, [.int z_thrown, .int (nI n_length), .ref a_text, .int z_bad, .int z_place, .int (nI n_at), .int (nI n_lexemes), .ref a_kind, .ref a_value, .ref a_where, .ref a_column, .ref a_leads, .int (nI n_open), .int z_highest, .ref a_row, .int (nI n_tokens), .int z_blocks, .ref a_sort, .ref a_is, .ref a_before, .ref a_behind, .ref a_partner, .ref a_done, .int (nI n_all), .ref a_kinds, .ref a_values, .int z_told, .int z_toldBlocks, .int z_toldRows, .int z_toldConflicts, .int z_toldHighest, .int (nI n_set), .ref a_names, .ref a_sides, .ref a_levels, .int (nI n_items), .int (nI n_operands), .int (nI n_waiting), .int (nI n_pairs), .int z_rows, .int z_conflicts, .ref a_from, .ref a_to, .ref a_what, .ref a_left, .ref a_right, .ref a_waits, .ref a_opens, .ref a_closes, .ref a_waitsFor]))] s.heap.size = A at hD ⊢
  have hA : ∀ q : Nat, s.heap.size ≤ q → A q := fun q h => by rw [← hAe]; exact Or.inr h
  have hS : va_S A s.heap s.heap [] := va_S.rf
  have hP : va_P (dC, dI) vcl [(a_t, .inr (1, [.int z_thrown, .int (nI n_length), .ref a_text, .int z_bad, .int z_place, .int (nI n_at), .int (nI n_lexemes), .ref a_kind, .ref a_value, .ref a_where, .ref a_column, .ref a_leads, .int (nI n_open), .int z_highest, .ref a_row, .int (nI n_tokens), .int z_blocks, .ref a_sort, .ref a_is, .ref a_before, .ref a_behind, .ref a_partner, .ref a_done, .int (nI n_all), .ref a_kinds, .ref a_values, .int z_told, .int z_toldBlocks, .int z_toldRows, .int z_toldConflicts, .int z_toldHighest, .int (nI n_set), .ref a_names, .ref a_sides, .ref a_levels, .int (nI n_items), .int (nI n_operands), .int (nI n_waiting), .int (nI n_pairs), .int z_rows, .int z_conflicts, .ref a_from, .ref a_to, .ref a_what, .ref a_left, .ref a_right, .ref a_waits, .ref a_opens, .ref a_closes, .ref a_waitsFor]))] s.heap := hP
  have hl := lv_entry ([.ref a_t, .int y0, .int y1]) (n := 3) (Nat.le_of_ble_eq_true rfl)
  rw [lg_entry_eq]
  generalize (lg_sl ([.ref a_t, .int y0, .int y1]) ++ List.replicate (3 - (lg_sl ([.ref a_t, .int y0, .int y1])).length) Slot.unset).toArray = ls at hl ⊢
  have hl : lv_has ls 3 [(0, .ref a_t), (1, .int y0), (2, .int y1)] := hl
  refine lv_aload_n hx hb d_Model_wrong_0 rfl (lv_at hl 0 rfl) ?_
  refine va_get (D := (dC, dI)) (ci := 1) (v := .int z_bad) (C := R_Model) (T := F_Model) (N := 50) hx hb hz zu_Model hown hK hP 0 rfl rfl 3 (by decide) (hz (.fieldLink R_Model 123 "LayoutFrontModel" "bad" "I") zm_669) (fun _ h9 => h9) rfl d_Model_wrong_1 ?_
  refine lv_if_ne (tgt := 17) hx hb d_Model_wrong_4 (by decide) (fun h1 => ?_) (fun h1 => ?_)
  · have hP9 := hP.sub (ws' := [(a_t, .inr (1, [.int z_thrown, .int (nI n_length), .ref a_text, .int z_bad, .int z_place, .int (nI n_at), .int (nI n_lexemes), .ref a_kind, .ref a_value, .ref a_where, .ref a_column, .ref a_leads, .int (nI n_open), .int z_highest, .ref a_row, .int (nI n_tokens), .int z_blocks, .ref a_sort, .ref a_is, .ref a_before, .ref a_behind, .ref a_partner, .ref a_done, .int (nI n_all), .ref a_kinds, .ref a_values, .int z_told, .int z_toldBlocks, .int z_toldRows, .int z_toldConflicts, .int z_toldHighest, .int (nI n_set), .ref a_names, .ref a_sides, .ref a_levels, .int (nI n_items), .int (nI n_operands), .int (nI n_waiting), .int (nI n_pairs), .int z_rows, .int z_conflicts, .ref a_from, .ref a_to, .ref a_what, .ref a_left, .ref a_right, .ref a_waits, .ref a_opens, .ref a_closes, .ref a_waitsFor]))]) [0] rfl
    have hD9 := hD.sub (ws' := [(a_t, .inr (1, [.int z_thrown, .int (nI n_length), .ref a_text, .int z_bad, .int z_place, .int (nI n_at), .int (nI n_lexemes), .ref a_kind, .ref a_value, .ref a_where, .ref a_column, .ref a_leads, .int (nI n_open), .int z_highest, .ref a_row, .int (nI n_tokens), .int z_blocks, .ref a_sort, .ref a_is, .ref a_before, .ref a_behind, .ref a_partner, .ref a_done, .int (nI n_all), .ref a_kinds, .ref a_values, .int z_told, .int z_toldBlocks, .int z_toldRows, .int z_toldConflicts, .int z_toldHighest, .int (nI n_set), .ref a_names, .ref a_sides, .ref a_levels, .int (nI n_items), .int (nI n_operands), .int (nI n_waiting), .int (nI n_pairs), .int z_rows, .int z_conflicts, .ref a_from, .ref a_to, .ref a_what, .ref a_left, .ref a_right, .ref a_waits, .ref a_opens, .ref a_closes, .ref a_waitsFor]))]) [0] (by decide) rfl
    exact W.vret hx hb hr (fun t ht hW => ⟨⟨(), rfl, trivial, z_bad, z_place, by first | assumption | exact Or.inl rfl | exact Or.inr (Or.inl rfl) | exact Or.inr (Or.inr rfl) | exact Or.inr (by assumption), by first | (intro _; rfl) | (intro hh; exact absurd hh ‹_›) | (intro hh; exact absurd ‹_› hh) | omega | assumption | exact Or.inl rfl | exact Or.inr rfl, by first | (intro _; rfl) | (intro hh; exact absurd hh ‹_›) | (intro hh; exact absurd ‹_› hh) | omega | assumption | exact Or.inl rfl | exact Or.inr rfl, by (intro hh; exact absurd hh (by assumption)), by rw [ht]; exact hP9, va_K.moved hW.alike hK, hD9⟩, hS.F ht⟩) hS.2.2 d_Model_wrong_17
  · refine lv_aload_n hx hb d_Model_wrong_7 rfl (lv_at hl 0 rfl) ?_
    refine lv_iload_n hx hb d_Model_wrong_8 rfl (lv_at hl 1 rfl) ?_
    refine va_put (D := (dC, dI)) (ci := 1) (v := .int y0) (ty := .int) (C := R_Model) (T := F_Model) (N := 50) hx hb hz zu_Model t_Model t_Model_ok n_Model hown hK hP hD hS 0 rfl rfl 3 (by decide) (hz (.fieldLink R_Model 123 "LayoutFrontModel" "bad" "I") zm_669) (fun _ h9 => h9) rfl (by decide +kernel) rfl rfl (Nat.le_of_ble_eq_true rfl) d_Model_wrong_9 (fun H locs hP hD hS => ?_)
    have hP : va_P (dC, dI) vcl [(a_t, .inr (1, [.int z_thrown, .int (nI n_length), .ref a_text, .int y0, .int z_place, .int (nI n_at), .int (nI n_lexemes), .ref a_kind, .ref a_value, .ref a_where, .ref a_column, .ref a_leads, .int (nI n_open), .int z_highest, .ref a_row, .int (nI n_tokens), .int z_blocks, .ref a_sort, .ref a_is, .ref a_before, .ref a_behind, .ref a_partner, .ref a_done, .int (nI n_all), .ref a_kinds, .ref a_values, .int z_told, .int z_toldBlocks, .int z_toldRows, .int z_toldConflicts, .int z_toldHighest, .int (nI n_set), .ref a_names, .ref a_sides, .ref a_levels, .int (nI n_items), .int (nI n_operands), .int (nI n_waiting), .int (nI n_pairs), .int z_rows, .int z_conflicts, .ref a_from, .ref a_to, .ref a_what, .ref a_left, .ref a_right, .ref a_waits, .ref a_opens, .ref a_closes, .ref a_waitsFor]))] H := hP
    have hD : va_D A [(a_t, .inr (1, [.int z_thrown, .int (nI n_length), .ref a_text, .int y0, .int z_place, .int (nI n_at), .int (nI n_lexemes), .ref a_kind, .ref a_value, .ref a_where, .ref a_column, .ref a_leads, .int (nI n_open), .int z_highest, .ref a_row, .int (nI n_tokens), .int z_blocks, .ref a_sort, .ref a_is, .ref a_before, .ref a_behind, .ref a_partner, .ref a_done, .int (nI n_all), .ref a_kinds, .ref a_values, .int z_told, .int z_toldBlocks, .int z_toldRows, .int z_toldConflicts, .int z_toldHighest, .int (nI n_set), .ref a_names, .ref a_sides, .ref a_levels, .int (nI n_items), .int (nI n_operands), .int (nI n_waiting), .int (nI n_pairs), .int z_rows, .int z_conflicts, .ref a_from, .ref a_to, .ref a_what, .ref a_left, .ref a_right, .ref a_waits, .ref a_opens, .ref a_closes, .ref a_waitsFor]))] := hD
    refine lv_aload_n hx hb d_Model_wrong_12 rfl (lv_at hl 0 rfl) ?_
    refine lv_iload_n hx hb d_Model_wrong_13 rfl (lv_at hl 2 rfl) ?_
    refine va_put (D := (dC, dI)) (ci := 1) (v := .int y1) (ty := .int) (C := R_Model) (T := F_Model) (N := 50) hx hb hz zu_Model t_Model t_Model_ok n_Model hown hK hP hD hS 0 rfl rfl 4 (by decide) (hz (.fieldLink R_Model 13 "LayoutFrontModel" "place" "I") zm_624) (fun _ h9 => h9) rfl (by decide +kernel) rfl rfl (Nat.le_of_ble_eq_true rfl) d_Model_wrong_14 (fun H locs hP hD hS => ?_)
    have hP : va_P (dC, dI) vcl [(a_t, .inr (1, [.int z_thrown, .int (nI n_length), .ref a_text, .int y0, .int y1, .int (nI n_at), .int (nI n_lexemes), .ref a_kind, .ref a_value, .ref a_where, .ref a_column, .ref a_leads, .int (nI n_open), .int z_highest, .ref a_row, .int (nI n_tokens), .int z_blocks, .ref a_sort, .ref a_is, .ref a_before, .ref a_behind, .ref a_partner, .ref a_done, .int (nI n_all), .ref a_kinds, .ref a_values, .int z_told, .int z_toldBlocks, .int z_toldRows, .int z_toldConflicts, .int z_toldHighest, .int (nI n_set), .ref a_names, .ref a_sides, .ref a_levels, .int (nI n_items), .int (nI n_operands), .int (nI n_waiting), .int (nI n_pairs), .int z_rows, .int z_conflicts, .ref a_from, .ref a_to, .ref a_what, .ref a_left, .ref a_right, .ref a_waits, .ref a_opens, .ref a_closes, .ref a_waitsFor]))] H := hP
    have hD : va_D A [(a_t, .inr (1, [.int z_thrown, .int (nI n_length), .ref a_text, .int y0, .int y1, .int (nI n_at), .int (nI n_lexemes), .ref a_kind, .ref a_value, .ref a_where, .ref a_column, .ref a_leads, .int (nI n_open), .int z_highest, .ref a_row, .int (nI n_tokens), .int z_blocks, .ref a_sort, .ref a_is, .ref a_before, .ref a_behind, .ref a_partner, .ref a_done, .int (nI n_all), .ref a_kinds, .ref a_values, .int z_told, .int z_toldBlocks, .int z_toldRows, .int z_toldConflicts, .int z_toldHighest, .int (nI n_set), .ref a_names, .ref a_sides, .ref a_levels, .int (nI n_items), .int (nI n_operands), .int (nI n_waiting), .int (nI n_pairs), .int z_rows, .int z_conflicts, .ref a_from, .ref a_to, .ref a_what, .ref a_left, .ref a_right, .ref a_waits, .ref a_opens, .ref a_closes, .ref a_waitsFor]))] := hD
    have hP9 := hP.sub (ws' := [(a_t, .inr (1, [.int z_thrown, .int (nI n_length), .ref a_text, .int y0, .int y1, .int (nI n_at), .int (nI n_lexemes), .ref a_kind, .ref a_value, .ref a_where, .ref a_column, .ref a_leads, .int (nI n_open), .int z_highest, .ref a_row, .int (nI n_tokens), .int z_blocks, .ref a_sort, .ref a_is, .ref a_before, .ref a_behind, .ref a_partner, .ref a_done, .int (nI n_all), .ref a_kinds, .ref a_values, .int z_told, .int z_toldBlocks, .int z_toldRows, .int z_toldConflicts, .int z_toldHighest, .int (nI n_set), .ref a_names, .ref a_sides, .ref a_levels, .int (nI n_items), .int (nI n_operands), .int (nI n_waiting), .int (nI n_pairs), .int z_rows, .int z_conflicts, .ref a_from, .ref a_to, .ref a_what, .ref a_left, .ref a_right, .ref a_waits, .ref a_opens, .ref a_closes, .ref a_waitsFor]))]) [0] rfl
    have hD9 := hD.sub (ws' := [(a_t, .inr (1, [.int z_thrown, .int (nI n_length), .ref a_text, .int y0, .int y1, .int (nI n_at), .int (nI n_lexemes), .ref a_kind, .ref a_value, .ref a_where, .ref a_column, .ref a_leads, .int (nI n_open), .int z_highest, .ref a_row, .int (nI n_tokens), .int z_blocks, .ref a_sort, .ref a_is, .ref a_before, .ref a_behind, .ref a_partner, .ref a_done, .int (nI n_all), .ref a_kinds, .ref a_values, .int z_told, .int z_toldBlocks, .int z_toldRows, .int z_toldConflicts, .int z_toldHighest, .int (nI n_set), .ref a_names, .ref a_sides, .ref a_levels, .int (nI n_items), .int (nI n_operands), .int (nI n_waiting), .int (nI n_pairs), .int z_rows, .int z_conflicts, .ref a_from, .ref a_to, .ref a_what, .ref a_left, .ref a_right, .ref a_waits, .ref a_opens, .ref a_closes, .ref a_waitsFor]))]) [0] (by decide) rfl
    exact W.vret hx hb hr (fun t ht hW => ⟨⟨(), rfl, trivial, y0, y1, by first | assumption | exact Or.inl rfl | exact Or.inr (Or.inl rfl) | exact Or.inr (Or.inr rfl) | exact Or.inr (by assumption), by first | (intro _; rfl) | (intro hh; exact absurd hh ‹_›) | (intro hh; exact absurd ‹_› hh) | omega | assumption | exact Or.inl rfl | exact Or.inr rfl, by first | (intro _; rfl) | (intro hh; exact absurd hh ‹_›) | (intro hh; exact absurd ‹_› hh) | omega | assumption | exact Or.inl rfl | exact Or.inr rfl, by (intro _; rfl), by rw [ht]; exact hP9, va_K.moved hW.alike hK, hD9⟩, hS.F ht⟩) hS.2.2 d_Model_wrong_17
def b01 (b : Bool) : Int32 := if b = true then 1 else 0
theorem b01_no {b : Bool} (h : b01 b = 0) : b = false := by
  cases b
  · rfl
  · exact absurd h (by decide)
theorem b01_yes {b : Bool} (h : ¬ b01 b = 0) : b = true := by
  cases b
  · exact absurd rfl h
  · rfl
/-! the lexer as both sides do it: a text c of n characters -/
abbrev Lx := Int32 × Int64 × Nat × Nat × Bool
def lxW (x : Lx) : Nat := x.2.2.1
def lnO (c : Nat → Int32) : Nat → Nat
  | 0 => 0
  | a + 1 => if c a = 10 then a + 1 else lnO c a
theorem lnO_le (c : Nat → Int32) : ∀ a, lnO c a ≤ a
  | 0 => Nat.le_refl _
  | a + 1 => by
    rw [lnO]
    split
    · exact Nat.le_refl _
    · have := lnO_le c a; omega
theorem lnO_run {c : Nat → Int32} {a : Nat} : ∀ e, a ≤ e → (∀ i, a ≤ i → i < e → ¬ c i = 10) → lnO c e = lnO c a
  | 0, h, _ => by rw [Nat.le_zero.mp h]
  | e + 1, h, q => by
    by_cases z : a = e + 1
    · rw [z]
    · rw [lnO, if_neg (q e (by omega) (by omega))]
      exact lnO_run e (by omega) (fun i h1 h2 => q i h1 (by omega))
/-- going back to the line's start -/
theorem lnO_back {c : Nat → Int32} {a : Nat} (h : 0 < a) (q : ¬ c (a - 1) = 10) : lnO c a = lnO c (a - 1) := by
  obtain ⟨b, rfl⟩ : ∃ b, a = b + 1 := ⟨a - 1, by omega⟩
  rw [show b + 1 - 1 = b by omega] at q ⊢
  rw [lnO, if_neg q]
theorem lnO_at {c : Nat → Int32} {a : Nat} (q : a = 0 ∨ c (a - 1) = 10) : lnO c a = a := by
  rcases q with rfl | q
  · rfl
  · by_cases h : a = 0
    · subst h; rfl
    · obtain ⟨b, rfl⟩ : ∃ b, a = b + 1 := ⟨a - 1, by omega⟩
      rw [show b + 1 - 1 = b by omega] at q
      rw [lnO, if_pos q]
/-- the end of a run of characters -/
def scn (P : Int32 → Bool) (c : Nat → Int32) (n : Nat) : Nat → Nat → Nat
  | 0, i => i
  | f + 1, i => if i < n then (if P (c i) then scn P c n f (i + 1) else i) else i
def scE (P : Int32 → Bool) (c : Nat → Int32) (n i : Nat) : Nat := scn P c n (n - i) i
theorem scE_go {P : Int32 → Bool} {c : Nat → Int32} {n i : Nat} (h : i < n) (p : P (c i) = true) : scE P c n i = scE P c n (i + 1) := by
  unfold scE
  obtain ⟨f, hf⟩ : ∃ f, n - i = f + 1 := ⟨n - i - 1, by omega⟩
  rw [hf, scn, if_pos h, if_pos p, show n - (i + 1) = f by omega]
theorem scE_stop {P : Int32 → Bool} {c : Nat → Int32} {n i : Nat} (p : n ≤ i ∨ P (c i) = false) : scE P c n i = i := by
  unfold scE
  cases hf : n - i with
  | zero => rfl
  | succ f =>
    rw [scn]
    rcases p with p | p
    · omega
    · rw [if_pos (by omega), p]; rfl
theorem scE_in {P : Int32 → Bool} {c : Nat → Int32} {n : Nat} : ∀ (f i : Nat), n - i = f → i ≤ n → i ≤ scE P c n i ∧ scE P c n i ≤ n ∧ ∀ j, i ≤ j → j < scE P c n i → P (c j) = true
  | 0, i, hf, hi => by
    rw [scE_stop (Or.inl (by omega))]
    exact ⟨Nat.le_refl _, hi, fun j h1 h2 => absurd h2 (by omega)⟩
  | f + 1, i, hf, hi => by
    by_cases p : P (c i) = true
    · rw [scE_go (by omega) p]
      obtain ⟨g1, g2, g3⟩ := scE_in (P := P) (c := c) (n := n) f (i + 1) (by omega) (by omega)
      refine ⟨by omega, g2, fun j h1 h2 => ?_⟩
      by_cases q : j = i
      · rw [q]; exact p
      · exact g3 j (by omega) h2
    · rw [scE_stop (Or.inr (by simpa using p))]
      exact ⟨Nat.le_refl _, hi, fun j h1 h2 => absurd h2 (by omega)⟩
/-- a comment within a comment -/
def opC (c : Nat → Int32) (n i : Nat) : Bool := c i == 123 && (decide (i + 1 < n) && c (i + 1) == 45)
def clC (c : Nat → Int32) (n i : Nat) : Bool := c i == 45 && (decide (i + 1 < n) && c (i + 1) == 125)
def dpC (c : Nat → Int32) (n d i : Nat) : Nat := if opC c n i then d + 1 else if clC c n i then d - 1 else d
def nxC (c : Nat → Int32) (n i : Nat) : Nat := if opC c n i || clC c n i then i + 2 else i + 1
def nst (c : Nat → Int32) (n : Nat) : Nat → Nat → Nat → Option Nat
  | 0, _, _ => none
  | f + 1, d, i => if i < n then (if dpC c n d i = 0 then some (nxC c n i) else nst c n f (dpC c n d i) (nxC c n i)) else none
def nsE (c : Nat → Int32) (n d i : Nat) : Option Nat := nst c n (n - i) d i
theorem nxC_in {c : Nat → Int32} {n i : Nat} (h : i < n) : i < nxC c n i ∧ nxC c n i ≤ n := by
  unfold nxC
  split
  · rename_i q
    have : i + 1 < n := by
      rcases Bool.or_eq_true_iff.mp q with q | q
      · simp only [opC, Bool.and_eq_true, decide_eq_true_eq] at q; exact q.2.1
      · simp only [clC, Bool.and_eq_true, decide_eq_true_eq] at q; exact q.2.1
    omega
  · omega
theorem nst_more {c : Nat → Int32} {n : Nat} : ∀ (f g d i : Nat), n - i ≤ f → n - i ≤ g → nst c n f d i = nst c n g d i
  | 0, 0, _, _, _, _ => rfl
  | 0, g + 1, d, i, h, _ => by rw [nst, nst, if_neg (by omega)]
  | f + 1, 0, d, i, _, h => by rw [nst, nst, if_neg (by omega)]
  | f + 1, g + 1, d, i, h1, h2 => by
    rw [nst, nst]
    by_cases q : i < n
    · have := nxC_in (c := c) q
      rw [if_pos q, if_pos q, nst_more f g _ _ (by omega) (by omega)]
    · rw [if_neg q, if_neg q]
theorem nsE_go {c : Nat → Int32} {n d i : Nat} (h : i < n) (q : ¬ dpC c n d i = 0) : nsE c n d i = nsE c n (dpC c n d i) (nxC c n i) := by
  unfold nsE
  obtain ⟨f, hf⟩ : ∃ f, n - i = f + 1 := ⟨n - i - 1, by omega⟩
  have := nxC_in (c := c) h
  rw [hf, nst, if_pos h, if_neg q]
  exact nst_more _ _ _ _ (by omega) (by omega)
theorem nsE_end {c : Nat → Int32} {n d i : Nat} (h : i < n) (q : dpC c n d i = 0) : nsE c n d i = some (nxC c n i) := by
  unfold nsE
  obtain ⟨f, hf⟩ : ∃ f, n - i = f + 1 := ⟨n - i - 1, by omega⟩
  rw [hf, nst, if_pos h, if_pos q]
theorem nsE_no {c : Nat → Int32} {n d i : Nat} (h : ¬ i < n) : nsE c n d i = none := by
  unfold nsE
  rw [show n - i = 0 by omega, nst]
/-- kinds, runs, dashes, values -/
def cN (f : Nat → Int32) (n : Nat) : Nat → Int32 := fun j => if j < n then f j else 0
theorem cN_lt {f : Nat → Int32} {n j : Nat} (h : j < n) : cN f n j = f j := if_pos h
theorem cN_eq {f g : Nat → Int32} {n : Nat} (h : ∀ j, j < n → f j = g j) : cN f n = cN g n := by
  funext j
  unfold cN
  by_cases q : j < n
  · rw [if_pos q, if_pos q, h j q]
  · rw [if_neg q, if_neg q]
def kdO (x : Int32) : Int32 := if ¬ lt_ x = 0 then 0 else if ¬ wi x 48 57 = 0 then 1 else if ¬ op_ x = 0 then 2 else if ¬ sg_ x = 0 then 3 else -1
def rnB (k x : Int32) : Bool := decide (¬ rn_ k x = 0)
theorem rB_t {f : Nat → Int32} {n i : Nat} {k : Int32} (h : i < n) (p : ¬ rn_ k (f i) = 0) : rnB k (cN f n i) = true := by
  rw [cN_lt h]; exact decide_eq_true p
theorem rB_f {f : Nat → Int32} {n i : Nat} {k : Int32} (h : i < n) (p : rn_ k (f i) = 0) : rnB k (cN f n i) = false := by
  rw [cN_lt h]; exact decide_eq_false (fun q => q p)
theorem rn0d {x : Int32} (h : ¬ wi x 48 57 = 0) : ¬ rn_ 0 x = 0 := by
  unfold rn_
  by_cases q : lt_ x = 0 <;> simp [q, h]
theorem rn0q {x : Int32} (h : x = 39) : ¬ rn_ 0 x = 0 := by
  rw [h]; decide
theorem rn0n {x : Int32} (h1 : lt_ x = 0) (h2 : wi x 48 57 = 0) (h3 : ¬ x = 39) : rn_ 0 x = 0 := by
  unfold rn_; simp [h1, h2, h3]
theorem rn1e {x : Int32} : rn_ 1 x = wi x 48 57 := rfl
theorem rn2e {k x : Int32} (h0 : ¬ k = 0) (h1 : ¬ k = 1) : rn_ k x = op_ x := by
  unfold rn_; rw [if_neg h0, if_neg h1]
def alB (c : Nat → Int32) (v : Int32) (a : Nat) : Nat → Bool
  | 0 => true
  | k + 1 => alB c v a k && c (a + k) == v
def dshO (c : Nat → Int32) (a e : Nat) : Bool := decide (1 < e - a) && alB c 45 a (e - a)
section ALB
variable {c : Nat → Int32} {v x : Int32} {a k y : Nat} {d : Bool}
theorem al_s0 (h : x = b01 (d && alB c v a k)) (h0 : x = 0) : (0 : Int32) = b01 (d && alB c v a (k + 1)) := by
  have e : (d && alB c v a k) = false := b01_no (h.symm.trans h0)
  rw [alB, ← Bool.and_assoc, e]; rfl
theorem al_s1 (h : x = b01 (d && alB c v a k)) (h1 : ¬ x = 0) (e : c (a + k) = v) : (1 : Int32) = b01 (d && alB c v a (k + 1)) := by
  have q : (d && alB c v a k) = true := b01_yes (fun z => h1 (h.trans z))
  rw [alB, ← Bool.and_assoc, q, e]; simp [b01]
theorem al_s2 (e : ¬ c (a + k) = v) : (0 : Int32) = b01 (d && alB c v a (k + 1)) := by
  rw [alB, ← Bool.and_assoc]; simp [b01, e]
theorem ds_s0 (h : y ≤ 1) : (0 : Int32) = b01 (decide (1 < y) && alB c 45 a 0) := by
  rw [decide_eq_false (by omega)]; rfl
theorem ds_s1 (h : ¬ y ≤ 1) : (1 : Int32) = b01 (decide (1 < y) && alB c 45 a 0) := by
  rw [decide_eq_true (by omega)]; rfl
theorem ds_r (h : x = b01 (decide (1 < y) && alB c 45 a y)) : x = b01 (dshO c a (a + y)) := by
  unfold dshO; rw [Nat.add_sub_cancel_left]; exact h
end ALB
def pkL (c : Nat → Int32) (a : Nat) : Nat → Int64
  | 0 => 0
  | k + 1 => pkL c a k ||| ((c (a + k)).toInt64 <<< ((nI (8 * k)).toInt64 &&& 63))
/-- numbers -/
def nmL (c : Nat → Int32) (a : Nat) : Nat → Int64
  | 0 => 0
  | m + 1 => 10 * nmL c a m + (c (a + m)).toInt64 - 48
/-- a step of the lexer: a place where it stops, or where it goes on and what it has -/
def lngO (k : Int32) : Nat := if k = 1 then 9 else 7
def ldO (R : List Lx) (l : Nat) : Bool := match R with | [] => true | x :: _ => decide (lxW x < l)
def lxO (k : Int32) (v : Int64) (c : Nat → Int32) (a : Nat) (R : List Lx) : Lx := (k, v, a, a - lnO c a + 1, ldO R (lnO c a))
def pkO (c : Nat → Int32) (k : Int32) (a e : Nat) : Int64 := if k = 1 then nmL c a (e - a) else pkL c a (e - a)
theorem nm_o {c : Nat → Int32} {k : Int32} {a l y : Nat} {v : Int64} (hk : k = 1) (hl : l = y) (h : v = nmL c a l) : v = pkO c k a (a + y) := by
  unfold pkO; rw [if_pos hk, Nat.add_sub_cancel_left, ← hl]; exact h
theorem nm_m {f : Nat → Int32} {n a l : Nat} {v : Int64} (h : a + l < n) (e : v = nmL (cN f n) a l) : 10 * v + (f (a + l)).toInt64 - 48 = nmL (cN f n) a (l + 1) := by rw [nmL, cN_lt h, e]
def enO (c : Nat → Int32) (n : Nat) (k : Int32) (a : Nat) : Nat := if k = 0 ∨ k = 1 ∨ k = 2 then scE (rnB k) c n (a + 1) else a + 1
def stp (c : Nat → Int32) (n a : Nat) (R : List Lx) : Nat ⊕ (Nat × List Lx) :=
  if c a = 32 ∨ c a = 10 then .inr (a + 1, R)
  else if opC c n a then (match nsE c n 0 a with | none => .inl a | some b => .inr (b, R))
  else if kdO (c a) = 2 ∧ dshO c a (enO c n 2 a) = true then .inr (scE (fun x => !(x == 10)) c n (enO c n 2 a), R)
  else if kdO (c a) = -1 ∨ lngO (kdO (c a)) < enO c n (kdO (c a)) a - a ∨ R.length = 90 then .inl a
  else .inr (enO c n (kdO (c a)) a, lxO (kdO (c a)) (pkO c (kdO (c a)) a (enO c n (kdO (c a)) a)) c a R :: R)
def cuS (c : Nat → Int32) (n : Nat) : Nat → Nat → List Lx → Option Nat × List Lx
  | 0, _, R => (none, R)
  | f + 1, a, R => if a < n then (match stp c n a R with | .inl p => (some p, R) | .inr (b, S) => cuS c n f b S) else (none, R)
def cuE (c : Nat → Int32) (n a : Nat) (R : List Lx) : Option Nat × List Lx := cuS c n (n - a) a R
theorem enO_in {c : Nat → Int32} {n a : Nat} {k : Int32} (h : a < n) : a < enO c n k a ∧ enO c n k a ≤ n := by
  unfold enO
  split
  · have := scE_in (P := rnB k) (c := c) (n := n) _ (a + 1) rfl (by omega)
    omega
  · omega
theorem nsE_in {c : Nat → Int32} {n b : Nat} : ∀ (f d i : Nat), n - i ≤ f → nsE c n d i = some b → i < b ∧ b ≤ n
  | 0, d, i, hf, h => by rw [nsE_no (by omega)] at h; cases h
  | f + 1, d, i, hf, h => by
    by_cases q : i < n
    · have x := nxC_in (c := c) q
      by_cases z : dpC c n d i = 0
      · rw [nsE_end q z] at h
        cases h; exact x
      · rw [nsE_go q z] at h
        have := nsE_in f _ _ (by omega) h
        omega
    · rw [nsE_no q] at h; cases h
theorem stp_in {c : Nat → Int32} {n a b : Nat} {R S : List Lx} (h : a < n) (e : stp c n a R = .inr (b, S)) : a < b ∧ b ≤ n := by
  unfold stp at e
  split at e
  · cases e; omega
  · split at e
    · cases hn : nsE c n 0 a with
      | none => rw [hn] at e; cases e
      | some z => rw [hn] at e; cases e; exact nsE_in _ _ _ (Nat.le_refl _) hn
    · split at e
      · cases e
        have x := enO_in (c := c) (k := 2) h
        have := scE_in (P := fun x => !(x == 10)) (c := c) (n := n) _ _ rfl x.2
        omega
      · split at e
        · cases e
        · cases e
          exact enO_in h
theorem cuS_more {c : Nat → Int32} {n : Nat} : ∀ (f g a : Nat) (R : List Lx), n - a ≤ f → n - a ≤ g → cuS c n f a R = cuS c n g a R
  | 0, 0, _, _, _, _ => rfl
  | 0, g + 1, a, R, h, _ => by rw [cuS, cuS, if_neg (by omega)]
  | f + 1, 0, a, R, _, h => by rw [cuS, cuS, if_neg (by omega)]
  | f + 1, g + 1, a, R, h1, h2 => by
    rw [cuS, cuS]
    by_cases q : a < n
    · rw [if_pos q, if_pos q]
      cases hs : stp c n a R with
      | inl p => rfl
      | inr x =>
        obtain ⟨b, S⟩ := x
        have := stp_in q hs
        exact cuS_more f g b S (by omega) (by omega)
    · rw [if_neg q, if_neg q]
theorem cuE_go {c : Nat → Int32} {n a b : Nat} {R S : List Lx} (h : a < n) (e : stp c n a R = .inr (b, S)) : cuE c n a R = cuE c n b S := by
  unfold cuE
  obtain ⟨f, hf⟩ : ∃ f, n - a = f + 1 := ⟨n - a - 1, by omega⟩
  have := stp_in h e
  rw [hf, cuS, if_pos h, e]
  exact cuS_more _ _ _ _ (by omega) (by omega)
theorem cuE_stop {c : Nat → Int32} {n a p : Nat} {R : List Lx} (h : a < n) (e : stp c n a R = .inl p) : cuE c n a R = (some p, R) := by
  unfold cuE
  obtain ⟨f, hf⟩ : ∃ f, n - a = f + 1 := ⟨n - a - 1, by omega⟩
  rw [hf, cuS, if_pos h, e]
theorem cuE_end {c : Nat → Int32} {n a : Nat} {R : List Lx} (h : ¬ a < n) : cuE c n a R = (none, R) := by
  unfold cuE
  rw [show n - a = 0 by omega, cuS]
/-! lexemes in rows -/
def Rp (kd : Nat → Int32) (vl : Nat → Int64) (wh col ld : Nat → Int32) : List Lx → Prop
  | [] => True
  | x :: L => kd L.length = x.1 ∧ vl L.length = x.2.1 ∧ (wh L.length = nI x.2.2.1 ∧ x.2.2.1 ≤ 240) ∧ col L.length = nI x.2.2.2.1 ∧ ld L.length = b01 x.2.2.2.2 ∧ Rp kd vl wh col ld L
section RPL
variable {kd : Nat → Int32} {vl : Nat → Int64} {wh col ld : Nat → Int32}
theorem Rp_upd {t : Nat} {a c d e : Int32} {b : Int64} : ∀ L : List Lx, L.length ≤ t → Rp kd vl wh col ld L → Rp (upd kd t a) (vp_updL vl t b) (upd wh t c) (upd col t d) (upd ld t e) L
  | [], _, _ => trivial
  | x :: L, ht, h => by
    have hl : L.length < t := by rw [List.length_cons] at ht; omega
    have q : ¬ L.length = t := by omega
    obtain ⟨h1, h2, h3, h4, h5, h6⟩ := h
    exact ⟨(if_neg q).trans h1, (if_neg q).trans h2, ⟨(if_neg q).trans h3.1, h3.2⟩, (if_neg q).trans h4, (if_neg q).trans h5, Rp_upd L (by omega) h6⟩
theorem Rp_fin {kd' : Nat → Int32} {vl' : Nat → Int64} {wh' col' ld' : Nat → Int32} {L : List Lx} {n w q : Nat} {k x : Int32} {v v' : Int64} {d : Bool} (h : Rp kd vl wh col ld L) (hn : n = L.length) (e1 : upd kd n k = kd') (e2 : vp_updL vl n v = vl') (e3 : upd wh n (nI w) = wh') (e4 : upd col n (nI q) = col') (e5 : upd ld n x = ld') (hx : x = b01 d) (hv : v = v') (hw : w ≤ 240) : Rp kd' vl' wh' col' ld' ((k, v', w, q, d) :: L) := by
  subst hn; subst e1; subst e2; subst e3; subst e4; subst e5
  exact ⟨if_pos rfl, (if_pos rfl).trans hv, ⟨if_pos rfl, hw⟩, if_pos rfl, (if_pos rfl).trans hx, Rp_upd L (Nat.le_refl _) h⟩
theorem ld_1 {L : List Lx} {n l : Nat} (hn : n = L.length) (h0 : n = 0) : (1 : Int32) = b01 (ldO L l) := by
  have : L = [] := List.length_eq_zero_iff.mp (hn.symm.trans h0)
  rw [this]; rfl
theorem ld_w {L : List Lx} {n l : Nat} {z : Int32} {wh' : Nat → Int32} (h : Rp kd vl wh col ld L) (hn : n = L.length) (h0 : ¬ n = 0) (hl : l ≤ 240) (e3 : upd wh n z = wh') : b01 (ldO L l) = if nI l ≤ wh' (n - 1) then 0 else 1 := by
  cases L with
  | nil => exact absurd hn h0
  | cons x L =>
    obtain ⟨-, -, ⟨h3, h4⟩, -⟩ := h
    have e : n - 1 = L.length := by rw [hn, List.length_cons]; omega
    have q : wh' (n - 1) = nI x.2.2.1 := by
      rw [← e3, e]
      exact (if_neg (by rw [hn, List.length_cons]; omega)).trans h3
    rw [q]
    by_cases z : x.2.2.1 < l
    · rw [if_neg (fun y => absurd ((nI_leI (a := l) (b := x.2.2.1) (by omega) (by omega)).mp y) (by omega))]
      show b01 (decide (lxW x < l)) = 1
      rw [decide_eq_true (show lxW x < l from z)]; rfl
    · rw [if_pos ((nI_leI (a := l) (b := x.2.2.1) (by omega) (by omega)).mpr (by omega))]
      show b01 (decide (lxW x < l)) = 0
      rw [decide_eq_false (show ¬ lxW x < l from z)]; rfl
end RPL
/-! steps of the lexer, one by one -/
section STQ
variable {c : Nat → Int32} {n a b j : Nat} {R : List Lx} {k x : Int32}
theorem kd_0 (h : ¬ lt_ x = 0) : kdO x = 0 := if_pos h
theorem kd_1 (h0 : lt_ x = 0) (h : ¬ wi x 48 57 = 0) : kdO x = 1 := by
  unfold kdO; rw [if_neg (fun q => q h0), if_pos h]
theorem kd_2 (h0 : lt_ x = 0) (h1 : wi x 48 57 = 0) (h : ¬ op_ x = 0) : kdO x = 2 := by
  unfold kdO; rw [if_neg (fun q => q h0), if_neg (fun q => q h1), if_pos h]
theorem kd_3 (h0 : lt_ x = 0) (h1 : wi x 48 57 = 0) (h2 : op_ x = 0) (h : ¬ sg_ x = 0) : kdO x = 3 := by
  unfold kdO; rw [if_neg (fun q => q h0), if_neg (fun q => q h1), if_neg (fun q => q h2), if_pos h]
theorem kd_n (h0 : lt_ x = 0) (h1 : wi x 48 57 = 0) (h2 : op_ x = 0) (h : sg_ x = 0) : kdO x = -1 := by
  unfold kdO; rw [if_neg (fun q => q h0), if_neg (fun q => q h1), if_neg (fun q => q h2), if_neg (fun q => q h)]
theorem en_r (hk : k = 0 ∨ k = 1 ∨ k = 2) (h : a < n) (p : rnB k (c a) = true) (e : a + j = scE (rnB k) c n a) : enO c n k a = a + j := by
  unfold enO; rw [if_pos hk, ← scE_go h p, e]
theorem st_b (h : c a = 32 ∨ c a = 10) : stp c n a R = .inr (a + 1, R) := if_pos h
theorem st_cn (h : ¬ (c a = 32 ∨ c a = 10)) (o : opC c n a = true) (e : nsE c n 0 a = none) : stp c n a R = .inl a := by
  unfold stp; rw [if_neg h, if_pos o, e]
theorem st_cs (h : ¬ (c a = 32 ∨ c a = 10)) (o : opC c n a = true) (e : nsE c n 0 a = some b) : stp c n a R = .inr (b, R) := by
  unfold stp; rw [if_neg h, if_pos o, e]
theorem st_d (h : ¬ (c a = 32 ∨ c a = 10)) (o : opC c n a = false) (q : kdO (c a) = 2) (e : enO c n 2 a = a + j) (d : dshO c a (a + j) = true) : stp c n a R = .inr (scE (fun x => !(x == 10)) c n (a + j), R) := by
  unfold stp; rw [if_neg h, if_neg (by rw [o]; decide), if_pos ⟨q, by rw [e]; exact d⟩, e]
theorem st_w (h : ¬ (c a = 32 ∨ c a = 10)) (o : opC c n a = false) (q : kdO (c a) = -1) : stp c n a R = .inl a := by
  unfold stp; rw [if_neg h, if_neg (by rw [o]; decide), if_neg (by rw [q]; exact fun z => absurd z.1 (by decide)), if_pos (Or.inl q)]
theorem st_l (h : ¬ (c a = 32 ∨ c a = 10)) (o : opC c n a = false) (q : kdO (c a) = k) (nd : ¬ (k = 2 ∧ dshO c a (enO c n 2 a) = true)) (k1 : ¬ k = -1) (e : enO c n k a = a + j) :
    stp c n a R = if R.length = 90 ∨ lngO k < j then .inl a else .inr (a + j, lxO k (pkO c k a (a + j)) c a R :: R) := by
  unfold stp
  rw [if_neg h, if_neg (by rw [o]; decide), q, if_neg nd, e, Nat.add_sub_cancel_left]
  by_cases z : R.length = 90 ∨ lngO k < j
  · rw [if_pos z, if_pos (Or.inr z.symm)]
  · rw [if_neg z, if_neg (fun y => y.elim k1 (fun w => z w.symm))]
theorem sc_skip {P : Int32 → Bool} : ∀ m, a + m ≤ n → (∀ i, i < m → P (c (a + i)) = true) → scE P c n a = scE P c n (a + m)
  | 0, _, _ => rfl
  | m + 1, h, p => by
    rw [sc_skip m (by omega) (fun i hi => p i (by omega)), scE_go (by omega) (p m (by omega))]; rfl
theorem al_at {v : Int32} : ∀ m, alB c v a m = true → ∀ i, i < m → c (a + i) = v
  | 0, _, i, hi => absurd hi (Nat.not_lt_zero _)
  | m + 1, h, i, hi => by
    rw [alB, Bool.and_eq_true] at h
    by_cases q : i = m
    · rw [q]; simpa using h.2
    · exact al_at m h.1 i (by omega)
theorem ds_skip (hj : a + j ≤ n) (d : dshO c a (a + j) = true) : scE (fun x => !(x == 10)) c n a = scE (fun x => !(x == 10)) c n (a + j) := by
  unfold dshO at d
  rw [Nat.add_sub_cancel_left, Bool.and_eq_true] at d
  exact sc_skip j hj (fun i hi => by rw [al_at j d.2 i hi]; decide)
end STQ
/-- what a lexeme leaves -/
theorem lx_pk {c : Nat → Int32} {n a j at' lx' : Nat} {k b' p' zp : Int32} {R S : List Lx} {X : Option Nat × List Lx} {kd : Nat → Int32} {vl : Nat → Int64} {wh col ld : Nat → Int32} (hL : a < n) (hX : X = cuE c n a R) (hst : stp c n a R = if R.length = 90 ∨ lngO k < j then .inl a else .inr (a + j, S))
    (q0 : (R.length = 90 ∨ lngO k < j) → (¬ b' = 0 ∧ p' = nI a ∧ Rp kd vl wh col ld R ∧ lx' = R.length)) (q1 : ¬ (R.length = 90 ∨ lngO k < j) → (b' = 0 ∧ at' = a + j ∧ p' = zp ∧ Rp kd vl wh col ld S ∧ lx' = R.length + 1)) (hS : S.length = R.length + 1) :
    Rp kd vl wh col ld (if R.length = 90 ∨ lngO k < j then R else S) ∧ lx' = (if R.length = 90 ∨ lngO k < j then R else S).length ∧ (b' = 0 → (X = cuE c n at' (if R.length = 90 ∨ lngO k < j then R else S) ∧ p' = zp)) ∧ (¬ b' = 0 → ∃ p, X = (some p, (if R.length = 90 ∨ lngO k < j then R else S)) ∧ p' = nI p) ∧ (a < at' ∨ ¬ b' = 0) := by
  by_cases z : R.length = 90 ∨ lngO k < j
  · rw [if_pos z] at hst ⊢
    obtain ⟨h1, h2, h3, h4⟩ := q0 z
    exact ⟨h3, h4, fun e => absurd e h1, fun _ => ⟨a, hX.trans (cuE_stop hL hst), h2⟩, Or.inr h1⟩
  · rw [if_neg z] at hst ⊢
    obtain ⟨h1, h2, h3, h4, h5⟩ := q1 z
    have hin := stp_in hL hst
    subst h2
    exact ⟨h4, h5.trans hS.symm, fun _ => ⟨hX.trans (cuE_go hL hst), h3⟩, fun e => absurd h1 e, Or.inl (by omega)⟩

/-! rows of lexemes out of a list, and what a step leaves -/
def kA : List Lx → Nat → Int32
  | [] => fun _ => 0
  | x :: L => upd (kA L) L.length x.1
def vA : List Lx → Nat → Int64
  | [] => fun _ => 0
  | x :: L => vp_updL (vA L) L.length x.2.1
def wA : List Lx → Nat → Int32
  | [] => fun _ => 0
  | x :: L => upd (wA L) L.length (nI x.2.2.1)
def cA : List Lx → Nat → Int32
  | [] => fun _ => 0
  | x :: L => upd (cA L) L.length (nI x.2.2.2.1)
def dA : List Lx → Nat → Int32
  | [] => fun _ => 0
  | x :: L => upd (dA L) L.length (b01 x.2.2.2.2)
theorem Rp_at {kd : Nat → Int32} {vl : Nat → Int64} {wh col ld : Nat → Int32} : ∀ L : List Lx, Rp kd vl wh col ld L → ∀ i, i < L.length → kd i = kA L i ∧ vl i = vA L i ∧ wh i = wA L i ∧ col i = cA L i ∧ ld i = dA L i
  | [], _, i, h => absurd h (Nat.not_lt_zero _)
  | x :: L, ⟨h1, h2, h3, h4, h5, h6⟩, i, hi => by
    rw [List.length_cons] at hi
    by_cases q : i = L.length
    · subst q
      exact ⟨h1.trans (if_pos rfl).symm, h2.trans (if_pos rfl).symm, h3.1.trans (if_pos rfl).symm, h4.trans (if_pos rfl).symm, h5.trans (if_pos rfl).symm⟩
    · obtain ⟨g1, g2, g3, g4, g5⟩ := Rp_at L h6 i (by omega)
      exact ⟨g1.trans (if_neg q).symm, g2.trans (if_neg q).symm, g3.trans (if_neg q).symm, g4.trans (if_neg q).symm, g5.trans (if_neg q).symm⟩
def hdW (L : List Lx) (a : Nat) : Prop := ∀ x, L.head? = some x → lxW x < a
theorem hdW.mono {L : List Lx} {a b : Nat} (h : hdW L a) (hab : a ≤ b) : hdW L b := fun x hx => Nat.lt_of_lt_of_le (h x hx) hab
theorem hdW.nil {a : Nat} : hdW [] a := fun x hx => by cases hx
theorem ld_new {L : List Lx} {a : Nat} (h : hdW L a) : ldO L a = true := by
  cases L with
  | nil => rfl
  | cons x L => exact decide_eq_true (h x rfl)
theorem ln_ch {c : Nat → Int32} {a : Nat} {z : Int32} (h : z = nI (lnO c a)) : (if c a = 10 then nI (a + 1) else z) = nI (lnO c (a + 1)) := by
  rw [lnO, h]
  split <;> rfl
theorem fr_ch {c : Nat → Int32} {a : Nat} {z : Int32} {L : List Lx} (h : z = b01 (ldO L (lnO c a))) (hw : hdW L a) : (if c a = 10 then 1 else z) = b01 (ldO L (lnO c (a + 1))) := by
  rw [lnO, h]
  split
  · rw [ld_new (hw.mono (Nat.le_succ _))]; rfl
  · rfl
theorem ln_2 {c : Nat → Int32} {a : Nat} (h1 : ¬ c a = 10) (h2 : ¬ c (a + 1) = 10) : lnO c (a + 2) = lnO c a := by
  rw [lnO, if_neg h2, lnO, if_neg h1]
theorem ln_op {c : Nat → Int32} {n a : Nat} (h : opC c n a = true) : lnO c (a + 2) = lnO c a ∧ a + 1 < n := by
  simp only [opC, Bool.and_eq_true, beq_iff_eq, decide_eq_true_eq] at h
  exact ⟨ln_2 (by rw [h.1]; decide) (by rw [h.2.2]; decide), h.2.1⟩
theorem ln_cl {c : Nat → Int32} {n a : Nat} (h : clC c n a = true) : lnO c (a + 2) = lnO c a ∧ a + 1 < n := by
  simp only [clC, Bool.and_eq_true, beq_iff_eq, decide_eq_true_eq] at h
  exact ⟨ln_2 (by rw [h.1]; decide) (by rw [h.2.2]; decide), h.2.1⟩
theorem col_e {a l : Nat} {z : Int32} (h : z = nI l) (hl : l ≤ a) : nI a - z + 1 = nI (a - l + 1) := by
  rw [h, pk_sub (a := a) (b := l) hl]; exact nI_add _ 1
