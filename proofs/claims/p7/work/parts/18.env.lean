/-! what the methods need beside the tables' words, carried as one premise: statics of Throwable, castables, the constant texts, the two constant rows -/
theorem cx_warm {s U : State} (hv : U.vm = s.vm) : s.WarmedH U.vm := by rw [hv]; exact State.WarmedH.refl s
theorem cx_hz {args : Array Value} {s U : State} (hz : ∀ w ∈ wz, w.before args s = true) (hv : U.vm = s.vm) : ∀ w ∈ wz, w.before args U = true := fun w h => word_at (cx_warm hv) (zgood w h).2 (hz w h)
theorem cx_grown {D : va_G} {cl : List vw_C} {ws : va_W} {H H1 : Heap} (h : va_P D cl ws H) (hs : ∀ q : Nat, q < H.size → H1[q]? = H[q]?) : va_P D cl ws H1 := h.kept fun k q hk => hs _ (h k q hk).lt
def tz_L (C n d : String) (A : Nat → Prop) (U : State) (H : Heap) : Prop := ∃ (c : ClassId) (k : Class) (i : Nat) (f : Field) (q : Nat) (cell : Cell) (v : Value), U.vm.findClass C = some c ∧ U.fieldFound? C n d = some (c, k, i, f) ∧ f.isStatic = true ∧ k.statics = some q ∧ H[q]? = some cell ∧ cell.vm.isStatics = true ∧ cell.cls = c ∧ f.slot < cell.slots.size ∧ k.staticTypes[f.slot]? = some f.type ∧ cell.slots[f.slot]? = some v ∧ v.isRef = true ∧ ¬ A q
theorem tz_L.moved {C n d : String} {A : Nat → Prop} {u U : State} {H : Heap} (hvm : u.vm.Alike U.vm) (h : tz_L C n d A u H) : tz_L C n d A U H := by
  obtain ⟨c, k, i, f, q, cell, v, h1, h2, h3, h4, h5, h6, h7, h8, h9, h10, h11, h12⟩ := h
  obtain ⟨k', hi', he⟩ := State.fieldFound?_setVm hvm h2
  exact ⟨c, k', i, f, q, cell, v, by rw [hvm.findClass]; exact h1, hi', h3, by rw [he]; exact h4, h5, h6, h7, h8, by rw [he]; exact h9, h10, h11, h12⟩
theorem tz_L.kept {C n d : String} {A : Nat → Prop} {U : State} {H H1 : Heap} (h : tz_L C n d A U H) (hq : ∀ a : Nat, a < H.size → ¬ A a → H1[a]? = H[a]?) : tz_L C n d A U H1 := by
  obtain ⟨c, k, i, f, q, cell, v, h1, h2, h3, h4, h5, h6, h7, h8, h9, h10, h11, h12⟩ := h
  exact ⟨c, k, i, f, q, cell, v, h1, h2, h3, h4, by rw [hq q (Array.getElem?_eq_some_iff.mp h5).1 h12]; exact h5, h6, h7, h8, h9, h10, h11, h12⟩
theorem tz_L.narrow {C n d : String} {A B : Nat → Prop} {U : State} {H : Heap} (h : tz_L C n d A U H) (hAB : ∀ q, B q → A q) : tz_L C n d B U H := by
  obtain ⟨c, k, i, f, q, cell, v, h1, h2, h3, h4, h5, h6, h7, h8, h9, h10, h11, h12⟩ := h
  exact ⟨c, k, i, f, q, cell, v, h1, h2, h3, h4, h5, h6, h7, h8, h9, h10, h11, fun z => h12 (hAB q z)⟩
theorem tz_L.lays {C n d : String} {A : Nat → Prop} {U : State} {args : Array Value} (h : tz_L C n d A U U.heap) : (Cond.laysStatic C n d).before args U = true := by
  obtain ⟨c, k, i, f, q, cell, v, h1, h2, h3, h4, h5, h6, h7, h8, h9, h10, h11, -⟩ := h
  simp [Cond.before, Cond.holds, Cond.value, h1, h2, h3, h4, h5, h6, h7, h8, h9]
theorem tz_L.isRef {C n d : String} {A : Nat → Prop} {U : State} {args : Array Value} (h : tz_L C n d A U U.heap) : (Cond.isRef (.static C n d)).before args U = true := by
  obtain ⟨c, k, i, f, q, cell, v, h1, h2, h3, h4, h5, h6, h7, h8, h9, h10, h11, -⟩ := h
  have e : (Term.static C n d).eval args U none [] U = some v := by simp [Term.eval, State.fieldNamed?, h2, h3, h4, h5, h6, h10]
  simp only [Cond.before, Cond.holds, Cond.value, e]
  cases v <;> simp_all [Value.isRef]
def cx_T (a n : Nat) (f : Nat → Int64) (A : Nat → Prop) (U : State) (H : Heap) : Prop := va_T .long a n (fun j => .long (f j)) A U H
theorem cx_T.same {a n : Nat} {f : Nat → Int64} {A : Nat → Prop} {u U : State} {H : Heap} (hv : U.vm = u.vm) (h : cx_T a n f A u H) : cx_T a n f A U H := va_T.moved (by rw [hv]; exact Vm.Alike.refl _) h
theorem cx_T.to {a n : Nat} {f : Nat → Int64} {A B : Nat → Prop} {s U : State} {H : Heap} {locs : List Loc} (hW : s.WarmedH U.vm) (hS : va_S A s.heap H locs) (hF : ∀ q, B q → A q) (h : cx_T a n f A s s.heap) : cx_T a n f B U H := va_T.moved hW.alike (va_T.narrow (va_T.kept h hS.2.1) hF)
/-! the contents of the constant rows and texts -/
def wWd : Nat → Int64 := fun j => ([7628140, 435710945399, 28516, 26223, 28265, 26217, 1852139636, 1702063205, 1702060387] : List Int64).getD j 0
def wRs : Nat → Int64 := fun j => ([61, 15917, 11580, 124, 14906, 15933, 92, 64, 126, 11822] : List Int64).getD j 0
def bt1 : Nat → Int32 := fun j => ([33, 35, 36, 37, 38, 42, 43, 46, 47, 60, 61, 62, 63, 64, 92, 94, 124, 45, 126, 58] : List Int32).getD j 0
def bt2 : Nat → Int32 := fun j => ([40, 41, 91, 93, 123, 125, 44, 59, 96] : List Int32).getD j 0
def cx_A (nm : String) (idx N : Nat) (f : Nat → Int64) (A : Nat → Prop) (U : State) (H : Heap) : Prop := ∃ (a : Nat), va_Nw (.fieldLinkNest R_Tokens idx "LayoutFront" nm "[J" "LayoutFront") U ∧ va_Z "LayoutFront" nm "[J" (.ref a) A U H ∧ cx_T a N f A U H
theorem cx_A.warm {nm : String} {idx N : Nat} {f : Nat → Int64} {A : Nat → Prop} {s U : State} {H : Heap} (hW : s.WarmedH U.vm) (h : cx_A nm idx N f A s H) : cx_A nm idx N f A U H := by
  obtain ⟨a, h1, h2, h3⟩ := h
  exact ⟨a, va_Nw.warmF hW h1, va_Z.moved hW.alike h2, va_T.moved hW.alike h3⟩
theorem cx_A.kept {nm : String} {idx N : Nat} {f : Nat → Int64} {A : Nat → Prop} {U : State} {H H1 : Heap} (h : cx_A nm idx N f A U H) (hq : ∀ a : Nat, a < H.size → ¬ A a → H1[a]? = H[a]?) : cx_A nm idx N f A U H1 := by
  obtain ⟨a, h1, h2, h3⟩ := h
  exact ⟨a, h1, h2.kept hq, va_T.kept h3 hq⟩
theorem cx_A.narrow {nm : String} {idx N : Nat} {f : Nat → Int64} {A B : Nat → Prop} {U : State} {H : Heap} (h : cx_A nm idx N f A U H) (hAB : ∀ q, B q → A q) : cx_A nm idx N f B U H := by
  obtain ⟨a, h1, h2, h3⟩ := h
  exact ⟨a, h1, h2.narrow hAB, va_T.narrow h3 hAB⟩
/-- a constant text, in one byte a character -/
def cx_O (q v n : Nat) (f : Nat → Int32) (A : Nat → Prop) (U : State) (H : Heap) : Prop := va_O "java/lang/String" q A U H ∧ va_OF "java/lang/String" "coder" "B" (.int 0) q A U H ∧ va_OF "java/lang/String" "value" "[B" (.ref v) q A U H ∧ va_T .byte v n (fun j => .int (f j)) A U H ∧ va_Z "java/lang/String" "COMPACT_STRINGS" "Z" (.int 1) A U H
theorem cx_O.moved {q v n : Nat} {f : Nat → Int32} {A : Nat → Prop} {u U : State} {H : Heap} (hvm : u.vm.Alike U.vm) (h : cx_O q v n f A u H) : cx_O q v n f A U H := ⟨va_O.moved hvm h.1, va_OF.moved hvm h.2.1, va_OF.moved hvm h.2.2.1, va_T.moved hvm h.2.2.2.1, va_Z.moved hvm h.2.2.2.2⟩
theorem cx_O.kept {q v n : Nat} {f : Nat → Int32} {A : Nat → Prop} {U : State} {H H1 : Heap} (h : cx_O q v n f A U H) (hq : ∀ a : Nat, a < H.size → ¬ A a → H1[a]? = H[a]?) : cx_O q v n f A U H1 := ⟨h.1.kept hq, h.2.1.kept hq, h.2.2.1.kept hq, h.2.2.2.1.kept hq, h.2.2.2.2.kept hq⟩
theorem cx_O.narrow {q v n : Nat} {f : Nat → Int32} {A B : Nat → Prop} {U : State} {H : Heap} (h : cx_O q v n f A U H) (hAB : ∀ q, B q → A q) : cx_O q v n f B U H := ⟨h.1.narrow hAB, h.2.1.narrow hAB, h.2.2.1.narrow hAB, h.2.2.2.1.narrow hAB, h.2.2.2.2.narrow hAB⟩
theorem cx_O.same {q v n : Nat} {f : Nat → Int32} {A : Nat → Prop} {u U : State} {H : Heap} (hv : U.vm = u.vm) (h : cx_O q v n f A u H) : cx_O q v n f A U H := cx_O.moved (by rw [hv]; exact Vm.Alike.refl _) h
theorem cx_O.to {q v n : Nat} {f : Nat → Int32} {A B : Nat → Prop} {s U : State} {H : Heap} {locs : List Loc} (hW : s.WarmedH U.vm) (hS : va_S A s.heap H locs) (hF : ∀ q, B q → A q) (h : cx_O q v n f A s s.heap) : cx_O q v n f B U H := cx_O.moved hW.alike (cx_O.narrow (cx_O.kept h hS.2.1) hF)
def cx_S (k : Nat) (tx : String) (n : Nat) (f : Nat → Int32) (A : Nat → Prop) (U : State) (H : Heap) : Prop := ∃ (q v : Nat), vk_R R_Cutter k tx q U ∧ cx_O q v n f A U H
theorem cx_S.warm {k n : Nat} {tx : String} {f : Nat → Int32} {A : Nat → Prop} {s U : State} {H : Heap} (hW : s.WarmedH U.vm) (h : cx_S k tx n f A s H) : cx_S k tx n f A U H := by
  obtain ⟨q, v, h1, h2⟩ := h
  exact ⟨q, v, h1.warm hW, h2.moved hW.alike⟩
theorem cx_S.kept {k n : Nat} {tx : String} {f : Nat → Int32} {A : Nat → Prop} {U : State} {H H1 : Heap} (h : cx_S k tx n f A U H) (hq : ∀ a : Nat, a < H.size → ¬ A a → H1[a]? = H[a]?) : cx_S k tx n f A U H1 := by
  obtain ⟨q, v, h1, h2⟩ := h
  exact ⟨q, v, h1, h2.kept hq⟩
theorem cx_S.narrow {k n : Nat} {tx : String} {f : Nat → Int32} {A B : Nat → Prop} {U : State} {H : Heap} (h : cx_S k tx n f A U H) (hAB : ∀ q, B q → A q) : cx_S k tx n f B U H := by
  obtain ⟨q, v, h1, h2⟩ := h
  exact ⟨q, v, h1, h2.narrow hAB⟩
def cx_t1 : String := "!#$%&*+./<=>?@\\^|-~:"
def cx_t2 : String := "()[]{},;`"
def cx_E (A : Nat → Prop) (U : State) (H : Heap) : Prop :=
  (tz_L Bundle.tN "UNASSIGNED_STACK" Bundle.steD A U H ∧ tz_L Bundle.tN "SUPPRESSED_SENTINEL" Bundle.listD A U H) ∧ (∀ w ∈ tx_on, va_Nw w U) ∧ va_Nw tx_no U ∧ (∀ z ∈ tx_str, ∃ q, vk_R R_LF z.1 z.2 q U) ∧ cx_A "WORDS" 35 9 wWd A U H ∧ cx_A "RESERVED" 42 10 wRs A U H ∧ cx_S 122 cx_t1 20 bt1 A U H ∧ cx_S 129 cx_t2 9 bt2 A U H
theorem cx_E.warm {A : Nat → Prop} {s U : State} {H : Heap} (hW : s.WarmedH U.vm) (h : cx_E A s H) : cx_E A U H := by
  obtain ⟨⟨h1, h2⟩, h3, h4, h5, h6, h7, h8, h9⟩ := h
  refine ⟨⟨h1.moved hW.alike, h2.moved hW.alike⟩, fun w hw => ?_, tx_no_moved hW.alike h4, fun z hz => (h5 z hz).imp fun q hq => hq.warm hW, h6.warm hW, h7.warm hW, h8.warm hW, h9.warm hW⟩
  have g := h3 w hw
  simp only [tx_on, List.mem_cons, List.not_mem_nil, or_false] at hw
  rcases hw with rfl | rfl | rfl | rfl | rfl | rfl
  · exact va_Nw.warmC hW g
  · exact va_Nw.warmC hW g
  · exact va_Nw.warmC hW g
  · exact va_Nw.warmD hW g
  · exact va_Nw.warmD hW g
  · exact va_Nw.warmD hW g
theorem cx_E.kept {A : Nat → Prop} {U : State} {H H1 : Heap} (h : cx_E A U H) (hq : ∀ a : Nat, a < H.size → ¬ A a → H1[a]? = H[a]?) : cx_E A U H1 := by
  obtain ⟨⟨h1, h2⟩, h3, h4, h5, h6, h7, h8, h9⟩ := h
  exact ⟨⟨h1.kept hq, h2.kept hq⟩, h3, h4, h5, h6.kept hq, h7.kept hq, h8.kept hq, h9.kept hq⟩
theorem cx_E.narrow {A B : Nat → Prop} {U : State} {H : Heap} (h : cx_E A U H) (hAB : ∀ q, B q → A q) : cx_E B U H := by
  obtain ⟨⟨h1, h2⟩, h3, h4, h5, h6, h7, h8, h9⟩ := h
  exact ⟨⟨h1.narrow hAB, h2.narrow hAB⟩, h3, h4, h5, h6.narrow hAB, h7.narrow hAB, h8.narrow hAB, h9.narrow hAB⟩
theorem cx_E.same {A : Nat → Prop} {u U : State} {H : Heap} (hv : U.vm = u.vm) (h : cx_E A u H) : cx_E A U H := cx_E.warm (cx_warm hv) h
theorem cx_E.to {A B : Nat → Prop} {s U : State} {H : Heap} {locs : List Loc} (hW : s.WarmedH U.vm) (hS : va_S A s.heap H locs) (hF : ∀ q, B q → A q) (h : cx_E A s s.heap) : cx_E B U H := cx_E.warm hW (cx_E.narrow (cx_E.kept h hS.2.1) hF)
theorem cx_E.at {A : Nat → Prop} {s U : State} {H : Heap} {locs : List Loc} (h : cx_E A s s.heap) (hS : va_S A s.heap H locs) (hv : U.vm = s.vm) (hh : U.heap = H) : cx_E A U U.heap := by
  rw [hh]; exact cx_E.same hv (cx_E.kept h hS.2.1)
theorem cx_E.msg {A : Nat → Prop} {U : State} {H : Heap} (h : cx_E A U H) : ∀ z ∈ tx_str, ∃ q, vk_R R_LF z.1 z.2 q U := h.2.2.2.1
theorem cx_E.words {A : Nat → Prop} {U : State} {H : Heap} (h : cx_E A U H) : cx_A "WORDS" 35 9 wWd A U H := h.2.2.2.2.1
theorem cx_E.reserved {A : Nat → Prop} {U : State} {H : Heap} (h : cx_E A U H) : cx_A "RESERVED" 42 10 wRs A U H := h.2.2.2.2.2.1
theorem cx_E.str122 {A : Nat → Prop} {U : State} {H : Heap} (h : cx_E A U H) : cx_S 122 cx_t1 20 bt1 A U H := h.2.2.2.2.2.2.1
theorem cx_E.str129 {A : Nat → Prop} {U : State} {H : Heap} (h : cx_E A U H) : cx_S 129 cx_t2 9 bt2 A U H := h.2.2.2.2.2.2.2
theorem cx_hat {A : Nat → Prop} {args : Array Value} {s : State} (hz : ∀ w ∈ wz, w.before args s = true) (h : cx_E A s s.heap) : ∀ w ∈ xat, w.before args s = true := by
  intro w hw
  by_cases hg : goodWord w = true
  · exact hz w (zx hw hg)
  · have h1 : w ∈ tx_st ++ tx_on := tx_rest w (List.mem_filter.mpr ⟨hw, by simpa using hg⟩)
    rcases List.mem_append.mp h1 with h2 | h2
    · simp only [tx_st, List.mem_cons, List.not_mem_nil, or_false] at h2
      rcases h2 with rfl | rfl | rfl | rfl
      · exact h.1.1.lays
      · exact h.1.2.lays
      · exact h.1.1.isRef
      · exact h.1.2.isRef
    · have h3 := h.2.1 w h2
      simp only [tx_on, List.mem_cons, List.not_mem_nil, or_false] at h2
      rcases h2 with rfl | rfl | rfl | rfl | rfl | rfl <;> exact va_Nw.use rfl h3
theorem cx_xIAE {A : Nat → Prop} {args : Array Value} {s : State} (hz : ∀ w ∈ wz, w.before args s = true) (h : cx_E A s s.heap) : ∀ w ∈ Bundle.ownAtoms R_LF 69 xIAE xup, w.before args s = true := fun w hw => cx_hat hz h w (List.mem_append_left _ hw)
theorem cx_xIOB {A : Nat → Prop} {args : Array Value} {s : State} (hz : ∀ w ∈ wz, w.before args s = true) (h : cx_E A s s.heap) : ∀ w ∈ Bundle.ownAtoms R_LF 165 xIOB xup, w.before args s = true := fun w hw => cx_hat hz h w (List.mem_append_right _ (List.mem_append_left _ hw))
theorem cx_xISE {A : Nat → Prop} {args : Array Value} {s : State} (hz : ∀ w ∈ wz, w.before args s = true) (h : cx_E A s s.heap) : ∀ w ∈ Bundle.ownAtoms R_LF 80 xISE xup, w.before args s = true := fun w hw => cx_hat hz h w (List.mem_append_right _ (List.mem_append_right _ hw))
def cx_B (a n : Nat) (f : Nat → Int32) (A : Nat → Prop) (U : State) (H : Heap) : Prop := va_T .byte a n (fun j => .int (f j)) A U H
theorem cx_B.same {a n : Nat} {f : Nat → Int32} {A : Nat → Prop} {u U : State} {H : Heap} (hv : U.vm = u.vm) (h : cx_B a n f A u H) : cx_B a n f A U H := va_T.moved (by rw [hv]; exact Vm.Alike.refl _) h
theorem cx_B.to {a n : Nat} {f : Nat → Int32} {A B : Nat → Prop} {s U : State} {H : Heap} {locs : List Loc} (hW : s.WarmedH U.vm) (hS : va_S A s.heap H locs) (hF : ∀ q, B q → A q) (h : cx_B a n f A s s.heap) : cx_B a n f B U H := va_T.moved hW.alike (va_T.narrow (va_T.kept h hS.2.1) hF)
theorem cx_recv {q v n : Nat} {f : Nat → Int32} {A : Nat → Prop} {s : State} {H : Heap} {locs : List Loc} (h : cx_O q v n f A s s.heap) (hS : va_S A s.heap H locs) : ∃ cell : Cell, H[q]? = some cell ∧ cell.vm.isStatics = false ∧ s.vm.findClass "java/lang/String" = some cell.cls := by
  obtain ⟨cell, h1, h2, h3, -⟩ := h.1.kept hS.2.1
  exact ⟨cell, h1, h2, h3⟩
