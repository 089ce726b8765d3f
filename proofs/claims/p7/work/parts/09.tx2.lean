/-! what a throw needs beside the tables' words: statics of Throwable, castables, String constants: carried from the law's start -/
def tx_st : List Cond := [.laysStatic Bundle.tN "UNASSIGNED_STACK" Bundle.steD, .laysStatic Bundle.tN "SUPPRESSED_SENTINEL" Bundle.listD, .isRef (.static Bundle.tN "UNASSIGNED_STACK" Bundle.steD), .isRef (.static Bundle.tN "SUPPRESSED_SENTINEL" Bundle.listD)]
def tx_on : List Cond := [.castable xIAE xIAE, .castable xIOB xIOB, .castable xISE xISE, .declares (Bundle.initS "java/lang/RuntimeException"), .declares (Bundle.initS "java/lang/Exception"), .declares (Bundle.initS Bundle.tN)]
theorem tx_rest : ∀ w ∈ xat.filter (fun w => !goodWord w), w ∈ tx_st ++ tx_on := by decide +kernel
theorem tx_laysStatic {u U : State} {C n d : String} {a a' : Array Value} (hv : U.vm = u.vm) (hk : ∀ z : Nat, z < u.heap.size → U.heap[z]? = u.heap[z]?) (h : (Cond.laysStatic C n d).before a u = true) : (Cond.laysStatic C n d).before a' U = true := by
  obtain ⟨c, k, i, f, q, cell, hc, hi, hst, ha, hcell, hs, hcls, hlt, hty⟩ := Cond.laysStatic_spec h
  have hi' : U.fieldFound? C n d = some (c, k, i, f) := by
    have h1 := hi
    unfold State.fieldFound? at h1 ⊢
    rw [hv]; exact h1
  have hc' : U.vm.findClass C = some c := by rw [hv]; exact hc
  have hcell' : U.heap[q]? = some cell := by rw [hk q (Array.getElem?_eq_some_iff.mp hcell).1]; exact hcell
  simp [Cond.before, Cond.holds, Cond.value, hc', hi', ha, hcell', hst, hs, hcls, hlt, hty]
theorem tx_isRef {u U : State} {C n d : String} {a a' : Array Value} (hv : U.vm = u.vm) (hk : ∀ z : Nat, z < u.heap.size → U.heap[z]? = u.heap[z]?) (h0 : (Cond.laysStatic C n d).before a u = true) (h : (Cond.isRef (.static C n d)).before a u = true) : (Cond.isRef (.static C n d)).before a' U = true := by
  obtain ⟨c, k, i, f, q, cell, hc, hi, hst, ha, hcell, hs, hcls, hlt, hty⟩ := Cond.laysStatic_spec h0
  have hi' : U.fieldFound? C n d = some (c, k, i, f) := by
    have h1 := hi
    unfold State.fieldFound? at h1 ⊢
    rw [hv]; exact h1
  have hcell' : U.heap[q]? = some cell := by rw [hk q (Array.getElem?_eq_some_iff.mp hcell).1]; exact hcell
  have e1 : (Term.static C n d).eval a u none [] u = cell.slots[f.slot]? := by simp [Term.eval, State.fieldNamed?, hi, hst, ha, hcell, hs]
  have e2 : (Term.static C n d).eval a' U none [] U = cell.slots[f.slot]? := by simp [Term.eval, State.fieldNamed?, hi', hst, ha, hcell', hs]
  simp only [Cond.before, Cond.holds, Cond.value] at h ⊢
  rw [e2, ← e1]; exact h
def tx_str : List (Nat × String) := [(67, "not 1 to 8 characters"), (78, "more than 240 characters"), (92, "no such side or level"), (97, "more than 12 fixities"), (115, "more than 90 lexemes"), (125, "the text is wrong"), (163, "no such token"), (174, "no such count")]
def tx_no : Cond := .not (.castable xISE xIAE)
def tx_C (U : State) : Prop := (∀ w ∈ tx_st, w.before #[] U = true) ∧ (∀ w ∈ tx_on, va_Nw w U) ∧ va_Nw tx_no U ∧ ∀ z ∈ tx_str, ∃ q, vk_R R_LF z.1 z.2 q U
theorem tx_st_same {u U : State} (hv : U.vm = u.vm) (hk : ∀ z : Nat, z < u.heap.size → U.heap[z]? = u.heap[z]?) (h : ∀ w ∈ tx_st, w.before #[] u = true) : ∀ w ∈ tx_st, w.before #[] U = true := by
  have h1 := h _ (List.mem_of_getElem? (i := 0) rfl)
  have h2 := h _ (List.mem_of_getElem? (i := 1) rfl)
  have h3 := h _ (List.mem_of_getElem? (i := 2) rfl)
  have h4 := h _ (List.mem_of_getElem? (i := 3) rfl)
  intro w hw
  simp only [tx_st, List.mem_cons, List.not_mem_nil, or_false] at hw
  rcases hw with rfl | rfl | rfl | rfl
  · exact tx_laysStatic hv hk h1
  · exact tx_laysStatic hv hk h2
  · exact tx_isRef hv hk h1 h3
  · exact tx_isRef hv hk h2 h4
theorem tx_no_moved {u U : State} (hv : u.vm.Alike U.vm) (h : va_Nw tx_no u) : va_Nw tx_no U := by
  have h1 := Cond.holds_not_iff.mp h
  refine Cond.holds_not_iff.mpr ?_
  simp only [Cond.value] at h1 ⊢
  rw [hv.findClass, hv.findClass]
  cases ha : u.vm.findClass xISE with
  | none => simp [ha] at h1
  | some a =>
    cases hb : u.vm.findClass xIAE with
    | none => simp [ha, hb] at h1
    | some b =>
      simp only [ha, hb] at h1 ⊢
      rw [hv.assignable]; exact h1
theorem tx_C.same {u U : State} (hv : U.vm = u.vm) (hh : U.heap = u.heap) (h : tx_C u) : tx_C U := by
  obtain ⟨h1, h2, h8, h3⟩ := h
  refine ⟨tx_st_same hv (fun z _ => by rw [hh]) h1, fun w hw => ?_, tx_no_moved (by rw [hv]; exact Vm.Alike.refl _) h8, fun z hz => (h3 z hz).imp fun q hq => hq.same hv⟩
  have h7 := h2 w hw
  simp only [tx_on, List.mem_cons, List.not_mem_nil, or_false] at hw
  rcases hw with rfl | rfl | rfl | rfl | rfl | rfl <;> exact va_Nw.same rfl hv.symm h7
theorem tx_C.warm {s U : State} (hW : s.WarmedH U.vm) (hk : ∀ z : Nat, z < s.heap.size → U.heap[z]? = s.heap[z]?) (h : tx_C s) : tx_C U := by
  obtain ⟨h1, h2, h8, h3⟩ := h
  have h0 : ∀ w ∈ tx_st, w.before #[] (s.setVm U.vm) = true := fun w hw => by
    have h7 := h1 w hw
    simp only [tx_st, List.mem_cons, List.not_mem_nil, or_false] at hw
    rcases hw with rfl | rfl | rfl | rfl <;> exact Cond.holds_shifted (args := #[]) (o := none) (State.Shifted.of_warmed hW) _ [] rfl h7
  refine ⟨tx_st_same (u := s.setVm U.vm) rfl hk h0, fun w hw => ?_, tx_no_moved hW.alike h8, fun z hz => (h3 z hz).imp fun q hq => hq.warm hW⟩
  have h7 := h2 w hw
  simp only [tx_on, List.mem_cons, List.not_mem_nil, or_false] at hw
  rcases hw with rfl | rfl | rfl | rfl | rfl | rfl
  · exact va_Nw.warmC hW h7
  · exact va_Nw.warmC hW h7
  · exact va_Nw.warmC hW h7
  · exact va_Nw.warmD hW h7
  · exact va_Nw.warmD hW h7
  · exact va_Nw.warmD hW h7
theorem tx_hat {args : Array Value} {s : State} (hz : ∀ w ∈ wz, w.before args s = true) (h : tx_C s) : ∀ w ∈ xat, w.before args s = true := by
  intro w hw
  by_cases hg : goodWord w = true
  · exact hz w (zx hw hg)
  · have h1 : w ∈ tx_st ++ tx_on := tx_rest w (List.mem_filter.mpr ⟨hw, by simpa using hg⟩)
    rcases List.mem_append.mp h1 with h2 | h2
    · have h3 := h.1 w h2
      have h4 := tx_st_same (u := s) (U := s) rfl (fun _ _ => rfl) h.1 w h2
      simp only [tx_st, List.mem_cons, List.not_mem_nil, or_false] at h2
      have i1 := h.1 _ (List.mem_of_getElem? (i := 0) rfl)
      have i2 := h.1 _ (List.mem_of_getElem? (i := 1) rfl)
      rcases h2 with rfl | rfl | rfl | rfl
      · exact tx_laysStatic (u := s) rfl (fun _ _ => rfl) h3
      · exact tx_laysStatic (u := s) rfl (fun _ _ => rfl) h3
      · exact tx_isRef (u := s) rfl (fun _ _ => rfl) i1 h3
      · exact tx_isRef (u := s) rfl (fun _ _ => rfl) i2 h3
    · have h3 := h.2.1 w h2
      simp only [tx_on, List.mem_cons, List.not_mem_nil, or_false] at h2
      rcases h2 with rfl | rfl | rfl | rfl | rfl | rfl <;> exact va_Nw.use rfl h3
theorem tx_hIAE {args : Array Value} {s : State} (hz : ∀ w ∈ wz, w.before args s = true) (h : tx_C s) : ∀ w ∈ Bundle.ownAtoms R_LF 69 xIAE xup, w.before args s = true := fun w hw => tx_hat hz h w (List.mem_append_left _ hw)
theorem tx_hIOB {args : Array Value} {s : State} (hz : ∀ w ∈ wz, w.before args s = true) (h : tx_C s) : ∀ w ∈ Bundle.ownAtoms R_LF 165 xIOB xup, w.before args s = true := fun w hw => tx_hat hz h w (List.mem_append_right _ (List.mem_append_left _ hw))
theorem tx_hISE {args : Array Value} {s : State} (hz : ∀ w ∈ wz, w.before args s = true) (h : tx_C s) : ∀ w ∈ Bundle.ownAtoms R_LF 80 xISE xup, w.before args s = true := fun w hw => tx_hat hz h w (List.mem_append_right _ (List.mem_append_right _ hw))
theorem zH {args : Array Value} {s : State} {y : MethodName} {b : ByteArray} {n : Nat} {r : Option FieldType} {hh : List (Nat × Nat × Nat × Nat)} (hz : ∀ w ∈ wz, w.before args s = true) (h : Cond.codeWith y b n r hh ∈ wz) : ∀ w ∈ Cond.codeWith y b n r hh :: wz, ∀ (a' : Array Value) (U : State), s.WarmedH U.vm → w.before a' U = true :=
  fun w hw a' U hW => (List.mem_cons.mp hw).elim (fun e => by rw [e]; exact word_at hW (zgood _ h).2 (hz _ h)) (fun h2 => word_at hW (zgood w h2).2 (hz w h2))
