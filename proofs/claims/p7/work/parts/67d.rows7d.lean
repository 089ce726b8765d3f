/-! the class's Row and Resolver, their answers -/
section RWD
variable {a b c lv sd mp fi la pf pl : Nat → Int32} {n nw no np : Nat} {o l x y z : Int32} {L : List It}
theorem wh_a (h : o = 0) : (0 : Int32) = b01 (wh7 (L, decide (¬ o = 0), decide (¬ l = 0))) := by
  unfold wh7; rw [decide_eq_false (fun w => w h)]; rfl
theorem wh_b (h : ¬ l = 0) : (0 : Int32) = b01 (wh7 (L, decide (¬ o = 0), decide (¬ l = 0))) := by
  unfold wh7; rw [decide_eq_true h]; simp [b01]
theorem wh_c (h : eo7 L = false) : (0 : Int32) = b01 (wh7 (L, decide (¬ o = 0), decide (¬ l = 0))) := by
  unfold wh7; rw [h]; simp [b01]
theorem wh_d (h1 : ¬ o = 0) (h2 : l = 0) (h3 : eo7 L = true) : (1 : Int32) = b01 (wh7 (L, decide (¬ o = 0), decide (¬ l = 0))) := by
  unfold wh7; rw [decide_eq_true h1, decide_eq_false (fun w => w h2), h3]; rfl
theorem lk_1 (h : ¬ l = 0) : decide (¬ (1 : Int32) = 0) = decide (¬ l = 0) := by rw [decide_eq_true h]; rfl
theorem lk_0 (h : l = 0) : decide (¬ (0 : Int32) = 0) = decide (¬ l = 0) := by subst h; rfl
theorem lk_2 (h : ¬ l = 0) : decide (¬ (1 : Int32) = 0) = (decide (¬ l = 0) || !decide (¬ y = 0)) := by rw [decide_eq_true h]; rfl
theorem lk_3 (h : l = 0) (hd : ¬ y = 0) : decide (¬ (0 : Int32) = 0) = (decide (¬ l = 0) || !decide (¬ y = 0)) := by subst h; rw [decide_eq_true hd]; rfl
theorem lk_4 (h : l = 0) (hd : y = 0) : decide (¬ (1 : Int32) = 0) = (decide (¬ l = 0) || !decide (¬ y = 0)) := by subst h; subst hd; rfl
theorem gs_m (hw : 1 ≤ nw) (ho : 1 ≤ no) (hm : ¬ mp (nw - 1) = -1) : (z3 lv sd mp (nw - 1), z2 (upd fi (no - 1) (mp (nw - 1))) la no, z2 (upd pf np ((upd fi (no - 1) (mp (nw - 1))) (no - 1))) (upd pl np (la (no - 1))) (np + 1)) = gv7 (z3 lv sd mp nw, z2 fi la no, z2 pf pl np) := by
  rw [z2_put, z2_pop (a := upd fi (no - 1) (mp (nw - 1))) ho, upd_eq, z2_cg (a' := fi) (b' := la) (no - 1) (fun j hj => ⟨upd_ne (by omega), rfl⟩), z3_pop hw, z2_pop (a := fi) ho]
  unfold gv7
  show _ = (if mp (nw - 1) = -1 then _ else (z3 lv sd mp (nw - 1), (mp (nw - 1), la (no - 1)) :: z2 fi la (no - 1), (mp (nw - 1), la (no - 1)) :: z2 pf pl np))
  rw [if_neg hm]
theorem gs_b (hw : 1 ≤ nw) (ho : 2 ≤ no) (hm : mp (nw - 1) = -1) : (z3 lv sd mp (nw - 1), z2 fi (upd la (no - 1 - 1) (la (no - 1))) (no - 1), z2 (upd pf np (fi (no - 1 - 1))) (upd pl np ((upd la (no - 1 - 1) (la (no - 1))) (no - 1 - 1))) (np + 1)) = gv7 (z3 lv sd mp nw, z2 fi la no, z2 pf pl np) := by
  rw [z2_put, z2_pop (b := upd la (no - 1 - 1) (la (no - 1))) (n := no - 1) (by omega), upd_eq, z2_cg (a' := fi) (b' := la) (no - 1 - 1) (fun j hj => ⟨rfl, upd_ne (by omega)⟩), z3_pop hw, z2_pop (a := fi) (b := la) (n := no) (by omega), z2_pop (a := fi) (b := la) (n := no - 1) (by omega)]
  unfold gv7
  show _ = (if mp (nw - 1) = -1 then (z3 lv sd mp (nw - 1), (fi (no - 1 - 1), la (no - 1)) :: z2 fi la (no - 1 - 1), (fi (no - 1 - 1), la (no - 1)) :: z2 pf pl np) else _)
  rw [if_pos hm]
theorem gs_1 (hw : 1 ≤ nw) (ho : no = 1) (hm : mp (nw - 1) = -1) : (z3 lv sd mp (nw - 1), z2 fi la no, z2 (upd pf np (fi (no - 1))) (upd pl np (la (no - 1))) (np + 1)) = gv7 (z3 lv sd mp nw, z2 fi la no, z2 pf pl np) := by
  subst ho
  rw [z2_put, z3_pop hw]
  unfold gv7
  show _ = (if mp (nw - 1) = -1 then (z3 lv sd mp (nw - 1), [(fi 0, la 0)], (fi 0, la 0) :: z2 pf pl np) else _)
  rw [if_pos hm]; rfl
theorem pf_u {j : Nat} (h : j < np) : upd pf np x j = pf j ∧ upd pl np y j = pl j := ⟨if_neg (by omega), if_neg (by omega)⟩
theorem mn_0 {O R : List Sp} (h : nw ≤ 0) : mn7 x (z3 lv sd mp nw, O, R) = some (ps7 6 0 x (z3 lv sd mp nw, O, R)) := by
  rw [Nat.le_zero.mp h]; rfl
theorem mn_1 {O R : List Sp} (h : 1 ≤ nw) (q : lv (nw - 1) < 6) : mn7 x (z3 lv sd mp nw, O, R) = some (ps7 6 0 x (z3 lv sd mp nw, O, R)) := by
  rw [z3_pop h]
  unfold mn7
  show (if 6 ≤ lv (nw - 1) then none else some _) = _
  rw [if_neg (Int32.not_le.mpr q)]
theorem mn_2 {O R : List Sp} (h : 1 ≤ nw) (q : ¬ lv (nw - 1) < 6) : mn7 x (z3 lv sd mp nw, O, R) = none := by
  rw [z3_pop h]
  unfold mn7
  show (if 6 ≤ lv (nw - 1) then none else some _) = _
  rw [if_pos (Int32.not_lt.mp q)]
theorem ps_z {O R : List Sp} : (z3 (upd lv nw x) (upd sd nw y) (upd mp nw z) (nw + 1), O, R) = ps7 x y z (z3 lv sd mp nw, O, R) := by
  unfold ps7; rw [z3_put]
theorem tk_more {lv sd : Int32} : ∀ (f g : Nat) (x : Rs), x.1.length ≤ f → x.1.length ≤ g → 1 ≤ x.2.1.length → tk7 lv sd f x = tk7 lv sd g x
  | 0, 0, _, _, _, _ => rfl
  | 0, g + 1, x, h, _, _ => by
    have e : x.1 = [] := List.length_eq_zero_iff.mp (by omega)
    rw [tk7, tk7, e]
  | f + 1, 0, x, _, h, _ => by
    have e : x.1 = [] := List.length_eq_zero_iff.mp (by omega)
    rw [tk7, tk7, e]
  | f + 1, g + 1, x, h1, h2, ho => by
    rw [tk7, tk7]
    have hg := gv_1 ho
    cases hx : x.1 with
    | nil => rfl
    | cons w W =>
      rw [hx, List.length_cons] at h1 h2
      have hl : (gv7 x).1.length = W.length := by rw [hg.2.1, hx]; rfl
      rw [tk_more f g (gv7 x) (by omega) (by omega) hg.1]
theorem tkE_n {l s : Int32} {x : Rs} (h : x.1 = []) : tkE l s x = some (ps7 l s (-1) x) := by
  unfold tkE; rw [h]; rfl
theorem tkE_c {l s : Int32} {x : Rs} {w : Wt} {W : List Wt} (h : x.1 = w :: W) : 1 ≤ x.2.1.length → tkE l s x = if w.1 = l ∧ (¬ w.2.1 = s ∨ s = 2) then none else if w.1 < l ∨ (w.1 = l ∧ ¬ s = 0) then some (ps7 l s (-1) x) else tkE l s (gv7 x) := by
  intro ho
  have hg := gv_1 ho
  have e : tkE l s x = tk7 l s (W.length + 1) x := by
    unfold tkE; rw [h, List.length_cons]
  rw [e, tk7, h]
  show (if w.1 = l ∧ (¬ w.2.1 = s ∨ s = 2) then none else if w.1 < l ∨ (w.1 = l ∧ ¬ s = 0) then some (ps7 l s (-1) x) else tk7 l s W.length (gv7 x)) = _
  have hl : (gv7 x).1.length = W.length := by rw [hg.2.1, h]; rfl
  rw [show tk7 l s W.length (gv7 x) = tkE l s (gv7 x) by unfold tkE; rw [hl]]
end RWD
