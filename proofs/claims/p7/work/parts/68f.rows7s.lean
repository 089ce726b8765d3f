/-! fixities as the reference finds them, and what waits -/
section RWS
variable {nm : Nat → Int64} {ar lv : Nat → Int32} {wh fr s wt : Nat → Int32} {v : Nat → Int64} {n st k j o w no np t : Nat} {d x l y : Int32} {F G : Int64 → Int32} {fi la pf pl : Nat → Int32} {O R : List Sp}
def lvM (nm : Nat → Int64) (ar : Nat → Int32) (d : Int32) (w : Int64) : Nat → Int32
  | 0 => d
  | n + 1 => if nm n = w then ar n else lvM nm ar d w n
theorem lm_0 {w : Int64} : ∀ n, n ≤ 600 → ¬ 0 ≤ fnN nm w n → d = lvM nm ar d w n
  | 0, _, _ => rfl
  | n + 1, hn, h => by
    rw [fnN] at h
    rw [lvM]
    by_cases q : nm n = w
    · rw [if_pos q] at h
      exact absurd ((nI_leI (a := 0) (b := n) (by omega) (by omega)).mpr (Nat.zero_le _)) h
    · rw [if_neg q] at h ⊢; exact lm_0 n (by omega) h
theorem lm_1 {w : Int64} : ∀ n, n ≤ 600 → 0 ≤ fnN nm w n → ar (fnN nm w n).toNatClampNeg = lvM nm ar d w n
  | 0, _, h => by rw [fnN] at h; exact absurd h (by decide)
  | n + 1, hn, h => by
    rw [fnN] at h ⊢
    rw [lvM]
    by_cases q : nm n = w
    · rw [if_pos q, if_pos q, nI_clamp (by omega)]
    · rw [if_neg q] at h; rw [if_neg q, if_neg q]; exact lm_1 n (by omega) h
def ln7 (wh fr s : Nat → Int32) (v : Nat → Int64) (n : Nat) (F : Int64 → Int32) (o : Nat) : Int32 := if wh o = 2 then 6 else F (v (cr s v n (fr o).toNatClampNeg))
def sn7 (wh fr s : Nat → Int32) (v : Nat → Int64) (n : Nat) (G : Int64 → Int32) (o : Nat) : Int32 := if wh o = 2 then 0 else G (v (cr s v n (fr o).toNatClampNeg))
theorem ll_2 (h : wh o = 2) : 6 = ln7 wh fr s v n F o := (if_pos h).symm
theorem ls_2 (h : wh o = 2) : 0 = sn7 wh fr s v n G o := (if_pos h).symm
theorem ll_9 (hs : st ≤ 600) (h : ¬ wh o = 2) (q : ¬ 0 ≤ fxT wh fr s v nm n st o) : 9 = ln7 wh fr s v n (fun z => lvM nm lv 9 z st) o := by
  unfold ln7; unfold fxT at q
  rw [if_neg h] at q ⊢
  exact lm_0 st hs q
theorem ll_v (hs : st ≤ 600) (h : ¬ wh o = 2) (q : 0 ≤ fxT wh fr s v nm n st o) (e : x = lv (fxT wh fr s v nm n st o).toNatClampNeg) : x = ln7 wh fr s v n (fun z => lvM nm lv 9 z st) o := by
  unfold ln7; unfold fxT at q e
  rw [if_neg h] at q e ⊢
  exact e.trans (lm_1 st hs q)
theorem ls_9 (hs : st ≤ 600) (h : ¬ wh o = 2) (q : ¬ 0 ≤ fxT wh fr s v nm n st o) : 0 = sn7 wh fr s v n (fun z => lvM nm lv 0 z st) o := by
  unfold sn7; unfold fxT at q
  rw [if_neg h] at q ⊢
  exact lm_0 st hs q
theorem ls_v (hs : st ≤ 600) (h : ¬ wh o = 2) (q : 0 ≤ fxT wh fr s v nm n st o) (e : x = lv (fxT wh fr s v nm n st o).toNatClampNeg) : x = sn7 wh fr s v n (fun z => lvM nm lv 0 z st) o := by
  unfold sn7; unfold fxT at q e
  rw [if_neg h] at q e ⊢
  exact e.trans (lm_1 st hs q)
def wl (wh fr s : Nat → Int32) (v : Nat → Int64) (n : Nat) (F : Int64 → Int32) (wt : Nat → Int32) (i : Nat) : Int32 := ln7 wh fr s v n F (wt i).toNatClampNeg
def ws (wh fr s : Nat → Int32) (v : Nat → Int64) (n : Nat) (G : Int64 → Int32) (wt : Nat → Int32) (i : Nat) : Int32 := sn7 wh fr s v n G (wt i).toNatClampNeg
def wm (wh fr wt : Nat → Int32) (i : Nat) : Int32 := if wh (wt i).toNatClampNeg = 2 then fr (wt i).toNatClampNeg else -1
abbrev WZ (wh fr s : Nat → Int32) (v : Nat → Int64) (n : Nat) (F G : Int64 → Int32) (wt : Nat → Int32) (w : Nat) : List Wt := z3 (wl wh fr s v n F wt) (ws wh fr s v n G wt) (wm wh fr wt) w
theorem wl_j (e : wt t = nI j) (hj : j < 96) : wl wh fr s v n F wt t = ln7 wh fr s v n F j := by unfold wl; rw [e, nI_clamp (by omega)]
theorem ws_j (e : wt t = nI j) (hj : j < 96) : ws wh fr s v n G wt t = sn7 wh fr s v n G j := by unfold ws; rw [e, nI_clamp (by omega)]
theorem wm_2 (e : wt t = nI j) (hj : j < 96) (h : wh j = 2) : wm wh fr wt t = fr j := by unfold wm; rw [e, nI_clamp (by omega), if_pos h]
theorem wm_1 (e : wt t = nI j) (hj : j < 96) (h : ¬ wh j = 2) : wm wh fr wt t = -1 := by unfold wm; rw [e, nI_clamp (by omega), if_neg h]
theorem wz_push {wt' : Nat → Int32} (ho : o < 96) (e : upd wt w (nI o) = wt') : WZ wh fr s v n F G wt' (w + 1) = (ln7 wh fr s v n F o, sn7 wh fr s v n G o, if wh o = 2 then fr o else -1) :: WZ wh fr s v n F G wt w := by
  subst e
  have u : (upd wt w (nI o) w).toNatClampNeg = o := by rw [upd_eq, nI_clamp (by omega)]
  show z3 _ _ _ (w + 1) = _
  rw [z3]
  have t : z3 (wl wh fr s v n F (upd wt w (nI o))) (ws wh fr s v n G (upd wt w (nI o))) (wm wh fr (upd wt w (nI o))) w = z3 (wl wh fr s v n F wt) (ws wh fr s v n G wt) (wm wh fr wt) w := z3_cg w (fun j hj => by
    have q : upd wt w (nI o) j = wt j := upd_ne (by omega)
    unfold wl ws wm
    rw [q]; exact ⟨rfl, rfl, rfl⟩)
  rw [t]
  unfold wl ws wm
  rw [u]
  rfl
/-- apply: the latest that waits takes its operands -/
theorem gq_m {wl_ ws_ wm_ : Nat → Int32} (hw : 1 ≤ w) (ho : 1 ≤ no) (hm : wm_ (w - 1) = x) (hx : ¬ x = -1) : (z3 wl_ ws_ wm_ (w - 1), z2 (upd fi (no - 1) x) (upd la (no - 1) (la (no - 1))) no, z2 (upd pf np x) (upd pl np (la (no - 1))) (np + 1)) = gv7 (z3 wl_ ws_ wm_ w, z2 fi la no, z2 pf pl np) := by
  rw [z2_put, z2_pop (a := upd fi (no - 1) x) ho, upd_eq, upd_eq, z2_cg (a' := fi) (b' := la) (no - 1) (fun j hj => ⟨upd_ne (by omega), upd_ne (by omega)⟩), z3_pop hw, z2_pop (a := fi) ho]
  unfold gv7
  show _ = (if wm_ (w - 1) = -1 then _ else (z3 wl_ ws_ wm_ (w - 1), (wm_ (w - 1), la (no - 1)) :: z2 fi la (no - 1), (wm_ (w - 1), la (no - 1)) :: z2 pf pl np))
  rw [hm, if_neg hx]
theorem gq_b {wl_ ws_ wm_ : Nat → Int32} (hw : 1 ≤ w) (ho : 2 ≤ no) (hm : wm_ (w - 1) = -1) : (z3 wl_ ws_ wm_ (w - 1), z2 (upd fi (no - 1 - 1) (fi (no - 2))) (upd la (no - 1 - 1) (la (no - 1))) (no - 1), z2 (upd pf np (fi (no - 2))) (upd pl np (la (no - 1))) (np + 1)) = gv7 (z3 wl_ ws_ wm_ w, z2 fi la no, z2 pf pl np) := by
  rw [show no - 2 = no - 1 - 1 by omega, z2_put, z2_pop (a := upd fi (no - 1 - 1) (fi (no - 1 - 1))) (n := no - 1) (by omega), upd_eq, upd_eq, z2_cg (a' := fi) (b' := la) (no - 1 - 1) (fun j hj => ⟨upd_ne (by omega), upd_ne (by omega)⟩), z3_pop hw, z2_pop (a := fi) (b := la) (n := no) (by omega), z2_pop (a := fi) (b := la) (n := no - 1) (by omega)]
  unfold gv7
  show _ = (if wm_ (w - 1) = -1 then (z3 wl_ ws_ wm_ (w - 1), (fi (no - 1 - 1), la (no - 1)) :: z2 fi la (no - 1 - 1), (fi (no - 1 - 1), la (no - 1)) :: z2 pf pl np) else _)
  rw [if_pos hm]
theorem gq_M {wl_ ws_ wm_ fi' la' pf' pl' : Nat → Int32} {a b : Nat} (hw : 1 ≤ w) (ho : 1 ≤ no) (h1 : upd fi (no - 1) (nI a) = fi') (h2 : upd la (no - 1) (nI b) = la') (h3 : upd pf np (nI a) = pf') (h4 : upd pl np (nI b) = pl') (hb : la (no - 1) = nI b) (hm : wm_ (w - 1) = nI a) (ha : a < 600) : (z3 wl_ ws_ wm_ (w - 1), z2 fi' la' no, z2 pf' pl' (np + 1)) = gv7 (z3 wl_ ws_ wm_ w, z2 fi la no, z2 pf pl np) := by
  subst h1; subst h2; subst h3; subst h4
  rw [← hb]; exact gq_m hw ho hm (nI_n1 (by omega))
theorem gq_B {wl_ ws_ wm_ fi' la' pf' pl' : Nat → Int32} {a b : Nat} (hw : 1 ≤ w) (ho : 2 ≤ no) (h1 : upd fi (no - 1 - 1) (nI a) = fi') (h2 : upd la (no - 1 - 1) (nI b) = la') (h3 : upd pf np (nI a) = pf') (h4 : upd pl np (nI b) = pl') (ha : fi (no - 2) = nI a) (hb : la (no - 1) = nI b) (hm : wm_ (w - 1) = -1) : (z3 wl_ ws_ wm_ (w - 1), z2 fi' la' (no - 1), z2 pf' pl' (np + 1)) = gv7 (z3 wl_ ws_ wm_ w, z2 fi la no, z2 pf pl np) := by
  subst h1; subst h2; subst h3; subst h4
  rw [← ha, ← hb]; exact gq_b hw ho hm
theorem nI_m {x : Int32} (e : x = nI j) (hj : j < 600) : ¬ x = -1 := by rw [e]; exact nI_n1 (by omega)
/-- comes -/
def cm7 (wh fr s : Nat → Int32) (v : Nat → Int64) (n : Nat) (F G : Int64 → Int32) (o : Nat) (X : Rs) : Option Rs := if wh o = 2 then mn7 (fr o) X else tkE (ln7 wh fr s v n F o) (sn7 wh fr s v n G o) X
theorem cm_2 {X : Rs} (h : wh o = 2) : cm7 wh fr s v n F G o X = mn7 (fr o) X := if_pos h
theorem cm_1 {X : Rs} (h : ¬ wh o = 2) : cm7 wh fr s v n F G o X = tkE (ln7 wh fr s v n F o) (sn7 wh fr s v n G o) X := if_neg h
theorem tw_0 (h : w ≤ 0) : tkE l y (WZ wh fr s v n F G wt w, O, R) = some (ps7 l y (-1) (WZ wh fr s v n F G wt w, O, R)) := to_0 rfl (by omega)
theorem tw_n (h1 : 1 ≤ w) (ho : 1 ≤ no) (ej : wt (w - 1) = nI j) (hj : j < 96) (e : ln7 wh fr s v n F j = l) (q : ¬ sn7 wh fr s v n G j = y ∨ y = 2) : tkE l y (WZ wh fr s v n F G wt w, z2 fi la no, R) = none :=
  to_n rfl h1 ho ((wl_j ej hj).trans e) (by rw [ws_j ej hj]; exact q)
theorem tw_w (h1 : 1 ≤ w) (ho : 1 ≤ no) (ej : wt (w - 1) = nI j) (hj : j < 96) (c : ¬ (ln7 wh fr s v n F j = l ∧ (¬ sn7 wh fr s v n G j = y ∨ y = 2))) (q : ln7 wh fr s v n F j < l ∨ (ln7 wh fr s v n F j = l ∧ ¬ y = 0)) : tkE l y (WZ wh fr s v n F G wt w, z2 fi la no, R) = some (ps7 l y (-1) (WZ wh fr s v n F G wt w, z2 fi la no, R)) :=
  to_w rfl h1 ho (by rw [wl_j ej hj, ws_j ej hj]; exact c) (by rw [wl_j ej hj]; exact q)
theorem tw_g {R' : Rs} (h1 : 1 ≤ w) (ho : 1 ≤ no) (ej : wt (w - 1) = nI j) (hj : j < 96) (c : ¬ (ln7 wh fr s v n F j = l ∧ (¬ sn7 wh fr s v n G j = y ∨ y = 2))) (q : ¬ (ln7 wh fr s v n F j < l ∨ (ln7 wh fr s v n F j = l ∧ ¬ y = 0))) (e : R' = gv7 (WZ wh fr s v n F G wt w, z2 fi la no, R)) : tkE l y R' = tkE l y (WZ wh fr s v n F G wt w, z2 fi la no, R) :=
  to_g rfl h1 ho (by rw [wl_j ej hj, ws_j ej hj]; exact c) (by rw [wl_j ej hj]; exact q) e
theorem mw_0 (h : w ≤ 0) : mn7 x (WZ wh fr s v n F G wt w, O, R) = some (ps7 6 0 x (WZ wh fr s v n F G wt w, O, R)) := mn_0 h
theorem le_56 (h : x ≤ 5) : x < 6 := by
  have a := Int32.le_iff_toInt_le.mp h
  refine Int32.lt_iff_toInt_lt.mpr ?_
  have b : (5 : Int32).toInt = 5 := by decide
  have c : (6 : Int32).toInt = 6 := by decide
  omega
theorem le_65 (h : x < 6) : x ≤ 5 := by
  have a := Int32.lt_iff_toInt_lt.mp h
  refine Int32.le_iff_toInt_le.mpr ?_
  have b : (5 : Int32).toInt = 5 := by decide
  have c : (6 : Int32).toInt = 6 := by decide
  omega
theorem mw_1 (h : 1 ≤ w) (ej : wt (w - 1) = nI j) (hj : j < 96) (q : ln7 wh fr s v n F j ≤ 5) : mn7 x (WZ wh fr s v n F G wt w, O, R) = some (ps7 6 0 x (WZ wh fr s v n F G wt w, O, R)) := mn_1 h (by rw [wl_j ej hj]; exact le_56 q)
theorem mw_2 (h : 1 ≤ w) (ej : wt (w - 1) = nI j) (hj : j < 96) (q : ¬ ln7 wh fr s v n F j ≤ 5) : mn7 x (WZ wh fr s v n F G wt w, O, R) = none := mn_2 h (by rw [wl_j ej hj]; exact fun z => q (le_65 z))
theorem pw_2 {wt' : Nat → Int32} (ho : o < 96) (h : wh o = 2) (e : upd wt w (nI o) = wt') : (WZ wh fr s v n F G wt' (w + 1), O, R) = ps7 6 0 (fr o) (WZ wh fr s v n F G wt w, O, R) := by
  rw [wz_push ho e, ← ll_2 h, ← ls_2 h, if_pos h]; rfl
theorem pw_1 {wt' : Nat → Int32} (ho : o < 96) (h : ¬ wh o = 2) (e : upd wt w (nI o) = wt') : (WZ wh fr s v n F G wt' (w + 1), O, R) = ps7 (ln7 wh fr s v n F o) (sn7 wh fr s v n G o) (-1) (WZ wh fr s v n F G wt w, O, R) := by
  rw [wz_push ho e, if_neg h]; rfl
theorem lt_no {a b : Int32} (h : ¬ b < a) (hn : ¬ a = b) : a < b := by
  by_cases z : a < b
  · exact z
  · exact absurd (Int32.le_antisymm (Int32.not_lt.mp h) (Int32.not_lt.mp z)) hn
/-- an item of the list -/
theorem cm_tI {to_ : Nat → Int32} {X : Rs} (hw : wh o = 1 ∨ wh o = 2) (hm : nm7 v (fr o) (to_ o) = v (cr s v n (fr o).toNatClampNeg)) : tI7 v F G (fr o, to_ o, wh o) X = cm7 wh fr s v n F G o X := by
  rcases hw with h | h
  · have h2 : ¬ wh o = 2 := by rw [h]; decide
    rw [tI_1 h, cm_1 h2, hm]
    unfold ln7 sn7
    rw [if_neg h2, if_neg h2]
  · rw [tI_2 h, cm_2 h]
end RWS
