/-! p6: what is open and what is laid, as lists (the latest first) -/
abbrev Tk := Int32 × Int64
abbrev Lp := List Int32 × List Tk
abbrev Ly := List Int32 × List Tk × Int32
def i6 (x : Int32) : Int64 := x.toInt64
def stk (row : Nat → Int32) : Nat → List Int32
  | 0 => []
  | n + 1 => row n :: stk row n
def tks (s : Nat → Int32) (v : Nat → Int64) : Nat → List Tk
  | 0 => []
  | n + 1 => (s n, v n) :: tks s v n
theorem stk_upd {row : Nat → Int32} {t : Nat} {x : Int32} : ∀ n, n ≤ t → stk (upd row t x) n = stk row n
  | 0, _ => rfl
  | n + 1, h => by
    have e : upd row t x n = row n := if_neg (by omega)
    rw [stk, stk, stk_upd n (by omega), e]
theorem stk_push {row : Nat → Int32} {n : Nat} {x : Int32} : stk (upd row n x) (n + 1) = x :: stk row n := by
  rw [stk, stk_upd n (Nat.le_refl _), show upd row n x n = x from if_pos rfl]
theorem stk_pop {row : Nat → Int32} {n : Nat} (h : 1 ≤ n) : stk row n = row (n - 1) :: stk row (n - 1) := by
  obtain ⟨k, rfl⟩ : ∃ k, n = k + 1 := ⟨n - 1, by omega⟩
  rw [show k + 1 - 1 = k by omega, stk]
theorem stk_len {row : Nat → Int32} : ∀ n, (stk row n).length = n
  | 0 => rfl
  | n + 1 => by rw [stk, List.length_cons, stk_len n]
theorem tks_upd {s : Nat → Int32} {v : Nat → Int64} {t : Nat} {x : Int32} {y : Int64} : ∀ n, n ≤ t → tks (upd s t x) (vp_updL v t y) n = tks s v n
  | 0, _ => rfl
  | n + 1, h => by
    have e : upd s t x n = s n := if_neg (by omega)
    have e2 : vp_updL v t y n = v n := if_neg (by omega)
    rw [tks, tks, tks_upd n (by omega), e, e2]
theorem tks_put {s : Nat → Int32} {v : Nat → Int64} {n : Nat} {x : Int32} {y : Int64} : tks (upd s n x) (vp_updL v n y) (n + 1) = (x, y) :: tks s v n := by
  rw [tks, tks_upd n (Nat.le_refl _), show upd s n x n = x from if_pos rfl, show vp_updL v n y n = y from if_pos rfl]
theorem tks_len {s : Nat → Int32} {v : Nat → Int64} : ∀ n, (tks s v n).length = n
  | 0 => rfl
  | n + 1 => by rw [tks, List.length_cons, tks_len n]
def hiO (h : Int32) (n : Nat) : Int32 := if h < nI (n + 1) then nI (n + 1) else h
def psL (x : Int32) (s : Ly) : Ly := (x :: s.1, s.2.1, hiO s.2.2 s.1.length)
def onP (p : Lp) (h : Int32) : Ly := (p.1, p.2, h)
def dpL : List Int32 → List Int32
  | [] => []
  | x :: L => if x = -1 then dpL L else x :: L
def lvL (B : Bool) : List Int32 → List Tk → Lp
  | [], o => ([], o)
  | x :: L, o => if 0 < x then lvL B L ((4, 125) :: o) else if x = -1 ∧ B = true then lvL B L o else (x :: L, o)
def mkF (n : Int32) : Nat → List Int32 → List Tk → Lp
  | 0, st, o => (st, o)
  | f + 1, st, o => match dpL st with
    | [] => (st, o)
    | x :: L => if n < x then mkF n f L ((4, 125) :: o) else if x = n then (x :: L, (4, 59) :: o) else (st, o)
def mkL (n : Int32) (st : List Int32) (o : List Tk) : Lp := mkF n st.length st o
def ltC : List Int32 → Int32
  | [] => 0
  | x :: L => if 0 ≤ x then x else ltC L
def bgL (n : Int32) (last : Bool) (s : Ly) : Ly := if ltC s.1 < n then psL n (s.1, (4, 123) :: s.2.1, s.2.2) else if last then (s.1, (4, 125) :: (4, 123) :: s.2.1, s.2.2) else onP (mkL n s.1 ((4, 125) :: (4, 123) :: s.2.1)) s.2.2
def clM (due : Int32) (h : Int32) : Lp → Option Ly
  | ([], _) => none
  | (x :: L, o) => if x = due then some (L, o, h) else none
def clL (due : Int32) (s : Ly) : Option Ly := clM due s.2.2 (lvL (!(due == -1)) s.1 s.2.1)
def blC : List Int32 → Int32
  | [] => -7
  | x :: L => if x = -1 ∨ 0 < x then blC L else x
def cmL (s : Ly) : Ly := if blC s.1 = -5 ∨ blC s.1 = -6 then onP (lvL true s.1 s.2.1) s.2.2 else s
def brL (s : Ly) : Option Ly := clM 0 s.2.2 (dpL s.1, s.2.1)
def sgL (v : Int64) (s : Ly) : Option Ly :=
  if v = 40 then some (psL (-5) s) else if v = 91 then some (psL (-6) s) else if v = 41 then clL (-5) s else if v = 93 then clL (-6) s else if v = 44 then some (cmL s) else if v = 123 then some (psL 0 s)
  else if v = 125 then brL s else if v = 59 then some (dpL s.1, s.2) else some s
def wdL (v : Int64) (s : Ly) : Option Ly :=
  if v = 26217 then some (psL (-2) s) else if v = 1702060387 then some (psL (-4) s) else if v = 7628140 then some (psL (-1) s) else if v = 1852139636 then (clL (-2) s).map (psL (-3)) else if v = 1702063205 then clL (-3) s else if v = 26223 then clL (-4) s else if v = 28265 then clL (-1) s else some s
section STK
variable {row : Nat → Int32} {x n : Int32} {st L : List Int32} {o : Nat} {B : Bool} {ts : List Tk}
theorem tp0 : tp row 0 = -11 := rfl
theorem lv_pos (h : 0 < x) : lvL B (x :: L) ts = lvL B L ((4, 125) :: ts) := by rw [lvL, if_pos h]
theorem lv_let (h : x = -1) : lvL true (x :: L) ts = lvL true L ts := by
  rw [lvL, if_neg (by rw [h]; decide), if_pos ⟨h, rfl⟩]
theorem lv_end (h : ¬ 0 < x) (h2 : ¬ (x = -1 ∧ B = true)) : lvL B (x :: L) ts = (x :: L, ts) := by rw [lvL, if_neg h, if_neg h2]
theorem tp_stk (h : 1 ≤ o) : stk row o = tp row o :: stk row (o - 1) := by
  rw [stk_pop h]; unfold tp; rw [if_pos (by omega)]
theorem tp_1 {x : Int32} (h : tp row o = x) (hx : ¬ x = -11) : 1 ≤ o := by
  rcases Nat.eq_zero_or_pos o with e | e
  · rw [e, tp0] at h; exact absurd h.symm hx
  · exact e
theorem tp_2 (h : 0 < tp row o) : 1 ≤ o := by
  rcases Nat.eq_zero_or_pos o with e | e
  · rw [e, tp0] at h; exact absurd h (by decide)
  · exact e
/-- leave, a turn -/
theorem lv_a (h : 0 < tp row o) : lvL B (stk row (o - 1)) ((4, 125) :: ts) = lvL B (stk row o) ts := by
  rw [tp_stk (tp_2 h), lv_pos h]
theorem lv_b (h : tp row o = -1) (hB : B = true) : lvL B (stk row (o - 1)) ts = lvL B (stk row o) ts := by
  subst hB
  rw [tp_stk (tp_1 h (by decide)), lv_let h]
theorem lv_z (h : ¬ 0 < tp row o) (h2 : ¬ (tp row o = -1 ∧ B = true)) : lvL B (stk row o) ts = (stk row o, ts) := by
  rcases Nat.eq_zero_or_pos o with e | e
  · subst e; rfl
  · rw [tp_stk e, lv_end h h2]
theorem dp_stk : ∀ o, dpL (stk row o) = stk row (drp row o)
  | 0 => rfl
  | o + 1 => by
    rw [stk, dpL, drp]
    by_cases q : row o = -1
    · rw [if_pos q, if_pos q, dp_stk o]
    · rw [if_neg q, if_neg q, stk]
theorem dp_len : ∀ st : List Int32, (dpL st).length ≤ st.length
  | [] => Nat.le_refl _
  | x :: L => by
    rw [dpL]
    split
    · have := dp_len L; rw [List.length_cons]; omega
    · exact Nat.le_refl _
theorem mkF_more : ∀ (f g : Nat) (st : List Int32) (ts : List Tk), st.length ≤ f → st.length ≤ g → mkF n f st ts = mkF n g st ts
  | 0, 0, _, _, _, _ => rfl
  | 0, g + 1, st, ts, h, _ => by
    have e : st = [] := List.length_eq_zero_iff.mp (by omega)
    subst e; rfl
  | f + 1, 0, st, ts, _, h => by
    have e : st = [] := List.length_eq_zero_iff.mp (by omega)
    subst e; rfl
  | f + 1, g + 1, st, ts, h1, h2 => by
    rw [mkF, mkF]
    cases hd : dpL st with
    | nil => rfl
    | cons x L =>
      have hl := dp_len st
      rw [hd, List.length_cons] at hl
      show (if n < x then mkF n f L ((4, 125) :: ts) else if x = n then (x :: L, (4, 59) :: ts) else (st, ts)) = (if n < x then mkF n g L ((4, 125) :: ts) else if x = n then (x :: L, (4, 59) :: ts) else (st, ts))
      rw [mkF_more f g L ((4, 125) :: ts) (by omega) (by omega)]
theorem mkL_un (hd : dpL st = x :: L) : mkL n st ts = if n < x then mkL n L ((4, 125) :: ts) else if x = n then (x :: L, (4, 59) :: ts) else (st, ts) := by
  have hl := dp_len st
  rw [hd, List.length_cons] at hl
  unfold mkL
  obtain ⟨f, hf⟩ : ∃ f, st.length = f + 1 := ⟨st.length - 1, by omega⟩
  rw [hf, mkF, hd]
  show (if n < x then mkF n f L ((4, 125) :: ts) else if x = n then (x :: L, (4, 59) :: ts) else (st, ts)) = _
  rw [mkF_more f L.length L ((4, 125) :: ts) (by omega) (Nat.le_refl _)]
theorem mkL_go (hd : dpL st = x :: L) (h : n < x) : mkL n st ts = mkL n L ((4, 125) :: ts) := by rw [mkL_un hd, if_pos h]
theorem mkL_eq (hd : dpL st = x :: L) (h : ¬ n < x) (h2 : x = n) : mkL n st ts = (x :: L, (4, 59) :: ts) := by rw [mkL_un hd, if_neg h, if_pos h2]
theorem mkL_no (hd : dpL st = x :: L) (h : ¬ n < x) (h2 : ¬ x = n) : mkL n st ts = (st, ts) := by rw [mkL_un hd, if_neg h, if_neg h2]
theorem mkL_nil (hd : dpL st = []) : mkL n st ts = (st, ts) := by
  unfold mkL
  cases hf : st.length with
  | zero => rfl
  | succ f => rw [mkF, hd]
/-- mark, a turn, and its end -/
theorem blw_pos {y : Nat} (hy : y ≤ 600) (h : ¬ blw row o ≤ nI y) : 1 ≤ drp row o := by
  rcases Nat.eq_zero_or_pos (drp row o) with e | e
  · rw [blw_drp, e] at h
    exact absurd (Int32.le_trans (show tp row 0 ≤ 0 by rw [tp0]; decide) ((nI_leI (a := 0) (b := y) (by omega) (by omega)).mpr (Nat.zero_le _))) h
  · exact e
theorem mk_dp (h : 1 ≤ drp row o) : dpL (stk row o) = blw row o :: stk row (drp row o - 1) := by
  rw [dp_stk, tp_stk h, blw_drp]
theorem mk_a {y : Nat} (hy : y ≤ 600) (h : ¬ blw row o ≤ nI y) : mkL (nI y) (stk row (drp row o - 1)) ((4, 125) :: ts) = mkL (nI y) (stk row o) ts :=
  (mkL_go (mk_dp (blw_pos hy h)) (Int32.not_le.mp h)).symm
theorem blw_eq {y : Nat} (hy : y ≤ 600) (h : blw row o = nI y) : 1 ≤ drp row o := by
  rcases Nat.eq_zero_or_pos (drp row o) with e | e
  · rw [blw_drp, e] at h
    have h1 := congrArg Int32.toInt h
    rw [nI_toInt (by omega), tp0, show (-11 : Int32).toInt = -11 by decide] at h1
    omega
  · exact e
theorem mk_b {y : Nat} (hy : y ≤ 600) (h : blw row o = nI y) : (stk row (drp row o), (4, 59) :: ts) = mkL (nI y) (stk row o) ts := by
  have hp := blw_eq hy h
  rw [mkL_eq (mk_dp hp) (by rw [h]; exact Int32.not_lt.mpr (Int32.le_refl _)) h, tp_stk hp, blw_drp]
theorem mk_c {n : Int32} (h : blw row o ≤ n) (h2 : ¬ blw row o = n) : (stk row o, ts) = mkL n (stk row o) ts := by
  rcases Nat.eq_zero_or_pos (drp row o) with e | e
  · rw [mkL_nil (by rw [dp_stk, e]; rfl)]
  · rw [mkL_no (mk_dp e) (Int32.not_lt.mpr h) h2]
theorem bl_s (h : 1 ≤ o) (q : row (o - 1) = -1 ∨ 0 < row (o - 1)) : blC (stk row (o - 1)) = blC (stk row o) := by
  rw [stk_pop h, blC, if_pos q]
theorem bl_e (h : 1 ≤ o) (q : ¬ (row (o - 1) = -1 ∨ 0 < row (o - 1))) : blC (stk row o) = row (o - 1) := by
  rw [stk_pop h, blC, if_neg q]
theorem cm_y {hi : Int32} (h : blC st = -5 ∨ blC st = -6) : cmL (st, ts, hi) = onP (lvL true st ts) hi := if_pos h
theorem cm_n {hi : Int32} (h : ¬ (blC st = -5 ∨ blC st = -6)) : cmL (st, ts, hi) = (st, ts, hi) := if_neg h
theorem cl_y {due b hi : Int32} {r : Nat → Int32} {us : List Tk} (hl : (stk r o, us) = lvL (decide (¬ b = 0)) st ts) (hb : decide (¬ b = 0) = !(due == -1)) (ht : tp r o = due) (ho : 1 ≤ o) : clL due (st, ts, hi) = some (stk r (o - 1), us, hi) := by
  unfold clL
  show clM due hi (lvL (!(due == -1)) st ts) = _
  rw [← hb, ← hl, tp_stk ho]
  show (if tp r o = due then some (stk r (o - 1), us, hi) else none) = _
  rw [if_pos ht]
theorem cl_no {due b hi : Int32} {r : Nat → Int32} {us : List Tk} (hl : (stk r o, us) = lvL (decide (¬ b = 0)) st ts) (hb : decide (¬ b = 0) = !(due == -1)) (ht : ¬ tp r o = due) : clL due (st, ts, hi) = none := by
  unfold clL
  show clM due hi (lvL (!(due == -1)) st ts) = _
  rw [← hb, ← hl]
  rcases Nat.eq_zero_or_pos o with e | e
  · subst e; rfl
  · rw [tp_stk e]
    show (if tp r o = due then some (stk r (o - 1), us, hi) else none) = _
    rw [if_neg ht]
theorem ltc_s {row : Nat → Int32} {o : Nat} (h : 1 ≤ o) (q : ¬ 0 ≤ row (o - 1)) : ltC (stk row (o - 1)) = ltC (stk row o) := by
  rw [stk_pop h, ltC, if_neg q]
theorem ltc_e {row : Nat → Int32} {o : Nat} (h : 1 ≤ o) (q : 0 ≤ row (o - 1)) : ltC (stk row o) = row (o - 1) := by
  rw [stk_pop h, ltC, if_pos q]
end STK
theorem ps_stk {row : Nat → Int32} {o : Nat} {x hi : Int32} {ts : List Tk} : (stk (upd row o x) (o + 1), ts, hiO hi o) = psL x (stk row o, ts, hi) := by
  unfold psL
  show _ = (x :: stk row o, ts, hiO hi (stk row o).length)
  rw [stk_push, stk_len]
section SGW
variable {s : Ly} {v : Int64} {row : Nat → Int32} {o : Nat} {ts : List Tk} {hi : Int32}
theorem sg40 : sgL 40 s = some (psL (-5) s) := by
  unfold sgL; rw [if_pos rfl]
theorem sg91 : sgL 91 s = some (psL (-6) s) := by
  unfold sgL; rw [if_neg (by decide), if_pos rfl]
theorem sg41 : sgL 41 s = clL (-5) s := by
  unfold sgL; rw [if_neg (by decide), if_neg (by decide), if_pos rfl]
theorem sg93 : sgL 93 s = clL (-6) s := by
  unfold sgL; rw [if_neg (by decide), if_neg (by decide), if_neg (by decide), if_pos rfl]
theorem sg44 : sgL 44 s = some (cmL s) := by
  unfold sgL; rw [if_neg (by decide), if_neg (by decide), if_neg (by decide), if_neg (by decide), if_pos rfl]
theorem sg123 : sgL 123 s = some (psL 0 s) := by
  unfold sgL; rw [if_neg (by decide), if_neg (by decide), if_neg (by decide), if_neg (by decide), if_neg (by decide), if_pos rfl]
theorem sg125 : sgL 125 s = brL s := by
  unfold sgL; rw [if_neg (by decide), if_neg (by decide), if_neg (by decide), if_neg (by decide), if_neg (by decide), if_neg (by decide), if_pos rfl]
theorem sg59 : sgL 59 s = some (dpL s.1, s.2) := by
  unfold sgL; rw [if_neg (by decide), if_neg (by decide), if_neg (by decide), if_neg (by decide), if_neg (by decide), if_neg (by decide), if_neg (by decide), if_pos rfl]
theorem sg_no (h40 : ¬ v = 40) (h91 : ¬ v = 91) (h41 : ¬ v = 41) (h93 : ¬ v = 93) (h44 : ¬ v = 44) (h123 : ¬ v = 123) (h125 : ¬ v = 125) (h59 : ¬ v = 59) : sgL v s = some s := by
  unfold sgL; rw [if_neg h40, if_neg h91, if_neg h41, if_neg h93, if_neg h44, if_neg h123, if_neg h125, if_neg h59]
theorem wd26217 : wdL 26217 s = some (psL (-2) s) := by
  unfold wdL; rw [if_pos rfl]
theorem wd1702060387 : wdL 1702060387 s = some (psL (-4) s) := by
  unfold wdL; rw [if_neg (by decide), if_pos rfl]
theorem wd7628140 : wdL 7628140 s = some (psL (-1) s) := by
  unfold wdL; rw [if_neg (by decide), if_neg (by decide), if_pos rfl]
theorem wd1852139636 : wdL 1852139636 s = (clL (-2) s).map (psL (-3)) := by
  unfold wdL; rw [if_neg (by decide), if_neg (by decide), if_neg (by decide), if_pos rfl]
theorem wd1702063205 : wdL 1702063205 s = clL (-3) s := by
  unfold wdL; rw [if_neg (by decide), if_neg (by decide), if_neg (by decide), if_neg (by decide), if_pos rfl]
theorem wd26223 : wdL 26223 s = clL (-4) s := by
  unfold wdL; rw [if_neg (by decide), if_neg (by decide), if_neg (by decide), if_neg (by decide), if_neg (by decide), if_pos rfl]
theorem wd28265 : wdL 28265 s = clL (-1) s := by
  unfold wdL; rw [if_neg (by decide), if_neg (by decide), if_neg (by decide), if_neg (by decide), if_neg (by decide), if_neg (by decide), if_pos rfl]
theorem wd_no (h26217 : ¬ v = 26217) (h1702060387 : ¬ v = 1702060387) (h7628140 : ¬ v = 7628140) (h1852139636 : ¬ v = 1852139636) (h1702063205 : ¬ v = 1702063205) (h26223 : ¬ v = 26223) (h28265 : ¬ v = 28265) : wdL v s = some s := by
  unfold wdL; rw [if_neg h26217, if_neg h1702060387, if_neg h7628140, if_neg h1852139636, if_neg h1702063205, if_neg h26223, if_neg h28265]
theorem sb_y (ht : tp row (drp row o) = 0) : sgL 125 (stk row o, ts, hi) = some (stk row (drp row o - 1), ts, hi) := by
  rw [sg125]
  unfold brL
  show clM 0 hi (dpL (stk row o), ts) = _
  rw [dp_stk, tp_stk (tp_1 ht (by decide))]
  show (if tp row (drp row o) = 0 then some (stk row (drp row o - 1), ts, hi) else none) = _
  rw [if_pos ht]
theorem sb_n (ht : ¬ tp row (drp row o) = 0) : sgL 125 (stk row o, ts, hi) = none := by
  rw [sg125]
  unfold brL
  show clM 0 hi (dpL (stk row o), ts) = _
  rw [dp_stk]
  rcases Nat.eq_zero_or_pos (drp row o) with e | e
  · rw [e]; rfl
  · rw [tp_stk e]
    show (if tp row (drp row o) = 0 then some (stk row (drp row o - 1), ts, hi) else none) = _
    rw [if_neg ht]
end SGW
/-! which lexeme begins a block, and the whole layout over rows of lexemes -/
def bgA (kd : Nat → Int32) (vl : Nat → Int64) (i : Nat) : Bool := i == 0 || (kd (i - 1) == 0 && (vl (i - 1) == 7628140 || (vl (i - 1) == 435710945399 || (vl (i - 1) == 28516 || vl (i - 1) == 26223))))
def bgB (kd : Nat → Int32) (vl : Nat → Int64) (n i : Nat) : Bool := bgA kd vl i && (i == n || !(kd i == 3 && vl i == 123))
def lyB (kd : Nat → Int32) (vl : Nat → Int64) (col ld : Nat → Int32) (n i : Nat) (s : Ly) : Ly :=
  if bgB kd vl n i = true then bgL (if i < n then col i else 0) (decide (¬ i < n)) s else if i < n ∧ ¬ ld i = 0 ∧ 0 < i then onP (mkL (col i) s.1 s.2.1) s.2.2 else s
def lyG (kd : Nat → Int32) (vl : Nat → Int64) (n i : Nat) (b : Int32) : Int32 := if bgB kd vl n i = true then b + 1 else b
def lyT (kd : Nat → Int32) (vl : Nat → Int64) (i : Nat) (s : Ly) : Option Ly := if kd i = 3 then sgL (vl i) s else if kd i = 0 then wdL (vl i) s else some s
def lyP (kd : Nat → Int32) (vl : Nat → Int64) (i : Nat) (s : Ly) : Ly := (s.1, (kd i, vl i) :: s.2.1, s.2.2)
abbrev Lz := Int32 ⊕ (Ly × Int32)
def lyF (kd : Nat → Int32) (vl : Nat → Int64) (wh col ld : Nat → Int32) (n : Nat) : Nat → Nat → Ly → Int32 → Lz
  | 0, _, s, b => .inr (s, b)
  | f + 1, i, s, b => if i < n then (match lyT kd vl i (lyB kd vl col ld n i s) with | none => .inl (wh i) | some s' => lyF kd vl wh col ld n f (i + 1) (lyP kd vl i s') (lyG kd vl n i b)) else .inr (s, b)
def lyE (kd : Nat → Int32) (vl : Nat → Int64) (wh col ld : Nat → Int32) (n i : Nat) (s : Ly) (b : Int32) : Lz := lyF kd vl wh col ld n (n - i) i s b
/-- the end: the place that is wrong, or what is laid, the greatest number open, the blocks begun -/
abbrev Lr := Int32 ⊕ (List Tk × Int32 × Int32)
def lyW (len : Nat) (s : Ly) (b : Int32) : Lr := match lvL true s.1 s.2.1 with
  | ([], o) => .inr (o, s.2.2, b)
  | (_ :: _, _) => .inl (nI len)
def lyZ (kd : Nat → Int32) (vl : Nat → Int64) (col ld : Nat → Int32) (n len : Nat) : Lz → Lr
  | .inl p => .inl p
  | .inr (s, b) => lyW len (lyB kd vl col ld n n s) (lyG kd vl n n b)
def lyR (kd : Nat → Int32) (vl : Nat → Int64) (wh col ld : Nat → Int32) (n len : Nat) : Lr := lyZ kd vl col ld n len (lyE kd vl wh col ld n 0 ([], [], 0) 0)
section LYE
variable {kd : Nat → Int32} {vl : Nat → Int64} {wh col ld : Nat → Int32} {n i : Nat} {s s' : Ly} {b : Int32}
theorem lyE_go (h : i < n) (e : lyT kd vl i (lyB kd vl col ld n i s) = some s') : lyE kd vl wh col ld n i s b = lyE kd vl wh col ld n (i + 1) (lyP kd vl i s') (lyG kd vl n i b) := by
  unfold lyE
  obtain ⟨f, hf⟩ : ∃ f, n - i = f + 1 := ⟨n - i - 1, by omega⟩
  rw [hf, lyF, if_pos h, e, show n - (i + 1) = f by omega]
theorem lyE_no (h : i < n) (e : lyT kd vl i (lyB kd vl col ld n i s) = none) : lyE kd vl wh col ld n i s b = .inl (wh i) := by
  unfold lyE
  obtain ⟨f, hf⟩ : ∃ f, n - i = f + 1 := ⟨n - i - 1, by omega⟩
  rw [hf, lyF, if_pos h, e]
theorem lyE_end (h : ¬ i < n) : lyE kd vl wh col ld n i s b = .inr (s, b) := by
  unfold lyE
  rw [show n - i = 0 by omega, lyF]
end LYE
section LYQ
variable {kd : Nat → Int32} {vl : Nat → Int64} {wh col ld : Nat → Int32} {n i o j len : Nat} {s s' S1 S2 S3 V : Ly} {b b' hi x : Int32} {row : Nat → Int32} {st a : List Int32} {ts us ts' : List Tk} {X : Lz}
theorem lp_on (e : (a, us) = lvL (decide (¬ (1 : Int32) = 0)) st ts) : (a, us, hi) = onP (lvL true st ts) hi := by
  have e2 : (a, us) = lvL true st ts := e
  unfold onP; rw [← e2]
theorem cm_0 {k : Nat} (h : blC (stk row k) = blC st) (hk : k = 0) : cmL (st, ts, hi) = (st, ts, hi) := by
  refine cm_n ?_
  rw [← h, hk]
  show ¬ ((-7 : Int32) = -5 ∨ (-7 : Int32) = -6)
  decide
theorem dp_on : (stk row (drp row o), ts, hi) = (dpL (stk row o), ts, hi) := by rw [dp_stk]
theorem ga_0 (h : i = 0) : bgA kd vl i = true := by simp [bgA, h]
theorem ga_1 (h1 : kd (i - 1) = 0) (h : lg_cmp (vl (i - 1)) 7628140 = 0) : bgA kd vl i = true := by
  have e := (lg_cmp_eq _ _).mp h
  simp [bgA, h1, e]
theorem ga_2 (h1 : kd (i - 1) = 0) (h : lg_cmp (vl (i - 1)) 435710945399 = 0) : bgA kd vl i = true := by
  have e := (lg_cmp_eq _ _).mp h
  simp [bgA, h1, e]
theorem ga_3 (h1 : kd (i - 1) = 0) (h : lg_cmp (vl (i - 1)) 28516 = 0) : bgA kd vl i = true := by
  have e := (lg_cmp_eq _ _).mp h
  simp [bgA, h1, e]
theorem ga_4 (h1 : kd (i - 1) = 0) (h : lg_cmp (vl (i - 1)) 26223 = 0) : bgA kd vl i = true := by
  have e := (lg_cmp_eq _ _).mp h
  simp [bgA, h1, e]
theorem ga_n1 (h0 : ¬ i = 0) (h1 : ¬ kd (i - 1) = 0) : bgA kd vl i = false := by simp [bgA, h0, h1]
theorem ga_n2 (h0 : ¬ i = 0) (q1 : ¬ lg_cmp (vl (i - 1)) 7628140 = 0) (q2 : ¬ lg_cmp (vl (i - 1)) 435710945399 = 0) (q3 : ¬ lg_cmp (vl (i - 1)) 28516 = 0) (q4 : ¬ lg_cmp (vl (i - 1)) 26223 = 0) : bgA kd vl i = false := by
  have e1 : ¬ vl (i - 1) = 7628140 := fun q => q1 ((lg_cmp_eq _ _).mpr q)
  have e2 : ¬ vl (i - 1) = 435710945399 := fun q => q2 ((lg_cmp_eq _ _).mpr q)
  have e3 : ¬ vl (i - 1) = 28516 := fun q => q3 ((lg_cmp_eq _ _).mpr q)
  have e4 : ¬ vl (i - 1) = 26223 := fun q => q4 ((lg_cmp_eq _ _).mpr q)
  simp [bgA, h0, e1, e2, e3, e4]
theorem gb_n (h : bgA kd vl i = false) : (0 : Int32) = b01 (bgB kd vl n i) := by rw [bgB, h]; rfl
theorem gb_1 (h : bgA kd vl i = true) (q : i = n) : (1 : Int32) = b01 (bgB kd vl n i) := by rw [bgB, h, q]; simp [b01]
theorem gb_2 (h : bgA kd vl i = true) (q : ¬ kd i = 3) : (1 : Int32) = b01 (bgB kd vl n i) := by rw [bgB, h]; simp [b01, q]
theorem gb_3 (h : bgA kd vl i = true) (q : ¬ lg_cmp (vl i) 123 = 0) : (1 : Int32) = b01 (bgB kd vl n i) := by
  have e : ¬ vl i = 123 := fun z => q ((lg_cmp_eq _ _).mpr z)
  rw [bgB, h]; simp [b01, e]
theorem gb_0 (h : ¬ i = n) (q : kd i = 3) (q2 : lg_cmp (vl i) 123 = 0) : (0 : Int32) = b01 (bgB kd vl n i) := by
  have e := (lg_cmp_eq _ _).mp q2
  unfold bgB
  simp [b01, h, q, e]
theorem nl0 (h : j ≤ 0) : ¬ (0 : Int32) < nI j := by
  rw [Nat.le_zero.mp h]; decide
theorem pl0 (h : ¬ j ≤ 0) (hj : j ≤ 600) : (0 : Int32) < nI j := (nI_ltI (a := 0) (b := j) (by omega) (by omega)).mpr (by omega)
theorem bg_a (hn : (if i < n then col i else 0) = x) (hl : ltC (stk row o) < x) (ht : ts' = (4, 123) :: ts) : (stk (upd row o x) (o + 1), ts', hiO hi o) = bgL (if i < n then col i else 0) (decide (¬ i < n)) (stk row o, ts, hi) := by
  rw [hn, ht]; unfold bgL; rw [if_pos hl]; exact ps_stk
theorem bg_b (hn : (if i < n then col i else 0) = x) (hl : ¬ ltC (stk row o) < x) (hi' : ¬ i < n) (ht : ts' = (4, 125) :: (4, 123) :: ts) : (stk row o, ts', hi) = bgL (if i < n then col i else 0) (decide (¬ i < n)) (stk row o, ts, hi) := by
  rw [hn, ht]; unfold bgL; rw [if_neg hl, decide_eq_true hi', if_pos rfl]
theorem bg_c (hn : (if i < n then col i else 0) = x) (hl : ¬ ltC (stk row o) < x) (hi' : i < n) (ht : ts' = (4, 125) :: (4, 123) :: ts) (e : (a, us) = mkL x (stk row o) ts') : (a, us, hi) = bgL (if i < n then col i else 0) (decide (¬ i < n)) (stk row o, ts, hi) := by
  rw [ht] at e
  rw [hn]; unfold bgL; rw [if_neg hl, decide_eq_false (fun z => z hi'), if_neg (by decide), ← e]; rfl
theorem tk_2 {f : Nat → Int32} {v : Nat → Int64} {m : Nat} {k1 k2 : Int32} {y1 y2 : Int64} : tks (upd (upd f m k1) (m + 1) k2) (vp_updL (vp_updL v m y1) (m + 1) y2) (m + 1 + 1) = (k2, y2) :: (k1, y1) :: tks f v m := by
  rw [tks_put, tks_put]
theorem ly_b1 (hb : bgB kd vl n i = true) (e : S1 = bgL (if i < n then col i else 0) (decide (¬ i < n)) s) : S1 = lyB kd vl col ld n i s := e.trans (if_pos hb).symm
theorem ly_b2 (hb : bgB kd vl n i = false) (h1 : i < n) (h2 : ¬ ld i = 0) (h3 : 0 < i) (e : (a, us) = mkL (nI j) st ts) (ec : col i = nI j) : (a, us, hi) = lyB kd vl col ld n i (st, ts, hi) := by
  unfold lyB
  rw [if_neg (by rw [hb]; decide), if_pos ⟨h1, h2, h3⟩, ec]
  show _ = onP (mkL (nI j) st ts) hi
  rw [← e]; rfl
theorem ly_b3 (hb : bgB kd vl n i = false) (h : ld i = 0 ∨ i ≤ 0 ∨ n ≤ i) : s = lyB kd vl col ld n i s := by
  unfold lyB
  rw [if_neg (by rw [hb]; decide), if_neg]
  intro z
  rcases h with e | e | e
  · exact z.2.1 e
  · omega
  · omega
theorem ly_g1 (hb : bgB kd vl n i = true) : b + 1 = lyG kd vl n i b := (if_pos hb).symm
theorem ly_g0 (hb : bgB kd vl n i = false) : b = lyG kd vl n i b := (if_neg (by rw [hb]; decide)).symm
theorem lyT_3 (h : kd i = 3) : lyT kd vl i s = sgL (vl i) s := if_pos h
theorem lyT_0 (h : kd i = 0) : lyT kd vl i s = wdL (vl i) s := by unfold lyT; rw [if_neg (by rw [h]; decide), if_pos h]
theorem lyT_n (h : ¬ kd i = 3) (h2 : ¬ kd i = 0) : lyT kd vl i s = some s := by unfold lyT; rw [if_neg h, if_neg h2]
theorem ly_pe {f : Nat → Int32} {v : Nat → Int64} {m : Nat} : (st, tks (upd f m (kd i)) (vp_updL v m (vl i)) (m + 1), hi) = lyP kd vl i (st, tks f v m, hi) := by unfold lyP; rw [tks_put]
theorem ly_step {bd pl z0 zp : Int32} (h : i < n) (hX : X = lyE kd vl wh col ld n i V b) (hz : z0 = zp) (hB : S1 = lyB kd vl col ld n i V) (hG : b' = lyG kd vl n i b) (q0 : lyT kd vl i S1 = none → (bd = 1 ∧ pl = wh i)) (q1 : ∀ s9, lyT kd vl i S1 = some s9 → (bd = 0 ∧ pl = z0 ∧ S2 = s9)) (hP : S3 = lyP kd vl i S2) :
    (bd = 0 → (X = lyE kd vl wh col ld n (i + 1) S3 b' ∧ pl = zp)) ∧ (¬ bd = 0 → (bd = 1 ∧ X = .inl pl)) := by
  rw [hB] at q0 q1
  cases hT : lyT kd vl i (lyB kd vl col ld n i V) with
  | none =>
    obtain ⟨g1, g2⟩ := q0 hT
    exact ⟨fun z => by rw [g1] at z; exact absurd z (by decide), fun _ => ⟨g1, by rw [hX, lyE_no h hT, g2]⟩⟩
  | some s9 =>
    obtain ⟨g1, g2, g3⟩ := q1 s9 hT
    exact ⟨fun _ => ⟨by rw [hX, lyE_go h hT, hP, g3, hG], g2.trans hz⟩, fun z => absurd g1 z⟩
theorem ly_wr {q : Int32} (h : lyE kd vl wh col ld n 0 ([], [], 0) 0 = .inl q) : lyR kd vl wh col ld n len = .inl q := by
  unfold lyR; rw [h]; rfl
theorem ly_ok (hX : lyE kd vl wh col ld n 0 ([], [], 0) 0 = lyE kd vl wh col ld n i V b) (h : ¬ i < n) (hB : (st, ts, hi) = lyB kd vl col ld n n V) (hG : b' = lyG kd vl n n b) (e : (stk row o, us) = lvL true st ts) (ho : o = 0) : lyR kd vl wh col ld n len = .inr (us, hi, b') := by
  unfold lyR
  rw [hX, lyE_end h]
  show lyW len (lyB kd vl col ld n n V) (lyG kd vl n n b) = _
  rw [← hB, ← hG]
  unfold lyW
  show (match lvL true st ts with | ([], o) => Sum.inr (o, hi, b') | (_ :: _, _) => Sum.inl (nI len)) = _
  rw [← e, ho]; rfl
theorem ly_bad (hX : lyE kd vl wh col ld n 0 ([], [], 0) 0 = lyE kd vl wh col ld n i V b) (h : ¬ i < n) (hB : (st, ts, hi) = lyB kd vl col ld n n V) (hG : b' = lyG kd vl n n b) (e : (stk row o, us) = lvL true st ts) (ho : 1 ≤ o) : lyR kd vl wh col ld n len = .inl (nI len) := by
  unfold lyR
  rw [hX, lyE_end h]
  show lyW len (lyB kd vl col ld n n V) (lyG kd vl n n b) = _
  rw [← hB, ← hG]
  unfold lyW
  show (match lvL true st ts with | ([], o) => Sum.inr (o, hi, b') | (_ :: _, _) => Sum.inl (nI len)) = _
  rw [← e, stk_pop ho]
theorem tri_0 {x : Int32} (h : x = 0 ∨ x = 1 ∨ x = 2) (h0 : x ≤ 0) : x = 0 := by
  rcases h with e | e | e
  · exact e
  · rw [e] at h0; exact absurd h0 (by decide)
  · rw [e] at h0; exact absurd h0 (by decide)
end LYQ
