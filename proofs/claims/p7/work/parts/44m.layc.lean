/-! the class's layout: rows that its methods answer by -/
section LYC
variable {f row : Nat → Int32} {n o k j t : Nat} {x y hi due : Int32} {st a : List Int32} {ts us : List Tk} {B : Bool} {s s9 : Ly}
def atI (f : Nat → Int32) (n : Nat) (y : Int32) : Int32 := if y < 0 then -7 else if nI n ≤ y then -7 else f y.toNatClampNeg
theorem at_1 (h : y < 0) : -7 = atI f n y := by unfold atI; rw [if_pos h]
theorem at_2 (h0 : ¬ y < 0) (h : nI n ≤ y) : -7 = atI f n y := by unfold atI; rw [if_neg h0, if_pos h]
theorem at_y (h0 : ¬ y < 0) (h : ¬ nI n ≤ y) (e : x = f y.toNatClampNeg) : x = atI f n y := by unfold atI; rw [if_neg h0, if_neg h]; exact e
theorem at_n (h : j < n) (hn : n ≤ 600) : atI f n (nI j) = f j := by
  have h0 : ¬ nI j < 0 := fun q => absurd ((nI_ltI (a := j) (b := 0) (by omega) (by omega)).mp q) (by omega)
  have h1 : ¬ nI n ≤ nI j := fun q => absurd ((nI_leI (a := n) (b := j) (by omega) (by omega)).mp q) (by omega)
  unfold atI; rw [if_neg h0, if_neg h1, nI_clamp (by omega)]
theorem at_m (h : k = 0) : atI f n (nI k - 1) = -7 := by
  subst h; unfold atI; rw [if_pos (by decide)]
def tpC (row : Nat → Int32) (o : Nat) : Int32 := if 0 < o then row (o - 1) else -7
theorem top_e (hn : n ≤ 600) : atI f n (nI n - 1) = tpC f n := by
  unfold tpC
  by_cases h : 0 < n
  · rw [if_pos h, show nI n - 1 = nI (n - 1) from pk_sub (a := n) (b := 1) (by omega), at_n (by omega) hn]
  · rw [if_neg h, at_m (by omega)]
def blwC (row : Nat → Int32) : Nat → Int32
  | 0 => -7
  | n + 1 => if row n = -1 then blwC row n else row n
theorem bw_s (h : 1 ≤ o) (q : row (o - 1) = -1) : blwC row (o - 1) = blwC row o := by
  obtain ⟨m, rfl⟩ : ∃ m, o = m + 1 := ⟨o - 1, by omega⟩
  rw [show m + 1 - 1 = m by omega] at q ⊢
  rw [blwC, if_pos q]
theorem bw_e (h : 1 ≤ o) (q : ¬ row (o - 1) = -1) : blwC row o = row (o - 1) := by
  obtain ⟨m, rfl⟩ : ∃ m, o = m + 1 := ⟨o - 1, by omega⟩
  rw [show m + 1 - 1 = m by omega] at q ⊢
  rw [blwC, if_neg q]
theorem bw_d : ∀ o, blwC row o = tpC row (drp row o)
  | 0 => rfl
  | m + 1 => by
    rw [blwC, drp]
    by_cases q : row m = -1
    · rw [if_pos q, if_pos q, bw_d m]
    · rw [if_neg q, if_neg q]; unfold tpC; rw [if_pos (by omega), show m + 1 - 1 = m by omega]
theorem dr_s (h : 1 ≤ o) (q : row (o - 1) = -1) : drp row (o - 1) = drp row o := by
  obtain ⟨m, rfl⟩ : ∃ m, o = m + 1 := ⟨o - 1, by omega⟩
  rw [show m + 1 - 1 = m by omega] at q ⊢
  rw [drp, if_pos q]
theorem dr_e (h : o = 0 ∨ ¬ row (o - 1) = -1) : drp row o = o := by
  cases o with
  | zero => rfl
  | succ m =>
    rcases h with h | h
    · omega
    · rw [show m + 1 - 1 = m by omega] at h
      rw [drp, if_neg h]
theorem tpC0 : tpC row 0 = -7 := rfl
theorem tpC_stk (h : 1 ≤ o) : stk row o = tpC row o :: stk row (o - 1) := by
  rw [stk_pop h]; unfold tpC; rw [if_pos (by omega)]
theorem tpC_p (h : 0 < tpC row o) : 1 ≤ o := by
  rcases Nat.eq_zero_or_pos o with e | e
  · rw [e, tpC0] at h; exact absurd h (by decide)
  · exact e
theorem tpC_i (h : tpC row o = x) (hx : ¬ x = -7) : 1 ≤ o := by
  rcases Nat.eq_zero_or_pos o with e | e
  · rw [e, tpC0] at h; exact absurd h.symm hx
  · exact e
/-! how much may still be laid -/
def psn : List Int32 → Nat
  | [] => 0
  | x :: L => psn L + (if 0 < x then 1 else 0)
def pt (s : Ly) : Nat := s.2.1.length + psn s.1
theorem psn_le : ∀ L : List Int32, psn L ≤ L.length
  | [] => Nat.le_refl _
  | x :: L => by
    have := psn_le L
    rw [psn, List.length_cons]; split <;> omega
theorem psn_dp : ∀ L : List Int32, psn (dpL L) = psn L
  | [] => rfl
  | x :: L => by
    rw [dpL]
    by_cases q : x = -1
    · rw [if_pos q, psn_dp L, psn, q, if_neg (by decide)]; rfl
    · rw [if_neg q]
theorem psn_lv : ∀ (L : List Int32) (ts : List Tk), (lvL B L ts).2.length + psn (lvL B L ts).1 = ts.length + psn L ∧ (lvL B L ts).1.length ≤ L.length
  | [], ts => ⟨rfl, Nat.le_refl _⟩
  | x :: L, ts => by
    rw [lvL]
    by_cases q : 0 < x
    · rw [if_pos q]
      obtain ⟨h1, h2⟩ := psn_lv L ((4, 125) :: ts)
      rw [h1, psn, if_pos q, List.length_cons, List.length_cons]
      exact ⟨by omega, by omega⟩
    · rw [if_neg q]
      by_cases z : x = -1 ∧ B = true
      · rw [if_pos z]
        obtain ⟨h1, h2⟩ := psn_lv L ts
        rw [h1, psn, if_neg q, List.length_cons]
        exact ⟨rfl, by omega⟩
      · rw [if_neg z]; exact ⟨rfl, Nat.le_refl _⟩
theorem psn_mkF {m : Int32} : ∀ (g : Nat) (L : List Int32) (ts : List Tk), (0 : Int32) ≤ m → (mkF m g L ts).2.length + psn (mkF m g L ts).1 ≤ ts.length + psn L + 1 ∧ (mkF m g L ts).1.length ≤ L.length
  | 0, L, ts, _ => ⟨by rw [mkF]; show ts.length + psn L ≤ _; omega, by rw [mkF]; exact Nat.le_refl _⟩
  | g + 1, L, ts, hm => by
    rw [mkF]
    cases hd : dpL L with
    | nil => exact ⟨by show ts.length + psn L ≤ _; omega, Nat.le_refl _⟩
    | cons x K =>
      have hl := dp_len L
      have hp := psn_dp L
      rw [hd, List.length_cons] at hl
      rw [hd, psn] at hp
      show (if m < x then mkF m g K ((4, 125) :: ts) else if x = m then (x :: K, (4, 59) :: ts) else (L, ts)).2.length + psn (if m < x then mkF m g K ((4, 125) :: ts) else if x = m then (x :: K, (4, 59) :: ts) else (L, ts)).1 ≤ _ ∧ (if m < x then mkF m g K ((4, 125) :: ts) else if x = m then (x :: K, (4, 59) :: ts) else (L, ts)).1.length ≤ _
      by_cases q : m < x
      · rw [if_pos q]
        obtain ⟨h1, h2⟩ := psn_mkF g K ((4, 125) :: ts) hm
        rw [if_pos (Int32.lt_of_le_of_lt hm q)] at hp
        rw [List.length_cons] at h1
        exact ⟨by omega, by omega⟩
      · rw [if_neg q]
        by_cases z : x = m
        · rw [if_pos z]
          refine ⟨?_, by show (x :: K).length ≤ _; rw [List.length_cons]; omega⟩
          show ((4, 59) :: ts).length + psn (x :: K) ≤ _
          rw [List.length_cons, psn]; omega
        · rw [if_neg z]; exact ⟨by show ts.length + psn L ≤ _; omega, Nat.le_refl _⟩
theorem pt_mk {m : Int32} (hm : (0 : Int32) ≤ m) : pt (onP (mkL m st ts) hi) ≤ pt (st, ts, hi) + 1 ∧ (onP (mkL m st ts) hi).1.length ≤ st.length := psn_mkF _ st ts hm
theorem pt_lv : pt (onP (lvL B st ts) hi) = pt (st, ts, hi) ∧ (onP (lvL B st ts) hi).1.length ≤ st.length := psn_lv st ts
theorem pt_cm : pt (cmL s) ≤ pt s ∧ (cmL s).1.length ≤ s.1.length := by
  unfold cmL
  split
  · have := pt_lv (B := true) (st := s.1) (ts := s.2.1) (hi := s.2.2)
    exact ⟨Nat.le_of_eq this.1, this.2⟩
  · exact ⟨Nat.le_refl _, Nat.le_refl _⟩
theorem clM_in {p : Lp} (h : clM due hi p = some s9) : pt s9 ≤ p.2.length + psn p.1 ∧ s9.1.length ≤ p.1.length := by
  obtain ⟨L, us⟩ := p
  cases L with
  | nil => cases h
  | cons x K =>
    have h' : (if x = due then some (K, us, hi) else none) = some s9 := h
    by_cases q : x = due
    · rw [if_pos q] at h'
      cases h'
      refine ⟨?_, by show K.length ≤ (x :: K).length; rw [List.length_cons]; omega⟩
      show us.length + psn K ≤ us.length + psn (x :: K)
      rw [psn]; omega
    · rw [if_neg q] at h'; cases h'
theorem pt_cl (h : clL due s = some s9) : pt s9 ≤ pt s ∧ s9.1.length ≤ s.1.length := by
  have h1 := clM_in h
  have h2 := psn_lv (B := !(due == -1)) s.1 s.2.1
  unfold pt at *
  omega
theorem pt_br (h : brL s = some s9) : pt s9 ≤ pt s ∧ s9.1.length ≤ s.1.length := by
  have h1 := clM_in h
  have h2 : psn (dpL s.1) = psn s.1 := psn_dp s.1
  have h3 := dp_len s.1
  have h4 : pt s9 ≤ s.2.1.length + psn (dpL s.1) ∧ s9.1.length ≤ (dpL s.1).length := h1
  unfold pt at *
  omega
theorem pt_ps (h : x ≤ 0) : pt (psL x s) ≤ pt s ∧ (psL x s).1.length ≤ s.1.length + 1 := by
  refine ⟨?_, by show (x :: s.1).length ≤ _; rw [List.length_cons]; omega⟩
  show s.2.1.length + psn (x :: s.1) ≤ s.2.1.length + psn s.1
  rw [psn, if_neg (Int32.not_lt.mpr h)]; omega
theorem pt_sg {v : Int64} (h : sgL v s = some s9) : pt s9 ≤ pt s ∧ s9.1.length ≤ s.1.length + 1 := by
  unfold sgL at h
  split at h
  · cases h; exact pt_ps (by decide)
  split at h
  · cases h; exact pt_ps (by decide)
  split at h
  · have := pt_cl h; omega
  split at h
  · have := pt_cl h; omega
  split at h
  · cases h; have := pt_cm (s := s); omega
  split at h
  · cases h; exact pt_ps (by decide)
  split at h
  · have := pt_br h; omega
  split at h
  · cases h
    have h2 := psn_dp s.1
    have h3 := dp_len s.1
    show s.2.1.length + psn (dpL s.1) ≤ s.2.1.length + psn s.1 ∧ (dpL s.1).length ≤ s.1.length + 1
    omega
  · cases h; omega
theorem pt_wd {v : Int64} (h : wdL v s = some s9) : pt s9 ≤ pt s ∧ s9.1.length ≤ s.1.length + 1 := by
  unfold wdL at h
  split at h
  · cases h; exact pt_ps (by decide)
  split at h
  · cases h; exact pt_ps (by decide)
  split at h
  · cases h; exact pt_ps (by decide)
  split at h
  · obtain ⟨s8, hs, rfl⟩ := Option.map_eq_some_iff.mp h
    have h1 := pt_cl hs
    have h2 := pt_ps (x := -3) (s := s8) (by decide)
    omega
  split at h
  · have := pt_cl h; omega
  split at h
  · have := pt_cl h; omega
  split at h
  · have := pt_cl h; omega
  · cases h; omega
theorem pt_T {kd : Nat → Int32} {vl : Nat → Int64} {i : Nat} (h : lyT kd vl i s = some s9) : pt s9 ≤ pt s ∧ s9.1.length ≤ s.1.length + 1 := by
  unfold lyT at h
  split at h
  · exact pt_sg h
  split at h
  · exact pt_wd h
  · cases h; omega
theorem pt_bg {m : Int32} {last : Bool} (hm : (0 : Int32) ≤ m) : pt (bgL m last s) ≤ pt s + (if last = true then 2 else 3) ∧ (bgL m last s).1.length ≤ s.1.length + 1 := by
  unfold bgL
  by_cases h1 : ltC s.1 < m
  · rw [if_pos h1]
    refine ⟨?_, by show (m :: s.1).length ≤ _; rw [List.length_cons]; omega⟩
    show ((4, 123) :: s.2.1).length + psn (m :: s.1) ≤ s.2.1.length + psn s.1 + _
    rw [List.length_cons, psn]
    split <;> split <;> omega
  · rw [if_neg h1]
    by_cases h2 : last = true
    · rw [if_pos h2, if_pos h2]
      refine ⟨?_, by show s.1.length ≤ _; omega⟩
      show ((4, 125) :: (4, 123) :: s.2.1).length + psn s.1 ≤ s.2.1.length + psn s.1 + 2
      rw [List.length_cons, List.length_cons]; omega
    · rw [if_neg h2, if_neg h2]
      have g := pt_mk (st := s.1) (ts := (4, 125) :: (4, 123) :: s.2.1) (hi := s.2.2) hm
      refine ⟨Nat.le_trans g.1 ?_, by omega⟩
      show ((4, 125) :: (4, 123) :: s.2.1).length + psn s.1 + 1 ≤ s.2.1.length + psn s.1 + 3
      rw [List.length_cons, List.length_cons]; omega
def COL (f : Nat → Int32) (n : Nat) : Prop := ∀ j, j < n → 0 < f j
theorem COL.ge (h : COL f n) {i : Nat} : (0 : Int32) ≤ (if i < n then f i else 0) := by
  split
  · rename_i q; exact Int32.le_of_lt (h i q)
  · decide
theorem pt_B {kd : Nat → Int32} {vl : Nat → Int64} {col ld : Nat → Int32} {i : Nat} (hc : COL col n) : pt (lyB kd vl col ld n i s) ≤ pt s + (if i < n then 3 else 2) ∧ (lyB kd vl col ld n i s).1.length ≤ s.1.length + 1 := by
  unfold lyB
  by_cases w : bgB kd vl n i = true
  · rw [if_pos w]
    have g := pt_bg (s := s) (m := if i < n then col i else 0) (last := decide (¬ i < n)) (hc.ge (i := i))
    generalize (if i < n then col i else 0) = M at g ⊢
    by_cases q : i < n
    · have e : decide (¬ i < n) = false := decide_eq_false (fun z => z q)
      rw [e] at g ⊢
      rw [if_pos q]; exact g
    · have e : decide (¬ i < n) = true := decide_eq_true q
      rw [e] at g ⊢
      rw [if_neg q]; exact g
  · rw [if_neg w]
    by_cases h2 : i < n ∧ ¬ ld i = 0 ∧ 0 < i
    · rw [if_pos h2, if_pos h2.1]
      have g := pt_mk (st := s.1) (ts := s.2.1) (hi := s.2.2) (Int32.le_of_lt (hc i h2.1))
      exact ⟨Nat.le_trans g.1 (by show s.2.1.length + psn s.1 + 1 ≤ pt s + 3; unfold pt; omega), by omega⟩
    · rw [if_neg h2]
      exact ⟨by omega, by omega⟩
theorem pt_B1 {kd : Nat → Int32} {vl : Nat → Int64} {col ld : Nat → Int32} {i : Nat} (hc : COL col n) (h : i < n) : pt (lyB kd vl col ld n i (stk row o, ts, hi)) ≤ pt (stk row o, ts, hi) + 3 ∧ (lyB kd vl col ld n i (stk row o, ts, hi)).1.length ≤ o + 1 := by
  have g := pt_B (kd := kd) (vl := vl) (ld := ld) (i := i) (s := (stk row o, ts, hi)) hc
  rw [if_pos h] at g
  refine ⟨g.1, Nat.le_trans g.2 ?_⟩
  show (stk row o).length + 1 ≤ o + 1
  rw [stk_len]; exact Nat.le_refl _
theorem pt_B0 {kd : Nat → Int32} {vl : Nat → Int64} {col ld : Nat → Int32} {i : Nat} (hc : COL col n) (h : ¬ i < n) : pt (lyB kd vl col ld n i (stk row o, ts, hi)) ≤ pt (stk row o, ts, hi) + 2 ∧ (lyB kd vl col ld n i (stk row o, ts, hi)).1.length ≤ o + 1 := by
  have g := pt_B (kd := kd) (vl := vl) (ld := ld) (i := i) (s := (stk row o, ts, hi)) hc
  rw [if_neg h] at g
  refine ⟨g.1, Nat.le_trans g.2 ?_⟩
  show (stk row o).length + 1 ≤ o + 1
  rw [stk_len]; exact Nat.le_refl _
theorem pt_len : s.2.1.length ≤ pt s := Nat.le_add_right _ _
theorem cl_len (h : clL due (stk row o, ts, hi) = some s9) : s9.1.length ≤ o := by
  have h2 : s9.1.length ≤ (stk row o).length := (pt_cl h).2
  rw [stk_len] at h2; exact h2
theorem ly_len {kk : Nat → Int32} {vv : Nat → Int64} (e : (stk f o, tks kk vv t, hi) = s) : o = s.1.length ∧ t = s.2.1.length := by
  rw [← e]
  exact ⟨(stk_len o).symm, (tks_len t).symm⟩
/-! turns of the class's loops -/
theorem tk_i {kk : Nat → Int32} {vv : Nat → Int64} {z : Int64} (h : i6 y = z) : tks (upd kk t 4) (vp_updL vv t (i6 y)) (t + 1) = (4, z) :: tks kk vv t := by rw [tks_put, h]
theorem vC_a (h : 0 < tpC row o) : lvL B (stk row (o - 1)) ((4, 125) :: ts) = lvL B (stk row o) ts := by
  rw [tpC_stk (tpC_p h), lv_pos h]
theorem vC_b (h : tpC row o = -1) (hB : B = true) : lvL B (stk row (o - 1)) ts = lvL B (stk row o) ts := by
  subst hB
  rw [tpC_stk (tpC_i h (by decide)), lv_let h]
theorem vC_z (h : ¬ 0 < tpC row o) (h2 : ¬ (tpC row o = -1 ∧ B = true)) : (stk row o, ts) = lvL B (stk row o) ts := by
  rcases Nat.eq_zero_or_pos o with e | e
  · subst e; rfl
  · rw [tpC_stk e, lv_end h h2]
theorem vC_0 (h : o = 0) : (stk row o, ts) = lvL B (stk row o) ts := by subst h; rfl
theorem pC_a {kk : Nat → Int32} {vv : Nat → Int64} (h : 0 < tpC row o) : pt (stk row (o - 1), (4, 125) :: tks kk vv t, hi) = pt (stk row o, tks kk vv t, hi) ∧ t + 1 ≤ pt (stk row o, tks kk vv t, hi) := by
  unfold pt
  show ((4, 125) :: tks kk vv t).length + psn (stk row (o - 1)) = (tks kk vv t).length + psn (stk row o) ∧ t + 1 ≤ (tks kk vv t).length + psn (stk row o)
  rw [tpC_stk (tpC_p h), psn, if_pos h, List.length_cons, tks_len]
  omega
theorem pC_b (h : ¬ 0 < tpC row o) (ho : 1 ≤ o) : pt (stk row (o - 1), ts, hi) = pt (stk row o, ts, hi) := by
  unfold pt
  show ts.length + psn (stk row (o - 1)) = ts.length + psn (stk row o)
  rw [tpC_stk ho, psn, if_neg h]; rfl
theorem mC_dp (h : 1 ≤ drp row o) : dpL (stk row o) = blwC row o :: stk row (drp row o - 1) := by
  rw [dp_stk, tpC_stk h, bw_d]
theorem mC_1 {m : Int32} (hm : 0 < m) (h : ¬ blwC row o ≤ m) : 1 ≤ drp row o ∧ 0 < tpC row (drp row o) := by
  have h1 := Int32.lt_trans hm (Int32.not_le.mp h)
  rw [bw_d] at h1
  exact ⟨tpC_p h1, h1⟩
theorem mC_a {m : Int32} (hm : 0 < m) (h : ¬ blwC row o ≤ m) : mkL m (stk row (drp row o - 1)) ((4, 125) :: ts) = mkL m (stk row o) ts :=
  (mkL_go (mC_dp (mC_1 hm h).1) (Int32.not_le.mp h)).symm
theorem mC_b {m : Int32} (hm : 0 < m) (h : blwC row o = m) : (stk row (drp row o), (4, 59) :: ts) = mkL m (stk row o) ts := by
  have hp : 1 ≤ drp row o := by
    rw [bw_d] at h
    exact tpC_i h (by intro e; rw [e] at hm; exact absurd hm (by decide))
  rw [mkL_eq (mC_dp hp) (by rw [h]; exact Int32.not_lt.mpr (Int32.le_refl _)) h, tpC_stk hp, bw_d]
theorem mC_c {m : Int32} (h : blwC row o ≤ m) (h2 : ¬ blwC row o = m) : (stk row o, ts) = mkL m (stk row o) ts := by
  rcases Nat.eq_zero_or_pos (drp row o) with e | e
  · rw [mkL_nil (by rw [dp_stk, e]; rfl)]
  · rw [mkL_no (mC_dp e) (Int32.not_lt.mpr h) h2]
theorem mC_0 {m : Int32} (hm : 0 < m) (h : o = 0) : blwC row o ≤ m := by
  subst h
  exact Int32.le_of_lt (Int32.lt_trans (show (-7 : Int32) < 0 by decide) hm)
theorem pC_d {kk : Nat → Int32} {vv : Nat → Int64} {m : Int32} (hm : 0 < m) (h : ¬ blwC row o ≤ m) : pt (stk row (drp row o - 1), (4, 125) :: tks kk vv t, hi) = pt (stk row o, tks kk vv t, hi) ∧ t + 1 ≤ pt (stk row o, tks kk vv t, hi) := by
  have h1 := (mC_1 hm h).2
  have h2 := pC_a (kk := kk) (vv := vv) (t := t) (hi := hi) h1
  have h3 : pt (stk row (drp row o), tks kk vv t, hi) = pt (stk row o, tks kk vv t, hi) := by
    unfold pt
    show (tks kk vv t).length + psn (stk row (drp row o)) = (tks kk vv t).length + psn (stk row o)
    rw [← dp_stk, psn_dp]
  rw [h3] at h2; exact h2
theorem pt_t {kk : Nat → Int32} {vv : Nat → Int64} : t ≤ pt (stk row o, tks kk vv t, hi) := by
  unfold pt
  show t ≤ (tks kk vv t).length + psn (stk row o)
  rw [tks_len]; omega
end LYC
section LYD
variable {kd : Nat → Int32} {vl : Nat → Int64} {col ld wh : Nat → Int32} {n i c : Nat} {x y : Int32} {v : Int64} {s s9 S1 S2 S3 V : Ly} {b b' : Int32}
def hsI (n : Nat) (y : Int32) : Int32 := if y < 0 then 0 else if nI n ≤ y then 0 else 1
theorem hs_in (h : ¬ hsI n y = 0) (hn : n ≤ c) (hc : c < 2 ^ 31) : vp_in y c := by
  unfold hsI at h
  by_cases h1 : y < 0
  · rw [if_pos h1] at h; exact absurd rfl h
  rw [if_neg h1] at h
  by_cases h2 : nI n ≤ y
  · rw [if_pos h2] at h; exact absurd rfl h
  exact xr_inr (Int32.not_lt.mp h1) (Int32.not_le.mp h2) hn hc
theorem hs_yes (h : ¬ hsI n (nI i) = 0) (hi : i ≤ 700) (hn : n ≤ 700) : i < n := by
  rcases Nat.lt_or_ge i n with q | q
  · exact q
  · exfalso
    apply h
    unfold hsI
    by_cases h1 : nI i < 0
    · rw [if_pos h1]
    · rw [if_neg h1, if_pos ((nI_leI (a := n) (b := i) (by omega) (by omega)).mpr q)]
theorem hs_no (h : hsI n (nI i) = 0) (hi : i ≤ 700) (hn : n ≤ 700) : ¬ i < n := by
  intro q
  have h1 : ¬ nI i < (0 : Int32) := fun z => absurd ((nI_ltI (a := i) (b := 0) (by omega) (by omega)).mp z) (by omega)
  have h2 : ¬ nI n ≤ nI i := fun z => absurd ((nI_leI (a := n) (b := i) (by omega) (by omega)).mp z) (by omega)
  unfold hsI at h
  rw [if_neg h1, if_neg h2] at h
  exact absurd h (by decide)
def wdI (kd : Nat → Int32) (vl : Nat → Int64) (n : Nat) (y : Int32) : Int32 := if hsI n y = 0 then -1 else if kd y.toNatClampNeg = 0 then ixE wWd (vl y.toNatClampNeg) 9 0 else -1
theorem wI_0 (h : hsI n y = 0) : -1 = wdI kd vl n y := by unfold wdI; rw [if_pos h]
theorem wI_1 (h : ¬ hsI n y = 0) (q : ¬ x = 0) (ex : x = kd y.toNatClampNeg) : -1 = wdI kd vl n y := by unfold wdI; rw [if_neg h, if_neg (by rw [← ex]; exact q)]
theorem wI_2 (h : ¬ hsI n y = 0) (q : x = 0) (ex : x = kd y.toNatClampNeg) (ev : v = vl y.toNatClampNeg) : ixE wWd v 9 0 = wdI kd vl n y := by unfold wdI; rw [if_neg h, if_pos (by rw [← ex]; exact q), ev]
theorem wI_n (h : i < n) (hn : n ≤ 600) : wdI kd vl n (nI i) = if kd i = 0 then ixE wWd (vl i) 9 0 else -1 := by
  unfold wdI
  rw [if_neg (fun z => hs_no z (by omega) (by omega) h), nI_clamp (by omega)]
theorem wI_p (h : 1 ≤ i) (hi : i ≤ n) (hn : n ≤ 600) : wdI kd vl n (nI i - 1) = if kd (i - 1) = 0 then ixE wWd (vl (i - 1)) 9 0 else -1 := by
  rw [show nI i - 1 = nI (i - 1) from pk_sub (a := i) (b := 1) (by omega)]
  exact wI_n (by omega) hn
theorem wI_z (h : i = 0) : wdI kd vl n (nI i - 1) = -1 := by
  subst h
  exact (wI_0 (by unfold hsI; rw [if_pos (by decide)])).symm
theorem ix_W (v : Int64) : ixE wWd v 9 0 = if (7628140 : Int64) = v then 0 else if (435710945399 : Int64) = v then 1 else if (28516 : Int64) = v then 2 else if (26223 : Int64) = v then 3 else if (28265 : Int64) = v then 4 else if (26217 : Int64) = v then 5 else if (1852139636 : Int64) = v then 6 else if (1702063205 : Int64) = v then 7 else if (1702060387 : Int64) = v then 8 else -1 := rfl
def wdK (k : Int32) (s : Ly) : Option Ly := if k = 0 then some (psL (-1) s) else if k = 5 then some (psL (-2) s) else if k = 8 then some (psL (-4) s) else if k = 6 then (clL (-2) s).map (psL (-3)) else if k = 7 then clL (-3) s else if k = 3 then clL (-4) s else if k = 4 then clL (-1) s else some s
theorem wd_K (v : Int64) (s : Ly) : wdK (ixE wWd v 9 0) s = wdL v s := by
  rw [ix_W]
  by_cases h1 : (7628140 : Int64) = v
  · subst h1; rw [if_pos rfl, wd7628140]; rfl
  rw [if_neg h1]
  by_cases h2 : (435710945399 : Int64) = v
  · subst h2; rw [if_pos rfl, wd_no (by decide) (by decide) (by decide) (by decide) (by decide) (by decide) (by decide)]; rfl
  rw [if_neg h2]
  by_cases h3 : (28516 : Int64) = v
  · subst h3; rw [if_pos rfl, wd_no (by decide) (by decide) (by decide) (by decide) (by decide) (by decide) (by decide)]; rfl
  rw [if_neg h3]
  by_cases h4 : (26223 : Int64) = v
  · subst h4; rw [if_pos rfl, wd26223]; rfl
  rw [if_neg h4]
  by_cases h5 : (28265 : Int64) = v
  · subst h5; rw [if_pos rfl, wd28265]; rfl
  rw [if_neg h5]
  by_cases h6 : (26217 : Int64) = v
  · subst h6; rw [if_pos rfl, wd26217]; rfl
  rw [if_neg h6]
  by_cases h7 : (1852139636 : Int64) = v
  · subst h7; rw [if_pos rfl, wd1852139636]; rfl
  rw [if_neg h7]
  by_cases h8 : (1702063205 : Int64) = v
  · subst h8; rw [if_pos rfl, wd1702063205]; rfl
  rw [if_neg h8]
  by_cases h9 : (1702060387 : Int64) = v
  · subst h9; rw [if_pos rfl, wd1702060387]; rfl
  rw [if_neg h9, wd_no (fun z => h6 z.symm) (fun z => h9 z.symm) (fun z => h1 z.symm) (fun z => h7 z.symm) (fun z => h8 z.symm) (fun z => h4 z.symm) (fun z => h5 z.symm)]; rfl
theorem ix_4 (v : Int64) : (ixE wWd v 9 0 = 0 ∨ ixE wWd v 9 0 = 1 ∨ ixE wWd v 9 0 = 2 ∨ ixE wWd v 9 0 = 3) ↔ (v = 7628140 ∨ v = 435710945399 ∨ v = 28516 ∨ v = 26223) := by
  rw [ix_W]
  by_cases h1 : (7628140 : Int64) = v
  · subst h1; exact ⟨fun _ => Or.inl rfl, fun _ => Or.inl (if_pos rfl)⟩
  by_cases h2 : (435710945399 : Int64) = v
  · subst h2; exact ⟨fun _ => Or.inr (Or.inl rfl), fun _ => Or.inr (Or.inl (by decide))⟩
  by_cases h3 : (28516 : Int64) = v
  · subst h3; exact ⟨fun _ => Or.inr (Or.inr (Or.inl rfl)), fun _ => Or.inr (Or.inr (Or.inl (by decide)))⟩
  by_cases h4 : (26223 : Int64) = v
  · subst h4; exact ⟨fun _ => Or.inr (Or.inr (Or.inr rfl)), fun _ => Or.inr (Or.inr (Or.inr (by decide)))⟩
  rw [if_neg h1, if_neg h2, if_neg h3, if_neg h4]
  constructor
  · intro h
    exfalso
    have key : ∀ z : Int32, (z = 4 ∨ z = 5 ∨ z = 6 ∨ z = 7 ∨ z = 8 ∨ z = -1) → ¬ (z = 0 ∨ z = 1 ∨ z = 2 ∨ z = 3) := by
      intro z hz
      rcases hz with rfl | rfl | rfl | rfl | rfl | rfl <;> decide
    refine key _ ?_ h
    by_cases h5 : (28265 : Int64) = v
    · rw [if_pos h5]; exact Or.inl rfl
    rw [if_neg h5]
    by_cases h6 : (26217 : Int64) = v
    · rw [if_pos h6]; exact Or.inr (Or.inl rfl)
    rw [if_neg h6]
    by_cases h7 : (1852139636 : Int64) = v
    · rw [if_pos h7]; exact Or.inr (Or.inr (Or.inl rfl))
    rw [if_neg h7]
    by_cases h8 : (1702063205 : Int64) = v
    · rw [if_pos h8]; exact Or.inr (Or.inr (Or.inr (Or.inl rfl)))
    rw [if_neg h8]
    by_cases h9 : (1702060387 : Int64) = v
    · rw [if_pos h9]; exact Or.inr (Or.inr (Or.inr (Or.inr (Or.inl rfl))))
    rw [if_neg h9]; exact Or.inr (Or.inr (Or.inr (Or.inr (Or.inr rfl))))
  · intro h
    rcases h with h | h | h | h
    · exact absurd h.symm h1
    · exact absurd h.symm h2
    · exact absurd h.symm h3
    · exact absurd h.symm h4
theorem ba_y (hi : i ≤ n) (hn : n ≤ 600) (h : wdI kd vl n (nI i - 1) = 0 ∨ wdI kd vl n (nI i - 1) = 1 ∨ wdI kd vl n (nI i - 1) = 2 ∨ wdI kd vl n (nI i - 1) = 3) : bgA kd vl i = true := by
  by_cases z : i = 0
  · exact ga_0 z
  rw [wI_p (by omega) hi hn] at h
  by_cases q : kd (i - 1) = 0
  · rw [if_pos q] at h
    have t := (ix_4 _).mp h
    unfold bgA
    rcases t with t | t | t | t <;> simp [q, t]
  · rw [if_neg q] at h
    rcases h with h | h | h | h <;> exact absurd h (by decide)
theorem ba_n (hi : i ≤ n) (hn : n ≤ 600) (z : ¬ i = 0) (h0 : ¬ wdI kd vl n (nI i - 1) = 0) (h1 : ¬ wdI kd vl n (nI i - 1) = 1) (h2 : ¬ wdI kd vl n (nI i - 1) = 2) (h3 : ¬ wdI kd vl n (nI i - 1) = 3) : bgA kd vl i = false := by
  rw [wI_p (by omega) hi hn] at h0 h1 h2 h3
  by_cases q : kd (i - 1) = 0
  · rw [if_pos q] at h0 h1 h2 h3
    have t : ¬ (vl (i - 1) = 7628140 ∨ vl (i - 1) = 435710945399 ∨ vl (i - 1) = 28516 ∨ vl (i - 1) = 26223) := fun w => by
      rcases (ix_4 _).mpr w with w | w | w | w
      · exact h0 w
      · exact h1 w
      · exact h2 w
      · exact h3 w
    simp only [not_or] at t
    simp [bgA, z, t.1, t.2.1, t.2.2.1, t.2.2.2]
  · simp [bgA, z, q]
def sgB (kd : Nat → Int32) (vl : Nat → Int64) (n i : Nat) (y : Int32) : Bool := decide (i < n) && (kd i == 3 && vl i == i6 y)
theorem sB_1 (h : n ≤ i) : (0 : Int32) = b01 (sgB kd vl n i y) := by unfold sgB; rw [decide_eq_false (by omega)]; rfl
theorem sB_2 (h : ¬ kd i = 3) : (0 : Int32) = b01 (sgB kd vl n i y) := by unfold sgB; simp [h, b01]
theorem sB_3 (h : ¬ lg_cmp (vl i) (i6 y) = 0) : (0 : Int32) = b01 (sgB kd vl n i y) := by
  have e : ¬ vl i = i6 y := fun z => h ((lg_cmp_eq _ _).mpr z)
  unfold sgB; simp [e, b01]
theorem sB_4 (h : i < n) (h1 : kd i = 3) (h2 : lg_cmp (vl i) (i6 y) = 0) : (1 : Int32) = b01 (sgB kd vl n i y) := by
  have e := (lg_cmp_eq _ _).mp h2
  unfold sgB; simp [h, h1, e, b01]
theorem bs_0 (h : sgB kd vl n i 123 = true) : (0 : Int32) = b01 (bgB kd vl n i) := by
  simp only [sgB, Bool.and_eq_true, decide_eq_true_eq, beq_iff_eq] at h
  refine b1_f ?_
  have e : i6 123 = 123 := by decide
  rw [e] at h
  unfold bgB
  have z : ¬ i = n := by omega
  simp [z, h.2.1, h.2.2]
theorem bs_1 (hi : i ≤ n) (h : sgB kd vl n i 123 = false) (g : bgA kd vl i = true) : (1 : Int32) = b01 (bgB kd vl n i) := by
  refine b1_t ?_
  unfold bgB
  rw [g, Bool.true_and]
  by_cases z : i = n
  · simp [z]
  · have e : i6 123 = 123 := by decide
    unfold sgB at h
    rw [decide_eq_true (show i < n by omega), Bool.true_and, e] at h
    rw [h]; simp
theorem bs_n (g : bgA kd vl i = false) : (0 : Int32) = b01 (bgB kd vl n i) := gb_n g
def lfI (ld : Nat → Int32) (n i : Nat) : Int32 := if i < n then (if ld i = 0 then 0 else 1) else 0
theorem lf_1 (h : ¬ i < n) : (0 : Int32) = lfI ld n i := by unfold lfI; rw [if_neg h]
theorem lf_2 (h : i < n) (q : ld i = 0) : (0 : Int32) = lfI ld n i := by unfold lfI; rw [if_pos h, if_pos q]
theorem lf_3 (h : i < n) (q : ¬ ld i = 0) : (1 : Int32) = lfI ld n i := by unfold lfI; rw [if_pos h, if_neg q]
theorem lf_y (h : ¬ lfI ld n i = 0) : i < n ∧ ¬ ld i = 0 := by
  unfold lfI at h
  by_cases q : i < n
  · rw [if_pos q] at h
    refine ⟨q, fun z => h (if_pos z)⟩
  · rw [if_neg q] at h; exact absurd rfl h
theorem lf_n (h : lfI ld n i = 0) : ld i = 0 ∨ i ≤ 0 ∨ n ≤ i := by
  unfold lfI at h
  by_cases q : i < n
  · rw [if_pos q] at h
    by_cases z : ld i = 0
    · exact Or.inl z
    · rw [if_neg z] at h; exact absurd h (by decide)
  · exact Or.inr (Or.inr (by omega))
theorem wk_T (h : i < n) (hn : n ≤ 600) (h3 : ¬ kd i = 3) : wdK (wdI kd vl n (nI i)) s = lyT kd vl i s := by
  rw [wI_n h hn]
  unfold lyT
  rw [if_neg h3]
  by_cases q : kd i = 0
  · rw [if_pos q, if_pos q, wd_K]
  · rw [if_neg q, if_neg q]; rfl
theorem some_y {α : Type} {o : Option α} (h : ¬ b01 o.isSome = 0) : ∃ x, o = some x := by
  cases o with
  | none => exact absurd rfl h
  | some x => exact ⟨x, rfl⟩
theorem some_n {α : Type} {o : Option α} (h : b01 o.isSome = 0) : o = none := by
  cases o with
  | none => rfl
  | some x => exact absurd (show (1 : Int32) = 0 from h) (by decide)
theorem l2c {q : Nat} {x : Int64} (h : q < 256) (e : x = i6 (nI q)) : x.toInt32 = nI q := by
  have key : ∀ q, q < 256 → (i6 (nI q)).toInt32 = nI q := by decide +kernel
  rw [e]; exact key q h
theorem i2c_q {q : Nat} (h : q < 256) : ((nI q).toUInt32 % 65536).toInt32 = nI q := by
  have key : ∀ q, q < 256 → ((nI q).toUInt32 % 65536).toInt32 = nI q := by decide +kernel
  exact key q h
def SGN (kd : Nat → Int32) (vl : Nat → Int64) (n : Nat) : Prop := ∀ j, j < n → kd j = 3 → ∃ q, q < 256 ∧ vl j = i6 (nI q)
def lrO : Lr → Int32
  | .inl p => p
  | .inr _ => -1
theorem ly_pc {st : List Int32} {f : Nat → Int32} {w : Nat → Int64} {m : Nat} {hi K : Int32} {Vv : Int64} (ek : K = kd i) (ev : Vv = vl i) : (st, tks (upd f m K) (vp_updL w m Vv) (m + 1), hi) = lyP kd vl i (st, tks f w m, hi) := by
  rw [ek, ev]; exact ly_pe
theorem pt_P : pt (lyP kd vl i s) = pt s + 1 ∧ (lyP kd vl i s).1.length = s.1.length := by
  unfold lyP pt
  exact ⟨by show (_ :: s.2.1).length + psn s.1 = s.2.1.length + psn s.1 + 1; rw [List.length_cons]; omega, rfl⟩
end LYD
section LYF
variable {row : Nat → Int32} {n o k t : Nat} {x y hi due b : Int32} {st a : List Int32} {ts us ts' : List Tk} {B : Bool} {s s9 s8 : Ly} {kk : Nat → Int32} {vv : Nat → Int64}
theorem tk_i2 : tks (upd (upd kk t 4) (t + 1) 4) (vp_updL (vp_updL vv t (i6 123)) (t + 1) (i6 125)) (t + 1 + 1) = (4, 125) :: (4, 123) :: tks kk vv t := by
  rw [tk_i (z := 125) (by decide), tk_i (z := 123) (by decide)]
theorem pt_2 : pt (stk row o, tks (upd (upd kk t 4) (t + 1) 4) (vp_updL (vp_updL vv t (i6 123)) (t + 1) (i6 125)) (t + 1 + 1), hi) = pt (stk row o, tks kk vv t, hi) + 2 := by
  rw [tk_i2]
  unfold pt
  show ((4, 125) :: (4, 123) :: tks kk vv t).length + psn (stk row o) = (tks kk vv t).length + psn (stk row o) + 2
  rw [List.length_cons, List.length_cons]; omega
theorem bC_a (hl : ltC (stk row o) < x) (ht : ts' = (4, 123) :: ts) : (stk (upd row o x) (o + 1), ts', hiO hi o) = bgL x B (stk row o, ts, hi) := by
  rw [ht]; unfold bgL; rw [if_pos hl]; exact ps_stk
theorem bC_b (hl : ¬ ltC (stk row o) < x) (h : x = 0) (ht : ts' = (4, 125) :: (4, 123) :: ts) : (stk row o, ts', hi) = bgL x (decide (x = 0)) (stk row o, ts, hi) := by
  rw [ht]; unfold bgL; rw [if_neg hl, decide_eq_true h, if_pos rfl]
theorem bC_c (hl : ¬ ltC (stk row o) < x) (h : ¬ x = 0) (ht : ts' = (4, 125) :: (4, 123) :: ts) (e : (a, us) = mkL x (stk row o) ts') : (a, us, hi) = bgL x (decide (x = 0)) (stk row o, ts, hi) := by
  rw [ht] at e
  unfold bgL; rw [if_neg hl, decide_eq_false h, if_neg (by decide), ← e]; rfl
theorem brC_y (h : tpC row (drp row o) = 0) : brL (stk row o, ts, hi) = some (stk row (drp row o - 1), ts, hi) := by
  unfold brL
  show clM 0 hi (dpL (stk row o), ts) = _
  rw [dp_stk, tpC_stk (tpC_i h (by decide))]
  show (if tpC row (drp row o) = 0 then some (stk row (drp row o - 1), ts, hi) else none) = _
  rw [if_pos h]
theorem brC_n (h : ¬ tpC row (drp row o) = 0) : brL (stk row o, ts, hi) = none := by
  unfold brL
  show clM 0 hi (dpL (stk row o), ts) = _
  rw [dp_stk]
  rcases Nat.eq_zero_or_pos (drp row o) with e | e
  · rw [e]; rfl
  · rw [tpC_stk e]
    show (if tpC row (drp row o) = 0 then some (stk row (drp row o - 1), ts, hi) else none) = _
    rw [if_neg h]
theorem clC_y {r : Nat → Int32} (hl : (stk r o, us) = lvL (decide (¬ b = 0)) st ts) (hb : decide (¬ b = 0) = !(due == -1)) (ht : tpC r o = due) (hx : ¬ due = -7) : clL due (st, ts, hi) = some (stk r (o - 1), us, hi) := by
  unfold clL
  show clM due hi (lvL (!(due == -1)) st ts) = _
  rw [← hb, ← hl, tpC_stk (tpC_i ht hx)]
  show (if tpC r o = due then some (stk r (o - 1), us, hi) else none) = _
  rw [if_pos ht]
theorem clC_n {r : Nat → Int32} (hl : (stk r o, us) = lvL (decide (¬ b = 0)) st ts) (hb : decide (¬ b = 0) = !(due == -1)) (ht : ¬ tpC r o = due) : clL due (st, ts, hi) = none := by
  unfold clL
  show clM due hi (lvL (!(due == -1)) st ts) = _
  rw [← hb, ← hl]
  rcases Nat.eq_zero_or_pos o with e | e
  · subst e; rfl
  · rw [tpC_stk e]
    show (if tpC r o = due then some (stk r (o - 1), us, hi) else none) = _
    rw [if_neg ht]
theorem wK0 (h : x = 0) : wdK x s = some (psL (-1) s) := by subst h; rfl
theorem wK5 (h : x = 5) : wdK x s = some (psL (-2) s) := by subst h; rfl
theorem wK8 (h : x = 8) : wdK x s = some (psL (-4) s) := by subst h; rfl
theorem wK6 (h : x = 6) : wdK x s = (clL (-2) s).map (psL (-3)) := by subst h; rfl
theorem wK7 (h : x = 7) : wdK x s = clL (-3) s := by subst h; rfl
theorem wK3 (h : x = 3) : wdK x s = clL (-4) s := by subst h; rfl
theorem wK4 (h : x = 4) : wdK x s = clL (-1) s := by subst h; rfl
theorem wK1 (h : x = 1) : wdK x s = some s := by subst h; rfl
theorem wK2 (h : x = 2) : wdK x s = some s := by subst h; rfl
theorem wKn (h0 : ¬ x = 0) (h5 : ¬ x = 5) (h8 : ¬ x = 8) (h6 : ¬ x = 6) (h7 : ¬ x = 7) (h3 : ¬ x = 3) (h4 : ¬ x = 4) : wdK x s = some s := by
  unfold wdK; rw [if_neg h0, if_neg h5, if_neg h8, if_neg h6, if_neg h7, if_neg h3, if_neg h4]
theorem i6_inj (h : i6 x = i6 y) : x = y := by
  apply Int32.toInt_inj.mp
  have e := congrArg Int64.toInt h
  unfold i6 at e
  rw [Int32.toInt_toInt64, Int32.toInt_toInt64] at e
  exact e
theorem i6_ne {z : Int64} (h : ¬ x = y) (e : i6 y = z) : ¬ i6 x = z := fun q => h (i6_inj (q.trans e.symm))
theorem sK40 (h : x = 40) : sgL (i6 x) s = some (psL (-5) s) := by subst h; exact sg40
theorem sK91 (h : x = 91) : sgL (i6 x) s = some (psL (-6) s) := by subst h; exact sg91
theorem sK123 (h : x = 123) : sgL (i6 x) s = some (psL 0 s) := by subst h; exact sg123
theorem sK41 (h : x = 41) : sgL (i6 x) s = clL (-5) s := by subst h; exact sg41
theorem sK93 (h : x = 93) : sgL (i6 x) s = clL (-6) s := by subst h; exact sg93
theorem sK125 (h : x = 125) : sgL (i6 x) s = brL s := by subst h; exact sg125
theorem sK44 (h : x = 44) : sgL (i6 x) s = some (cmL s) := by subst h; exact sg44
theorem sK59 (h : x = 59) : sgL (i6 x) s = some (dpL s.1, s.2) := by subst h; exact sg59
theorem sKn (h40 : ¬ x = 40) (h91 : ¬ x = 91) (h41 : ¬ x = 41) (h93 : ¬ x = 93) (h44 : ¬ x = 44) (h123 : ¬ x = 123) (h125 : ¬ x = 125) (h59 : ¬ x = 59) : sgL (i6 x) s = some s :=
  sg_no (i6_ne h40 (by decide)) (i6_ne h91 (by decide)) (i6_ne h41 (by decide)) (i6_ne h93 (by decide)) (i6_ne h44 (by decide)) (i6_ne h123 (by decide)) (i6_ne h125 (by decide)) (i6_ne h59 (by decide))
theorem so_1 {α : Type} {q : Option α} {z : α} (h : q = some z) : (1 : Int32) = b01 q.isSome := by rw [h]; rfl
theorem so_0 {α : Type} {q : Option α} (h : q = none) : (0 : Int32) = b01 q.isSome := by rw [h]; rfl
theorem so_e {α : Type} {q r : Option α} (h : q = r) : b01 r.isSome = b01 q.isSome := by rw [h]
theorem so_m {q : Option Ly} {r : Option Ly} {f : Ly → Ly} (h : q = r.map f) : b01 r.isSome = b01 q.isSome := by rw [h]; cases r <;> rfl
theorem ps_of {row : Nat → Int32} {o : Nat} (e : (stk row o, ts, hi) = s) : (stk (upd row o x) (o + 1), ts, hiO hi o) = psL x s := by rw [← e]; exact ps_stk
theorem lyB_1 {kd : Nat → Int32} {vl : Nat → Int64} {col ld : Nat → Int32} {i : Nat} {S1 : Ly} (hc : COL col n) (hb : bgB kd vl n i = true) (e : S1 = bgL (if i < n then col i else 0) (decide ((if i < n then col i else 0) = 0)) s) : S1 = lyB kd vl col ld n i s := by
  refine e.trans ((?_ : _ = _).trans (if_pos hb).symm)
  by_cases q : i < n
  · rw [if_pos q, decide_eq_false (fun z => by have := hc i q; rw [z] at this; exact absurd this (by decide)), decide_eq_false (fun z => z q)]
  · rw [if_neg q, decide_eq_true rfl, decide_eq_true q]
theorem lyB_2 {kd : Nat → Int32} {vl : Nat → Int64} {col ld : Nat → Int32} {i : Nat} (hb : bgB kd vl n i = false) (h1 : i < n) (h2 : ¬ ld i = 0) (h3 : 0 < i) (e : (a, us) = mkL (if i < n then col i else 0) st ts) : (a, us, hi) = lyB kd vl col ld n i (st, ts, hi) := by
  rw [if_pos h1] at e
  unfold lyB
  rw [if_neg (by rw [hb]; decide), if_pos ⟨h1, h2, h3⟩]
  show _ = onP (mkL (col i) st ts) hi
  rw [← e]; rfl
/-- a turn of the class's layout that goes on -/
theorem lc_go {kd : Nat → Int32} {vl : Nat → Int64} {wh col ld : Nat → Int32} {i : Nat} {X : Lz} {V S1 S2 S3 : Ly} {b b' : Int32} (h : i < n) (hX : X = lyE kd vl wh col ld n i V b) (hc : COL col n) (hB : S1 = lyB kd vl col ld n i V) (hG : b' = lyG kd vl n i b) (hT : lyT kd vl i S1 = some S2) (hP : S3 = lyP kd vl i S2) (h1 : pt V ≤ 4 * i) (h2 : V.1.length ≤ 2 * i) : X = lyE kd vl wh col ld n (i + 1) S3 b' ∧ pt S3 ≤ 4 * (i + 1) ∧ S3.1.length ≤ 2 * (i + 1) := by
  have g1 := pt_B (kd := kd) (vl := vl) (ld := ld) (i := i) (s := V) hc
  rw [← hB, if_pos h] at g1
  have g2 := pt_T hT
  have g3 := pt_P (kd := kd) (vl := vl) (i := i) (s := S2)
  rw [← hP] at g3
  rw [hB] at hT
  exact ⟨by rw [hX, lyE_go h hT, hP, hG], by omega, by omega⟩
theorem lr_1 {q : Int32} {r : Lr} (h : r = .inl q) : q = lrO r := by rw [h]; rfl
theorem lr_2 {q : List Tk × Int32 × Int32} {r : Lr} (h : r = .inr q) : -1 = lrO r := by rw [h]; rfl
theorem ly_no {kd : Nat → Int32} {vl : Nat → Int64} {wh col ld : Nat → Int32} {i len : Nat} {V S1 : Ly} {b : Int32} (h : i < n) (hX : lyE kd vl wh col ld n 0 ([], [], 0) 0 = lyE kd vl wh col ld n i V b) (hB : S1 = lyB kd vl col ld n i V) (hT : lyT kd vl i S1 = none) : lyR kd vl wh col ld n len = .inl (wh i) := by
  rw [hB] at hT
  exact ly_wr (hX.trans (lyE_no h hT))
end LYF
theorem lp_t {a : List Int32} {us ts : List Tk} {st : List Int32} (e : (a, us) = lvL (decide (¬ (1 : Int32) = 0)) st ts) : (a, us) = lvL true st ts := e
