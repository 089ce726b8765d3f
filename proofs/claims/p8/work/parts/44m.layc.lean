/-! the class's layout: rows that its methods answer by -/
section LYC
variable {f row : Nat → Int32} {n o k j t : Nat} {x y hi due : Int32} {st a : List Int32} {ts us : List Tk} {B : Bool} {s s9 : Ly}
def atI (f : Nat → Int32) (n : Nat) (y : Int32) : Int32 := if y < 0 then -7 else if nI n ≤ y then -7 else f y.toNatClampNeg
theorem at_1 (h : y < 0) : -7 = atI f n y := by unfold atI; rw [if_pos h]
theorem at_2 (h0 : ¬ y < 0) (h : nI n ≤ y) : -7 = atI f n y := by unfold atI; rw [if_neg h0, if_pos h]
theorem at_y (h0 : ¬ y < 0) (h : ¬ nI n ≤ y) (e : x = f y.toNatClampNeg) : x = atI f n y := by unfold atI; rw [if_neg h0, if_neg h]; exact e
theorem at_n (h : j < n) (hn : n ≤ 600) : atI f n (nI j) = f j := by
  have h0 : ¬ nI j < 0 := fun q => absurd ((nI_ltI (a := j) (b := 0) (by omega) (by omega)).mp q) (by omega)
  have h1 : ¬ nI n ≤ nI j := fun q => absurd ((nI_leI (a := n) (b := j) (by omega) (by omega)).mp q) (by omega)
  unfold atI; rw [if_neg h0, if_neg h1, nI_clamp (by omega)]
theorem at_m (h : k = 0) : atI f n (nI k - 1) = -7 := by
  subst h; unfold atI; rw [if_pos (by decide)]
def tpC (row : Nat → Int32) (o : Nat) : Int32 := if 0 < o then row (o - 1) else -7
theorem top_e (hn : n ≤ 600) : atI f n (nI n - 1) = tpC f n := by
  unfold tpC
  by_cases h : 0 < n
  · rw [if_pos h, show nI n - 1 = nI (n - 1) from pk_sub (a := n) (b := 1) (by omega), at_n (by omega) hn]
  · rw [if_neg h, at_m (by omega)]
def blwC (row : Nat → Int32) : Nat → Int32
  | 0 => -7
  | n + 1 => if row n = -1 then blwC row n else row n
theorem bw_s (h : 1 ≤ o) (q : row (o - 1) = -1) : blwC row (o - 1) = blwC row o := by
  obtain ⟨m, rfl⟩ : ∃ m, o = m + 1 := ⟨o - 1, by omega⟩
  rw [show m + 1 - 1 = m by omega] at q ⊢
  rw [blwC, if_pos q]
theorem bw_e (h : 1 ≤ o) (q : ¬ row (o - 1) = -1) : blwC row o = row (o - 1) := by
  obtain ⟨m, rfl⟩ : ∃ m, o = m + 1 := ⟨o - 1, by omega⟩
  rw [show m + 1 - 1 = m by omega] at q ⊢
  rw [blwC, if_neg q]
theorem bw_d : ∀ o, blwC row o = tpC row (drp row o)
  | 0 => rfl
  | m + 1 => by
    rw [blwC, drp]
    by_cases q : row m = -1
    · rw [if_pos q, if_pos q, bw_d m]
    · rw [if_neg q, if_neg q]; unfold tpC; rw [if_pos (by omega), show m + 1 - 1 = m by omega]
theorem dr_s (h : 1 ≤ o) (q : row (o - 1) = -1) : drp row (o - 1) = drp row o := by
  obtain ⟨m, rfl⟩ : ∃ m, o = m + 1 := ⟨o - 1, by omega⟩
  rw [show m + 1 - 1 = m by omega] at q ⊢
  rw [drp, if_pos q]
theorem dr_e (h : o = 0 ∨ ¬ row (o - 1) = -1) : drp row o = o := by
  cases o with
  | zero => rfl
  | succ m =>
    rcases h with h | h
    · omega
    · rw [show m + 1 - 1 = m by omega] at h
      rw [drp, if_neg h]
theorem tpC0 : tpC row 0 = -7 := rfl
theorem tpC_stk (h : 1 ≤ o) : stk row o = tpC row o :: stk row (o - 1) := by
  rw [stk_pop h]; unfold tpC; rw [if_pos (by omega)]
theorem tpC_p (h : 0 < tpC row o) : 1 ≤ o := by
  rcases Nat.eq_zero_or_pos o with e | e
  · rw [e, tpC0] at h; exact absurd h (by decide)
  · exact e
theorem tpC_i (h : tpC row o = x) (hx : ¬ x = -7) : 1 ≤ o := by
  rcases Nat.eq_zero_or_pos o with e | e
  · rw [e, tpC0] at h; exact absurd h.symm hx
  · exact e
/-! how much may still be laid -/
def psn : List Int32 → Nat
  | [] => 0
  | x :: L => psn L + (if 0 < x then 1 else 0)
def pt (s : Ly) : Nat := s.2.1.length + psn s.1
theorem psn_le : ∀ L : List Int32, psn L ≤ L.length
  | [] => Nat.le_refl _
  | x :: L => by
    have := psn_le L
    rw [psn, List.length_cons]; split <;> omega
theorem psn_dp : ∀ L : List Int32, psn (dpL L) = psn L
  | [] => rfl
  | x :: L => by
    rw [dpL]
    by_cases q : x = -1
    · rw [if_pos q, psn_dp L, psn, q, if_neg (by decide)]; rfl
    · rw [if_neg q]
theorem psn_lv : ∀ (L : List Int32) (ts : List Tk), (lvL B L ts).2.length + psn (lvL B L ts).1 = ts.length + psn L ∧ (lvL B L ts).1.length ≤ L.length
  | [], ts => ⟨rfl, Nat.le_refl _⟩
  | x :: L, ts => by
    rw [lvL]
    by_cases q : 0 < x
    · rw [if_pos q]
      obtain ⟨h1, h2⟩ := psn_lv L ((4, 125) :: ts)
      rw [h1, psn, if_pos q, List.length_cons, List.length_cons]
      exact ⟨by omega, by omega⟩
    · rw [if_neg q]
      by_cases z : x = -1 ∧ B = true
      · rw [if_pos z]
        obtain ⟨h1, h2⟩ := psn_lv L ts
        rw [h1, psn, if_neg q, List.length_cons]
        exact ⟨rfl, by omega⟩
      · rw [if_neg z]; exact ⟨rfl, Nat.le_refl _⟩
theorem psn_mkF {m : Int32} : ∀ (g : Nat) (L : List Int32) (ts : List Tk), (0 : Int32) ≤ m → (mkF m g L ts).2.length + psn (mkF m g L ts).1 ≤ ts.length + psn L + 1 ∧ (mkF m g L ts).1.length ≤ L.length
  | 0, L, ts, _ => ⟨by rw [mkF]; show ts.length + psn L ≤ _; omega, by rw [mkF]; exact Nat.le_refl _⟩
  | g + 1, L, ts, hm => by
    rw [mkF]
    cases hd : dpL L with
    | nil => exact ⟨by show ts.length + psn L ≤ _; omega, Nat.le_refl _⟩
    | cons x K =>
      have hl := dp_len L
      have hp := psn_dp L
      rw [hd, List.length_cons] at hl
      rw [hd, psn] at hp
      show (if m < x then mkF m g K ((4, 125) :: ts) else if x = m then (x :: K, (4, 59) :: ts) else (L, ts)).2.length + psn (if m < x then mkF m g K ((4, 125) :: ts) else if x = m then (x :: K, (4, 59) :: ts) else (L, ts)).1 ≤ _ ∧ (if m < x then mkF m g K ((4, 125) :: ts) else if x = m then (x :: K, (4, 59) :: ts) else (L, ts)).1.length ≤ _
      by_cases q : m < x
      · rw [if_pos q]
        obtain ⟨h1, h2⟩ := psn_mkF g K ((4, 125) :: ts) hm
        rw [if_pos (Int32.lt_of_le_of_lt hm q)] at hp
        rw [List.length_cons] at h1
        exact ⟨by omega, by omega⟩
      · rw [if_neg q]
        by_cases z : x = m
        · rw [if_pos z]
          refine ⟨?_, by show (x :: K).length ≤ _; rw [List.length_cons]; omega⟩
          show ((4, 59) :: ts).length + psn (x :: K) ≤ _
          rw [List.length_cons, psn]; omega
        · rw [if_neg z]; exact ⟨by show ts.length + psn L ≤ _; omega, Nat.le_refl _⟩
theorem pt_mk {m : Int32} (hm : (0 : Int32) ≤ m) : pt (onP (mkL m st ts) hi) ≤ pt (st, ts, hi) + 1 ∧ (onP (mkL m st ts) hi).1.length ≤ st.length := psn_mkF _ st ts hm
theorem pt_lv : pt (onP (lvL B st ts) hi) = pt (st, ts, hi) ∧ (onP (lvL B st ts) hi).1.length ≤ st.length := psn_lv st ts
theorem pt_cm : pt (cmL s) ≤ pt s ∧ (cmL s).1.length ≤ s.1.length := by
  unfold cmL
  split
  · have := pt_lv (B := true) (st := s.1) (ts := s.2.1) (hi := s.2.2)
    exact ⟨Nat.le_of_eq this.1, this.2⟩
  · exact ⟨Nat.le_refl _, Nat.le_refl _⟩
theorem clM_in {p : Lp} (h : clM due hi p = some s9) : pt s9 ≤ p.2.length + psn p.1 ∧ s9.1.length ≤ p.1.length := by
  obtain ⟨L, us⟩ := p
  cases L with
  | nil => cases h
  | cons x K =>
    have h' : (if x = due then some (K, us, hi) else none) = some s9 := h
    by_cases q : x = due
    · rw [if_pos q] at h'
      cases h'
      refine ⟨?_, by show K.length ≤ (x :: K).length; rw [List.length_cons]; omega⟩
      show us.length + psn K ≤ us.length + psn (x :: K)
      rw [psn]; omega
    · rw [if_neg q] at h'; cases h'
theorem pt_cl (h : clL due s = some s9) : pt s9 ≤ pt s ∧ s9.1.length ≤ s.1.length := by
  have h1 := clM_in h
  have h2 := psn_lv (B := !(due == -1)) s.1 s.2.1
  unfold pt at *
  omega
theorem pt_br (h : brL s = some s9) : pt s9 ≤ pt s ∧ s9.1.length ≤ s.1.length := by
  have h1 := clM_in h
  have h2 : psn (dpL s.1) = psn s.1 := psn_dp s.1
  have h3 := dp_len s.1
  have h4 : pt s9 ≤ s.2.1.length + psn (dpL s.1) ∧ s9.1.length ≤ (dpL s.1).length := h1
  unfold pt at *
  omega
theorem pt_ps (h : x ≤ 0) : pt (psL x s) ≤ pt s ∧ (psL x s).1.length ≤ s.1.length + 1 := by
  refine ⟨?_, by show (x :: s.1).length ≤ _; rw [List.length_cons]; omega⟩
  show s.2.1.length + psn (x :: s.1) ≤ s.2.1.length + psn s.1
  rw [psn, if_neg (Int32.not_lt.mpr h)]; omega
theorem pt_sg {v : Int64} (h : sgL v s = some s9) : pt s9 ≤ pt s ∧ s9.1.length ≤ s.1.length + 1 := by
  unfold sgL at h
  split at h
  · cases h; exact pt_ps (by decide)
  split at h
  · cases h; exact pt_ps (by decide)
  split at h
  · have := pt_cl h; omega
  split at h
  · have := pt_cl h; omega
  split at h
  · cases h; have := pt_cm (s := s); omega
  split at h
  · cases h; exact pt_ps (by decide)
  split at h
  · have := pt_br h; omega
  split at h
  · cases h
    have h2 := psn_dp s.1
    have h3 := dp_len s.1
    show s.2.1.length + psn (dpL s.1) ≤ s.2.1.length + psn s.1 ∧ (dpL s.1).length ≤ s.1.length + 1
    omega
  · cases h; omega
theorem pt_wd {v : Int64} (h : wdL v s = some s9) : pt s9 ≤ pt s ∧ s9.1.length ≤ s.1.length + 1 := by
  unfold wdL at h
  split at h
  · cases h; exact pt_ps (by decide)
  split at h
  · cases h; exact pt_ps (by decide)
  split at h
  · cases h; exact pt_ps (by decide)
  split at h
  · obtain ⟨s8, hs, rfl⟩ := Option.map_eq_some_iff.mp h
    have h1 := pt_cl hs
    have h2 := pt_ps (x := -3) (s := s8) (by decide)
    omega
  split at h
  · have := pt_cl h; omega
  split at h
  · have := pt_cl h; omega
  split at h
  · have := pt_cl h; omega
  · cases h; omega
theorem pt_T {kd : Nat → Int32} {vl : Nat → Int64} {i : Nat} (h : lyT kd vl i s = some s9) : pt s9 ≤ pt s ∧ s9.1.length ≤ s.1.length + 1 := by
  unfold lyT at h
  split at h
  · exact pt_sg h
  split at h
  · exact pt_wd h
  · cases h; omega
theorem pt_bg {m : Int32} {last : Bool} (hm : (0 : Int32) ≤ m) : pt (bgL m last s) ≤ pt s + (if last = true then 2 else 3) ∧ (bgL m last s).1.length ≤ s.1.length + 1 := by
  unfold bgL
  by_cases h1 : ltC s.1 < m
  · rw [if_pos h1]
    refine ⟨?_, by show (m :: s.1).length ≤ _; rw [List.length_cons]; omega⟩
    show ((4, 123) :: s.2.1).length + psn (m :: s.1) ≤ s.2.1.length + psn s.1 + _
    rw [List.length_cons, psn]
    split <;> split <;> omega
  · rw [if_neg h1]
    by_cases h2 : last = true
    · rw [if_pos h2, if_pos h2]
      refine ⟨?_, by show s.1.length ≤ _; omega⟩
      show ((4, 125) :: (4, 123) :: s.2.1).length + psn s.1 ≤ s.2.1.length + psn s.1 + 2
      rw [List.length_cons, List.length_cons]; omega
    · rw [if_neg h2, if_neg h2]
      have g := pt_mk (st := s.1) (ts := (4, 125) :: (4, 123) :: s.2.1) (hi := s.2.2) hm
      refine ⟨Nat.le_trans g.1 ?_, by omega⟩
      show ((4, 125) :: (4, 123) :: s.2.1).length + psn s.1 + 1 ≤ s.2.1.length + psn s.1 + 3
      rw [List.length_cons, List.length_cons]; omega
def COL (f : Nat → Int32) (n : Nat) : Prop := ∀ j, j < n → 0 < f j
theorem COL.ge (h : COL f n) {i : Nat} : (0 : Int32) ≤ (if i < n then f i else 0) := by
  split
  · rename_i q; exact Int32.le_of_lt (h i q)
  · decide
theorem pt_B {kd : Nat → Int32} {vl : Nat → Int64} {col ld : Nat → Int32} {i : Nat} (hc : COL col n) : pt (lyB kd vl col ld n i s) ≤ pt s + (if i < n then 3 else 2) ∧ (lyB kd vl col ld n i s).1.length ≤ s.1.length + 1 := by
  unfold lyB
  by_cases w : bgB kd vl n i = true
  · rw [if_pos w]
    have g := pt_bg (s := s) (m := if i < n then col i else 0) (last := decide (¬ i < n)) (hc.ge (i := i))
    generalize (if i < n then col i else 0) = M at g ⊢
    by_cases q : i < n
    · have e : decide (¬ i < n) = false := decide_eq_false (fun z => z q)
      rw [e] at g ⊢
      rw [if_pos q]; exact g
    · have e : decide (¬ i < n) = true := decide_eq_true q
      rw [e] at g ⊢
      rw [if_neg q]; exact g
  · rw [if_neg w]
    by_cases h2 : i < n ∧ ¬ ld i = 0 ∧ 0 < i
    · rw [if_pos h2, if_pos h2.1]
      have g := pt_mk (st := s.1) (ts := s.2.1) (hi := s.2.2) (Int32.le_of_lt (hc i h2.1))
      exact ⟨Nat.le_trans g.1 (by show s.2.1.length + psn s.1 + 1 ≤ pt s + 3; unfold pt; omega), by omega⟩
    · rw [if_neg h2]
      exact ⟨by omega, by omega⟩
theorem pt_B1 {kd : Nat → Int32} {vl : Nat → Int64} {col ld : Nat → Int32} {i : Nat} (hc : COL col n) (h : i < n) : pt (lyB kd vl col ld n i (stk row o, ts, hi)) ≤ pt (stk row o, ts, hi) + 3 ∧ (lyB kd vl col ld n i (stk row o, ts, hi)).1.length ≤ o + 1 := by
  have g := pt_B (kd := kd) (vl := vl) (ld := ld) (i := i) (s := (stk row o, ts, hi)) hc
  rw [if_pos h] at g
  refine ⟨g.1, Nat.le_trans g.2 ?_⟩
  show (stk row o).length + 1 ≤ o + 1
  rw [stk_len]; exact Nat.le_refl _
theorem pt_B0 {kd : Nat → Int32} {vl : Nat → Int64} {col ld : Nat → Int32} {i : Nat} (hc : COL col n) (h : ¬ i < n) : pt (lyB kd vl col ld n i (stk row o, ts, hi)) ≤ pt (stk row o, ts, hi) + 2 ∧ (lyB kd vl col ld n i (stk row o, ts, hi)).1.length ≤ o + 1 := by
  have g := pt_B (kd := kd) (vl := vl) (ld := ld) (i := i) (s := (stk row o, ts, hi)) hc
  rw [if_neg h] at g
  refine ⟨g.1, Nat.le_trans g.2 ?_⟩
  show (stk row o).length + 1 ≤ o + 1
  rw [stk_len]; exact Nat.le_refl _
theorem pt_len : s.2.1.length ≤ pt s := Nat.le_add_right _ _
theorem cl_len (h : clL due (stk row o, ts, hi) = some s9) : s9.1.length ≤ o := by
  have h2 : s9.1.length ≤ (stk row o).length := (pt_cl h).2
  rw [stk_len] at h2; exact h2
theorem ly_len {kk : Nat → Int32} {vv : Nat → Int64} (e : (stk f o, tks kk vv t, hi) = s) : o = s.1.length ∧ t = s.2.1.length := by
  rw [← e]
  exact ⟨(stk_len o).symm, (tks_len t).symm⟩
/-! turns of the class's loops -/
theorem tk_i {kk : Nat → Int32} {vv : Nat → Int64} {z : Int64} (h : i6 y = z) : tks (upd kk t 4) (vp_updL vv t (i6 y)) (t + 1) = (4, z) :: tks kk vv t := by rw [tks_put, h]
theorem vC_a (h : 0 < tpC row o) : lvL B (stk row (o - 1)) ((4, 125) :: ts) = lvL B (stk row o) ts := by
  rw [tpC_stk (tpC_p h), lv_pos h]
theorem vC_b (h : tpC row o = -1) (hB : B = true) : lvL B (stk row (o - 1)) ts = lvL B (stk row o) ts := by
  subst hB
  rw [tpC_stk (tpC_i h (by decide)), lv_let h]
theorem vC_z (h : ¬ 0 < tpC row o) (h2 : ¬ (tpC row o = -1 ∧ B = true)) : (stk row o, ts) = lvL B (stk row o) ts := by
  rcases Nat.eq_zero_or_pos o with e | e
  · subst e; rfl
  · rw [tpC_stk e, lv_end h h2]
theorem vC_0 (h : o = 0) : (stk row o, ts) = lvL B (stk row o) ts := by subst h; rfl
theorem pC_a {kk : Nat → Int32} {vv : Nat → Int64} (h : 0 < tpC row o) : pt (stk row (o - 1), (4, 125) :: tks kk vv t, hi) = pt (stk row o, tks kk vv t, hi) ∧ t + 1 ≤ pt (stk row o, tks kk vv t, hi) := by
  unfold pt
  show ((4, 125) :: tks kk vv t).length + psn (stk row (o - 1)) = (tks kk vv t).length + psn (stk row o) ∧ t + 1 ≤ (tks kk vv t).length + psn (stk row o)
  rw [tpC_stk (tpC_p h), psn, if_pos h, List.length_cons, tks_len]
  omega
theorem pC_b (h : ¬ 0 < tpC row o) (ho : 1 ≤ o) : pt (stk row (o - 1), ts, hi) = pt (stk row o, ts, hi) := by
  unfold pt
  show ts.length + psn (stk row (o - 1)) = ts.length + psn (stk row o)
  rw [tpC_stk ho, psn, if_neg h]; rfl
theorem mC_dp (h : 1 ≤ drp row o) : dpL (stk row o) = blwC row o :: stk row (drp row o - 1) := by
  rw [dp_stk, tpC_stk h, bw_d]
theorem mC_1 {m : Int32} (hm : 0 < m) (h : ¬ blwC row o ≤ m) : 1 ≤ drp row o ∧ 0 < tpC row (drp row o) := by
  have h1 := Int32.lt_trans hm (Int32.not_le.mp h)
  rw [bw_d] at h1
  exact ⟨tpC_p h1, h1⟩
theorem mC_a {m : Int32} (hm : 0 < m) (h : ¬ blwC row o ≤ m) : mkL m (stk row (drp row o - 1)) ((4, 125) :: ts) = mkL m (stk row o) ts :=
  (mkL_go (mC_dp (mC_1 hm h).1) (Int32.not_le.mp h)).symm
theorem mC_b {m : Int32} (hm : 0 < m) (h : blwC row o = m) : (stk row (drp row o), (4, 59) :: ts) = mkL m (stk row o) ts := by
  have hp : 1 ≤ drp row o := by
    rw [bw_d] at h
    exact tpC_i h (by intro e; rw [e] at hm; exact absurd hm (by decide))
  rw [mkL_eq (mC_dp hp) (by rw [h]; exact Int32.not_lt.mpr (Int32.le_refl _)) h, tpC_stk hp, bw_d]
theorem mC_c {m : Int32} (h : blwC row o ≤ m) (h2 : ¬ blwC row o = m) : (stk row o, ts) = mkL m (stk row o) ts := by
  rcases Nat.eq_zero_or_pos (drp row o) with e | e
  · rw [mkL_nil (by rw [dp_stk, e]; rfl)]
  · rw [mkL_no (mC_dp e) (Int32.not_lt.mpr h) h2]
theorem mC_0 {m : Int32} (hm : 0 < m) (h : o = 0) : blwC row o ≤ m := by
  subst h
  exact Int32.le_of_lt (Int32.lt_trans (show (-7 : Int32) < 0 by decide) hm)
theorem pC_d {kk : Nat → Int32} {vv : Nat → Int64} {m : Int32} (hm : 0 < m) (h : ¬ blwC row o ≤ m) : pt (stk row (drp row o - 1), (4, 125) :: tks kk vv t, hi) = pt (stk row o, tks kk vv t, hi) ∧ t + 1 ≤ pt (stk row o, tks kk vv t, hi) := by
  have h1 := (mC_1 hm h).2
  have h2 := pC_a (kk := kk) (vv := vv) (t := t) (hi := hi) h1
  have h3 : pt (stk row (drp row o), tks kk vv t, hi) = pt (stk row o, tks kk vv t, hi) := by
    unfold pt
    show (tks kk vv t).length + psn (stk row (drp row o)) = (tks kk vv t).length + psn (stk row o)
    rw [← dp_stk, psn_dp]
  rw [h3] at h2; exact h2
theorem pt_t {kk : Nat → Int32} {vv : Nat → Int64} : t ≤ pt (stk row o, tks kk vv t, hi) := by
  unfold pt
  show t ≤ (tks kk vv t).length + psn (stk row o)
  rw [tks_len]; omega
end LYC
section LYD
variable {kd : Nat → Int32} {vl : Nat → Int64} {col ld wh : Nat → Int32} {n i c : Nat} {x y : Int32} {v : Int64} {s s9 S1 S2 S3 V : Ly} {b b' : Int32}
def hsI (n : Nat) (y : Int32) : Int32 := if y < 0 then 0 else if nI n ≤ y then 0 else 1
theorem hs_in (h : ¬ hsI n y = 0) (hn : n ≤ c) (hc : c < 2 ^ 31) : vp_in y c := by
  unfold hsI at h
  by_cases h1 : y < 0
  · rw [if_pos h1] at h; exact absurd rfl h
  rw [if_neg h1] at h
  by_cases h2 : nI n ≤ y
  · rw [if_pos h2] at h; exact absurd rfl h
  exact xr_inr (Int32.not_lt.mp h1) (Int32.not_le.mp h2) hn hc
theorem hs_yes (h : ¬ hsI n (nI i) = 0) (hi : i ≤ 700) (hn : n ≤ 700) : i < n := by
  rcases Nat.lt_or_ge i n with q | q
  · exact q
  · exfalso
    apply h
    unfold hsI
    by_cases h1 : nI i < 0
    · rw [if_pos h1]
    · rw [if_neg h1, if_pos ((nI_leI (a := n) (b := i) (by omega) (by omega)).mpr q)]
theorem hs_no (h : hsI n (nI i) = 0) (hi : i ≤ 700) (hn : n ≤ 700) : ¬ i < n := by
  intro q
  have h1 : ¬ nI i < (0 : Int32) := fun z => absurd ((nI_ltI (a := i) (b := 0) (by omega) (by omega)).mp z) (by omega)
  have h2 : ¬ nI n ≤ nI i := fun z => absurd ((nI_leI (a := n) (b := i) (by omega) (by omega)).mp z) (by omega)
  unfold hsI at h
  rw [if_neg h1, if_neg h2] at h
  exact absurd h (by decide)
def wdI (kd : Nat → Int32) (vl : Nat → Int64) (n : Nat) (y : Int32) : Int32 := if hsI n y = 0 then -1 else if kd y.toNatClampNeg = 0 then ixE wWd (vl y.toNatClampNeg) 9 0 else -1
theorem wI_0 (h : hsI n y = 0) : -1 = wdI kd vl n y := by unfold wdI; rw [if_pos h]
theorem wI_1 (h : ¬ hsI n y = 0) (q : ¬ x = 0) (ex : x = kd y.toNatClampNeg) : -1 = wdI kd vl n y := by unfold wdI; rw [if_neg h, if_neg (by rw [← ex]; exact q)]
theorem wI_2 (h : ¬ hsI n y = 0) (q : x = 0) (ex : x = kd y.toNatClampNeg) (ev : v = vl y.toNatClampNeg) : ixE wWd v 9 0 = wdI kd vl n y := by unfold wdI; rw [if_neg h, if_pos (by rw [← ex]; exact q), ev]
theorem wI_n (h : i < n) (hn : n ≤ 600) : wdI kd vl n (nI i) = if kd i = 0 then ixE wWd (vl i) 9 0 else -1 := by
  unfold wdI
  rw [if_neg (fun z => hs_no z (by omega) (by omega) h), nI_clamp (by omega)]
theorem wI_p (h : 1 ≤ i) (hi : i ≤ n) (hn : n ≤ 600) : wdI kd vl n (nI i - 1) = if kd (i - 1) = 0 then ixE wWd (vl (i - 1)) 9 0 else -1 := by
  rw [show nI i - 1 = nI (i - 1) from pk_sub (a := i) (b := 1) (by omega)]
  exact wI_n (by omega) hn
theorem wI_z (h : i = 0) : wdI kd vl n (nI i - 1) = -1 := by
  subst h
  exact (wI_0 (by unfold hsI; rw [if_pos (by decide)])).symm
theorem ix_W (v : Int64) : ixE wWd v 9 0 = if (7628140 : Int64) = v then 0 else if (435710945399 : Int64) = v then 1 else if (28516 : Int64) = v then 2 else if (26223 : Int64) = v then 3 else if (28265 : Int64) = v then 4 else if (26217 : Int64) = v then 5 else if (1852139636 : Int64) = v then 6 else if (1702063205 : Int64) = v then 7 else if (1702060387 : Int64) = v then 8 else -1 := rfl
def wdK (k : Int32) (s : Ly) : Option Ly := if k = 0 then some (psL (-1) s) else if k = 5 then some (psL (-2) s) else if k = 8 then some (psL (-4) s) else if k = 6 then (clL (-2) s).map (psL (-3)) else if k = 7 then clL (-3) s else if k = 3 then clL (-4) s else if k = 4 then clL (-1) s else some s
theorem wd_K (v : Int64) (s : Ly) : wdK (ixE wWd v 9 0) s = wdL v s := by
  rw [ix_W]
  by_cases h1 : (7628140 : Int64) = v
  · subst h1; rw [if_pos rfl, wd7628140]; rfl
  rw [if_neg h1]
  by_cases h2 : (435710945399 : Int64) = v
  · subst h2; rw [if_pos rfl, wd_no (by decide) (by decide) (by decide) (by decide) (by decide) (by decide) (by decide)]; rfl
  rw [if_neg h2]
  by_cases h3 : (28516 : Int64) = v
  · subst h3; rw [if_pos rfl, wd_no (by decide) (by decide) (by decide) (by decide) (by decide) (by decide) (by decide)]; rfl
  rw [if_neg h3]
  by_cases h4 : (26223 : Int64) = v
  · subst h4; rw [if_pos rfl, wd26223]; rfl
  rw [if_neg h4]
  by_cases h5 : (28265 : Int64) = v
  · subst h5; rw [if_pos rfl, wd28265]; rfl
  rw [if_neg h5]
  by_cases h6 : (26217 : Int64) = v
  · subst h6; rw [if_pos rfl, wd26217]; rfl
  rw [if_neg h6]
  by_cases h7 : (1852139636 : Int64) = v
  · subst h7; rw [if_pos rfl, wd1852139636]; rfl
  rw [if_neg h7]
  by_cases h8 : (1702063205 : Int64) = v
  · subst h8; rw [if_pos rfl, wd1702063205]; rfl
  rw [if_neg h8]
  by_cases h9 : (1702060387 : Int64) = v
  · subst h9; rw [if_pos rfl, wd1702060387]; rfl
  rw [if_neg h9, wd_no (fun z => h6 z.symm) (fun z => h9 z.symm) (fun z => h1 z.symm) (fun z => h7 z.symm) (fun z => h8 z.symm) (fun z => h4 z.symm) (fun z => h5 z.symm)]; rfl
theorem ix_4 (v : Int64) : (ixE wWd v 9 0 = 0 ∨ ixE wWd v 9 0 = 1 ∨ ixE wWd v 9 0 = 2 ∨ ixE wWd v 9 0 = 3) ↔ (v = 7628140 ∨ v = 435710945399 ∨ v = 28516 ∨ v = 26223) := by
  rw [ix_W]
  by_cases h1 : (7628140 : Int64) = v
  · subst h1; exact ⟨fun _ => Or.inl rfl, fun _ => Or.inl (if_pos rfl)⟩
  by_cases h2 : (435710945399 : Int64) = v
  · subst h2; exact ⟨fun _ => Or.inr (Or.inl rfl), fun _ => Or.inr (Or.inl (by decide))⟩
  by_cases h3 : (28516 : Int64) = v
  · subst h3; exact ⟨fun _ => Or.inr (Or.inr (Or.inl rfl)), fun _ => Or.inr (Or.inr (Or.inl (by decide)))⟩
  by_cases h4 : (26223 : Int64) = v
  · subst h4; exact ⟨fun _ => Or.inr (Or.inr (Or.inr rfl)), fun _ => Or.inr (Or.inr (Or.inr (by decide)))⟩
  rw [if_neg h1, if_neg h2, if_neg h3, if_neg h4]
  constructor
  · intro h
    exfalso
    have key : ∀ z : Int32, (z = 4 ∨ z = 5 ∨ z = 6 ∨ z = 7 ∨ z = 8 ∨ z = -1) → ¬ (z = 0 ∨ z = 1 ∨ z = 2 ∨ z = 3) := by
      intro z hz
      rcases hz with rfl | rfl | rfl | rfl | rfl | rfl <;> decide
    refine key _ ?_ h
    by_cases h5 : (28265 : Int64) = v
    · rw [if_pos h5]; exact Or.inl rfl
    rw [if_neg h5]
    by_cases h6 : (26217 : Int64) = v
    · rw [if_pos h6]; exact Or.inr (Or.inl rfl)
    rw [if_neg h6]
    by_cases h7 : (1852139636 : Int64) = v
    · rw [if_pos h7]; exact Or.inr (Or.inr (Or.inl rfl))
    rw [if_neg h7]
    by_cases h8 : (1702063205 : Int64) = v
    · rw [if_pos h8]; exact Or.inr (Or.inr (Or.inr (Or.inl rfl)))
    rw [if_neg h8]
    by_cases h9 : (1702060387 : Int64) = v
    · rw [if_pos h9]; exact Or.inr (Or.inr (Or.inr (Or.inr (Or.inl rfl))))
    rw [if_neg h9]; exact Or.inr (Or.inr (Or.inr (Or.inr (Or.inr rfl))))
  · intro h
    rcases h with h | h | h | h
    · exact absurd h.symm h1
    · exact absurd h.symm h2
    · exact absurd h.symm h3
    · exact absurd h.symm h4
theorem ba_y (hi : i ≤ n) (hn : n ≤ 600) (h : wdI kd vl n (nI i - 1) = 0 ∨ wdI kd vl n (nI i - 1) = 1 ∨ wdI kd vl n (nI i - 1) = 2 ∨ wdI kd vl n (nI i - 1) = 3) : bgA kd vl i = true := by
  by_cases z : i = 0
  · exact ga_0 z
  rw [wI_p (by omega) hi hn] at h
  by_cases q : kd (i - 1) = 0
  · rw [if_pos q] at h
    have t := (ix_4 _).mp h
    unfold bgA
    rcases t with t | t | t | t <;> simp [q, t]
  · rw [if_neg q] at h
    rcases h with h | h | h | h <;> exact absurd h (by decide)
theorem ba_n (hi : i ≤ n) (hn : n ≤ 600) (z : ¬ i = 0) (h0 : ¬ wdI kd vl n (nI i - 1) = 0) (h1 : ¬ wdI kd vl n (nI i - 1) = 1) (h2 : ¬ wdI kd vl n (nI i - 1) = 2) (h3 : ¬ wdI kd vl n (nI i - 1) = 3) : bgA kd vl i = false := by
  rw [wI_p (by omega) hi hn] at h0 h1 h2 h3
  by_cases q : kd (i - 1) = 0
  · rw [if_pos q] at h0 h1 h2 h3
    have t : ¬ (vl (i - 1) = 7628140 ∨ vl (i - 1) = 435710945399 ∨ vl (i - 1) = 28516 ∨ vl (i - 1) = 26223) := fun w => by
      rcases (ix_4 _).mpr w with w | w | w | w
      · exact h0 w
      · exact h1 w
      · exact h2 w
      · exact h3 w
    simp only [not_or] at t
    simp [bgA, z, t.1, t.2.1, t.2.2.1, t.2.2.2]
  · simp [bgA, z, q]
def sgB (kd : Nat → Int32) (vl : Nat → Int64) (n i : Nat) (y : Int32) : Bool := decide (i < n) && (kd i == 3 && vl i == i6 y)
theorem sB_1 (h : n ≤ i) : (0 : Int32) = b01 (sgB kd vl n i y) := by unfold sgB; rw [decide_eq_false (by omega)]; rfl
theorem sB_2 (h : ¬ kd i = 3) : (0 : Int32) = b01 (sgB kd vl n i y) := by unfold sgB; simp [h, b01]
theorem sB_3 (h : ¬ lg_cmp (vl i) (i6 y) = 0) : (0 : Int32) = b01 (sgB kd vl n i y) := by
  have e : ¬ vl i = i6 y := fun z => h ((lg_cmp_eq _ _).mpr z)
  unfold sgB; simp [e, b01]
theorem sB_4 (h : i < n) (h1 : kd i = 3) (h2 : lg_cmp (vl i) (i6 y) = 0) : (1 : Int32) = b01 (sgB kd vl n i y) := by
  have e := (lg_cmp_eq _ _).mp h2
  unfold sgB; simp [h, h1, e, b01]
theorem bs_0 (h : sgB kd vl n i 123 = true) : (0 : Int32) = b01 (bgB kd vl n i) := by
  simp only [sgB, Bool.and_eq_true, decide_eq_true_eq, beq_iff_eq] at h
  refine b1_f ?_
  have e : i6 123 = 123 := by decide
  rw [e] at h
  unfold bgB
  have z : ¬ i = n := by omega
  simp [z, h.2.1, h.2.2]
theorem bs_1 (hi : i ≤ n) (h : sgB kd vl n i 123 = false) (g : bgA kd vl i = true) : (1 : Int32) = b01 (bgB kd vl n i) := by
  refine b1_t ?_
  unfold bgB
  rw [g, Bool.true_and]
  by_cases z : i = n
  · simp [z]
  · have e : i6 123 = 123 := by decide
    unfold sgB at h
    rw [decide_eq_true (show i < n by omega), Bool.true_and, e] at h
    rw [h]; simp
theorem bs_n (g : bgA kd vl i = false) : (0 : Int32) = b01 (bgB kd vl n i) := gb_n g
def lfI (ld : Nat → Int32) (n i : Nat) : Int32 := if i < n then (if ld i = 0 then 0 else 1) else 0
theorem lf_1 (h : ¬ i < n) : (0 : Int32) = lfI ld n i := by unfold lfI; rw [if_neg h]
theorem lf_2 (h : i < n) (q : ld i = 0) : (0 : Int32) = lfI ld n i := by unfold lfI; rw [if_pos h, if_pos q]
theorem lf_3 (h : i < n) (q : ¬ ld i = 0) : (1 : Int32) = lfI ld n i := by unfold lfI; rw [if_pos h, if_neg q]
theorem lf_y (h : ¬ lfI ld n i = 0) : i < n ∧ ¬ ld i = 0 := by
  unfold lfI at h
  by_cases q : i < n
  · rw [if_pos q] at h
    refine ⟨q, fun z => h (if_pos z)⟩
  · rw [if_neg q] at h; exact absurd rfl h
theorem lf_n (h : lfI ld n i = 0) : ld i = 0 ∨ i ≤ 0 ∨ n ≤ i := by
  unfold lfI at h
  by_cases q : i < n
  · rw [if_pos q] at h
    by_cases z : ld i = 0
    · exact Or.inl z
    · rw [if_neg z] at h; exact absurd h (by decide)
  · exact Or.inr (Or.inr (by omega))
theorem wk_T (h : i < n) (hn : n ≤ 600) (h3 : ¬ kd i = 3) : wdK (wdI kd vl n (nI i)) s = lyT kd vl i s := by
  rw [wI_n h hn]
  unfold lyT
  rw [if_neg h3]
  by_cases q : kd i = 0
  · rw [if_pos q, if_pos q, wd_K]
  · rw [if_neg q, if_neg q]; rfl
theorem some_y {α : Type} {o : Option α} (h : ¬ b01 o.isSome = 0) : ∃ x, o = some x := by
  cases o with
  | none => exact absurd rfl h
  | some x => exact ⟨x, rfl⟩
theorem some_n {α : Type} {o : Option α} (h : b01 o.isSome = 0) : o = none := by
  cases o with
  | none => rfl
  | some x => exact absurd (show (1 : Int32) = 0 from h) (by decide)
theorem l2c {q : Nat} {x : Int64} (h : q < 256) (e : x = i6 (nI q)) : x.toInt32 = nI q := by
  have key : ∀ q, q < 256 → (i6 (nI q)).toInt32 = nI q := by decide +kernel
  rw [e]; exact key q h
theorem i2c_q {q : Nat} (h : q < 256) : ((nI q).toUInt32 % 65536).toInt32 = nI q := by
  have key : ∀ q, q < 256 → ((nI q).toUInt32 % 65536).toInt32 = nI q := by decide +kernel
  exact key q h
def SGN (kd : Nat → Int32) (vl : Nat → Int64) (n : Nat) : Prop := ∀ j, j < n → kd j = 3 → ∃ q, q < 256 ∧ vl j = i6 (nI q)
def lrO : Lr → Int32
  | .inl p => p
  | .inr _ => -1
theorem ly_pc {st : List Int32} {f : Nat → Int32} {w : Nat → Int64} {m : Nat} {hi K : Int32} {Vv : Int64} (ek : K = kd i) (ev : Vv = vl i) : (st, tks (upd f m K) (vp_updL w m Vv) (m + 1), hi) = lyP kd vl i (st, tks f w m, hi) := by
  rw [ek, ev]; exact ly_pe
theorem pt_P : pt (lyP kd vl i s) = pt s + 1 ∧ (lyP kd vl i s).1.length = s.1.length := by
  unfold lyP pt
  exact ⟨by show (_ :: s.2.1).length + psn s.1 = s.2.1.length + psn s.1 + 1; rw [List.length_cons]; omega, rfl⟩
end LYD
section LYF
variable {row : Nat → Int32} {n o k t : Nat} {x y hi due b : Int32} {st a : List Int32} {ts us ts' : List Tk} {B : Bool} {s s9 s8 : Ly} {kk : Nat → Int32} {vv : Nat → Int64}
theorem tk_i2 : tks (upd (upd kk t 4) (t + 1) 4) (vp_updL (vp_updL vv t (i6 123)) (t + 1) (i6 125)) (t + 1 + 1) = (4, 125) :: (4, 123) :: tks kk vv t := by
  rw [tk_i (z := 125) (by decide), tk_i (z := 123) (by decide)]
theorem pt_2 : pt (stk row o, tks (upd (upd kk t 4) (t + 1) 4) (vp_updL (vp_updL vv t (i6 123)) (t + 1) (i6 125)) (t + 1 + 1), hi) = pt (stk row o, tks kk vv t, hi) + 2 := by
  rw [tk_i2]
  unfold pt
  show ((4, 125) :: (4, 123) :: tks kk vv t).length + psn (stk row o) = (tks kk vv t).length + psn (stk row o) + 2
  rw [List.length_cons, List.length_cons]; omega
theorem bC_a (hl : ltC (stk row o) < x) (ht : ts' = (4, 123) :: ts) : (stk (upd row o x) (o + 1), ts', hiO hi o) = bgL x B (stk row o, ts, hi) := by
  rw [ht]; unfold bgL; rw [if_pos hl]; exact ps_stk
theorem bC_b (hl : ¬ ltC (stk row o) < x) (h : x = 0) (ht : ts' = (4, 125) :: (4, 123) :: ts) : (stk row o, ts', hi) = bgL x (decide (x = 0)) (stk row o, ts, hi) := by
  rw [ht]; unfold bgL; rw [if_neg hl, decide_eq_true h, if_pos rfl]
theorem bC_c (hl : ¬ ltC (stk row o) < x) (h : ¬ x = 0) (ht : ts' = (4, 125) :: (4, 123) :: ts) (e : (a, us) = mkL x (stk row o) ts') : (a, us, hi) = bgL x (decide (x = 0)) (stk row o, ts, hi) := by
  rw [ht] at e
  unfold bgL; rw [if_neg hl, decide_eq_false h, if_neg (by decide), ← e]; rfl
theorem brC_y (h : tpC row (drp row o) = 0) : brL (stk row o, ts, hi) = some (stk row (drp row o - 1), ts, hi) := by
  unfold brL
  show clM 0 hi (dpL (stk row o), ts) = _
  rw [dp_stk, tpC_stk (tpC_i h (by decide))]
  show (if tpC row (drp row o) = 0 then some (stk row (drp row o - 1), ts, hi) else none) = _
  rw [if_pos h]
theorem brC_n (h : ¬ tpC row (drp row o) = 0) : brL (stk row o, ts, hi) = none := by
  unfold brL
  show clM 0 hi (dpL (stk row o), ts) = _
  rw [dp_stk]
  rcases Nat.eq_zero_or_pos (drp row o) with e | e
  · rw [e]; rfl
  · rw [tpC_stk e]
    show (if tpC row (drp row o) = 0 then some (stk row (drp row o - 1), ts, hi) else none) = _
    rw [if_neg h]
theorem clC_y {r : Nat → Int32} (hl : (stk r o, us) = lvL (decide (¬ b = 0)) st ts) (hb : decide (¬ b = 0) = !(due == -1)) (ht : tpC r o = due) (hx : ¬ due = -7) : clL due (st, ts, hi) = some (stk r (o - 1), us, hi) := by
  unfold clL
  show clM due hi (lvL (!(due == -1)) st ts) = _
  rw [← hb, ← hl, tpC_stk (tpC_i ht hx)]
  show (if tpC r o = due then some (stk r (o - 1), us, hi) else none) = _
  rw [if_pos ht]
theorem clC_n {r : Nat → Int32} (hl : (stk r o, us) = lvL (decide (¬ b = 0)) st ts) (hb : decide (¬ b = 0) = !(due == -1)) (ht : ¬ tpC r o = due) : clL due (st, ts, hi) = none := by
  unfold clL
  show clM due hi (lvL (!(due == -1)) st ts) = _
  rw [← hb, ← hl]
  rcases Nat.eq_zero_or_pos o with e | e
  · subst e; rfl
  · rw [tpC_stk e]
    show (if tpC r o = due then some (stk r (o - 1), us, hi) else none) = _
    rw [if_neg ht]
theorem wK0 (h : x = 0) : wdK x s = some (psL (-1) s) := by subst h; rfl
theorem wK5 (h : x = 5) : wdK x s = some (psL (-2) s) := by subst h; rfl
theorem wK8 (h : x = 8) : wdK x s = some (psL (-4) s) := by subst h; rfl
theorem wK6 (h : x = 6) : wdK x s = (clL (-2) s).map (psL (-3)) := by subst h; rfl
theorem wK7 (h : x = 7) : wdK x s = clL (-3) s := by subst h; rfl
theorem wK3 (h : x = 3) : wdK x s = clL (-4) s := by subst h; rfl
theorem wK4 (h : x = 4) : wdK x s = clL (-1) s := by subst h; rfl
theorem wK1 (h : x = 1) : wdK x s = some s := by subst h; rfl
theorem wK2 (h : x = 2) : wdK x s = some s := by subst h; rfl
theorem wKn (h0 : ¬ x = 0) (h5 : ¬ x = 5) (h8 : ¬ x = 8) (h6 : ¬ x = 6) (h7 : ¬ x = 7) (h3 : ¬ x = 3) (h4 : ¬ x = 4) : wdK x s = some s := by
  unfold wdK; rw [if_neg h0, if_neg h5, if_neg h8, if_neg h6, if_neg h7, if_neg h3, if_neg h4]
theorem i6_inj (h : i6 x = i6 y) : x = y := by
  apply Int32.toInt_inj.mp
  have e := congrArg Int64.toInt h
  unfold i6 at e
  rw [Int32.toInt_toInt64, Int32.toInt_toInt64] at e
  exact e
theorem i6_ne {z : Int64} (h : ¬ x = y) (e : i6 y = z) : ¬ i6 x = z := fun q => h (i6_inj (q.trans e.symm))
theorem sK40 (h : x = 40) : sgL (i6 x) s = some (psL (-5) s) := by subst h; exact sg40
theorem sK91 (h : x = 91) : sgL (i6 x) s = some (psL (-6) s) := by subst h; exact sg91
theorem sK123 (h : x = 123) : sgL (i6 x) s = some (psL 0 s) := by subst h; exact sg123
theorem sK41 (h : x = 41) : sgL (i6 x) s = clL (-5) s := by subst h; exact sg41
theorem sK93 (h : x = 93) : sgL (i6 x) s = clL (-6) s := by subst h; exact sg93
theorem sK125 (h : x = 125) : sgL (i6 x) s = brL s := by subst h; exact sg125
theorem sK44 (h : x = 44) : sgL (i6 x) s = some (cmL s) := by subst h; exact sg44
theorem sK59 (h : x = 59) : sgL (i6 x) s = some (dpL s.1, s.2) := by subst h; exact sg59
theorem sKn (h40 : ¬ x = 40) (h91 : ¬ x = 91) (h41 : ¬ x = 41) (h93 : ¬ x = 93) (h44 : ¬ x = 44) (h123 : ¬ x = 123) (h125 : ¬ x = 125) (h59 : ¬ x = 59) : sgL (i6 x) s = some s :=
  sg_no (i6_ne h40 (by decide)) (i6_ne h91 (by decide)) (i6_ne h41 (by decide)) (i6_ne h93 (by decide)) (i6_ne h44 (by decide)) (i6_ne h123 (by decide)) (i6_ne h125 (by decide)) (i6_ne h59 (by decide))
theorem so_1 {α : Type} {q : Option α} {z : α} (h : q = some z) : (1 : Int32) = b01 q.isSome := by rw [h]; rfl
theorem so_0 {α : Type} {q : Option α} (h : q = none) : (0 : Int32) = b01 q.isSome := by rw [h]; rfl
theorem so_e {α : Type} {q r : Option α} (h : q = r) : b01 r.isSome = b01 q.isSome := by rw [h]
theorem so_m {q : Option Ly} {r : Option Ly} {f : Ly → Ly} (h : q = r.map f) : b01 r.isSome = b01 q.isSome := by rw [h]; cases r <;> rfl
theorem ps_of {row : Nat → Int32} {o : Nat} (e : (stk row o, ts, hi) = s) : (stk (upd row o x) (o + 1), ts, hiO hi o) = psL x s := by rw [← e]; exact ps_stk
theorem lyB_1 {kd : Nat → Int32} {vl : Nat → Int64} {col ld : Nat → Int32} {i : Nat} {S1 : Ly} (hc : COL col n) (hb : bgB kd vl n i = true) (e : S1 = bgL (if i < n then col i else 0) (decide ((if i < n then col i else 0) = 0)) s) : S1 = lyB kd vl col ld n i s := by
  refine e.trans ((?_ : _ = _).trans (if_pos hb).symm)
  by_cases q : i < n
  · rw [if_pos q, decide_eq_false (fun z => by have := hc i q; rw [z] at this; exact absurd this (by decide)), decide_eq_false (fun z => z q)]
  · rw [if_neg q, decide_eq_true rfl, decide_eq_true q]
theorem lyB_2 {kd : Nat → Int32} {vl : Nat → Int64} {col ld : Nat → Int32} {i : Nat} (hb : bgB kd vl n i = false) (h1 : i < n) (h2 : ¬ ld i = 0) (h3 : 0 < i) (e : (a, us) = mkL (if i < n then col i else 0) st ts) : (a, us, hi) = lyB kd vl col ld n i (st, ts, hi) := by
  rw [if_pos h1] at e
  unfold lyB
  rw [if_neg (by rw [hb]; decide), if_pos ⟨h1, h2, h3⟩]
  show _ = onP (mkL (col i) st ts) hi
  rw [← e]; rfl
/-- a turn of the class's layout that goes on -/
theorem lc_go {kd : Nat → Int32} {vl : Nat → Int64} {wh col ld : Nat → Int32} {i : Nat} {X : Lz} {V S1 S2 S3 : Ly} {b b' : Int32} (h : i < n) (hX : X = lyE kd vl wh col ld n i V b) (hc : COL col n) (hB : S1 = lyB kd vl col ld n i V) (hG : b' = lyG kd vl n i b) (hT : lyT kd vl i S1 = some S2) (hP : S3 = lyP kd vl i S2) (h1 : pt V ≤ 4 * i) (h2 : V.1.length ≤ 2 * i) : X = lyE kd vl wh col ld n (i + 1) S3 b' ∧ pt S3 ≤ 4 * (i + 1) ∧ S3.1.length ≤ 2 * (i + 1) := by
  have g1 := pt_B (kd := kd) (vl := vl) (ld := ld) (i := i) (s := V) hc
  rw [← hB, if_pos h] at g1
  have g2 := pt_T hT
  have g3 := pt_P (kd := kd) (vl := vl) (i := i) (s := S2)
  rw [← hP] at g3
  rw [hB] at hT
  exact ⟨by rw [hX, lyE_go h hT, hP, hG], by omega, by omega⟩
theorem lr_1 {q : Int32} {r : Lr} (h : r = .inl q) : q = lrO r := by rw [h]; rfl
theorem lr_2 {q : List Tk × Int32 × Int32} {r : Lr} (h : r = .inr q) : -1 = lrO r := by rw [h]; rfl
theorem ly_no {kd : Nat → Int32} {vl : Nat → Int64} {wh col ld : Nat → Int32} {i len : Nat} {V S1 : Ly} {b : Int32} (h : i < n) (hX : lyE kd vl wh col ld n 0 ([], [], 0) 0 = lyE kd vl wh col ld n i V b) (hB : S1 = lyB kd vl col ld n i V) (hT : lyT kd vl i S1 = none) : lyR kd vl wh col ld n len = .inl (wh i) := by
  rw [hB] at hT
  exact ly_wr (hX.trans (lyE_no h hT))
end LYF
theorem lp_t {a : List Int32} {us ts : List Tk} {st : List Int32} (e : (a, us) = lvL (decide (¬ (1 : Int32) = 0)) st ts) : (a, us) = lvL true st ts := e
set_option maxHeartbeats 4000000 in
set_option maxRecDepth 100000 in
theorem s_Open_clear6 (l : Launch) (dC : Nat → ClassId) (dI : Nat → Nat → Nat) (sz : Nat) (a_t : Nat) (a_things : Nat) (n_size : Nat) (z_most : Int32) (b_size : n_size ≤ 181) : Met l y_Open_clear w_Open_clear ({ frames := 0, cells := 0, slots := 0, locals := 0 }) (va_Pc [.ref a_t] (fun U => U.heap.size = sz ∧ va_P (dC, dI) vcl [(a_t, .inr (6, [.ref a_things, .int (nI n_size), .int z_most]))] U.heap ∧ va_K (dC, dI) vcl [] U ∧ va_D (fun _ => True) [(a_t, .inr (6, [.ref a_things, .int (nI n_size), .int z_most]))])) (va_Qv (fun (_ : Unit) => True) (fun _ t => ∃ (w_n_size : Nat) (w_z_most : Int32), (w_n_size ≤ 181) ∧ (w_n_size = 0) ∧ (w_z_most = 0) ∧ va_P (dC, dI) vcl [(a_t, .inr (6, [.ref a_things, .int (nI w_n_size), .int w_z_most]))] t.heap ∧ va_K (dC, dI) vcl [] t ∧ va_D (va_A [(a_t, .inr (6, [.ref a_things, .int (nI n_size), .int z_most]))] sz) [(a_t, .inr (6, [.ref a_things, .int (nI w_n_size), .int w_z_most]))]) (va_A [(a_t, .inr (6, [.ref a_things, .int (nI n_size), .int z_most]))] sz)) 0 0 (va_A [(a_t, .inr (6, [.ref a_things, .int (nI n_size), .int z_most]))] sz) := by
  refine Met.ofW (cc := b_Open_clear) (maxL := 1) (ret := none) (by decide) rfl ?_
  intro p e s m args below meth c s₁ B hml hv
  obtain ⟨rfl, hsz, hP, hK, hD0⟩ := hv
  have hx := B.exec
  have hb := B.bytes
  have hr := B.returns
  have hts := atoms_spec (ws := w_Open_clear) B.pre
  have hz : ∀ w ∈ wz, w.before _ s = true := fun w h => hts w (List.mem_cons_of_mem _ h)
  have hown : s.vm.findClass R_Open = some m.cls := findClass_of_methodNamed B.named
  have hlocks := B.notSynchronized
  subst hsz
  have hD := hD0.self (sz := s.heap.size)
  generalize hAe : va_A [(a_t, .inr (6, [.ref a_things, .int (nI n_size), .int z_most]))] s.heap.size = A at hD ⊢
  have hA : ∀ q : Nat, s.heap.size ≤ q → A q := fun q h => by rw [← hAe]; exact Or.inr h
  have hS : va_S A s.heap s.heap [] := va_S.rf
  have hP : va_P (dC, dI) vcl [(a_t, .inr (6, [.ref a_things, .int (nI n_size), .int z_most]))] s.heap := hP
  have hl := lv_entry ([.ref a_t]) (n := 1) (Nat.le_of_ble_eq_true rfl)
  rw [lg_entry_eq]
  generalize (lg_sl ([.ref a_t]) ++ List.replicate (1 - (lg_sl ([.ref a_t])).length) Slot.unset).toArray = ls at hl ⊢
  have hl : lv_has ls 1 [(0, .ref a_t)] := hl
  refine lv_aload_n hx hb d_Open_clear_0 rfl (lv_at hl 0 rfl) ?_
  refine lv_iconst (v := 0) hx hb d_Open_clear_1 (by decide) ?_
  refine va_put (D := (dC, dI)) (ci := 6) (v := .int 0) (ty := .int) (C := R_Open) (T := F_Open) (N := 3) hx hb hz zu_Open t_Open t_Open_ok n_Open hown hK hP hD hS 0 rfl rfl 1 (by decide) (hz (.fieldLink R_Open 15 "LayoutFront$Open" "size" "I") zm_171) (fun _ h9 => h9) rfl (by decide +kernel) (by decide +kernel) rfl (Nat.le_of_ble_eq_true rfl) d_Open_clear_2 (fun H locs hP hD hS => ?_)
  have hP : va_P (dC, dI) vcl [(a_t, .inr (6, [.ref a_things, .int 0, .int z_most]))] H := hP
  have hD : va_D A [(a_t, .inr (6, [.ref a_things, .int 0, .int z_most]))] := hD
  refine lv_aload_n hx hb d_Open_clear_5 rfl (lv_at hl 0 rfl) ?_
  refine lv_iconst (v := 0) hx hb d_Open_clear_6 (by decide) ?_
  refine va_put (D := (dC, dI)) (ci := 6) (v := .int 0) (ty := .int) (C := R_Open) (T := F_Open) (N := 3) hx hb hz zu_Open t_Open t_Open_ok n_Open hown hK hP hD hS 0 rfl rfl 2 (by decide) (hz (.fieldLink R_Open 19 "LayoutFront$Open" "most" "I") zm_172) (fun _ h9 => h9) rfl (by decide +kernel) (by decide +kernel) rfl (Nat.le_of_ble_eq_true rfl) d_Open_clear_7 (fun H locs hP hD hS => ?_)
  have hP : va_P (dC, dI) vcl [(a_t, .inr (6, [.ref a_things, .int 0, .int 0]))] H := hP
  have hD : va_D A [(a_t, .inr (6, [.ref a_things, .int 0, .int 0]))] := hD
  have hP9 := hP.sub (ws' := [(a_t, .inr (6, [.ref a_things, .int 0, .int 0]))]) [0] rfl
  have hD9 := hD.sub (ws' := [(a_t, .inr (6, [.ref a_things, .int 0, .int 0]))]) [0] (by decide) rfl
  exact W.vret hx hb hr (fun t ht hW => ⟨⟨(), rfl, trivial, 0, 0, by first | rfl | omega, by first | rfl | omega, by first | rfl | omega, by rw [ht]; exact hP9, va_K.moved hW.alike hK, hD9⟩, hS.F ht⟩) hS.2.2 d_Open_clear_10
set_option maxHeartbeats 4000000 in
set_option maxRecDepth 100000 in
theorem s_Open_at6 (l : Launch) (dC : Nat → ClassId) (dI : Nat → Nat → Nat) (sz : Nat) (a_t : Nat) (a_things : Nat) (f_things : Nat → Int32) (n_size : Nat) (z_most : Int32) (y0 : Int32) (ka_things : ClassId) (b_size : n_size ≤ 181) : Met l y_Open_at w_Open_at ({ frames := 0, cells := 0, slots := 0, locals := 0 }) (va_Pc [.ref a_t, .int y0] (fun U => U.heap.size = sz ∧ va_P (dC, dI) vcl [(a_t, .inr (6, [.ref a_things, .int (nI n_size), .int z_most])), (a_things, .inl (ka_things, 181, .inl f_things))] U.heap ∧ va_K (dC, dI) vcl [(ka_things, .int)] U ∧ va_D (fun _ => True) [(a_t, .inr (6, [.ref a_things, .int (nI n_size), .int z_most])), (a_things, .inl (ka_things, 181, .inl f_things))])) (va_Qi (fun (r : Int32) (_ : Unit) => r = atI f_things n_size y0) (fun _ t => va_P (dC, dI) vcl [(a_t, .inr (6, [.ref a_things, .int (nI n_size), .int z_most])), (a_things, .inl (ka_things, 181, .inl f_things))] t.heap ∧ va_K (dC, dI) vcl [(ka_things, .int)] t ∧ va_D (va_A [(a_t, .inr (6, [.ref a_things, .int (nI n_size), .int z_most])), (a_things, .inl (ka_things, 181, .inl f_things))] sz) [(a_t, .inr (6, [.ref a_things, .int (nI n_size), .int z_most])), (a_things, .inl (ka_things, 181, .inl f_things))]) (va_A [(a_t, .inr (6, [.ref a_things, .int (nI n_size), .int z_most])), (a_things, .inl (ka_things, 181, .inl f_things))] sz)) 0 0 (va_A [(a_t, .inr (6, [.ref a_things, .int (nI n_size), .int z_most])), (a_things, .inl (ka_things, 181, .inl f_things))] sz) := by
  refine Met.ofW (cc := b_Open_at) (maxL := 2) (ret := (some .int)) (by decide) rfl ?_
  intro p e s m args below meth c s₁ B hml hv
  obtain ⟨rfl, hsz, hP, hK, hD0⟩ := hv
  have hx := B.exec
  have hb := B.bytes
  have hr := B.returns
  have hts := atoms_spec (ws := w_Open_at) B.pre
  have hz : ∀ w ∈ wz, w.before _ s = true := fun w h => hts w (List.mem_cons_of_mem _ h)
  have hown : s.vm.findClass R_Open = some m.cls := findClass_of_methodNamed B.named
  have hlocks := B.notSynchronized
  subst hsz
  have hD := hD0.self (sz := s.heap.size)
  generalize hAe : va_A [(a_t, .inr (6, [.ref a_things, .int (nI n_size), .int z_most])), (a_things, .inl (ka_things, 181, .inl f_things))] s.heap.size = A at hD ⊢
  have hA : ∀ q : Nat, s.heap.size ≤ q → A q := fun q h => by rw [← hAe]; exact Or.inr h
  have hS : va_S A s.heap s.heap [] := va_S.rf
  have hP : va_P (dC, dI) vcl [(a_t, .inr (6, [.ref a_things, .int (nI n_size), .int z_most])), (a_things, .inl (ka_things, 181, .inl f_things))] s.heap := hP
  have hl := lv_entry ([.ref a_t, .int y0]) (n := 2) (Nat.le_of_ble_eq_true rfl)
  rw [lg_entry_eq]
  generalize (lg_sl ([.ref a_t, .int y0]) ++ List.replicate (2 - (lg_sl ([.ref a_t, .int y0])).length) Slot.unset).toArray = ls at hl ⊢
  have hl : lv_has ls 2 [(0, .ref a_t), (1, .int y0)] := hl
  refine lv_iload_n hx hb d_Open_at_0 rfl (lv_at hl 1 rfl) ?_
  refine lv_if_lt (tgt := 21) hx hb d_Open_at_1 (by decide) (fun h1 => ?_) (fun h1 => ?_)
  · have e1 := h1
    refine lv_bipush (v := (-7)) hx hb d_Open_at_21 (by decide) ?_
    have hP9 := hP.sub (ws' := [(a_t, .inr (6, [.ref a_things, .int (nI n_size), .int z_most])), (a_things, .inl (ka_things, 181, .inl f_things))]) [0, 1] rfl
    have hD9 := hD.sub (ws' := [(a_t, .inr (6, [.ref a_things, .int (nI n_size), .int z_most])), (a_things, .inl (ka_things, 181, .inl f_things))]) [0, 1] (by decide) rfl
    exact W.iret (v := (-7)) hx hb hr (fun t ht hW => ⟨⟨(-7), (), rfl, (by exact at_1 e1), by rw [ht]; exact hP9, va_K.moved hW.alike hK, hD9⟩, hS.F ht⟩) hS.2.2 d_Open_at_23
  · have e1 := h1
    refine lv_iload_n hx hb d_Open_at_4 rfl (lv_at hl 1 rfl) ?_
    refine lv_aload_n hx hb d_Open_at_5 rfl (lv_at hl 0 rfl) ?_
    refine va_get (D := (dC, dI)) (ci := 6) (v := .int (nI n_size)) (C := R_Open) (T := F_Open) (N := 3) hx hb hz zu_Open hown hK hP 0 rfl rfl 1 (by decide) (hz (.fieldLink R_Open 15 "LayoutFront$Open" "size" "I") zm_171) (fun _ h9 => h9) rfl d_Open_at_6 ?_
    refine lv_icmp_ge (tgt := 21) hx hb d_Open_at_9 (by decide) (fun h2 => ?_) (fun h2 => ?_)
    · have e9 := h2
      refine lv_bipush (v := (-7)) hx hb d_Open_at_21 (by decide) ?_
      have hP9 := hP.sub (ws' := [(a_t, .inr (6, [.ref a_things, .int (nI n_size), .int z_most])), (a_things, .inl (ka_things, 181, .inl f_things))]) [0, 1] rfl
      have hD9 := hD.sub (ws' := [(a_t, .inr (6, [.ref a_things, .int (nI n_size), .int z_most])), (a_things, .inl (ka_things, 181, .inl f_things))]) [0, 1] (by decide) rfl
      exact W.iret (v := (-7)) hx hb hr (fun t ht hW => ⟨⟨(-7), (), rfl, (by exact at_2 e1 e9), by rw [ht]; exact hP9, va_K.moved hW.alike hK, hD9⟩, hS.F ht⟩) hS.2.2 d_Open_at_23
    · have e9 := h2
      refine lv_aload_n hx hb d_Open_at_12 rfl (lv_at hl 0 rfl) ?_
      refine va_get (D := (dC, dI)) (ci := 6) (v := .ref a_things) (C := R_Open) (T := F_Open) (N := 3) hx hb hz zu_Open hown hK hP 0 rfl rfl 0 (by decide) (hz (.fieldLink R_Open 9 "LayoutFront$Open" "things" "[I") zm_169) (fun _ h9 => h9) rfl d_Open_at_13 ?_
      refine lv_iload_n hx hb d_Open_at_16 rfl (lv_at hl 1 rfl) ?_
      refine va_iald hx hb hK hP 1 0 rfl rfl (xr_inr (xr_ge0 h1) (Int32.not_le.mp h2) (by omega) (by omega)) d_Open_at_17 ?_
      refine lv_topi (fun x3 e_x3 => ?_)
      refine lv_goto (tgt := 23) hx hb d_Open_at_18 (by decide) ?_
      have hP9 := hP.sub (ws' := [(a_t, .inr (6, [.ref a_things, .int (nI n_size), .int z_most])), (a_things, .inl (ka_things, 181, .inl f_things))]) [0, 1] rfl
      have hD9 := hD.sub (ws' := [(a_t, .inr (6, [.ref a_things, .int (nI n_size), .int z_most])), (a_things, .inl (ka_things, 181, .inl f_things))]) [0, 1] (by decide) rfl
      exact W.iret (v := x3) hx hb hr (fun t ht hW => ⟨⟨x3, (), rfl, (by exact at_y e1 e9 (by assumption)), by rw [ht]; exact hP9, va_K.moved hW.alike hK, hD9⟩, hS.F ht⟩) hS.2.2 d_Open_at_23
set_option maxHeartbeats 4000000 in
set_option maxRecDepth 100000 in
theorem s_Open_top6 (l : Launch) (dC : Nat → ClassId) (dI : Nat → Nat → Nat) (sz : Nat) (a_t : Nat) (a_things : Nat) (f_things : Nat → Int32) (n_size : Nat) (z_most : Int32) (ka_things : ClassId) (b_size : n_size ≤ 181) : Met l y_Open_top w_Open_top ({ frames := 1, cells := 0, slots := 0, locals := 21 }) (va_Pc [.ref a_t] (fun U => U.heap.size = sz ∧ va_P (dC, dI) vcl [(a_t, .inr (6, [.ref a_things, .int (nI n_size), .int z_most])), (a_things, .inl (ka_things, 181, .inl f_things))] U.heap ∧ va_K (dC, dI) vcl [(ka_things, .int)] U ∧ va_D (fun _ => True) [(a_t, .inr (6, [.ref a_things, .int (nI n_size), .int z_most])), (a_things, .inl (ka_things, 181, .inl f_things))])) (va_Qi (fun (r : Int32) (_ : Unit) => r = tpC f_things n_size) (fun _ t => va_P (dC, dI) vcl [(a_t, .inr (6, [.ref a_things, .int (nI n_size), .int z_most])), (a_things, .inl (ka_things, 181, .inl f_things))] t.heap ∧ va_K (dC, dI) vcl [(ka_things, .int)] t ∧ va_D (va_A [(a_t, .inr (6, [.ref a_things, .int (nI n_size), .int z_most])), (a_things, .inl (ka_things, 181, .inl f_things))] sz) [(a_t, .inr (6, [.ref a_things, .int (nI n_size), .int z_most])), (a_things, .inl (ka_things, 181, .inl f_things))]) (va_A [(a_t, .inr (6, [.ref a_things, .int (nI n_size), .int z_most])), (a_things, .inl (ka_things, 181, .inl f_things))] sz)) 0 0 (va_A [(a_t, .inr (6, [.ref a_things, .int (nI n_size), .int z_most])), (a_things, .inl (ka_things, 181, .inl f_things))] sz) := by
  refine Met.ofW (cc := b_Open_top) (maxL := 1) (ret := (some .int)) (by decide) rfl ?_
  intro p e s m args below meth c s₁ B hml hv
  obtain ⟨rfl, hsz, hP, hK, hD0⟩ := hv
  have hx := B.exec
  have hb := B.bytes
  have hr := B.returns
  have hts := atoms_spec (ws := w_Open_top) B.pre
  have hz : ∀ w ∈ wz, w.before _ s = true := fun w h => hts w (List.mem_cons_of_mem _ h)
  have hown : s.vm.findClass R_Open = some m.cls := findClass_of_methodNamed B.named
  have hlocks := B.notSynchronized
  subst hsz
  have hD := hD0.self (sz := s.heap.size)
  generalize hAe : va_A [(a_t, .inr (6, [.ref a_things, .int (nI n_size), .int z_most])), (a_things, .inl (ka_things, 181, .inl f_things))] s.heap.size = A at hD ⊢
  have hA : ∀ q : Nat, s.heap.size ≤ q → A q := fun q h => by rw [← hAe]; exact Or.inr h
  have hS : va_S A s.heap s.heap [] := va_S.rf
  have hP : va_P (dC, dI) vcl [(a_t, .inr (6, [.ref a_things, .int (nI n_size), .int z_most])), (a_things, .inl (ka_things, 181, .inl f_things))] s.heap := hP
  have hl := lv_entry ([.ref a_t]) (n := 1) (Nat.le_of_ble_eq_true rfl)
  rw [lg_entry_eq]
  generalize (lg_sl ([.ref a_t]) ++ List.replicate (1 - (lg_sl ([.ref a_t])).length) Slot.unset).toArray = ls at hl ⊢
  have hl : lv_has ls 1 [(0, .ref a_t)] := hl
  refine lv_aload_n hx hb d_Open_top_0 rfl (lv_at hl 0 rfl) ?_
  refine lv_aload_n hx hb d_Open_top_1 rfl (lv_at hl 0 rfl) ?_
  refine va_get (D := (dC, dI)) (ci := 6) (v := .int (nI n_size)) (C := R_Open) (T := F_Open) (N := 3) hx hb hz zu_Open hown hK hP 0 rfl rfl 1 (by decide) (hz (.fieldLink R_Open 15 "LayoutFront$Open" "size" "I") zm_171) (fun _ h9 => h9) rfl d_Open_top_2 ?_
  refine lv_iconst (v := 1) hx hb d_Open_top_5 (by decide) ?_
  refine xr_isub (v := (nI n_size - 1)) hx hb d_Open_top_6 rfl ?_
  have hPc := hP.sub (ws' := [(a_t, .inr (6, [.ref a_things, .int (nI n_size), .int z_most])), (a_things, .inl (ka_things, 181, .inl f_things))]) [0, 1] rfl
  have hDc := hD.sub (ws' := [(a_t, .inr (6, [.ref a_things, .int (nI n_size), .int z_most])), (a_things, .inl (ka_things, 181, .inl f_things))]) [0, 1] (by decide) rfl
  have hKc := hK.sub (tys' := [(ka_things, .int)]) [0] rfl
  have hFc := va_free (wc := [(a_t, .inr (6, [.ref a_things, .int (nI n_size), .int z_most])), (a_things, .inl (ka_things, 181, .inl f_things))]) hD hS hA [0, 1] rfl
  refine va_calli (va_runV (As := [.int (nI n_size - 1)]) (rest := []) ⟨hx, hb, hml, hown, hz⟩ (s_Open_at6 l dC dI s.heap.size a_t a_things f_things n_size z_most ((nI n_size - 1)) ka_things (by first | omega | assumption | exact Or.inl rfl | exact Or.inr rfl)) (cwV 1 hz (zV zm_174 zm_175 zm_176 zm_177 zm_178) rfl rfl rfl (by decide +kernel) ⟨Nat.le_of_ble_eq_true rfl, Nat.le_of_ble_eq_true rfl⟩) ⟨fun a U g mk q => by obtain ⟨q0, q1, qP, qK, qD⟩ := q; exact ⟨q0, q1, qP, va_K.moved (u := U) (U := U.calling g mk a) (Vm.Alike.refl U.vm) qK, qD⟩, va_recv (q := (R_Open, F_Open, 3)) (q0 := 0) (ci := 6) hK hP rfl rfl, fun U hU hW => ⟨rfl, by rw [hU], by rw [hU]; exact hPc, va_K.moved hW.alike hKc, hDc.weaken (fun _ _ _ _ => trivial)⟩⟩ rfl rfl hl.1 rfl (lv_room (Nat.le_of_ble_eq_true rfl)) d_Open_top_7 ⟨Nat.zero_le _, Nat.zero_le _⟩) hS (fun q _ h => hFc q h) hFc (fun r u t H1 locs ht hvm hw hB hz1 hk1 hS => ?_)
  obtain ⟨hP1, hK1, hD1⟩ := hB
  subst r
  rw [ht] at hP1
  obtain ⟨hP, hD⟩ := va_join (wr := []) (w1 := [(a_t, .inr (6, [.ref a_things, .int (nI n_size), .int z_most])), (a_things, .inl (ka_things, 181, .inl f_things))]) hP hD [0, 1] [] rfl rfl (by decide) (by decide) hk1 hFc hP1 hD1
  generalize H1 = H at hP hS ⊢
  have hP : va_P (dC, dI) vcl [(a_t, .inr (6, [.ref a_things, .int (nI n_size), .int z_most])), (a_things, .inl (ka_things, 181, .inl f_things))] H := hP
  have hD : va_D A [(a_t, .inr (6, [.ref a_things, .int (nI n_size), .int z_most])), (a_things, .inl (ka_things, 181, .inl f_things))] := hD
  have hP9 := hP.sub (ws' := [(a_t, .inr (6, [.ref a_things, .int (nI n_size), .int z_most])), (a_things, .inl (ka_things, 181, .inl f_things))]) [0, 1] rfl
  have hD9 := hD.sub (ws' := [(a_t, .inr (6, [.ref a_things, .int (nI n_size), .int z_most])), (a_things, .inl (ka_things, 181, .inl f_things))]) [0, 1] (by decide) rfl
  exact W.iret (v := (atI f_things n_size ((nI n_size - 1)))) hx hb hr (fun t ht hW => ⟨⟨(atI f_things n_size ((nI n_size - 1))), (), rfl, (by exact top_e (by omega)), by rw [ht]; exact hP9, va_K.moved hW.alike hK, hD9⟩, hS.F ht⟩) hS.2.2 d_Open_top_10
set_option maxHeartbeats 4000000 in
set_option maxRecDepth 100000 in
theorem s_Open_push6 (l : Launch) (dC : Nat → ClassId) (dI : Nat → Nat → Nat) (sz : Nat) (a_t : Nat) (a_things : Nat) (f_things : Nat → Int32) (n_size : Nat) (z_most : Int32) (y0 : Int32) (ka_things : ClassId) (b_size : n_size ≤ 181) (hp0 : n_size < 181) : Met l y_Open_push w_Open_push ({ frames := 1, cells := 0, slots := 0, locals := 40 }) (va_Pc [.ref a_t, .int y0] (fun U => U.heap.size = sz ∧ va_P (dC, dI) vcl [(a_t, .inr (6, [.ref a_things, .int (nI n_size), .int z_most])), (a_things, .inl (ka_things, 181, .inl f_things))] U.heap ∧ va_K (dC, dI) vcl [(ka_things, .int)] U ∧ va_D (fun _ => True) [(a_t, .inr (6, [.ref a_things, .int (nI n_size), .int z_most])), (a_things, .inl (ka_things, 181, .inl f_things))])) (va_Qv (fun (_ : Unit) => True) (fun _ t => ∃ (w_n_size : Nat) (w_z_most : Int32) (w_f_things : Nat → Int32), (w_n_size ≤ 181) ∧ (w_n_size = n_size + 1) ∧ (w_z_most = hiO z_most n_size) ∧ (w_f_things = upd f_things n_size y0) ∧ va_P (dC, dI) vcl [(a_t, .inr (6, [.ref a_things, .int (nI w_n_size), .int w_z_most])), (a_things, .inl (ka_things, 181, .inl w_f_things))] t.heap ∧ va_K (dC, dI) vcl [(ka_things, .int)] t ∧ va_D (va_A [(a_t, .inr (6, [.ref a_things, .int (nI n_size), .int z_most])), (a_things, .inl (ka_things, 181, .inl f_things))] sz) [(a_t, .inr (6, [.ref a_things, .int (nI w_n_size), .int w_z_most])), (a_things, .inl (ka_things, 181, .inl w_f_things))]) (va_A [(a_t, .inr (6, [.ref a_things, .int (nI n_size), .int z_most])), (a_things, .inl (ka_things, 181, .inl f_things))] sz)) 0 0 (va_A [(a_t, .inr (6, [.ref a_things, .int (nI n_size), .int z_most])), (a_things, .inl (ka_things, 181, .inl f_things))] sz) := by
  refine Met.ofW (cc := b_Open_push) (maxL := 2) (ret := none) (by decide) rfl ?_
  intro p e s m args below meth c s₁ B hml hv
  obtain ⟨rfl, hsz, hP, hK, hD0⟩ := hv
  have hx := B.exec
  have hb := B.bytes
  have hr := B.returns
  have hts := atoms_spec (ws := w_Open_push) B.pre
  have hz : ∀ w ∈ wz, w.before _ s = true := fun w h => hts w (List.mem_cons_of_mem _ h)
  have hown : s.vm.findClass R_Open = some m.cls := findClass_of_methodNamed B.named
  have hlocks := B.notSynchronized
  subst hsz
  have hD := hD0.self (sz := s.heap.size)
  generalize hAe : va_A [(a_t, .inr (6, [.ref a_things, .int (nI n_size), .int z_most])), (a_things, .inl (ka_things, 181, .inl f_things))] s.heap.size = A at hD ⊢
  have hA : ∀ q : Nat, s.heap.size ≤ q → A q := fun q h => by rw [← hAe]; exact Or.inr h
  have hS : va_S A s.heap s.heap [] := va_S.rf
  have hP : va_P (dC, dI) vcl [(a_t, .inr (6, [.ref a_things, .int (nI n_size), .int z_most])), (a_things, .inl (ka_things, 181, .inl f_things))] s.heap := hP
  have hl := lv_entry ([.ref a_t, .int y0]) (n := 2) (Nat.le_of_ble_eq_true rfl)
  rw [lg_entry_eq]
  generalize (lg_sl ([.ref a_t, .int y0]) ++ List.replicate (2 - (lg_sl ([.ref a_t, .int y0])).length) Slot.unset).toArray = ls at hl ⊢
  have hl : lv_has ls 2 [(0, .ref a_t), (1, .int y0)] := hl
  refine lv_aload_n hx hb d_Open_push_0 rfl (lv_at hl 0 rfl) ?_
  refine va_get (D := (dC, dI)) (ci := 6) (v := .int (nI n_size)) (C := R_Open) (T := F_Open) (N := 3) hx hb hz zu_Open hown hK hP 0 rfl rfl 1 (by decide) (hz (.fieldLink R_Open 15 "LayoutFront$Open" "size" "I") zm_171) (fun _ h9 => h9) rfl d_Open_push_1 ?_
  refine lv_sipush (v := 181) hx hb d_Open_push_4 (by decide) ?_
  refine lv_icmp_ge (tgt := 45) hx hb d_Open_push_7 (by decide) (fun h1 => ?_) (fun h1 => ?_)
  · have h1 : 181 ≤ n_size := (nI_leI (a := 181) (b := n_size) (by omega) (by omega)).mp h1
    (exfalso; omega)
  · have h1 : ¬ 181 ≤ n_size := fun q => h1 ((nI_leI (a := 181) (b := n_size) (by omega) (by omega)).mpr q)
    refine lv_aload_n hx hb d_Open_push_10 rfl (lv_at hl 0 rfl) ?_
    refine va_get (D := (dC, dI)) (ci := 6) (v := .ref a_things) (C := R_Open) (T := F_Open) (N := 3) hx hb hz zu_Open hown hK hP 0 rfl rfl 0 (by decide) (hz (.fieldLink R_Open 9 "LayoutFront$Open" "things" "[I") zm_169) (fun _ h9 => h9) rfl d_Open_push_11 ?_
    refine lv_aload_n hx hb d_Open_push_14 rfl (lv_at hl 0 rfl) ?_
    refine va_get (D := (dC, dI)) (ci := 6) (v := .int (nI n_size)) (C := R_Open) (T := F_Open) (N := 3) hx hb hz zu_Open hown hK hP 0 rfl rfl 1 (by decide) (hz (.fieldLink R_Open 15 "LayoutFront$Open" "size" "I") zm_171) (fun _ h9 => h9) rfl d_Open_push_15 ?_
    refine lv_iload_n hx hb d_Open_push_18 rfl (lv_at hl 1 rfl) ?_
    refine va_iast hx hb hK hP hD hS 1 0 rfl rfl (vp_in_nI (by omega) (by omega)) d_Open_push_19 (fun H locs hP hD hS => ?_)
    rw [show ((nI n_size) : Int32).toNatClampNeg = n_size from nI_clamp (by omega)] at hP hD
    have hP : va_P (dC, dI) vcl [(a_t, .inr (6, [.ref a_things, .int (nI n_size), .int z_most])), (a_things, .inl (ka_things, 181, .inl (upd f_things n_size y0)))] H := hP
    have hD : va_D A [(a_t, .inr (6, [.ref a_things, .int (nI n_size), .int z_most])), (a_things, .inl (ka_things, 181, .inl (upd f_things n_size y0)))] := hD
    refine lv_aload_n hx hb d_Open_push_20 rfl (lv_at hl 0 rfl) ?_
    refine lv_dup hx hb d_Open_push_21 rfl ?_
    refine va_get (D := (dC, dI)) (ci := 6) (v := .int (nI n_size)) (C := R_Open) (T := F_Open) (N := 3) hx hb hz zu_Open hown hK hP 0 rfl rfl 1 (by decide) (hz (.fieldLink R_Open 15 "LayoutFront$Open" "size" "I") zm_171) (fun _ h9 => h9) rfl d_Open_push_22 ?_
    refine lv_iconst (v := 1) hx hb d_Open_push_25 (by decide) ?_
    refine xr_iadd (v := (nI (n_size + 1))) hx hb d_Open_push_26 (nI_add n_size 1) ?_
    refine va_put (D := (dC, dI)) (ci := 6) (v := .int (nI (n_size + 1))) (ty := .int) (C := R_Open) (T := F_Open) (N := 3) hx hb hz zu_Open t_Open t_Open_ok n_Open hown hK hP hD hS 0 rfl rfl 1 (by decide) (hz (.fieldLink R_Open 15 "LayoutFront$Open" "size" "I") zm_171) (fun _ h9 => h9) rfl (by decide +kernel) rfl rfl (Nat.le_of_ble_eq_true rfl) d_Open_push_27 (fun H locs hP hD hS => ?_)
    have hP : va_P (dC, dI) vcl [(a_t, .inr (6, [.ref a_things, .int (nI (n_size + 1)), .int z_most])), (a_things, .inl (ka_things, 181, .inl (upd f_things n_size y0)))] H := hP
    have hD : va_D A [(a_t, .inr (6, [.ref a_things, .int (nI (n_size + 1)), .int z_most])), (a_things, .inl (ka_things, 181, .inl (upd f_things n_size y0)))] := hD
    refine lv_aload_n hx hb d_Open_push_30 rfl (lv_at hl 0 rfl) ?_
    refine lv_aload_n hx hb d_Open_push_31 rfl (lv_at hl 0 rfl) ?_
    refine va_get (D := (dC, dI)) (ci := 6) (v := .int z_most) (C := R_Open) (T := F_Open) (N := 3) hx hb hz zu_Open hown hK hP 0 rfl rfl 2 (by decide) (hz (.fieldLink R_Open 19 "LayoutFront$Open" "most" "I") zm_172) (fun _ h9 => h9) rfl d_Open_push_32 ?_
    refine lv_aload_n hx hb d_Open_push_35 rfl (lv_at hl 0 rfl) ?_
    refine va_get (D := (dC, dI)) (ci := 6) (v := .int (nI (n_size + 1))) (C := R_Open) (T := F_Open) (N := 3) hx hb hz zu_Open hown hK hP 0 rfl rfl 1 (by decide) (hz (.fieldLink R_Open 15 "LayoutFront$Open" "size" "I") zm_171) (fun _ h9 => h9) rfl d_Open_push_36 ?_
    refine xr_max (v := (if z_most < (nI (n_size + 1)) then (nI (n_size + 1)) else z_most)) hx hb (hml.trans hl.1.symm) hown (hz (.methodLink R_Open 22 Lib.Math.max.name) zm_173) (hz (.static Lib.Math.max.name) zm_1023) (hz (.initialized "java/lang/Math") zm_1024) (hz (.code Lib.Math.max.name Lib.Math.max.code 2 (some .int)) zm_1025) (Nat.le_of_ble_eq_true rfl) (Nat.le_of_ble_eq_true rfl) (Nat.le_of_ble_eq_true rfl) (Nat.le_of_ble_eq_true rfl) d_Open_push_39 rfl ?_
    refine va_put (D := (dC, dI)) (ci := 6) (v := .int (if z_most < (nI (n_size + 1)) then (nI (n_size + 1)) else z_most)) (ty := .int) (C := R_Open) (T := F_Open) (N := 3) hx hb hz zu_Open t_Open t_Open_ok n_Open hown hK hP hD hS 0 rfl rfl 2 (by decide) (hz (.fieldLink R_Open 19 "LayoutFront$Open" "most" "I") zm_172) (fun _ h9 => h9) rfl (by decide +kernel) rfl rfl (Nat.le_of_ble_eq_true rfl) d_Open_push_42 (fun H locs hP hD hS => ?_)
    have hP : va_P (dC, dI) vcl [(a_t, .inr (6, [.ref a_things, .int (nI (n_size + 1)), .int (if z_most < (nI (n_size + 1)) then (nI (n_size + 1)) else z_most)])), (a_things, .inl (ka_things, 181, .inl (upd f_things n_size y0)))] H := hP
    have hD : va_D A [(a_t, .inr (6, [.ref a_things, .int (nI (n_size + 1)), .int (if z_most < (nI (n_size + 1)) then (nI (n_size + 1)) else z_most)])), (a_things, .inl (ka_things, 181, .inl (upd f_things n_size y0)))] := hD
    have hP9 := hP.sub (ws' := [(a_t, .inr (6, [.ref a_things, .int (nI (n_size + 1)), .int (if z_most < (nI (n_size + 1)) then (nI (n_size + 1)) else z_most)])), (a_things, .inl (ka_things, 181, .inl (upd f_things n_size y0)))]) [0, 1] rfl
    have hD9 := hD.sub (ws' := [(a_t, .inr (6, [.ref a_things, .int (nI (n_size + 1)), .int (if z_most < (nI (n_size + 1)) then (nI (n_size + 1)) else z_most)])), (a_things, .inl (ka_things, 181, .inl (upd f_things n_size y0)))]) [0, 1] (by decide) rfl
    exact W.vret hx hb hr (fun t ht hW => ⟨⟨(), rfl, trivial, ((n_size + 1)), ((if z_most < (nI (n_size + 1)) then (nI (n_size + 1)) else z_most)), ((upd f_things n_size y0)), by first | rfl | omega, by first | rfl | omega, by first | rfl | omega, by first | rfl | omega, by rw [ht]; exact hP9, va_K.moved hW.alike hK, hD9⟩, hS.F ht⟩) hS.2.2 d_Open_push_45
set_option maxHeartbeats 4000000 in
set_option maxRecDepth 100000 in
theorem s_Open_pop6 (l : Launch) (dC : Nat → ClassId) (dI : Nat → Nat → Nat) (sz : Nat) (a_t : Nat) (a_things : Nat) (n_size : Nat) (z_most : Int32) (b_size : n_size ≤ 181) : Met l y_Open_pop w_Open_pop ({ frames := 0, cells := 0, slots := 0, locals := 0 }) (va_Pc [.ref a_t] (fun U => U.heap.size = sz ∧ va_P (dC, dI) vcl [(a_t, .inr (6, [.ref a_things, .int (nI n_size), .int z_most]))] U.heap ∧ va_K (dC, dI) vcl [] U ∧ va_D (fun _ => True) [(a_t, .inr (6, [.ref a_things, .int (nI n_size), .int z_most]))])) (va_Qv (fun (_ : Unit) => True) (fun _ t => ∃ (w_n_size : Nat), (w_n_size ≤ 181) ∧ (w_n_size = n_size - 1) ∧ va_P (dC, dI) vcl [(a_t, .inr (6, [.ref a_things, .int (nI w_n_size), .int z_most]))] t.heap ∧ va_K (dC, dI) vcl [] t ∧ va_D (va_A [(a_t, .inr (6, [.ref a_things, .int (nI n_size), .int z_most]))] sz) [(a_t, .inr (6, [.ref a_things, .int (nI w_n_size), .int z_most]))]) (va_A [(a_t, .inr (6, [.ref a_things, .int (nI n_size), .int z_most]))] sz)) 0 0 (va_A [(a_t, .inr (6, [.ref a_things, .int (nI n_size), .int z_most]))] sz) := by
  refine Met.ofW (cc := b_Open_pop) (maxL := 1) (ret := none) (by decide) rfl ?_
  intro p e s m args below meth c s₁ B hml hv
  obtain ⟨rfl, hsz, hP, hK, hD0⟩ := hv
  have hx := B.exec
  have hb := B.bytes
  have hr := B.returns
  have hts := atoms_spec (ws := w_Open_pop) B.pre
  have hz : ∀ w ∈ wz, w.before _ s = true := fun w h => hts w (List.mem_cons_of_mem _ h)
  have hown : s.vm.findClass R_Open = some m.cls := findClass_of_methodNamed B.named
  have hlocks := B.notSynchronized
  subst hsz
  have hD := hD0.self (sz := s.heap.size)
  generalize hAe : va_A [(a_t, .inr (6, [.ref a_things, .int (nI n_size), .int z_most]))] s.heap.size = A at hD ⊢
  have hA : ∀ q : Nat, s.heap.size ≤ q → A q := fun q h => by rw [← hAe]; exact Or.inr h
  have hS : va_S A s.heap s.heap [] := va_S.rf
  have hP : va_P (dC, dI) vcl [(a_t, .inr (6, [.ref a_things, .int (nI n_size), .int z_most]))] s.heap := hP
  have hl := lv_entry ([.ref a_t]) (n := 1) (Nat.le_of_ble_eq_true rfl)
  rw [lg_entry_eq]
  generalize (lg_sl ([.ref a_t]) ++ List.replicate (1 - (lg_sl ([.ref a_t])).length) Slot.unset).toArray = ls at hl ⊢
  have hl : lv_has ls 1 [(0, .ref a_t)] := hl
  refine lv_aload_n hx hb d_Open_pop_0 rfl (lv_at hl 0 rfl) ?_
  refine va_get (D := (dC, dI)) (ci := 6) (v := .int (nI n_size)) (C := R_Open) (T := F_Open) (N := 3) hx hb hz zu_Open hown hK hP 0 rfl rfl 1 (by decide) (hz (.fieldLink R_Open 15 "LayoutFront$Open" "size" "I") zm_171) (fun _ h9 => h9) rfl d_Open_pop_1 ?_
  refine lv_if_le (tgt := 17) hx hb d_Open_pop_4 (by decide) (fun h1 => ?_) (fun h1 => ?_)
  · have h1 : n_size ≤ 0 := (nI_leI (a := n_size) (b := 0) (by omega) (by omega)).mp h1
    have hP9 := hP.sub (ws' := [(a_t, .inr (6, [.ref a_things, .int (nI n_size), .int z_most]))]) [0] rfl
    have hD9 := hD.sub (ws' := [(a_t, .inr (6, [.ref a_things, .int (nI n_size), .int z_most]))]) [0] (by decide) rfl
    exact W.vret hx hb hr (fun t ht hW => ⟨⟨(), rfl, trivial, n_size, by first | rfl | omega, by first | rfl | omega, by rw [ht]; exact hP9, va_K.moved hW.alike hK, hD9⟩, hS.F ht⟩) hS.2.2 d_Open_pop_17
  · have h1 : ¬ n_size ≤ 0 := fun q => h1 ((nI_leI (a := n_size) (b := 0) (by omega) (by omega)).mpr q)
    refine lv_aload_n hx hb d_Open_pop_7 rfl (lv_at hl 0 rfl) ?_
    refine lv_dup hx hb d_Open_pop_8 rfl ?_
    refine va_get (D := (dC, dI)) (ci := 6) (v := .int (nI n_size)) (C := R_Open) (T := F_Open) (N := 3) hx hb hz zu_Open hown hK hP 0 rfl rfl 1 (by decide) (hz (.fieldLink R_Open 15 "LayoutFront$Open" "size" "I") zm_171) (fun _ h9 => h9) rfl d_Open_pop_9 ?_
    refine lv_iconst (v := 1) hx hb d_Open_pop_12 (by decide) ?_
    refine xr_isub (v := (nI (n_size - 1))) hx hb d_Open_pop_13 (pk_sub (a := n_size) (b := 1) (by omega)) ?_
    refine va_put (D := (dC, dI)) (ci := 6) (v := .int (nI (n_size - 1))) (ty := .int) (C := R_Open) (T := F_Open) (N := 3) hx hb hz zu_Open t_Open t_Open_ok n_Open hown hK hP hD hS 0 rfl rfl 1 (by decide) (hz (.fieldLink R_Open 15 "LayoutFront$Open" "size" "I") zm_171) (fun _ h9 => h9) rfl (by decide +kernel) rfl rfl (Nat.le_of_ble_eq_true rfl) d_Open_pop_14 (fun H locs hP hD hS => ?_)
    have hP : va_P (dC, dI) vcl [(a_t, .inr (6, [.ref a_things, .int (nI (n_size - 1)), .int z_most]))] H := hP
    have hD : va_D A [(a_t, .inr (6, [.ref a_things, .int (nI (n_size - 1)), .int z_most]))] := hD
    have hP9 := hP.sub (ws' := [(a_t, .inr (6, [.ref a_things, .int (nI (n_size - 1)), .int z_most]))]) [0] rfl
    have hD9 := hD.sub (ws' := [(a_t, .inr (6, [.ref a_things, .int (nI (n_size - 1)), .int z_most]))]) [0] (by decide) rfl
    exact W.vret hx hb hr (fun t ht hW => ⟨⟨(), rfl, trivial, ((n_size - 1)), by first | rfl | omega, by first | rfl | omega, by rw [ht]; exact hP9, va_K.moved hW.alike hK, hD9⟩, hS.F ht⟩) hS.2.2 d_Open_pop_17
set_option maxHeartbeats 4000000 in
set_option maxRecDepth 100000 in
theorem s_Open_belowLets6 (l : Launch) (dC : Nat → ClassId) (dI : Nat → Nat → Nat) (sz : Nat) (a_t : Nat) (a_things : Nat) (f_things : Nat → Int32) (n_size : Nat) (z_most : Int32) (ka_things : ClassId) (b_size : n_size ≤ 181) : Met l y_Open_belowLets w_Open_belowLets ({ frames := 1, cells := 0, slots := 0, locals := 21 }) (va_Pc [.ref a_t] (fun U => U.heap.size = sz ∧ va_P (dC, dI) vcl [(a_t, .inr (6, [.ref a_things, .int (nI n_size), .int z_most])), (a_things, .inl (ka_things, 181, .inl f_things))] U.heap ∧ va_K (dC, dI) vcl [(ka_things, .int)] U ∧ va_D (fun _ => True) [(a_t, .inr (6, [.ref a_things, .int (nI n_size), .int z_most])), (a_things, .inl (ka_things, 181, .inl f_things))])) (va_Qi (fun (r : Int32) (_ : Unit) => r = blwC f_things n_size) (fun _ t => va_P (dC, dI) vcl [(a_t, .inr (6, [.ref a_things, .int (nI n_size), .int z_most])), (a_things, .inl (ka_things, 181, .inl f_things))] t.heap ∧ va_K (dC, dI) vcl [(ka_things, .int)] t ∧ va_D (va_A [(a_t, .inr (6, [.ref a_things, .int (nI n_size), .int z_most])), (a_things, .inl (ka_things, 181, .inl f_things))] sz) [(a_t, .inr (6, [.ref a_things, .int (nI n_size), .int z_most])), (a_things, .inl (ka_things, 181, .inl f_things))]) (va_A [(a_t, .inr (6, [.ref a_things, .int (nI n_size), .int z_most])), (a_things, .inl (ka_things, 181, .inl f_things))] sz)) 0 0 (va_A [(a_t, .inr (6, [.ref a_things, .int (nI n_size), .int z_most])), (a_things, .inl (ka_things, 181, .inl f_things))] sz) := by
  refine Met.ofW (cc := b_Open_belowLets) (maxL := 2) (ret := (some .int)) (by decide) rfl ?_
  intro p e s m args below meth c s₁ B hml hv
  obtain ⟨rfl, hsz, hP, hK, hD0⟩ := hv
  have hx := B.exec
  have hb := B.bytes
  have hr := B.returns
  have hts := atoms_spec (ws := w_Open_belowLets) B.pre
  have hz : ∀ w ∈ wz, w.before _ s = true := fun w h => hts w (List.mem_cons_of_mem _ h)
  have hown : s.vm.findClass R_Open = some m.cls := findClass_of_methodNamed B.named
  have hlocks := B.notSynchronized
  subst hsz
  have hD := hD0.self (sz := s.heap.size)
  generalize hAe : va_A [(a_t, .inr (6, [.ref a_things, .int (nI n_size), .int z_most])), (a_things, .inl (ka_things, 181, .inl f_things))] s.heap.size = A at hD ⊢
  have hA : ∀ q : Nat, s.heap.size ≤ q → A q := fun q h => by rw [← hAe]; exact Or.inr h
  have hS : va_S A s.heap s.heap [] := va_S.rf
  have hP : va_P (dC, dI) vcl [(a_t, .inr (6, [.ref a_things, .int (nI n_size), .int z_most])), (a_things, .inl (ka_things, 181, .inl f_things))] s.heap := hP
  have hl := lv_entry ([.ref a_t]) (n := 2) (Nat.le_of_ble_eq_true rfl)
  rw [lg_entry_eq]
  generalize (lg_sl ([.ref a_t]) ++ List.replicate (2 - (lg_sl ([.ref a_t])).length) Slot.unset).toArray = ls at hl ⊢
  have hl : lv_has ls 2 [(0, .ref a_t)] := hl
  refine lv_aload_n hx hb d_Open_belowLets_0 rfl (lv_at hl 0 rfl) ?_
  refine va_get (D := (dC, dI)) (ci := 6) (v := .int (nI n_size)) (C := R_Open) (T := F_Open) (N := 3) hx hb hz zu_Open hown hK hP 0 rfl rfl 1 (by decide) (hz (.fieldLink R_Open 15 "LayoutFront$Open" "size" "I") zm_171) (fun _ h9 => h9) rfl d_Open_belowLets_1 ?_
  refine lv_iconst (v := 1) hx hb d_Open_belowLets_4 (by decide) ?_
  refine xr_isub (v := (nI n_size - 1)) hx hb d_Open_belowLets_5 rfl ?_
  refine lv_istore_n hx hb d_Open_belowLets_6 rfl hl (by decide) rfl (fun ls hl => ?_)
  have hl : lv_has ls 2 [(1, .int (nI n_size - 1)), (0, .ref a_t)] := hl
  refine xr_loop (α := (Nat)) (fun a => (fun (k1 : Nat) => k1) a) (fun a H locs ls => (fun (k1 : Nat) => (k1 ≤ 181) ∧ (k1 ≤ n_size) ∧ (blwC f_things k1 = blwC f_things n_size) ∧ lv_has ls 2 [(1, .int (nI k1 - 1)), (0, .ref a_t)] ∧ va_P (dC, dI) vcl [(a_t, .inr (6, [.ref a_things, .int (nI n_size), .int z_most])), (a_things, .inl (ka_things, 181, .inl f_things))] H ∧ va_D A [(a_t, .inr (6, [.ref a_things, .int (nI n_size), .int z_most])), (a_things, .inl (ka_things, 181, .inl f_things))] ∧ va_S A s.heap H locs) a) (fun a ih7 H locs ls hI => ?_) (n_size) _ _ _ ⟨by show n_size ≤ 181; first | omega | assumption | exact Or.inl rfl | exact Or.inr rfl | decide, by show n_size ≤ n_size; first | omega | assumption | exact Or.inl rfl | exact Or.inr rfl | decide, by show blwC f_things n_size = blwC f_things n_size; rfl, hl, hP, hD, hS⟩
  generalize a = k1 at ih7 hI
  obtain ⟨bl0, bl1, bl2, hl, hP, hD, hS⟩ := hI
  have bl0 : k1 ≤ 181 := bl0
  have bl1 : k1 ≤ n_size := bl1
  have bl2 : blwC f_things k1 = blwC f_things n_size := bl2
  have iE := bl2
  have hl : lv_has ls 2 [(1, .int (nI k1 - 1)), (0, .ref a_t)] := hl
  have hP : va_P (dC, dI) vcl [(a_t, .inr (6, [.ref a_things, .int (nI n_size), .int z_most])), (a_things, .inl (ka_things, 181, .inl f_things))] H := hP
  have hD : va_D A [(a_t, .inr (6, [.ref a_things, .int (nI n_size), .int z_most])), (a_things, .inl (ka_things, 181, .inl f_things))] := hD
  refine lv_iload_n hx hb d_Open_belowLets_7 rfl (lv_at hl 0 rfl) ?_
  refine lv_if_lt (tgt := 26) hx hb d_Open_belowLets_8 (by decide) (fun h1 => ?_) (fun h1 => ?_)
  · have h1 : k1 = 0 := (xr_pred_lt (by omega)).mp h1
    refine lv_aload_n hx hb d_Open_belowLets_26 rfl (lv_at hl 1 rfl) ?_
    refine lv_iload_n hx hb d_Open_belowLets_27 rfl (lv_at hl 0 rfl) ?_
    have hPc := hP.sub (ws' := [(a_t, .inr (6, [.ref a_things, .int (nI n_size), .int z_most])), (a_things, .inl (ka_things, 181, .inl f_things))]) [0, 1] rfl
    have hDc := hD.sub (ws' := [(a_t, .inr (6, [.ref a_things, .int (nI n_size), .int z_most])), (a_things, .inl (ka_things, 181, .inl f_things))]) [0, 1] (by decide) rfl
    have hKc := hK.sub (tys' := [(ka_things, .int)]) [0] rfl
    have hFc := va_free (wc := [(a_t, .inr (6, [.ref a_things, .int (nI n_size), .int z_most])), (a_things, .inl (ka_things, 181, .inl f_things))]) hD hS hA [0, 1] rfl
    refine va_calli (va_runV (As := [.int (nI k1 - 1)]) (rest := []) ⟨hx, hb, hml, hown, hz⟩ (s_Open_at6 l dC dI H.size a_t a_things f_things n_size z_most ((nI k1 - 1)) ka_things (by first | omega | assumption | exact Or.inl rfl | exact Or.inr rfl | decide)) (cwV 1 hz (zV zm_174 zm_175 zm_176 zm_177 zm_178) rfl rfl rfl (by decide +kernel) ⟨Nat.le_of_ble_eq_true rfl, Nat.le_of_ble_eq_true rfl⟩) ⟨fun a U g mk q => by obtain ⟨q0, q1, qP, qK, qD⟩ := q; exact ⟨q0, q1, qP, va_K.moved (u := U) (U := U.calling g mk a) (Vm.Alike.refl U.vm) qK, qD⟩, va_recv (q := (R_Open, F_Open, 3)) (q0 := 0) (ci := 6) hK hP rfl rfl, fun U hU hW => ⟨rfl, by rw [hU], by rw [hU]; exact hPc, va_K.moved hW.alike hKc, hDc.weaken (fun _ _ _ _ => trivial)⟩⟩ rfl rfl hl.1 rfl (lv_room (Nat.le_of_ble_eq_true rfl)) d_Open_belowLets_28 ⟨Nat.zero_le _, Nat.zero_le _⟩) hS (fun q _ h => hFc q h) hFc (fun r u t H1 locs ht hvm hw hB hz1 hk1 hS => ?_)
    obtain ⟨hP1, hK1, hD1⟩ := hB
    subst r
    rw [ht] at hP1
    obtain ⟨hP, hD⟩ := va_join (wr := []) (w1 := [(a_t, .inr (6, [.ref a_things, .int (nI n_size), .int z_most])), (a_things, .inl (ka_things, 181, .inl f_things))]) hP hD [0, 1] [] rfl rfl (by decide) (by decide) hk1 hFc hP1 hD1
    generalize H1 = H at hP hS ⊢
    have hP : va_P (dC, dI) vcl [(a_t, .inr (6, [.ref a_things, .int (nI n_size), .int z_most])), (a_things, .inl (ka_things, 181, .inl f_things))] H := hP
    have hD : va_D A [(a_t, .inr (6, [.ref a_things, .int (nI n_size), .int z_most])), (a_things, .inl (ka_things, 181, .inl f_things))] := hD
    have hP9 := hP.sub (ws' := [(a_t, .inr (6, [.ref a_things, .int (nI n_size), .int z_most])), (a_things, .inl (ka_things, 181, .inl f_things))]) [0, 1] rfl
    have hD9 := hD.sub (ws' := [(a_t, .inr (6, [.ref a_things, .int (nI n_size), .int z_most])), (a_things, .inl (ka_things, 181, .inl f_things))]) [0, 1] (by decide) rfl
    exact W.iret (v := (atI f_things n_size ((nI k1 - 1)))) hx hb hr (fun t ht hW => ⟨⟨(atI f_things n_size ((nI k1 - 1))), (), rfl, (by have z9 : k1 = 0 := (by omega); rw [at_m z9, ← iE, z9]; rfl), by rw [ht]; exact hP9, va_K.moved hW.alike hK, hD9⟩, hS.F ht⟩) hS.2.2 d_Open_belowLets_31
  · have h1 : ¬ k1 = 0 := fun q => h1 ((xr_pred_lt (by omega)).mpr q)
    have e_h1 : nI k1 - 1 = nI (k1 - 1) := pk_sub (a := k1) (b := 1) (by omega)
    have hl : lv_has ls 2 [(1, .int (nI (k1 - 1))), (0, .ref a_t)] := Eq.mp (congrArg (lv_has ls 2) (by rw [e_h1])) hl
    refine lv_aload_n hx hb d_Open_belowLets_11 rfl (lv_at hl 1 rfl) ?_
    refine lv_iload_n hx hb d_Open_belowLets_12 rfl (lv_at hl 0 rfl) ?_
    have hPc := hP.sub (ws' := [(a_t, .inr (6, [.ref a_things, .int (nI n_size), .int z_most])), (a_things, .inl (ka_things, 181, .inl f_things))]) [0, 1] rfl
    have hDc := hD.sub (ws' := [(a_t, .inr (6, [.ref a_things, .int (nI n_size), .int z_most])), (a_things, .inl (ka_things, 181, .inl f_things))]) [0, 1] (by decide) rfl
    have hKc := hK.sub (tys' := [(ka_things, .int)]) [0] rfl
    have hFc := va_free (wc := [(a_t, .inr (6, [.ref a_things, .int (nI n_size), .int z_most])), (a_things, .inl (ka_things, 181, .inl f_things))]) hD hS hA [0, 1] rfl
    refine va_calli (va_runV (As := [.int (nI (k1 - 1))]) (rest := []) ⟨hx, hb, hml, hown, hz⟩ (s_Open_at6 l dC dI H.size a_t a_things f_things n_size z_most ((nI (k1 - 1))) ka_things (by first | omega | assumption | exact Or.inl rfl | exact Or.inr rfl | decide)) (cwV 1 hz (zV zm_174 zm_175 zm_176 zm_177 zm_178) rfl rfl rfl (by decide +kernel) ⟨Nat.le_of_ble_eq_true rfl, Nat.le_of_ble_eq_true rfl⟩) ⟨fun a U g mk q => by obtain ⟨q0, q1, qP, qK, qD⟩ := q; exact ⟨q0, q1, qP, va_K.moved (u := U) (U := U.calling g mk a) (Vm.Alike.refl U.vm) qK, qD⟩, va_recv (q := (R_Open, F_Open, 3)) (q0 := 0) (ci := 6) hK hP rfl rfl, fun U hU hW => ⟨rfl, by rw [hU], by rw [hU]; exact hPc, va_K.moved hW.alike hKc, hDc.weaken (fun _ _ _ _ => trivial)⟩⟩ rfl rfl hl.1 rfl (lv_room (Nat.le_of_ble_eq_true rfl)) d_Open_belowLets_13 ⟨Nat.zero_le _, Nat.zero_le _⟩) hS (fun q _ h => hFc q h) hFc (fun r u t H1 locs ht hvm hw hB hz1 hk1 hS => ?_)
    obtain ⟨hP1, hK1, hD1⟩ := hB
    subst r
    rw [ht] at hP1
    obtain ⟨hP, hD⟩ := va_join (wr := []) (w1 := [(a_t, .inr (6, [.ref a_things, .int (nI n_size), .int z_most])), (a_things, .inl (ka_things, 181, .inl f_things))]) hP hD [0, 1] [] rfl rfl (by decide) (by decide) hk1 hFc hP1 hD1
    generalize H1 = H at hP hS ⊢
    have hP : va_P (dC, dI) vcl [(a_t, .inr (6, [.ref a_things, .int (nI n_size), .int z_most])), (a_things, .inl (ka_things, 181, .inl f_things))] H := hP
    have hD : va_D A [(a_t, .inr (6, [.ref a_things, .int (nI n_size), .int z_most])), (a_things, .inl (ka_things, 181, .inl f_things))] := hD
    refine lv_iconst (v := (-1)) hx hb d_Open_belowLets_16 (by decide) ?_
    refine lv_icmp_ne (tgt := 26) hx hb d_Open_belowLets_17 (by decide) (fun h2 => ?_) (fun h2 => ?_)
    · have e17 := h2
      rw [at_n (by omega) (by omega)] at e17
      refine lv_aload_n hx hb d_Open_belowLets_26 rfl (lv_at hl 1 rfl) ?_
      refine lv_iload_n hx hb d_Open_belowLets_27 rfl (lv_at hl 0 rfl) ?_
      have hPc := hP.sub (ws' := [(a_t, .inr (6, [.ref a_things, .int (nI n_size), .int z_most])), (a_things, .inl (ka_things, 181, .inl f_things))]) [0, 1] rfl
      have hDc := hD.sub (ws' := [(a_t, .inr (6, [.ref a_things, .int (nI n_size), .int z_most])), (a_things, .inl (ka_things, 181, .inl f_things))]) [0, 1] (by decide) rfl
      have hKc := hK.sub (tys' := [(ka_things, .int)]) [0] rfl
      have hFc := va_free (wc := [(a_t, .inr (6, [.ref a_things, .int (nI n_size), .int z_most])), (a_things, .inl (ka_things, 181, .inl f_things))]) hD hS hA [0, 1] rfl
      refine va_calli (va_runV (As := [.int (nI (k1 - 1))]) (rest := []) ⟨hx, hb, hml, hown, hz⟩ (s_Open_at6 l dC dI H.size a_t a_things f_things n_size z_most ((nI (k1 - 1))) ka_things (by first | omega | assumption | exact Or.inl rfl | exact Or.inr rfl | decide)) (cwV 1 hz (zV zm_174 zm_175 zm_176 zm_177 zm_178) rfl rfl rfl (by decide +kernel) ⟨Nat.le_of_ble_eq_true rfl, Nat.le_of_ble_eq_true rfl⟩) ⟨fun a U g mk q => by obtain ⟨q0, q1, qP, qK, qD⟩ := q; exact ⟨q0, q1, qP, va_K.moved (u := U) (U := U.calling g mk a) (Vm.Alike.refl U.vm) qK, qD⟩, va_recv (q := (R_Open, F_Open, 3)) (q0 := 0) (ci := 6) hK hP rfl rfl, fun U hU hW => ⟨rfl, by rw [hU], by rw [hU]; exact hPc, va_K.moved hW.alike hKc, hDc.weaken (fun _ _ _ _ => trivial)⟩⟩ rfl rfl hl.1 rfl (lv_room (Nat.le_of_ble_eq_true rfl)) d_Open_belowLets_28 ⟨Nat.zero_le _, Nat.zero_le _⟩) hS (fun q _ h => hFc q h) hFc (fun r u t H1 locs ht hvm hw hB hz1 hk1 hS => ?_)
      obtain ⟨hP1, hK1, hD1⟩ := hB
      subst r
      rw [ht] at hP1
      obtain ⟨hP, hD⟩ := va_join (wr := []) (w1 := [(a_t, .inr (6, [.ref a_things, .int (nI n_size), .int z_most])), (a_things, .inl (ka_things, 181, .inl f_things))]) hP hD [0, 1] [] rfl rfl (by decide) (by decide) hk1 hFc hP1 hD1
      generalize H1 = H at hP hS ⊢
      have hP : va_P (dC, dI) vcl [(a_t, .inr (6, [.ref a_things, .int (nI n_size), .int z_most])), (a_things, .inl (ka_things, 181, .inl f_things))] H := hP
      have hD : va_D A [(a_t, .inr (6, [.ref a_things, .int (nI n_size), .int z_most])), (a_things, .inl (ka_things, 181, .inl f_things))] := hD
      have hP9 := hP.sub (ws' := [(a_t, .inr (6, [.ref a_things, .int (nI n_size), .int z_most])), (a_things, .inl (ka_things, 181, .inl f_things))]) [0, 1] rfl
      have hD9 := hD.sub (ws' := [(a_t, .inr (6, [.ref a_things, .int (nI n_size), .int z_most])), (a_things, .inl (ka_things, 181, .inl f_things))]) [0, 1] (by decide) rfl
      exact W.iret (v := (atI f_things n_size ((nI (k1 - 1))))) hx hb hr (fun t ht hW => ⟨⟨(atI f_things n_size ((nI (k1 - 1)))), (), rfl, (by exact (at_n (by omega) (by omega)).trans ((bw_e (by omega) e17).symm.trans iE)), by rw [ht]; exact hP9, va_K.moved hW.alike hK, hD9⟩, hS.F ht⟩) hS.2.2 d_Open_belowLets_31
    · have e17 := h2
      rw [at_n (by omega) (by omega)] at e17
      refine lv_iinc (k := 0) (v := (nI (k1 - 1) - 1)) hx hb d_Open_belowLets_20 hl rfl (xr_dec2 _) (by decide) rfl (fun ls hl => ?_)
      have hl : lv_has ls 2 [(1, .int (nI (k1 - 1) - 1)), (0, .ref a_t)] := hl
      refine lv_goto (tgt := 7) hx hb d_Open_belowLets_23 (by decide) ?_
      have hP9 := hP.sub (ws' := [(a_t, .inr (6, [.ref a_things, .int (nI n_size), .int z_most])), (a_things, .inl (ka_things, 181, .inl f_things))]) [0, 1] rfl
      have hD9 := hD.sub (ws' := [(a_t, .inr (6, [.ref a_things, .int (nI n_size), .int z_most])), (a_things, .inl (ka_things, 181, .inl f_things))]) [0, 1] (by decide) rfl
      exact ih7 ((k1 - 1)) (by show ((k1 - 1)) < k1; omega) _ _ _ ⟨by show ((k1 - 1)) ≤ 181; first | omega | assumption | exact Or.inl rfl | exact Or.inr rfl | decide, by show ((k1 - 1)) ≤ n_size; first | omega | assumption | exact Or.inl rfl | exact Or.inr rfl | decide, by show blwC f_things ((k1 - 1)) = blwC f_things n_size; exact (bw_s (by omega) e17).trans iE, hl, hP9, hD9, hS⟩
set_option maxHeartbeats 4000000 in
set_option maxRecDepth 100000 in
theorem s_Open_belowLetsAndLaidBlocks6 (l : Launch) (dC : Nat → ClassId) (dI : Nat → Nat → Nat) (sz : Nat) (a_t : Nat) (a_things : Nat) (f_things : Nat → Int32) (n_size : Nat) (z_most : Int32) (ka_things : ClassId) (b_size : n_size ≤ 181) : Met l y_Open_belowLetsAndLaidBlocks w_Open_belowLetsAndLaidBlocks ({ frames := 1, cells := 0, slots := 0, locals := 21 }) (va_Pc [.ref a_t] (fun U => U.heap.size = sz ∧ va_P (dC, dI) vcl [(a_t, .inr (6, [.ref a_things, .int (nI n_size), .int z_most])), (a_things, .inl (ka_things, 181, .inl f_things))] U.heap ∧ va_K (dC, dI) vcl [(ka_things, .int)] U ∧ va_D (fun _ => True) [(a_t, .inr (6, [.ref a_things, .int (nI n_size), .int z_most])), (a_things, .inl (ka_things, 181, .inl f_things))])) (va_Qi (fun (r : Int32) (_ : Unit) => r = blC (stk f_things n_size)) (fun _ t => va_P (dC, dI) vcl [(a_t, .inr (6, [.ref a_things, .int (nI n_size), .int z_most])), (a_things, .inl (ka_things, 181, .inl f_things))] t.heap ∧ va_K (dC, dI) vcl [(ka_things, .int)] t ∧ va_D (va_A [(a_t, .inr (6, [.ref a_things, .int (nI n_size), .int z_most])), (a_things, .inl (ka_things, 181, .inl f_things))] sz) [(a_t, .inr (6, [.ref a_things, .int (nI n_size), .int z_most])), (a_things, .inl (ka_things, 181, .inl f_things))]) (va_A [(a_t, .inr (6, [.ref a_things, .int (nI n_size), .int z_most])), (a_things, .inl (ka_things, 181, .inl f_things))] sz)) 0 0 (va_A [(a_t, .inr (6, [.ref a_things, .int (nI n_size), .int z_most])), (a_things, .inl (ka_things, 181, .inl f_things))] sz) := by
  refine Met.ofW (cc := b_Open_belowLetsAndLaidBlocks) (maxL := 2) (ret := (some .int)) (by decide) rfl ?_
  intro p e s m args below meth c s₁ B hml hv
  obtain ⟨rfl, hsz, hP, hK, hD0⟩ := hv
  have hx := B.exec
  have hb := B.bytes
  have hr := B.returns
  have hts := atoms_spec (ws := w_Open_belowLetsAndLaidBlocks) B.pre
  have hz : ∀ w ∈ wz, w.before _ s = true := fun w h => hts w (List.mem_cons_of_mem _ h)
  have hown : s.vm.findClass R_Open = some m.cls := findClass_of_methodNamed B.named
  have hlocks := B.notSynchronized
  subst hsz
  have hD := hD0.self (sz := s.heap.size)
  generalize hAe : va_A [(a_t, .inr (6, [.ref a_things, .int (nI n_size), .int z_most])), (a_things, .inl (ka_things, 181, .inl f_things))] s.heap.size = A at hD ⊢
  have hA : ∀ q : Nat, s.heap.size ≤ q → A q := fun q h => by rw [← hAe]; exact Or.inr h
  have hS : va_S A s.heap s.heap [] := va_S.rf
  have hP : va_P (dC, dI) vcl [(a_t, .inr (6, [.ref a_things, .int (nI n_size), .int z_most])), (a_things, .inl (ka_things, 181, .inl f_things))] s.heap := hP
  have hl := lv_entry ([.ref a_t]) (n := 2) (Nat.le_of_ble_eq_true rfl)
  rw [lg_entry_eq]
  generalize (lg_sl ([.ref a_t]) ++ List.replicate (2 - (lg_sl ([.ref a_t])).length) Slot.unset).toArray = ls at hl ⊢
  have hl : lv_has ls 2 [(0, .ref a_t)] := hl
  refine lv_aload_n hx hb d_Open_belowLetsAndLaidBlocks_0 rfl (lv_at hl 0 rfl) ?_
  refine va_get (D := (dC, dI)) (ci := 6) (v := .int (nI n_size)) (C := R_Open) (T := F_Open) (N := 3) hx hb hz zu_Open hown hK hP 0 rfl rfl 1 (by decide) (hz (.fieldLink R_Open 15 "LayoutFront$Open" "size" "I") zm_171) (fun _ h9 => h9) rfl d_Open_belowLetsAndLaidBlocks_1 ?_
  refine lv_iconst (v := 1) hx hb d_Open_belowLetsAndLaidBlocks_4 (by decide) ?_
  refine xr_isub (v := (nI n_size - 1)) hx hb d_Open_belowLetsAndLaidBlocks_5 rfl ?_
  refine lv_istore_n hx hb d_Open_belowLetsAndLaidBlocks_6 rfl hl (by decide) rfl (fun ls hl => ?_)
  have hl : lv_has ls 2 [(1, .int (nI n_size - 1)), (0, .ref a_t)] := hl
  refine xr_loop (α := (Nat)) (fun a => (fun (k1 : Nat) => k1) a) (fun a H locs ls => (fun (k1 : Nat) => (k1 ≤ 181) ∧ (k1 ≤ n_size) ∧ (blC (stk f_things k1) = blC (stk f_things n_size)) ∧ lv_has ls 2 [(1, .int (nI k1 - 1)), (0, .ref a_t)] ∧ va_P (dC, dI) vcl [(a_t, .inr (6, [.ref a_things, .int (nI n_size), .int z_most])), (a_things, .inl (ka_things, 181, .inl f_things))] H ∧ va_D A [(a_t, .inr (6, [.ref a_things, .int (nI n_size), .int z_most])), (a_things, .inl (ka_things, 181, .inl f_things))] ∧ va_S A s.heap H locs) a) (fun a ih7 H locs ls hI => ?_) (n_size) _ _ _ ⟨by show n_size ≤ 181; first | omega | assumption | exact Or.inl rfl | exact Or.inr rfl | decide, by show n_size ≤ n_size; first | omega | assumption | exact Or.inl rfl | exact Or.inr rfl | decide, by show blC (stk f_things n_size) = blC (stk f_things n_size); rfl, hl, hP, hD, hS⟩
  generalize a = k1 at ih7 hI
  obtain ⟨bl0, bl1, bl2, hl, hP, hD, hS⟩ := hI
  have bl0 : k1 ≤ 181 := bl0
  have bl1 : k1 ≤ n_size := bl1
  have bl2 : blC (stk f_things k1) = blC (stk f_things n_size) := bl2
  have iE := bl2
  have hl : lv_has ls 2 [(1, .int (nI k1 - 1)), (0, .ref a_t)] := hl
  have hP : va_P (dC, dI) vcl [(a_t, .inr (6, [.ref a_things, .int (nI n_size), .int z_most])), (a_things, .inl (ka_things, 181, .inl f_things))] H := hP
  have hD : va_D A [(a_t, .inr (6, [.ref a_things, .int (nI n_size), .int z_most])), (a_things, .inl (ka_things, 181, .inl f_things))] := hD
  refine lv_iload_n hx hb d_Open_belowLetsAndLaidBlocks_7 rfl (lv_at hl 0 rfl) ?_
  refine lv_if_lt (tgt := 34) hx hb d_Open_belowLetsAndLaidBlocks_8 (by decide) (fun h1 => ?_) (fun h1 => ?_)
  · have h1 : k1 = 0 := (xr_pred_lt (by omega)).mp h1
    refine lv_aload_n hx hb d_Open_belowLetsAndLaidBlocks_34 rfl (lv_at hl 1 rfl) ?_
    refine lv_iload_n hx hb d_Open_belowLetsAndLaidBlocks_35 rfl (lv_at hl 0 rfl) ?_
    have hPc := hP.sub (ws' := [(a_t, .inr (6, [.ref a_things, .int (nI n_size), .int z_most])), (a_things, .inl (ka_things, 181, .inl f_things))]) [0, 1] rfl
    have hDc := hD.sub (ws' := [(a_t, .inr (6, [.ref a_things, .int (nI n_size), .int z_most])), (a_things, .inl (ka_things, 181, .inl f_things))]) [0, 1] (by decide) rfl
    have hKc := hK.sub (tys' := [(ka_things, .int)]) [0] rfl
    have hFc := va_free (wc := [(a_t, .inr (6, [.ref a_things, .int (nI n_size), .int z_most])), (a_things, .inl (ka_things, 181, .inl f_things))]) hD hS hA [0, 1] rfl
    refine va_calli (va_runV (As := [.int (nI k1 - 1)]) (rest := []) ⟨hx, hb, hml, hown, hz⟩ (s_Open_at6 l dC dI H.size a_t a_things f_things n_size z_most ((nI k1 - 1)) ka_things (by first | omega | assumption | exact Or.inl rfl | exact Or.inr rfl | decide)) (cwV 1 hz (zV zm_174 zm_175 zm_176 zm_177 zm_178) rfl rfl rfl (by decide +kernel) ⟨Nat.le_of_ble_eq_true rfl, Nat.le_of_ble_eq_true rfl⟩) ⟨fun a U g mk q => by obtain ⟨q0, q1, qP, qK, qD⟩ := q; exact ⟨q0, q1, qP, va_K.moved (u := U) (U := U.calling g mk a) (Vm.Alike.refl U.vm) qK, qD⟩, va_recv (q := (R_Open, F_Open, 3)) (q0 := 0) (ci := 6) hK hP rfl rfl, fun U hU hW => ⟨rfl, by rw [hU], by rw [hU]; exact hPc, va_K.moved hW.alike hKc, hDc.weaken (fun _ _ _ _ => trivial)⟩⟩ rfl rfl hl.1 rfl (lv_room (Nat.le_of_ble_eq_true rfl)) d_Open_belowLetsAndLaidBlocks_36 ⟨Nat.zero_le _, Nat.zero_le _⟩) hS (fun q _ h => hFc q h) hFc (fun r u t H1 locs ht hvm hw hB hz1 hk1 hS => ?_)
    obtain ⟨hP1, hK1, hD1⟩ := hB
    subst r
    rw [ht] at hP1
    obtain ⟨hP, hD⟩ := va_join (wr := []) (w1 := [(a_t, .inr (6, [.ref a_things, .int (nI n_size), .int z_most])), (a_things, .inl (ka_things, 181, .inl f_things))]) hP hD [0, 1] [] rfl rfl (by decide) (by decide) hk1 hFc hP1 hD1
    generalize H1 = H at hP hS ⊢
    have hP : va_P (dC, dI) vcl [(a_t, .inr (6, [.ref a_things, .int (nI n_size), .int z_most])), (a_things, .inl (ka_things, 181, .inl f_things))] H := hP
    have hD : va_D A [(a_t, .inr (6, [.ref a_things, .int (nI n_size), .int z_most])), (a_things, .inl (ka_things, 181, .inl f_things))] := hD
    have hP9 := hP.sub (ws' := [(a_t, .inr (6, [.ref a_things, .int (nI n_size), .int z_most])), (a_things, .inl (ka_things, 181, .inl f_things))]) [0, 1] rfl
    have hD9 := hD.sub (ws' := [(a_t, .inr (6, [.ref a_things, .int (nI n_size), .int z_most])), (a_things, .inl (ka_things, 181, .inl f_things))]) [0, 1] (by decide) rfl
    exact W.iret (v := (atI f_things n_size ((nI k1 - 1)))) hx hb hr (fun t ht hW => ⟨⟨(atI f_things n_size ((nI k1 - 1))), (), rfl, (by have z9 : k1 = 0 := (by omega); rw [at_m z9, ← iE, z9]; rfl), by rw [ht]; exact hP9, va_K.moved hW.alike hK, hD9⟩, hS.F ht⟩) hS.2.2 d_Open_belowLetsAndLaidBlocks_39
  · have h1 : ¬ k1 = 0 := fun q => h1 ((xr_pred_lt (by omega)).mpr q)
    have e_h1 : nI k1 - 1 = nI (k1 - 1) := pk_sub (a := k1) (b := 1) (by omega)
    have hl : lv_has ls 2 [(1, .int (nI (k1 - 1))), (0, .ref a_t)] := Eq.mp (congrArg (lv_has ls 2) (by rw [e_h1])) hl
    refine lv_aload_n hx hb d_Open_belowLetsAndLaidBlocks_11 rfl (lv_at hl 1 rfl) ?_
    refine lv_iload_n hx hb d_Open_belowLetsAndLaidBlocks_12 rfl (lv_at hl 0 rfl) ?_
    have hPc := hP.sub (ws' := [(a_t, .inr (6, [.ref a_things, .int (nI n_size), .int z_most])), (a_things, .inl (ka_things, 181, .inl f_things))]) [0, 1] rfl
    have hDc := hD.sub (ws' := [(a_t, .inr (6, [.ref a_things, .int (nI n_size), .int z_most])), (a_things, .inl (ka_things, 181, .inl f_things))]) [0, 1] (by decide) rfl
    have hKc := hK.sub (tys' := [(ka_things, .int)]) [0] rfl
    have hFc := va_free (wc := [(a_t, .inr (6, [.ref a_things, .int (nI n_size), .int z_most])), (a_things, .inl (ka_things, 181, .inl f_things))]) hD hS hA [0, 1] rfl
    refine va_calli (va_runV (As := [.int (nI (k1 - 1))]) (rest := []) ⟨hx, hb, hml, hown, hz⟩ (s_Open_at6 l dC dI H.size a_t a_things f_things n_size z_most ((nI (k1 - 1))) ka_things (by first | omega | assumption | exact Or.inl rfl | exact Or.inr rfl | decide)) (cwV 1 hz (zV zm_174 zm_175 zm_176 zm_177 zm_178) rfl rfl rfl (by decide +kernel) ⟨Nat.le_of_ble_eq_true rfl, Nat.le_of_ble_eq_true rfl⟩) ⟨fun a U g mk q => by obtain ⟨q0, q1, qP, qK, qD⟩ := q; exact ⟨q0, q1, qP, va_K.moved (u := U) (U := U.calling g mk a) (Vm.Alike.refl U.vm) qK, qD⟩, va_recv (q := (R_Open, F_Open, 3)) (q0 := 0) (ci := 6) hK hP rfl rfl, fun U hU hW => ⟨rfl, by rw [hU], by rw [hU]; exact hPc, va_K.moved hW.alike hKc, hDc.weaken (fun _ _ _ _ => trivial)⟩⟩ rfl rfl hl.1 rfl (lv_room (Nat.le_of_ble_eq_true rfl)) d_Open_belowLetsAndLaidBlocks_13 ⟨Nat.zero_le _, Nat.zero_le _⟩) hS (fun q _ h => hFc q h) hFc (fun r u t H1 locs ht hvm hw hB hz1 hk1 hS => ?_)
    obtain ⟨hP1, hK1, hD1⟩ := hB
    subst r
    rw [ht] at hP1
    obtain ⟨hP, hD⟩ := va_join (wr := []) (w1 := [(a_t, .inr (6, [.ref a_things, .int (nI n_size), .int z_most])), (a_things, .inl (ka_things, 181, .inl f_things))]) hP hD [0, 1] [] rfl rfl (by decide) (by decide) hk1 hFc hP1 hD1
    generalize H1 = H at hP hS ⊢
    have hP : va_P (dC, dI) vcl [(a_t, .inr (6, [.ref a_things, .int (nI n_size), .int z_most])), (a_things, .inl (ka_things, 181, .inl f_things))] H := hP
    have hD : va_D A [(a_t, .inr (6, [.ref a_things, .int (nI n_size), .int z_most])), (a_things, .inl (ka_things, 181, .inl f_things))] := hD
    refine lv_iconst (v := (-1)) hx hb d_Open_belowLetsAndLaidBlocks_16 (by decide) ?_
    refine lv_icmp_eq (tgt := 28) hx hb d_Open_belowLetsAndLaidBlocks_17 (by decide) (fun h2 => ?_) (fun h2 => ?_)
    · have e17 := h2
      rw [at_n (by omega) (by omega)] at e17
      refine lv_iinc (k := 0) (v := (nI (k1 - 1) - 1)) hx hb d_Open_belowLetsAndLaidBlocks_28 hl rfl (xr_dec2 _) (by decide) rfl (fun ls hl => ?_)
      have hl : lv_has ls 2 [(1, .int (nI (k1 - 1) - 1)), (0, .ref a_t)] := hl
      refine lv_goto (tgt := 7) hx hb d_Open_belowLetsAndLaidBlocks_31 (by decide) ?_
      have hP9 := hP.sub (ws' := [(a_t, .inr (6, [.ref a_things, .int (nI n_size), .int z_most])), (a_things, .inl (ka_things, 181, .inl f_things))]) [0, 1] rfl
      have hD9 := hD.sub (ws' := [(a_t, .inr (6, [.ref a_things, .int (nI n_size), .int z_most])), (a_things, .inl (ka_things, 181, .inl f_things))]) [0, 1] (by decide) rfl
      exact ih7 ((k1 - 1)) (by show ((k1 - 1)) < k1; omega) _ _ _ ⟨by show ((k1 - 1)) ≤ 181; first | omega | assumption | exact Or.inl rfl | exact Or.inr rfl | decide, by show ((k1 - 1)) ≤ n_size; first | omega | assumption | exact Or.inl rfl | exact Or.inr rfl | decide, by show blC (stk f_things ((k1 - 1))) = blC (stk f_things n_size); exact (bl_s (by omega) (Or.inl e17)).trans iE, hl, hP9, hD9, hS⟩
    · have e17 := h2
      rw [at_n (by omega) (by omega)] at e17
      refine lv_aload_n hx hb d_Open_belowLetsAndLaidBlocks_20 rfl (lv_at hl 1 rfl) ?_
      refine lv_iload_n hx hb d_Open_belowLetsAndLaidBlocks_21 rfl (lv_at hl 0 rfl) ?_
      have hPc := hP.sub (ws' := [(a_t, .inr (6, [.ref a_things, .int (nI n_size), .int z_most])), (a_things, .inl (ka_things, 181, .inl f_things))]) [0, 1] rfl
      have hDc := hD.sub (ws' := [(a_t, .inr (6, [.ref a_things, .int (nI n_size), .int z_most])), (a_things, .inl (ka_things, 181, .inl f_things))]) [0, 1] (by decide) rfl
      have hKc := hK.sub (tys' := [(ka_things, .int)]) [0] rfl
      have hFc := va_free (wc := [(a_t, .inr (6, [.ref a_things, .int (nI n_size), .int z_most])), (a_things, .inl (ka_things, 181, .inl f_things))]) hD hS hA [0, 1] rfl
      refine va_calli (va_runV (As := [.int (nI (k1 - 1))]) (rest := []) ⟨hx, hb, hml, hown, hz⟩ (s_Open_at6 l dC dI H.size a_t a_things f_things n_size z_most ((nI (k1 - 1))) ka_things (by first | omega | assumption | exact Or.inl rfl | exact Or.inr rfl | decide)) (cwV 1 hz (zV zm_174 zm_175 zm_176 zm_177 zm_178) rfl rfl rfl (by decide +kernel) ⟨Nat.le_of_ble_eq_true rfl, Nat.le_of_ble_eq_true rfl⟩) ⟨fun a U g mk q => by obtain ⟨q0, q1, qP, qK, qD⟩ := q; exact ⟨q0, q1, qP, va_K.moved (u := U) (U := U.calling g mk a) (Vm.Alike.refl U.vm) qK, qD⟩, va_recv (q := (R_Open, F_Open, 3)) (q0 := 0) (ci := 6) hK hP rfl rfl, fun U hU hW => ⟨rfl, by rw [hU], by rw [hU]; exact hPc, va_K.moved hW.alike hKc, hDc.weaken (fun _ _ _ _ => trivial)⟩⟩ rfl rfl hl.1 rfl (lv_room (Nat.le_of_ble_eq_true rfl)) d_Open_belowLetsAndLaidBlocks_22 ⟨Nat.zero_le _, Nat.zero_le _⟩) hS (fun q _ h => hFc q h) hFc (fun r u t H1 locs ht hvm hw hB hz1 hk1 hS => ?_)
      obtain ⟨hP1, hK1, hD1⟩ := hB
      subst r
      rw [ht] at hP1
      obtain ⟨hP, hD⟩ := va_join (wr := []) (w1 := [(a_t, .inr (6, [.ref a_things, .int (nI n_size), .int z_most])), (a_things, .inl (ka_things, 181, .inl f_things))]) hP hD [0, 1] [] rfl rfl (by decide) (by decide) hk1 hFc hP1 hD1
      generalize H1 = H at hP hS ⊢
      have hP : va_P (dC, dI) vcl [(a_t, .inr (6, [.ref a_things, .int (nI n_size), .int z_most])), (a_things, .inl (ka_things, 181, .inl f_things))] H := hP
      have hD : va_D A [(a_t, .inr (6, [.ref a_things, .int (nI n_size), .int z_most])), (a_things, .inl (ka_things, 181, .inl f_things))] := hD
      refine lv_if_le (tgt := 34) hx hb d_Open_belowLetsAndLaidBlocks_25 (by decide) (fun h3 => ?_) (fun h3 => ?_)
      · have e25 := h3
        rw [at_n (by omega) (by omega)] at e25
        refine lv_aload_n hx hb d_Open_belowLetsAndLaidBlocks_34 rfl (lv_at hl 1 rfl) ?_
        refine lv_iload_n hx hb d_Open_belowLetsAndLaidBlocks_35 rfl (lv_at hl 0 rfl) ?_
        have hPc := hP.sub (ws' := [(a_t, .inr (6, [.ref a_things, .int (nI n_size), .int z_most])), (a_things, .inl (ka_things, 181, .inl f_things))]) [0, 1] rfl
        have hDc := hD.sub (ws' := [(a_t, .inr (6, [.ref a_things, .int (nI n_size), .int z_most])), (a_things, .inl (ka_things, 181, .inl f_things))]) [0, 1] (by decide) rfl
        have hKc := hK.sub (tys' := [(ka_things, .int)]) [0] rfl
        have hFc := va_free (wc := [(a_t, .inr (6, [.ref a_things, .int (nI n_size), .int z_most])), (a_things, .inl (ka_things, 181, .inl f_things))]) hD hS hA [0, 1] rfl
        refine va_calli (va_runV (As := [.int (nI (k1 - 1))]) (rest := []) ⟨hx, hb, hml, hown, hz⟩ (s_Open_at6 l dC dI H.size a_t a_things f_things n_size z_most ((nI (k1 - 1))) ka_things (by first | omega | assumption | exact Or.inl rfl | exact Or.inr rfl | decide)) (cwV 1 hz (zV zm_174 zm_175 zm_176 zm_177 zm_178) rfl rfl rfl (by decide +kernel) ⟨Nat.le_of_ble_eq_true rfl, Nat.le_of_ble_eq_true rfl⟩) ⟨fun a U g mk q => by obtain ⟨q0, q1, qP, qK, qD⟩ := q; exact ⟨q0, q1, qP, va_K.moved (u := U) (U := U.calling g mk a) (Vm.Alike.refl U.vm) qK, qD⟩, va_recv (q := (R_Open, F_Open, 3)) (q0 := 0) (ci := 6) hK hP rfl rfl, fun U hU hW => ⟨rfl, by rw [hU], by rw [hU]; exact hPc, va_K.moved hW.alike hKc, hDc.weaken (fun _ _ _ _ => trivial)⟩⟩ rfl rfl hl.1 rfl (lv_room (Nat.le_of_ble_eq_true rfl)) d_Open_belowLetsAndLaidBlocks_36 ⟨Nat.zero_le _, Nat.zero_le _⟩) hS (fun q _ h => hFc q h) hFc (fun r u t H1 locs ht hvm hw hB hz1 hk1 hS => ?_)
        obtain ⟨hP1, hK1, hD1⟩ := hB
        subst r
        rw [ht] at hP1
        obtain ⟨hP, hD⟩ := va_join (wr := []) (w1 := [(a_t, .inr (6, [.ref a_things, .int (nI n_size), .int z_most])), (a_things, .inl (ka_things, 181, .inl f_things))]) hP hD [0, 1] [] rfl rfl (by decide) (by decide) hk1 hFc hP1 hD1
        generalize H1 = H at hP hS ⊢
        have hP : va_P (dC, dI) vcl [(a_t, .inr (6, [.ref a_things, .int (nI n_size), .int z_most])), (a_things, .inl (ka_things, 181, .inl f_things))] H := hP
        have hD : va_D A [(a_t, .inr (6, [.ref a_things, .int (nI n_size), .int z_most])), (a_things, .inl (ka_things, 181, .inl f_things))] := hD
        have hP9 := hP.sub (ws' := [(a_t, .inr (6, [.ref a_things, .int (nI n_size), .int z_most])), (a_things, .inl (ka_things, 181, .inl f_things))]) [0, 1] rfl
        have hD9 := hD.sub (ws' := [(a_t, .inr (6, [.ref a_things, .int (nI n_size), .int z_most])), (a_things, .inl (ka_things, 181, .inl f_things))]) [0, 1] (by decide) rfl
        exact W.iret (v := (atI f_things n_size ((nI (k1 - 1))))) hx hb hr (fun t ht hW => ⟨⟨(atI f_things n_size ((nI (k1 - 1)))), (), rfl, (by exact (at_n (by omega) (by omega)).trans ((bl_e (by omega) (fun q => q.elim e17 (fun z => absurd z (Int32.not_lt.mpr e25)))).symm.trans iE)), by rw [ht]; exact hP9, va_K.moved hW.alike hK, hD9⟩, hS.F ht⟩) hS.2.2 d_Open_belowLetsAndLaidBlocks_39
      · have e25 := h3
        rw [at_n (by omega) (by omega)] at e25
        refine lv_iinc (k := 0) (v := (nI (k1 - 1) - 1)) hx hb d_Open_belowLetsAndLaidBlocks_28 hl rfl (xr_dec2 _) (by decide) rfl (fun ls hl => ?_)
        have hl : lv_has ls 2 [(1, .int (nI (k1 - 1) - 1)), (0, .ref a_t)] := hl
        refine lv_goto (tgt := 7) hx hb d_Open_belowLetsAndLaidBlocks_31 (by decide) ?_
        have hP9 := hP.sub (ws' := [(a_t, .inr (6, [.ref a_things, .int (nI n_size), .int z_most])), (a_things, .inl (ka_things, 181, .inl f_things))]) [0, 1] rfl
        have hD9 := hD.sub (ws' := [(a_t, .inr (6, [.ref a_things, .int (nI n_size), .int z_most])), (a_things, .inl (ka_things, 181, .inl f_things))]) [0, 1] (by decide) rfl
        exact ih7 ((k1 - 1)) (by show ((k1 - 1)) < k1; omega) _ _ _ ⟨by show ((k1 - 1)) ≤ 181; first | omega | assumption | exact Or.inl rfl | exact Or.inr rfl | decide, by show ((k1 - 1)) ≤ n_size; first | omega | assumption | exact Or.inl rfl | exact Or.inr rfl | decide, by show blC (stk f_things ((k1 - 1))) = blC (stk f_things n_size); exact (bl_s (by omega) (Or.inr (Int32.not_le.mp e25))).trans iE, hl, hP9, hD9, hS⟩
set_option maxHeartbeats 4000000 in
set_option maxRecDepth 100000 in
theorem s_Open_latestColumn6 (l : Launch) (dC : Nat → ClassId) (dI : Nat → Nat → Nat) (sz : Nat) (a_t : Nat) (a_things : Nat) (f_things : Nat → Int32) (n_size : Nat) (z_most : Int32) (ka_things : ClassId) (b_size : n_size ≤ 181) : Met l y_Open_latestColumn w_Open_latestColumn ({ frames := 1, cells := 0, slots := 0, locals := 21 }) (va_Pc [.ref a_t] (fun U => U.heap.size = sz ∧ va_P (dC, dI) vcl [(a_t, .inr (6, [.ref a_things, .int (nI n_size), .int z_most])), (a_things, .inl (ka_things, 181, .inl f_things))] U.heap ∧ va_K (dC, dI) vcl [(ka_things, .int)] U ∧ va_D (fun _ => True) [(a_t, .inr (6, [.ref a_things, .int (nI n_size), .int z_most])), (a_things, .inl (ka_things, 181, .inl f_things))])) (va_Qi (fun (r : Int32) (_ : Unit) => r = ltC (stk f_things n_size)) (fun _ t => va_P (dC, dI) vcl [(a_t, .inr (6, [.ref a_things, .int (nI n_size), .int z_most])), (a_things, .inl (ka_things, 181, .inl f_things))] t.heap ∧ va_K (dC, dI) vcl [(ka_things, .int)] t ∧ va_D (va_A [(a_t, .inr (6, [.ref a_things, .int (nI n_size), .int z_most])), (a_things, .inl (ka_things, 181, .inl f_things))] sz) [(a_t, .inr (6, [.ref a_things, .int (nI n_size), .int z_most])), (a_things, .inl (ka_things, 181, .inl f_things))]) (va_A [(a_t, .inr (6, [.ref a_things, .int (nI n_size), .int z_most])), (a_things, .inl (ka_things, 181, .inl f_things))] sz)) 0 0 (va_A [(a_t, .inr (6, [.ref a_things, .int (nI n_size), .int z_most])), (a_things, .inl (ka_things, 181, .inl f_things))] sz) := by
  refine Met.ofW (cc := b_Open_latestColumn) (maxL := 2) (ret := (some .int)) (by decide) rfl ?_
  intro p e s m args below meth c s₁ B hml hv
  obtain ⟨rfl, hsz, hP, hK, hD0⟩ := hv
  have hx := B.exec
  have hb := B.bytes
  have hr := B.returns
  have hts := atoms_spec (ws := w_Open_latestColumn) B.pre
  have hz : ∀ w ∈ wz, w.before _ s = true := fun w h => hts w (List.mem_cons_of_mem _ h)
  have hown : s.vm.findClass R_Open = some m.cls := findClass_of_methodNamed B.named
  have hlocks := B.notSynchronized
  subst hsz
  have hD := hD0.self (sz := s.heap.size)
  generalize hAe : va_A [(a_t, .inr (6, [.ref a_things, .int (nI n_size), .int z_most])), (a_things, .inl (ka_things, 181, .inl f_things))] s.heap.size = A at hD ⊢
  have hA : ∀ q : Nat, s.heap.size ≤ q → A q := fun q h => by rw [← hAe]; exact Or.inr h
  have hS : va_S A s.heap s.heap [] := va_S.rf
  have hP : va_P (dC, dI) vcl [(a_t, .inr (6, [.ref a_things, .int (nI n_size), .int z_most])), (a_things, .inl (ka_things, 181, .inl f_things))] s.heap := hP
  have hl := lv_entry ([.ref a_t]) (n := 2) (Nat.le_of_ble_eq_true rfl)
  rw [lg_entry_eq]
  generalize (lg_sl ([.ref a_t]) ++ List.replicate (2 - (lg_sl ([.ref a_t])).length) Slot.unset).toArray = ls at hl ⊢
  have hl : lv_has ls 2 [(0, .ref a_t)] := hl
  refine lv_aload_n hx hb d_Open_latestColumn_0 rfl (lv_at hl 0 rfl) ?_
  refine va_get (D := (dC, dI)) (ci := 6) (v := .int (nI n_size)) (C := R_Open) (T := F_Open) (N := 3) hx hb hz zu_Open hown hK hP 0 rfl rfl 1 (by decide) (hz (.fieldLink R_Open 15 "LayoutFront$Open" "size" "I") zm_171) (fun _ h9 => h9) rfl d_Open_latestColumn_1 ?_
  refine lv_iconst (v := 1) hx hb d_Open_latestColumn_4 (by decide) ?_
  refine xr_isub (v := (nI n_size - 1)) hx hb d_Open_latestColumn_5 rfl ?_
  refine lv_istore_n hx hb d_Open_latestColumn_6 rfl hl (by decide) rfl (fun ls hl => ?_)
  have hl : lv_has ls 2 [(1, .int (nI n_size - 1)), (0, .ref a_t)] := hl
  refine xr_loop (α := (Nat)) (fun a => (fun (k1 : Nat) => k1) a) (fun a H locs ls => (fun (k1 : Nat) => (k1 ≤ 181) ∧ (k1 ≤ n_size) ∧ (ltC (stk f_things k1) = ltC (stk f_things n_size)) ∧ lv_has ls 2 [(1, .int (nI k1 - 1)), (0, .ref a_t)] ∧ va_P (dC, dI) vcl [(a_t, .inr (6, [.ref a_things, .int (nI n_size), .int z_most])), (a_things, .inl (ka_things, 181, .inl f_things))] H ∧ va_D A [(a_t, .inr (6, [.ref a_things, .int (nI n_size), .int z_most])), (a_things, .inl (ka_things, 181, .inl f_things))] ∧ va_S A s.heap H locs) a) (fun a ih7 H locs ls hI => ?_) (n_size) _ _ _ ⟨by show n_size ≤ 181; first | omega | assumption | exact Or.inl rfl | exact Or.inr rfl | decide, by show n_size ≤ n_size; first | omega | assumption | exact Or.inl rfl | exact Or.inr rfl | decide, by show ltC (stk f_things n_size) = ltC (stk f_things n_size); rfl, hl, hP, hD, hS⟩
  generalize a = k1 at ih7 hI
  obtain ⟨bl0, bl1, bl2, hl, hP, hD, hS⟩ := hI
  have bl0 : k1 ≤ 181 := bl0
  have bl1 : k1 ≤ n_size := bl1
  have bl2 : ltC (stk f_things k1) = ltC (stk f_things n_size) := bl2
  have iE := bl2
  have hl : lv_has ls 2 [(1, .int (nI k1 - 1)), (0, .ref a_t)] := hl
  have hP : va_P (dC, dI) vcl [(a_t, .inr (6, [.ref a_things, .int (nI n_size), .int z_most])), (a_things, .inl (ka_things, 181, .inl f_things))] H := hP
  have hD : va_D A [(a_t, .inr (6, [.ref a_things, .int (nI n_size), .int z_most])), (a_things, .inl (ka_things, 181, .inl f_things))] := hD
  refine lv_iload_n hx hb d_Open_latestColumn_7 rfl (lv_at hl 0 rfl) ?_
  refine lv_if_lt (tgt := 31) hx hb d_Open_latestColumn_8 (by decide) (fun h1 => ?_) (fun h1 => ?_)
  · have h1 : k1 = 0 := (xr_pred_lt (by omega)).mp h1
    refine lv_iconst (v := 0) hx hb d_Open_latestColumn_31 (by decide) ?_
    have hP9 := hP.sub (ws' := [(a_t, .inr (6, [.ref a_things, .int (nI n_size), .int z_most])), (a_things, .inl (ka_things, 181, .inl f_things))]) [0, 1] rfl
    have hD9 := hD.sub (ws' := [(a_t, .inr (6, [.ref a_things, .int (nI n_size), .int z_most])), (a_things, .inl (ka_things, 181, .inl f_things))]) [0, 1] (by decide) rfl
    exact W.iret (v := 0) hx hb hr (fun t ht hW => ⟨⟨0, (), rfl, (by have z9 : k1 = 0 := (by omega); rw [← iE, z9]; rfl), by rw [ht]; exact hP9, va_K.moved hW.alike hK, hD9⟩, hS.F ht⟩) hS.2.2 d_Open_latestColumn_32
  · have h1 : ¬ k1 = 0 := fun q => h1 ((xr_pred_lt (by omega)).mpr q)
    have e_h1 : nI k1 - 1 = nI (k1 - 1) := pk_sub (a := k1) (b := 1) (by omega)
    have hl : lv_has ls 2 [(1, .int (nI (k1 - 1))), (0, .ref a_t)] := Eq.mp (congrArg (lv_has ls 2) (by rw [e_h1])) hl
    refine lv_aload_n hx hb d_Open_latestColumn_11 rfl (lv_at hl 1 rfl) ?_
    refine lv_iload_n hx hb d_Open_latestColumn_12 rfl (lv_at hl 0 rfl) ?_
    have hPc := hP.sub (ws' := [(a_t, .inr (6, [.ref a_things, .int (nI n_size), .int z_most])), (a_things, .inl (ka_things, 181, .inl f_things))]) [0, 1] rfl
    have hDc := hD.sub (ws' := [(a_t, .inr (6, [.ref a_things, .int (nI n_size), .int z_most])), (a_things, .inl (ka_things, 181, .inl f_things))]) [0, 1] (by decide) rfl
    have hKc := hK.sub (tys' := [(ka_things, .int)]) [0] rfl
    have hFc := va_free (wc := [(a_t, .inr (6, [.ref a_things, .int (nI n_size), .int z_most])), (a_things, .inl (ka_things, 181, .inl f_things))]) hD hS hA [0, 1] rfl
    refine va_calli (va_runV (As := [.int (nI (k1 - 1))]) (rest := []) ⟨hx, hb, hml, hown, hz⟩ (s_Open_at6 l dC dI H.size a_t a_things f_things n_size z_most ((nI (k1 - 1))) ka_things (by first | omega | assumption | exact Or.inl rfl | exact Or.inr rfl | decide)) (cwV 1 hz (zV zm_174 zm_175 zm_176 zm_177 zm_178) rfl rfl rfl (by decide +kernel) ⟨Nat.le_of_ble_eq_true rfl, Nat.le_of_ble_eq_true rfl⟩) ⟨fun a U g mk q => by obtain ⟨q0, q1, qP, qK, qD⟩ := q; exact ⟨q0, q1, qP, va_K.moved (u := U) (U := U.calling g mk a) (Vm.Alike.refl U.vm) qK, qD⟩, va_recv (q := (R_Open, F_Open, 3)) (q0 := 0) (ci := 6) hK hP rfl rfl, fun U hU hW => ⟨rfl, by rw [hU], by rw [hU]; exact hPc, va_K.moved hW.alike hKc, hDc.weaken (fun _ _ _ _ => trivial)⟩⟩ rfl rfl hl.1 rfl (lv_room (Nat.le_of_ble_eq_true rfl)) d_Open_latestColumn_13 ⟨Nat.zero_le _, Nat.zero_le _⟩) hS (fun q _ h => hFc q h) hFc (fun r u t H1 locs ht hvm hw hB hz1 hk1 hS => ?_)
    obtain ⟨hP1, hK1, hD1⟩ := hB
    subst r
    rw [ht] at hP1
    obtain ⟨hP, hD⟩ := va_join (wr := []) (w1 := [(a_t, .inr (6, [.ref a_things, .int (nI n_size), .int z_most])), (a_things, .inl (ka_things, 181, .inl f_things))]) hP hD [0, 1] [] rfl rfl (by decide) (by decide) hk1 hFc hP1 hD1
    generalize H1 = H at hP hS ⊢
    have hP : va_P (dC, dI) vcl [(a_t, .inr (6, [.ref a_things, .int (nI n_size), .int z_most])), (a_things, .inl (ka_things, 181, .inl f_things))] H := hP
    have hD : va_D A [(a_t, .inr (6, [.ref a_things, .int (nI n_size), .int z_most])), (a_things, .inl (ka_things, 181, .inl f_things))] := hD
    refine lv_if_lt (tgt := 25) hx hb d_Open_latestColumn_16 (by decide) (fun h2 => ?_) (fun h2 => ?_)
    · have e16 := h2
      rw [at_n (by omega) (by omega)] at e16
      refine lv_iinc (k := 0) (v := (nI (k1 - 1) - 1)) hx hb d_Open_latestColumn_25 hl rfl (xr_dec2 _) (by decide) rfl (fun ls hl => ?_)
      have hl : lv_has ls 2 [(1, .int (nI (k1 - 1) - 1)), (0, .ref a_t)] := hl
      refine lv_goto (tgt := 7) hx hb d_Open_latestColumn_28 (by decide) ?_
      have hP9 := hP.sub (ws' := [(a_t, .inr (6, [.ref a_things, .int (nI n_size), .int z_most])), (a_things, .inl (ka_things, 181, .inl f_things))]) [0, 1] rfl
      have hD9 := hD.sub (ws' := [(a_t, .inr (6, [.ref a_things, .int (nI n_size), .int z_most])), (a_things, .inl (ka_things, 181, .inl f_things))]) [0, 1] (by decide) rfl
      exact ih7 ((k1 - 1)) (by show ((k1 - 1)) < k1; omega) _ _ _ ⟨by show ((k1 - 1)) ≤ 181; first | omega | assumption | exact Or.inl rfl | exact Or.inr rfl | decide, by show ((k1 - 1)) ≤ n_size; first | omega | assumption | exact Or.inl rfl | exact Or.inr rfl | decide, by show ltC (stk f_things ((k1 - 1))) = ltC (stk f_things n_size); exact (ltc_s (by omega) (Int32.not_le.mpr e16)).trans iE, hl, hP9, hD9, hS⟩
    · have e16 := h2
      rw [at_n (by omega) (by omega)] at e16
      refine lv_aload_n hx hb d_Open_latestColumn_19 rfl (lv_at hl 1 rfl) ?_
      refine lv_iload_n hx hb d_Open_latestColumn_20 rfl (lv_at hl 0 rfl) ?_
      have hPc := hP.sub (ws' := [(a_t, .inr (6, [.ref a_things, .int (nI n_size), .int z_most])), (a_things, .inl (ka_things, 181, .inl f_things))]) [0, 1] rfl
      have hDc := hD.sub (ws' := [(a_t, .inr (6, [.ref a_things, .int (nI n_size), .int z_most])), (a_things, .inl (ka_things, 181, .inl f_things))]) [0, 1] (by decide) rfl
      have hKc := hK.sub (tys' := [(ka_things, .int)]) [0] rfl
      have hFc := va_free (wc := [(a_t, .inr (6, [.ref a_things, .int (nI n_size), .int z_most])), (a_things, .inl (ka_things, 181, .inl f_things))]) hD hS hA [0, 1] rfl
      refine va_calli (va_runV (As := [.int (nI (k1 - 1))]) (rest := []) ⟨hx, hb, hml, hown, hz⟩ (s_Open_at6 l dC dI H.size a_t a_things f_things n_size z_most ((nI (k1 - 1))) ka_things (by first | omega | assumption | exact Or.inl rfl | exact Or.inr rfl | decide)) (cwV 1 hz (zV zm_174 zm_175 zm_176 zm_177 zm_178) rfl rfl rfl (by decide +kernel) ⟨Nat.le_of_ble_eq_true rfl, Nat.le_of_ble_eq_true rfl⟩) ⟨fun a U g mk q => by obtain ⟨q0, q1, qP, qK, qD⟩ := q; exact ⟨q0, q1, qP, va_K.moved (u := U) (U := U.calling g mk a) (Vm.Alike.refl U.vm) qK, qD⟩, va_recv (q := (R_Open, F_Open, 3)) (q0 := 0) (ci := 6) hK hP rfl rfl, fun U hU hW => ⟨rfl, by rw [hU], by rw [hU]; exact hPc, va_K.moved hW.alike hKc, hDc.weaken (fun _ _ _ _ => trivial)⟩⟩ rfl rfl hl.1 rfl (lv_room (Nat.le_of_ble_eq_true rfl)) d_Open_latestColumn_21 ⟨Nat.zero_le _, Nat.zero_le _⟩) hS (fun q _ h => hFc q h) hFc (fun r u t H1 locs ht hvm hw hB hz1 hk1 hS => ?_)
      obtain ⟨hP1, hK1, hD1⟩ := hB
      subst r
      rw [ht] at hP1
      obtain ⟨hP, hD⟩ := va_join (wr := []) (w1 := [(a_t, .inr (6, [.ref a_things, .int (nI n_size), .int z_most])), (a_things, .inl (ka_things, 181, .inl f_things))]) hP hD [0, 1] [] rfl rfl (by decide) (by decide) hk1 hFc hP1 hD1
      generalize H1 = H at hP hS ⊢
      have hP : va_P (dC, dI) vcl [(a_t, .inr (6, [.ref a_things, .int (nI n_size), .int z_most])), (a_things, .inl (ka_things, 181, .inl f_things))] H := hP
      have hD : va_D A [(a_t, .inr (6, [.ref a_things, .int (nI n_size), .int z_most])), (a_things, .inl (ka_things, 181, .inl f_things))] := hD
      have hP9 := hP.sub (ws' := [(a_t, .inr (6, [.ref a_things, .int (nI n_size), .int z_most])), (a_things, .inl (ka_things, 181, .inl f_things))]) [0, 1] rfl
      have hD9 := hD.sub (ws' := [(a_t, .inr (6, [.ref a_things, .int (nI n_size), .int z_most])), (a_things, .inl (ka_things, 181, .inl f_things))]) [0, 1] (by decide) rfl
      exact W.iret (v := (atI f_things n_size ((nI (k1 - 1))))) hx hb hr (fun t ht hW => ⟨⟨(atI f_things n_size ((nI (k1 - 1)))), (), rfl, (by exact (at_n (by omega) (by omega)).trans ((ltc_e (by omega) (Int32.not_lt.mp e16)).symm.trans iE)), by rw [ht]; exact hP9, va_K.moved hW.alike hK, hD9⟩, hS.F ht⟩) hS.2.2 d_Open_latestColumn_24
set_option maxHeartbeats 4000000 in
set_option maxRecDepth 100000 in
theorem s_Open_dropLets6 (l : Launch) (dC : Nat → ClassId) (dI : Nat → Nat → Nat) (sz : Nat) (a_t : Nat) (a_things : Nat) (f_things : Nat → Int32) (n_size : Nat) (z_most : Int32) (ka_things : ClassId) (b_size : n_size ≤ 181) : Met l y_Open_dropLets w_Open_dropLets ({ frames := 1, cells := 0, slots := 0, locals := 21 }) (va_Pc [.ref a_t] (fun U => U.heap.size = sz ∧ va_P (dC, dI) vcl [(a_t, .inr (6, [.ref a_things, .int (nI n_size), .int z_most])), (a_things, .inl (ka_things, 181, .inl f_things))] U.heap ∧ va_K (dC, dI) vcl [(ka_things, .int)] U ∧ va_D (fun _ => True) [(a_t, .inr (6, [.ref a_things, .int (nI n_size), .int z_most])), (a_things, .inl (ka_things, 181, .inl f_things))])) (va_Qv (fun (_ : Unit) => True) (fun _ t => ∃ (w_n_size : Nat), (w_n_size ≤ 181) ∧ (w_n_size = drp f_things n_size) ∧ va_P (dC, dI) vcl [(a_t, .inr (6, [.ref a_things, .int (nI w_n_size), .int z_most])), (a_things, .inl (ka_things, 181, .inl f_things))] t.heap ∧ va_K (dC, dI) vcl [(ka_things, .int)] t ∧ va_D (va_A [(a_t, .inr (6, [.ref a_things, .int (nI n_size), .int z_most])), (a_things, .inl (ka_things, 181, .inl f_things))] sz) [(a_t, .inr (6, [.ref a_things, .int (nI w_n_size), .int z_most])), (a_things, .inl (ka_things, 181, .inl f_things))]) (va_A [(a_t, .inr (6, [.ref a_things, .int (nI n_size), .int z_most])), (a_things, .inl (ka_things, 181, .inl f_things))] sz)) 0 0 (va_A [(a_t, .inr (6, [.ref a_things, .int (nI n_size), .int z_most])), (a_things, .inl (ka_things, 181, .inl f_things))] sz) := by
  refine Met.ofW (cc := b_Open_dropLets) (maxL := 1) (ret := none) (by decide) rfl ?_
  intro p e s m args below meth c s₁ B hml hv
  obtain ⟨rfl, hsz, hP, hK, hD0⟩ := hv
  have hx := B.exec
  have hb := B.bytes
  have hr := B.returns
  have hts := atoms_spec (ws := w_Open_dropLets) B.pre
  have hz : ∀ w ∈ wz, w.before _ s = true := fun w h => hts w (List.mem_cons_of_mem _ h)
  have hown : s.vm.findClass R_Open = some m.cls := findClass_of_methodNamed B.named
  have hlocks := B.notSynchronized
  subst hsz
  have hD := hD0.self (sz := s.heap.size)
  generalize hAe : va_A [(a_t, .inr (6, [.ref a_things, .int (nI n_size), .int z_most])), (a_things, .inl (ka_things, 181, .inl f_things))] s.heap.size = A at hD ⊢
  have hA : ∀ q : Nat, s.heap.size ≤ q → A q := fun q h => by rw [← hAe]; exact Or.inr h
  have hS : va_S A s.heap s.heap [] := va_S.rf
  have hP : va_P (dC, dI) vcl [(a_t, .inr (6, [.ref a_things, .int (nI n_size), .int z_most])), (a_things, .inl (ka_things, 181, .inl f_things))] s.heap := hP
  have hl := lv_entry ([.ref a_t]) (n := 1) (Nat.le_of_ble_eq_true rfl)
  rw [lg_entry_eq]
  generalize (lg_sl ([.ref a_t]) ++ List.replicate (1 - (lg_sl ([.ref a_t])).length) Slot.unset).toArray = ls at hl ⊢
  have hl : lv_has ls 1 [(0, .ref a_t)] := hl
  refine xr_loop (α := (Nat)) (fun a => (fun (v_a_t_1 : Nat) => v_a_t_1) a) (fun a H locs ls => (fun (v_a_t_1 : Nat) => (v_a_t_1 ≤ 181) ∧ (v_a_t_1 ≤ n_size) ∧ (drp f_things v_a_t_1 = drp f_things n_size) ∧ lv_has ls 1 [(0, .ref a_t)] ∧ va_P (dC, dI) vcl [(a_t, .inr (6, [.ref a_things, .int (nI v_a_t_1), .int z_most])), (a_things, .inl (ka_things, 181, .inl f_things))] H ∧ va_D A [(a_t, .inr (6, [.ref a_things, .int (nI v_a_t_1), .int z_most])), (a_things, .inl (ka_things, 181, .inl f_things))] ∧ va_S A s.heap H locs) a) (fun a ih0 H locs ls hI => ?_) (n_size) _ _ _ ⟨by show n_size ≤ 181; first | omega | assumption | exact Or.inl rfl | exact Or.inr rfl | decide, by show n_size ≤ n_size; first | omega | assumption | exact Or.inl rfl | exact Or.inr rfl | decide, by show drp f_things n_size = drp f_things n_size; rfl, hl, hP, hD, hS⟩
  generalize a = v_a_t_1 at ih0 hI
  obtain ⟨bl0, bl1, bl2, hl, hP, hD, hS⟩ := hI
  have bl0 : v_a_t_1 ≤ 181 := bl0
  have bl1 : v_a_t_1 ≤ n_size := bl1
  have bl2 : drp f_things v_a_t_1 = drp f_things n_size := bl2
  have iE := bl2
  have hl : lv_has ls 1 [(0, .ref a_t)] := hl
  have hP : va_P (dC, dI) vcl [(a_t, .inr (6, [.ref a_things, .int (nI v_a_t_1), .int z_most])), (a_things, .inl (ka_things, 181, .inl f_things))] H := hP
  have hD : va_D A [(a_t, .inr (6, [.ref a_things, .int (nI v_a_t_1), .int z_most])), (a_things, .inl (ka_things, 181, .inl f_things))] := hD
  refine lv_aload_n hx hb d_Open_dropLets_0 rfl (lv_at hl 0 rfl) ?_
  refine va_get (D := (dC, dI)) (ci := 6) (v := .int (nI v_a_t_1)) (C := R_Open) (T := F_Open) (N := 3) hx hb hz zu_Open hown hK hP 0 rfl rfl 1 (by decide) (hz (.fieldLink R_Open 15 "LayoutFront$Open" "size" "I") zm_171) (fun _ h9 => h9) rfl d_Open_dropLets_1 ?_
  refine lv_if_le (tgt := 34) hx hb d_Open_dropLets_4 (by decide) (fun h1 => ?_) (fun h1 => ?_)
  · have h1 : v_a_t_1 ≤ 0 := (nI_leI (a := v_a_t_1) (b := 0) (by omega) (by omega)).mp h1
    have hP9 := hP.sub (ws' := [(a_t, .inr (6, [.ref a_things, .int (nI v_a_t_1), .int z_most])), (a_things, .inl (ka_things, 181, .inl f_things))]) [0, 1] rfl
    have hD9 := hD.sub (ws' := [(a_t, .inr (6, [.ref a_things, .int (nI v_a_t_1), .int z_most])), (a_things, .inl (ka_things, 181, .inl f_things))]) [0, 1] (by decide) rfl
    exact W.vret hx hb hr (fun t ht hW => ⟨⟨(), rfl, trivial, v_a_t_1, by first | omega | assumption | exact Or.inl rfl | exact Or.inr rfl | decide, by exact (dr_e (Or.inl (by omega))).symm.trans iE, by rw [ht]; exact hP9, va_K.moved hW.alike hK, hD9⟩, hS.F ht⟩) hS.2.2 d_Open_dropLets_34
  · have h1 : ¬ v_a_t_1 ≤ 0 := fun q => h1 ((nI_leI (a := v_a_t_1) (b := 0) (by omega) (by omega)).mpr q)
    refine lv_aload_n hx hb d_Open_dropLets_7 rfl (lv_at hl 0 rfl) ?_
    refine lv_aload_n hx hb d_Open_dropLets_8 rfl (lv_at hl 0 rfl) ?_
    refine va_get (D := (dC, dI)) (ci := 6) (v := .int (nI v_a_t_1)) (C := R_Open) (T := F_Open) (N := 3) hx hb hz zu_Open hown hK hP 0 rfl rfl 1 (by decide) (hz (.fieldLink R_Open 15 "LayoutFront$Open" "size" "I") zm_171) (fun _ h9 => h9) rfl d_Open_dropLets_9 ?_
    refine lv_iconst (v := 1) hx hb d_Open_dropLets_12 (by decide) ?_
    refine xr_isub (v := (nI (v_a_t_1 - 1))) hx hb d_Open_dropLets_13 (pk_sub (a := v_a_t_1) (b := 1) (by omega)) ?_
    have hPc := hP.sub (ws' := [(a_t, .inr (6, [.ref a_things, .int (nI v_a_t_1), .int z_most])), (a_things, .inl (ka_things, 181, .inl f_things))]) [0, 1] rfl
    have hDc := hD.sub (ws' := [(a_t, .inr (6, [.ref a_things, .int (nI v_a_t_1), .int z_most])), (a_things, .inl (ka_things, 181, .inl f_things))]) [0, 1] (by decide) rfl
    have hKc := hK.sub (tys' := [(ka_things, .int)]) [0] rfl
    have hFc := va_free (wc := [(a_t, .inr (6, [.ref a_things, .int (nI v_a_t_1), .int z_most])), (a_things, .inl (ka_things, 181, .inl f_things))]) hD hS hA [0, 1] rfl
    refine va_calli (va_runV (As := [.int (nI (v_a_t_1 - 1))]) (rest := []) ⟨hx, hb, hml, hown, hz⟩ (s_Open_at6 l dC dI H.size a_t a_things f_things v_a_t_1 z_most ((nI (v_a_t_1 - 1))) ka_things (by first | omega | assumption | exact Or.inl rfl | exact Or.inr rfl | decide)) (cwV 1 hz (zV zm_174 zm_175 zm_176 zm_177 zm_178) rfl rfl rfl (by decide +kernel) ⟨Nat.le_of_ble_eq_true rfl, Nat.le_of_ble_eq_true rfl⟩) ⟨fun a U g mk q => by obtain ⟨q0, q1, qP, qK, qD⟩ := q; exact ⟨q0, q1, qP, va_K.moved (u := U) (U := U.calling g mk a) (Vm.Alike.refl U.vm) qK, qD⟩, va_recv (q := (R_Open, F_Open, 3)) (q0 := 0) (ci := 6) hK hP rfl rfl, fun U hU hW => ⟨rfl, by rw [hU], by rw [hU]; exact hPc, va_K.moved hW.alike hKc, hDc.weaken (fun _ _ _ _ => trivial)⟩⟩ rfl rfl hl.1 rfl (lv_room (Nat.le_of_ble_eq_true rfl)) d_Open_dropLets_14 ⟨Nat.zero_le _, Nat.zero_le _⟩) hS (fun q _ h => hFc q h) hFc (fun r u t H1 locs ht hvm hw hB hz1 hk1 hS => ?_)
    obtain ⟨hP1, hK1, hD1⟩ := hB
    subst r
    rw [ht] at hP1
    obtain ⟨hP, hD⟩ := va_join (wr := []) (w1 := [(a_t, .inr (6, [.ref a_things, .int (nI v_a_t_1), .int z_most])), (a_things, .inl (ka_things, 181, .inl f_things))]) hP hD [0, 1] [] rfl rfl (by decide) (by decide) hk1 hFc hP1 hD1
    generalize H1 = H at hP hS ⊢
    have hP : va_P (dC, dI) vcl [(a_t, .inr (6, [.ref a_things, .int (nI v_a_t_1), .int z_most])), (a_things, .inl (ka_things, 181, .inl f_things))] H := hP
    have hD : va_D A [(a_t, .inr (6, [.ref a_things, .int (nI v_a_t_1), .int z_most])), (a_things, .inl (ka_things, 181, .inl f_things))] := hD
    refine lv_iconst (v := (-1)) hx hb d_Open_dropLets_17 (by decide) ?_
    refine lv_icmp_ne (tgt := 34) hx hb d_Open_dropLets_18 (by decide) (fun h2 => ?_) (fun h2 => ?_)
    · have e18 := h2
      rw [at_n (by omega) (by omega)] at e18
      have hP9 := hP.sub (ws' := [(a_t, .inr (6, [.ref a_things, .int (nI v_a_t_1), .int z_most])), (a_things, .inl (ka_things, 181, .inl f_things))]) [0, 1] rfl
      have hD9 := hD.sub (ws' := [(a_t, .inr (6, [.ref a_things, .int (nI v_a_t_1), .int z_most])), (a_things, .inl (ka_things, 181, .inl f_things))]) [0, 1] (by decide) rfl
      exact W.vret hx hb hr (fun t ht hW => ⟨⟨(), rfl, trivial, v_a_t_1, by first | omega | assumption | exact Or.inl rfl | exact Or.inr rfl | decide, by exact (dr_e (Or.inr e18)).symm.trans iE, by rw [ht]; exact hP9, va_K.moved hW.alike hK, hD9⟩, hS.F ht⟩) hS.2.2 d_Open_dropLets_34
    · have e18 := h2
      rw [at_n (by omega) (by omega)] at e18
      refine lv_aload_n hx hb d_Open_dropLets_21 rfl (lv_at hl 0 rfl) ?_
      refine lv_dup hx hb d_Open_dropLets_22 rfl ?_
      refine va_get (D := (dC, dI)) (ci := 6) (v := .int (nI v_a_t_1)) (C := R_Open) (T := F_Open) (N := 3) hx hb hz zu_Open hown hK hP 0 rfl rfl 1 (by decide) (hz (.fieldLink R_Open 15 "LayoutFront$Open" "size" "I") zm_171) (fun _ h9 => h9) rfl d_Open_dropLets_23 ?_
      refine lv_iconst (v := 1) hx hb d_Open_dropLets_26 (by decide) ?_
      refine xr_isub (v := (nI (v_a_t_1 - 1))) hx hb d_Open_dropLets_27 (pk_sub (a := v_a_t_1) (b := 1) (by omega)) ?_
      refine va_put (D := (dC, dI)) (ci := 6) (v := .int (nI (v_a_t_1 - 1))) (ty := .int) (C := R_Open) (T := F_Open) (N := 3) hx hb hz zu_Open t_Open t_Open_ok n_Open hown hK hP hD hS 0 rfl rfl 1 (by decide) (hz (.fieldLink R_Open 15 "LayoutFront$Open" "size" "I") zm_171) (fun _ h9 => h9) rfl (by decide +kernel) rfl rfl (Nat.le_of_ble_eq_true rfl) d_Open_dropLets_28 (fun H locs hP hD hS => ?_)
      have hP : va_P (dC, dI) vcl [(a_t, .inr (6, [.ref a_things, .int (nI (v_a_t_1 - 1)), .int z_most])), (a_things, .inl (ka_things, 181, .inl f_things))] H := hP
      have hD : va_D A [(a_t, .inr (6, [.ref a_things, .int (nI (v_a_t_1 - 1)), .int z_most])), (a_things, .inl (ka_things, 181, .inl f_things))] := hD
      refine lv_goto (tgt := 0) hx hb d_Open_dropLets_31 (by decide) ?_
      have hP9 := hP.sub (ws' := [(a_t, .inr (6, [.ref a_things, .int (nI (v_a_t_1 - 1)), .int z_most])), (a_things, .inl (ka_things, 181, .inl f_things))]) [0, 1] rfl
      have hD9 := hD.sub (ws' := [(a_t, .inr (6, [.ref a_things, .int (nI (v_a_t_1 - 1)), .int z_most])), (a_things, .inl (ka_things, 181, .inl f_things))]) [0, 1] (by decide) rfl
      exact ih0 ((v_a_t_1 - 1)) (by show ((v_a_t_1 - 1)) < v_a_t_1; omega) _ _ _ ⟨by show ((v_a_t_1 - 1)) ≤ 181; first | omega | assumption | exact Or.inl rfl | exact Or.inr rfl | decide, by show ((v_a_t_1 - 1)) ≤ n_size; first | omega | assumption | exact Or.inl rfl | exact Or.inr rfl | decide, by show drp f_things ((v_a_t_1 - 1)) = drp f_things n_size; exact (dr_s (by omega) e18).trans iE, hl, hP9, hD9, hS⟩
set_option maxHeartbeats 4000000 in
set_option maxRecDepth 100000 in
theorem s_Blocks_putIn6 (l : Launch) (dC : Nat → ClassId) (dI : Nat → Nat → Nat) (sz : Nat) (a_t : Nat) (a_open : Nat) (a_laid : Nat) (a_laid_kinds : Nat) (f_laid_kinds : Nat → Int32) (a_laid_values : Nat) (f_laid_values : Nat → Int64) (n_laid_size : Nat) (z_begun : Int32) (y0 : Int32) (ka_laid_kinds : ClassId) (ka_laid_values : ClassId) (b_laid_size : n_laid_size ≤ 362) (hp0 : n_laid_size < 362) : Met l y_Blocks_putIn w_Blocks_putIn ({ frames := 1, cells := 0, slots := 0, locals := 23 }) (va_Pc [.ref a_t, .int y0] (fun U => U.heap.size = sz ∧ va_P (dC, dI) vcl [(a_t, .inr (2, [.ref a_open, .ref a_laid, .int z_begun])), (a_laid, .inr (11, [.ref a_laid_kinds, .ref a_laid_values, .int (nI n_laid_size)])), (a_laid_kinds, .inl (ka_laid_kinds, 362, .inl f_laid_kinds)), (a_laid_values, .inl (ka_laid_values, 362, .inr (.inl f_laid_values)))] U.heap ∧ va_K (dC, dI) vcl [(ka_laid_kinds, .int), (ka_laid_values, .long)] U ∧ va_D (fun _ => True) [(a_t, .inr (2, [.ref a_open, .ref a_laid, .int z_begun])), (a_laid, .inr (11, [.ref a_laid_kinds, .ref a_laid_values, .int (nI n_laid_size)])), (a_laid_kinds, .inl (ka_laid_kinds, 362, .inl f_laid_kinds)), (a_laid_values, .inl (ka_laid_values, 362, .inr (.inl f_laid_values)))])) (va_Qv (fun (_ : Unit) => True) (fun _ t => ∃ (w_n_laid_size : Nat) (w_f_laid_kinds : Nat → Int32) (w_f_laid_values : Nat → Int64), (w_n_laid_size ≤ 362) ∧ (w_n_laid_size = n_laid_size + 1) ∧ (w_f_laid_kinds = upd f_laid_kinds n_laid_size 4) ∧ (w_f_laid_values = vp_updL f_laid_values n_laid_size (i6 y0)) ∧ va_P (dC, dI) vcl [(a_t, .inr (2, [.ref a_open, .ref a_laid, .int z_begun])), (a_laid, .inr (11, [.ref a_laid_kinds, .ref a_laid_values, .int (nI w_n_laid_size)])), (a_laid_kinds, .inl (ka_laid_kinds, 362, .inl w_f_laid_kinds)), (a_laid_values, .inl (ka_laid_values, 362, .inr (.inl w_f_laid_values)))] t.heap ∧ va_K (dC, dI) vcl [(ka_laid_kinds, .int), (ka_laid_values, .long)] t ∧ va_D (va_A [(a_t, .inr (2, [.ref a_open, .ref a_laid, .int z_begun])), (a_laid, .inr (11, [.ref a_laid_kinds, .ref a_laid_values, .int (nI n_laid_size)])), (a_laid_kinds, .inl (ka_laid_kinds, 362, .inl f_laid_kinds)), (a_laid_values, .inl (ka_laid_values, 362, .inr (.inl f_laid_values)))] sz) [(a_t, .inr (2, [.ref a_open, .ref a_laid, .int z_begun])), (a_laid, .inr (11, [.ref a_laid_kinds, .ref a_laid_values, .int (nI w_n_laid_size)])), (a_laid_kinds, .inl (ka_laid_kinds, 362, .inl w_f_laid_kinds)), (a_laid_values, .inl (ka_laid_values, 362, .inr (.inl w_f_laid_values)))]) (va_A [(a_t, .inr (2, [.ref a_open, .ref a_laid, .int z_begun])), (a_laid, .inr (11, [.ref a_laid_kinds, .ref a_laid_values, .int (nI n_laid_size)])), (a_laid_kinds, .inl (ka_laid_kinds, 362, .inl f_laid_kinds)), (a_laid_values, .inl (ka_laid_values, 362, .inr (.inl f_laid_values)))] sz)) 0 0 (va_A [(a_t, .inr (2, [.ref a_open, .ref a_laid, .int z_begun])), (a_laid, .inr (11, [.ref a_laid_kinds, .ref a_laid_values, .int (nI n_laid_size)])), (a_laid_kinds, .inl (ka_laid_kinds, 362, .inl f_laid_kinds)), (a_laid_values, .inl (ka_laid_values, 362, .inr (.inl f_laid_values)))] sz) := by
  refine Met.ofW (cc := b_Blocks_putIn) (maxL := 2) (ret := none) (by decide) rfl ?_
  intro p e s m args below meth c s₁ B hml hv
  obtain ⟨rfl, hsz, hP, hK, hD0⟩ := hv
  have hx := B.exec
  have hb := B.bytes
  have hr := B.returns
  have hts := atoms_spec (ws := w_Blocks_putIn) B.pre
  have hz : ∀ w ∈ wz, w.before _ s = true := fun w h => hts w (List.mem_cons_of_mem _ h)
  have hown : s.vm.findClass R_Blocks = some m.cls := findClass_of_methodNamed B.named
  have hlocks := B.notSynchronized
  subst hsz
  have hD := hD0.self (sz := s.heap.size)
  generalize hAe : va_A [(a_t, .inr (2, [.ref a_open, .ref a_laid, .int z_begun])), (a_laid, .inr (11, [.ref a_laid_kinds, .ref a_laid_values, .int (nI n_laid_size)])), (a_laid_kinds, .inl (ka_laid_kinds, 362, .inl f_laid_kinds)), (a_laid_values, .inl (ka_laid_values, 362, .inr (.inl f_laid_values)))] s.heap.size = A at hD ⊢
  have hA : ∀ q : Nat, s.heap.size ≤ q → A q := fun q h => by rw [← hAe]; exact Or.inr h
  have hS : va_S A s.heap s.heap [] := va_S.rf
  have hP : va_P (dC, dI) vcl [(a_t, .inr (2, [.ref a_open, .ref a_laid, .int z_begun])), (a_laid, .inr (11, [.ref a_laid_kinds, .ref a_laid_values, .int (nI n_laid_size)])), (a_laid_kinds, .inl (ka_laid_kinds, 362, .inl f_laid_kinds)), (a_laid_values, .inl (ka_laid_values, 362, .inr (.inl f_laid_values)))] s.heap := hP
  have hl := lv_entry ([.ref a_t, .int y0]) (n := 2) (Nat.le_of_ble_eq_true rfl)
  rw [lg_entry_eq]
  generalize (lg_sl ([.ref a_t, .int y0]) ++ List.replicate (2 - (lg_sl ([.ref a_t, .int y0])).length) Slot.unset).toArray = ls at hl ⊢
  have hl : lv_has ls 2 [(0, .ref a_t), (1, .int y0)] := hl
  refine lv_aload_n hx hb d_Blocks_putIn_0 rfl (lv_at hl 0 rfl) ?_
  refine va_get (D := (dC, dI)) (ci := 2) (v := .ref a_laid) (C := R_Blocks) (T := F_Blocks) (N := 3) hx hb hz zu_Blocks hown hK hP 0 rfl rfl 1 (by decide) (hz (.fieldLink R_Blocks 23 "LayoutFront$Blocks" "laid" "LLayoutFront$Tokens;") zm_186) (fun _ h9 => h9) rfl d_Blocks_putIn_1 ?_
  refine lv_iconst (v := 4) hx hb d_Blocks_putIn_4 (by decide) ?_
  refine lv_iload_n hx hb d_Blocks_putIn_5 rfl (lv_at hl 1 rfl) ?_
  refine lv_i2l (v := y0.toInt64) hx hb d_Blocks_putIn_6 rfl ?_
  have hPc := hP.sub (ws' := [(a_laid, .inr (11, [.ref a_laid_kinds, .ref a_laid_values, .int (nI n_laid_size)])), (a_laid_kinds, .inl (ka_laid_kinds, 362, .inl f_laid_kinds)), (a_laid_values, .inl (ka_laid_values, 362, .inr (.inl f_laid_values)))]) [1, 2, 3] rfl
  have hDc := hD.sub (ws' := [(a_laid, .inr (11, [.ref a_laid_kinds, .ref a_laid_values, .int (nI n_laid_size)])), (a_laid_kinds, .inl (ka_laid_kinds, 362, .inl f_laid_kinds)), (a_laid_values, .inl (ka_laid_values, 362, .inr (.inl f_laid_values)))]) [1, 2, 3] (by decide) rfl
  have hKc := hK.sub (tys' := [(ka_laid_kinds, .int), (ka_laid_values, .long)]) [0, 1] rfl
  have hFc := va_free (wc := [(a_laid, .inr (11, [.ref a_laid_kinds, .ref a_laid_values, .int (nI n_laid_size)])), (a_laid_kinds, .inl (ka_laid_kinds, 362, .inl f_laid_kinds)), (a_laid_values, .inl (ka_laid_values, 362, .inr (.inl f_laid_values)))]) hD hS hA [1, 2, 3] rfl
  refine va_callv (va_runV (As := [.int 4, .long y0.toInt64]) (rest := []) ⟨hx, hb, hml, hown, hz⟩ (s_Tokens_add6 l dC dI s.heap.size 362 a_laid a_laid_kinds f_laid_kinds a_laid_values f_laid_values n_laid_size 4 (y0.toInt64) ka_laid_kinds ka_laid_values (by first | rfl | omega) (by first | rfl | omega) (by first | rfl | omega)) (cwV 2 hz (zV zm_235 zm_33 zm_34 zm_35 zm_36) rfl rfl rfl (by decide +kernel) ⟨Nat.le_of_ble_eq_true rfl, Nat.le_of_ble_eq_true rfl⟩) ⟨fun a U g mk q => by obtain ⟨q0, q1, qP, qK, qD⟩ := q; exact ⟨q0, q1, qP, va_K.moved (u := U) (U := U.calling g mk a) (Vm.Alike.refl U.vm) qK, qD⟩, va_recv (q := (R_Tokens, F_Tokens, 3)) (q0 := 1) (ci := 11) hK hP rfl rfl, fun U hU hW => ⟨rfl, by rw [hU], by rw [hU]; exact hPc, va_K.moved hW.alike hKc, hDc.weaken (fun _ _ _ _ => trivial)⟩⟩ rfl rfl hl.1 rfl (lv_room (Nat.le_of_ble_eq_true rfl)) d_Blocks_putIn_7 ⟨Nat.zero_le _, Nat.zero_le _⟩) hS (fun q _ h => hFc q h) hFc (fun u t H1 locs ht hvm hw hB hz1 hk1 hS => ?_)
  obtain ⟨g1, g2, g3, hb_g1, hq0_7, hq1_7, hq2_7, hP1, hK1, hD1⟩ := hB
  subst g1
  subst g2
  subst g3
  rw [ht] at hP1
  obtain ⟨hP, hD⟩ := va_join (wr := [(a_t, .inr (2, [.ref a_open, .ref a_laid, .int z_begun]))]) (w1 := [(a_laid, .inr (11, [.ref a_laid_kinds, .ref a_laid_values, .int (nI (n_laid_size + 1))])), (a_laid_kinds, .inl (ka_laid_kinds, 362, .inl (upd f_laid_kinds n_laid_size 4))), (a_laid_values, .inl (ka_laid_values, 362, .inr (.inl (vp_updL f_laid_values n_laid_size (y0.toInt64)))))]) hP hD [1, 2, 3] [0] rfl rfl (by decide) (by decide) hk1 hFc hP1 hD1
  generalize H1 = H at hP hS ⊢
  have hP : va_P (dC, dI) vcl [(a_t, .inr (2, [.ref a_open, .ref a_laid, .int z_begun])), (a_laid, .inr (11, [.ref a_laid_kinds, .ref a_laid_values, .int (nI (n_laid_size + 1))])), (a_laid_kinds, .inl (ka_laid_kinds, 362, .inl (upd f_laid_kinds n_laid_size 4))), (a_laid_values, .inl (ka_laid_values, 362, .inr (.inl (vp_updL f_laid_values n_laid_size (y0.toInt64)))))] H := hP
  have hD : va_D A [(a_t, .inr (2, [.ref a_open, .ref a_laid, .int z_begun])), (a_laid, .inr (11, [.ref a_laid_kinds, .ref a_laid_values, .int (nI (n_laid_size + 1))])), (a_laid_kinds, .inl (ka_laid_kinds, 362, .inl (upd f_laid_kinds n_laid_size 4))), (a_laid_values, .inl (ka_laid_values, 362, .inr (.inl (vp_updL f_laid_values n_laid_size (y0.toInt64)))))] := hD
  have hP9 := hP.sub (ws' := [(a_t, .inr (2, [.ref a_open, .ref a_laid, .int z_begun])), (a_laid, .inr (11, [.ref a_laid_kinds, .ref a_laid_values, .int (nI (n_laid_size + 1))])), (a_laid_kinds, .inl (ka_laid_kinds, 362, .inl (upd f_laid_kinds n_laid_size 4))), (a_laid_values, .inl (ka_laid_values, 362, .inr (.inl (vp_updL f_laid_values n_laid_size (y0.toInt64)))))]) [0, 1, 2, 3] rfl
  have hD9 := hD.sub (ws' := [(a_t, .inr (2, [.ref a_open, .ref a_laid, .int z_begun])), (a_laid, .inr (11, [.ref a_laid_kinds, .ref a_laid_values, .int (nI (n_laid_size + 1))])), (a_laid_kinds, .inl (ka_laid_kinds, 362, .inl (upd f_laid_kinds n_laid_size 4))), (a_laid_values, .inl (ka_laid_values, 362, .inr (.inl (vp_updL f_laid_values n_laid_size (y0.toInt64)))))]) [0, 1, 2, 3] (by decide) rfl
  exact W.vret hx hb hr (fun t ht hW => ⟨⟨(), rfl, trivial, ((n_laid_size + 1)), ((upd f_laid_kinds n_laid_size 4)), ((vp_updL f_laid_values n_laid_size (y0.toInt64))), by first | rfl | omega, by first | rfl | omega, by first | rfl | omega, by first | rfl | omega, by rw [ht]; exact hP9, va_K.moved hW.alike hK, hD9⟩, hS.F ht⟩) hS.2.2 d_Blocks_putIn_10
set_option maxHeartbeats 4000000 in
set_option maxRecDepth 100000 in
theorem s_Blocks_mark6 (l : Launch) (dC : Nat → ClassId) (dI : Nat → Nat → Nat) (sz : Nat) (a_t : Nat) (a_open : Nat) (a_open_things : Nat) (f_open_things : Nat → Int32) (n_open_size : Nat) (z_open_most : Int32) (a_laid : Nat) (a_laid_kinds : Nat) (f_laid_kinds : Nat → Int32) (a_laid_values : Nat) (f_laid_values : Nat → Int64) (n_laid_size : Nat) (z_begun : Int32) (y0 : Int32) (ka_open_things : ClassId) (ka_laid_kinds : ClassId) (ka_laid_values : ClassId) (b_open_size : n_open_size ≤ 181) (b_laid_size : n_laid_size ≤ 362) (hp0 : 0 < y0) (hp1 : pt (stk f_open_things n_open_size, tks f_laid_kinds f_laid_values n_laid_size, z_open_most) + 1 ≤ 362) : Met l y_Blocks_mark w_Blocks_mark ({ frames := 2, cells := 0, slots := 0, locals := 44 }) (va_Pc [.ref a_t, .int y0] (fun U => U.heap.size = sz ∧ va_P (dC, dI) vcl [(a_t, .inr (2, [.ref a_open, .ref a_laid, .int z_begun])), (a_open, .inr (6, [.ref a_open_things, .int (nI n_open_size), .int z_open_most])), (a_open_things, .inl (ka_open_things, 181, .inl f_open_things)), (a_laid, .inr (11, [.ref a_laid_kinds, .ref a_laid_values, .int (nI n_laid_size)])), (a_laid_kinds, .inl (ka_laid_kinds, 362, .inl f_laid_kinds)), (a_laid_values, .inl (ka_laid_values, 362, .inr (.inl f_laid_values)))] U.heap ∧ va_K (dC, dI) vcl [(ka_open_things, .int), (ka_laid_kinds, .int), (ka_laid_values, .long)] U ∧ va_D (fun _ => True) [(a_t, .inr (2, [.ref a_open, .ref a_laid, .int z_begun])), (a_open, .inr (6, [.ref a_open_things, .int (nI n_open_size), .int z_open_most])), (a_open_things, .inl (ka_open_things, 181, .inl f_open_things)), (a_laid, .inr (11, [.ref a_laid_kinds, .ref a_laid_values, .int (nI n_laid_size)])), (a_laid_kinds, .inl (ka_laid_kinds, 362, .inl f_laid_kinds)), (a_laid_values, .inl (ka_laid_values, 362, .inr (.inl f_laid_values)))])) (va_Qv (fun (_ : Unit) => True) (fun _ t => ∃ (w_n_open_size : Nat) (w_n_laid_size : Nat) (w_f_laid_kinds : Nat → Int32) (w_f_laid_values : Nat → Int64), (w_n_open_size ≤ 181) ∧ (w_n_laid_size ≤ 362) ∧ ((stk f_open_things w_n_open_size, tks w_f_laid_kinds w_f_laid_values w_n_laid_size) = mkL y0 (stk f_open_things n_open_size) (tks f_laid_kinds f_laid_values n_laid_size)) ∧ va_P (dC, dI) vcl [(a_t, .inr (2, [.ref a_open, .ref a_laid, .int z_begun])), (a_open, .inr (6, [.ref a_open_things, .int (nI w_n_open_size), .int z_open_most])), (a_open_things, .inl (ka_open_things, 181, .inl f_open_things)), (a_laid, .inr (11, [.ref a_laid_kinds, .ref a_laid_values, .int (nI w_n_laid_size)])), (a_laid_kinds, .inl (ka_laid_kinds, 362, .inl w_f_laid_kinds)), (a_laid_values, .inl (ka_laid_values, 362, .inr (.inl w_f_laid_values)))] t.heap ∧ va_K (dC, dI) vcl [(ka_open_things, .int), (ka_laid_kinds, .int), (ka_laid_values, .long)] t ∧ va_D (va_A [(a_t, .inr (2, [.ref a_open, .ref a_laid, .int z_begun])), (a_open, .inr (6, [.ref a_open_things, .int (nI n_open_size), .int z_open_most])), (a_open_things, .inl (ka_open_things, 181, .inl f_open_things)), (a_laid, .inr (11, [.ref a_laid_kinds, .ref a_laid_values, .int (nI n_laid_size)])), (a_laid_kinds, .inl (ka_laid_kinds, 362, .inl f_laid_kinds)), (a_laid_values, .inl (ka_laid_values, 362, .inr (.inl f_laid_values)))] sz) [(a_t, .inr (2, [.ref a_open, .ref a_laid, .int z_begun])), (a_open, .inr (6, [.ref a_open_things, .int (nI w_n_open_size), .int z_open_most])), (a_open_things, .inl (ka_open_things, 181, .inl f_open_things)), (a_laid, .inr (11, [.ref a_laid_kinds, .ref a_laid_values, .int (nI w_n_laid_size)])), (a_laid_kinds, .inl (ka_laid_kinds, 362, .inl w_f_laid_kinds)), (a_laid_values, .inl (ka_laid_values, 362, .inr (.inl w_f_laid_values)))]) (va_A [(a_t, .inr (2, [.ref a_open, .ref a_laid, .int z_begun])), (a_open, .inr (6, [.ref a_open_things, .int (nI n_open_size), .int z_open_most])), (a_open_things, .inl (ka_open_things, 181, .inl f_open_things)), (a_laid, .inr (11, [.ref a_laid_kinds, .ref a_laid_values, .int (nI n_laid_size)])), (a_laid_kinds, .inl (ka_laid_kinds, 362, .inl f_laid_kinds)), (a_laid_values, .inl (ka_laid_values, 362, .inr (.inl f_laid_values)))] sz)) 0 0 (va_A [(a_t, .inr (2, [.ref a_open, .ref a_laid, .int z_begun])), (a_open, .inr (6, [.ref a_open_things, .int (nI n_open_size), .int z_open_most])), (a_open_things, .inl (ka_open_things, 181, .inl f_open_things)), (a_laid, .inr (11, [.ref a_laid_kinds, .ref a_laid_values, .int (nI n_laid_size)])), (a_laid_kinds, .inl (ka_laid_kinds, 362, .inl f_laid_kinds)), (a_laid_values, .inl (ka_laid_values, 362, .inr (.inl f_laid_values)))] sz) := by
  refine Met.ofW (cc := b_Blocks_mark) (maxL := 3) (ret := none) (by decide) rfl ?_
  intro p e s m args below meth c s₁ B hml hv
  obtain ⟨rfl, hsz, hP, hK, hD0⟩ := hv
  have hx := B.exec
  have hb := B.bytes
  have hr := B.returns
  have hts := atoms_spec (ws := w_Blocks_mark) B.pre
  have hz : ∀ w ∈ wz, w.before _ s = true := fun w h => hts w (List.mem_cons_of_mem _ h)
  have hown : s.vm.findClass R_Blocks = some m.cls := findClass_of_methodNamed B.named
  have hlocks := B.notSynchronized
  subst hsz
  have hD := hD0.self (sz := s.heap.size)
  generalize hAe : va_A [(a_t, .inr (2, [.ref a_open, .ref a_laid, .int z_begun])), (a_open, .inr (6, [.ref a_open_things, .int (nI n_open_size), .int z_open_most])), (a_open_things, .inl (ka_open_things, 181, .inl f_open_things)), (a_laid, .inr (11, [.ref a_laid_kinds, .ref a_laid_values, .int (nI n_laid_size)])), (a_laid_kinds, .inl (ka_laid_kinds, 362, .inl f_laid_kinds)), (a_laid_values, .inl (ka_laid_values, 362, .inr (.inl f_laid_values)))] s.heap.size = A at hD ⊢
  have hA : ∀ q : Nat, s.heap.size ≤ q → A q := fun q h => by rw [← hAe]; exact Or.inr h
  have hS : va_S A s.heap s.heap [] := va_S.rf
  have hP : va_P (dC, dI) vcl [(a_t, .inr (2, [.ref a_open, .ref a_laid, .int z_begun])), (a_open, .inr (6, [.ref a_open_things, .int (nI n_open_size), .int z_open_most])), (a_open_things, .inl (ka_open_things, 181, .inl f_open_things)), (a_laid, .inr (11, [.ref a_laid_kinds, .ref a_laid_values, .int (nI n_laid_size)])), (a_laid_kinds, .inl (ka_laid_kinds, 362, .inl f_laid_kinds)), (a_laid_values, .inl (ka_laid_values, 362, .inr (.inl f_laid_values)))] s.heap := hP
  have hl := lv_entry ([.ref a_t, .int y0]) (n := 3) (Nat.le_of_ble_eq_true rfl)
  rw [lg_entry_eq]
  generalize (lg_sl ([.ref a_t, .int y0]) ++ List.replicate (3 - (lg_sl ([.ref a_t, .int y0])).length) Slot.unset).toArray = ls at hl ⊢
  have hl : lv_has ls 3 [(0, .ref a_t), (1, .int y0)] := hl
  refine lv_aload_n hx hb d_Blocks_mark_0 rfl (lv_at hl 0 rfl) ?_
  refine va_get (D := (dC, dI)) (ci := 2) (v := .ref a_open) (C := R_Blocks) (T := F_Blocks) (N := 3) hx hb hz zu_Blocks hown hK hP 0 rfl rfl 0 (by decide) (hz (.fieldLink R_Blocks 12 "LayoutFront$Blocks" "open" "LLayoutFront$Open;") zm_183) (fun _ h9 => h9) rfl d_Blocks_mark_1 ?_
  have hPc := hP.sub (ws' := [(a_open, .inr (6, [.ref a_open_things, .int (nI n_open_size), .int z_open_most]))]) [1] rfl
  have hDc := hD.sub (ws' := [(a_open, .inr (6, [.ref a_open_things, .int (nI n_open_size), .int z_open_most]))]) [1] (by decide) rfl
  have hKc := hK.sub (tys' := []) [] rfl
  have hFc := va_free (wc := [(a_open, .inr (6, [.ref a_open_things, .int (nI n_open_size), .int z_open_most]))]) hD hS hA [1] rfl
  refine va_calli (va_runV (As := []) (rest := []) ⟨hx, hb, hml, hown, hz⟩ (s_Open_size l dC dI s.heap.size a_open a_open_things n_open_size z_open_most (by first | omega | assumption | exact Or.inl rfl | exact Or.inr rfl | decide)) (cwV 0 hz (zV zm_240 zm_241 zm_242 zm_177 zm_243) rfl rfl rfl (by decide +kernel) ⟨Nat.le_of_ble_eq_true rfl, Nat.le_of_ble_eq_true rfl⟩) ⟨fun a U g mk q => by obtain ⟨q0, q1, qP, qK, qD⟩ := q; exact ⟨q0, q1, qP, va_K.moved (u := U) (U := U.calling g mk a) (Vm.Alike.refl U.vm) qK, qD⟩, va_recv (q := (R_Open, F_Open, 3)) (q0 := 1) (ci := 6) hK hP rfl rfl, fun U hU hW => ⟨rfl, by rw [hU], by rw [hU]; exact hPc, va_K.moved hW.alike hKc, hDc.weaken (fun _ _ _ _ => trivial)⟩⟩ rfl rfl hl.1 rfl (lv_room (Nat.le_of_ble_eq_true rfl)) d_Blocks_mark_4 ⟨Nat.zero_le _, Nat.zero_le _⟩) hS (fun q _ h => hFc q h) hFc (fun r u t H1 locs ht hvm hw hB hz1 hk1 hS => ?_)
  obtain ⟨hP1, hK1, hD1⟩ := hB
  subst r
  rw [ht] at hP1
  obtain ⟨hP, hD⟩ := va_join (wr := [(a_t, .inr (2, [.ref a_open, .ref a_laid, .int z_begun])), (a_open_things, .inl (ka_open_things, 181, .inl f_open_things)), (a_laid, .inr (11, [.ref a_laid_kinds, .ref a_laid_values, .int (nI n_laid_size)])), (a_laid_kinds, .inl (ka_laid_kinds, 362, .inl f_laid_kinds)), (a_laid_values, .inl (ka_laid_values, 362, .inr (.inl f_laid_values)))]) (w1 := [(a_open, .inr (6, [.ref a_open_things, .int (nI n_open_size), .int z_open_most]))]) hP hD [1] [0, 2, 3, 4, 5] rfl rfl (by decide) (by decide) hk1 hFc hP1 hD1
  generalize H1 = H at hP hS ⊢
  have hP : va_P (dC, dI) vcl [(a_t, .inr (2, [.ref a_open, .ref a_laid, .int z_begun])), (a_open_things, .inl (ka_open_things, 181, .inl f_open_things)), (a_laid, .inr (11, [.ref a_laid_kinds, .ref a_laid_values, .int (nI n_laid_size)])), (a_laid_kinds, .inl (ka_laid_kinds, 362, .inl f_laid_kinds)), (a_laid_values, .inl (ka_laid_values, 362, .inr (.inl f_laid_values))), (a_open, .inr (6, [.ref a_open_things, .int (nI n_open_size), .int z_open_most]))] H := hP
  have hD : va_D A [(a_t, .inr (2, [.ref a_open, .ref a_laid, .int z_begun])), (a_open_things, .inl (ka_open_things, 181, .inl f_open_things)), (a_laid, .inr (11, [.ref a_laid_kinds, .ref a_laid_values, .int (nI n_laid_size)])), (a_laid_kinds, .inl (ka_laid_kinds, 362, .inl f_laid_kinds)), (a_laid_values, .inl (ka_laid_values, 362, .inr (.inl f_laid_values))), (a_open, .inr (6, [.ref a_open_things, .int (nI n_open_size), .int z_open_most]))] := hD
  refine lv_istore_n hx hb d_Blocks_mark_7 rfl hl (by decide) rfl (fun ls hl => ?_)
  have hl : lv_has ls 3 [(2, .int (nI n_open_size)), (0, .ref a_t), (1, .int y0)] := hl
  refine xr_loop (α := (Nat) × (Nat) × (Nat → Int32) × (Nat → Int64) × (Nat)) (fun a => (fun (k2 : Nat) (v_a_laid_2 : Nat) (v_a_laid_kinds : Nat → Int32) (v_a_laid_values : Nat → Int64) (v_a_open_1 : Nat) => k2) a.1 a.2.1 a.2.2.1 a.2.2.2.1 a.2.2.2.2) (fun a H locs ls => (fun (k2 : Nat) (v_a_laid_2 : Nat) (v_a_laid_kinds : Nat → Int32) (v_a_laid_values : Nat → Int64) (v_a_open_1 : Nat) => (k2 ≤ 181) ∧ (v_a_laid_2 ≤ 362) ∧ (v_a_open_1 ≤ 181) ∧ (v_a_open_1 ≤ k2) ∧ (v_a_open_1 ≤ n_open_size) ∧ (mkL y0 (stk f_open_things v_a_open_1) (tks v_a_laid_kinds v_a_laid_values v_a_laid_2) = mkL y0 (stk f_open_things n_open_size) (tks f_laid_kinds f_laid_values n_laid_size)) ∧ (pt (stk f_open_things v_a_open_1, tks v_a_laid_kinds v_a_laid_values v_a_laid_2, z_open_most) ≤ pt (stk f_open_things n_open_size, tks f_laid_kinds f_laid_values n_laid_size, z_open_most)) ∧ lv_has ls 3 [(2, .int (nI k2)), (0, .ref a_t), (1, .int y0)] ∧ va_P (dC, dI) vcl [(a_t, .inr (2, [.ref a_open, .ref a_laid, .int z_begun])), (a_open_things, .inl (ka_open_things, 181, .inl f_open_things)), (a_laid, .inr (11, [.ref a_laid_kinds, .ref a_laid_values, .int (nI v_a_laid_2)])), (a_laid_kinds, .inl (ka_laid_kinds, 362, .inl v_a_laid_kinds)), (a_laid_values, .inl (ka_laid_values, 362, .inr (.inl v_a_laid_values))), (a_open, .inr (6, [.ref a_open_things, .int (nI v_a_open_1), .int z_open_most]))] H ∧ va_D A [(a_t, .inr (2, [.ref a_open, .ref a_laid, .int z_begun])), (a_open_things, .inl (ka_open_things, 181, .inl f_open_things)), (a_laid, .inr (11, [.ref a_laid_kinds, .ref a_laid_values, .int (nI v_a_laid_2)])), (a_laid_kinds, .inl (ka_laid_kinds, 362, .inl v_a_laid_kinds)), (a_laid_values, .inl (ka_laid_values, 362, .inr (.inl v_a_laid_values))), (a_open, .inr (6, [.ref a_open_things, .int (nI v_a_open_1), .int z_open_most]))] ∧ va_S A s.heap H locs) a.1 a.2.1 a.2.2.1 a.2.2.2.1 a.2.2.2.2) (fun a ih8 H locs ls hI => ?_) (n_open_size, n_laid_size, f_laid_kinds, f_laid_values, n_open_size) _ _ _ ⟨by show n_open_size ≤ 181; first | omega | assumption | exact Or.inl rfl | exact Or.inr rfl | decide, by show n_laid_size ≤ 362; first | omega | assumption | exact Or.inl rfl | exact Or.inr rfl | decide, by show n_open_size ≤ 181; first | omega | assumption | exact Or.inl rfl | exact Or.inr rfl | decide, by show n_open_size ≤ n_open_size; first | omega | assumption | exact Or.inl rfl | exact Or.inr rfl | decide, by show n_open_size ≤ n_open_size; first | omega | assumption | exact Or.inl rfl | exact Or.inr rfl | decide, by show mkL y0 (stk f_open_things n_open_size) (tks f_laid_kinds f_laid_values n_laid_size) = mkL y0 (stk f_open_things n_open_size) (tks f_laid_kinds f_laid_values n_laid_size); rfl, by show pt (stk f_open_things n_open_size, tks f_laid_kinds f_laid_values n_laid_size, z_open_most) ≤ pt (stk f_open_things n_open_size, tks f_laid_kinds f_laid_values n_laid_size, z_open_most); exact Nat.le_refl _, hl, hP, hD, hS⟩
  obtain ⟨k2, v_a_laid_2, v_a_laid_kinds, v_a_laid_values, v_a_open_1⟩ := a
  obtain ⟨bl0, bl1, bl2, bl3, bl4, bl5, bl6, hl, hP, hD, hS⟩ := hI
  have bl0 : k2 ≤ 181 := bl0
  have bl1 : v_a_laid_2 ≤ 362 := bl1
  have bl2 : v_a_open_1 ≤ 181 := bl2
  have bl3 : v_a_open_1 ≤ k2 := bl3
  have iA := bl3
  have bl4 : v_a_open_1 ≤ n_open_size := bl4
  have iB := bl4
  have bl5 : mkL y0 (stk f_open_things v_a_open_1) (tks v_a_laid_kinds v_a_laid_values v_a_laid_2) = mkL y0 (stk f_open_things n_open_size) (tks f_laid_kinds f_laid_values n_laid_size) := bl5
  have iE := bl5
  have bl6 : pt (stk f_open_things v_a_open_1, tks v_a_laid_kinds v_a_laid_values v_a_laid_2, z_open_most) ≤ pt (stk f_open_things n_open_size, tks f_laid_kinds f_laid_values n_laid_size, z_open_most) := bl6
  have iP := bl6
  have hl : lv_has ls 3 [(2, .int (nI k2)), (0, .ref a_t), (1, .int y0)] := hl
  have hP : va_P (dC, dI) vcl [(a_t, .inr (2, [.ref a_open, .ref a_laid, .int z_begun])), (a_open_things, .inl (ka_open_things, 181, .inl f_open_things)), (a_laid, .inr (11, [.ref a_laid_kinds, .ref a_laid_values, .int (nI v_a_laid_2)])), (a_laid_kinds, .inl (ka_laid_kinds, 362, .inl v_a_laid_kinds)), (a_laid_values, .inl (ka_laid_values, 362, .inr (.inl v_a_laid_values))), (a_open, .inr (6, [.ref a_open_things, .int (nI v_a_open_1), .int z_open_most]))] H := hP
  have hD : va_D A [(a_t, .inr (2, [.ref a_open, .ref a_laid, .int z_begun])), (a_open_things, .inl (ka_open_things, 181, .inl f_open_things)), (a_laid, .inr (11, [.ref a_laid_kinds, .ref a_laid_values, .int (nI v_a_laid_2)])), (a_laid_kinds, .inl (ka_laid_kinds, 362, .inl v_a_laid_kinds)), (a_laid_values, .inl (ka_laid_values, 362, .inr (.inl v_a_laid_values))), (a_open, .inr (6, [.ref a_open_things, .int (nI v_a_open_1), .int z_open_most]))] := hD
  refine lv_iload_n hx hb d_Blocks_mark_8 rfl (lv_at hl 0 rfl) ?_
  refine lv_if_le (tgt := 49) hx hb d_Blocks_mark_9 (by decide) (fun h1 => ?_) (fun h1 => ?_)
  · have h1 : k2 ≤ 0 := (nI_leI (a := k2) (b := 0) (by omega) (by omega)).mp h1
    have dd := drp_le (row := f_open_things) v_a_open_1
    have p9 := pt_t (row := f_open_things) (o := v_a_open_1) (hi := z_open_most) (kk := v_a_laid_kinds) (vv := v_a_laid_values) (t := v_a_laid_2)
    refine lv_aload_n hx hb d_Blocks_mark_49 rfl (lv_at hl 1 rfl) ?_
    refine va_get (D := (dC, dI)) (ci := 2) (v := .ref a_open) (C := R_Blocks) (T := F_Blocks) (N := 3) hx hb hz zu_Blocks hown hK hP 0 rfl rfl 0 (by decide) (hz (.fieldLink R_Blocks 12 "LayoutFront$Blocks" "open" "LLayoutFront$Open;") zm_183) (fun _ h9 => h9) rfl d_Blocks_mark_50 ?_
    have hPc := hP.sub (ws' := [(a_open, .inr (6, [.ref a_open_things, .int (nI v_a_open_1), .int z_open_most])), (a_open_things, .inl (ka_open_things, 181, .inl f_open_things))]) [5, 1] rfl
    have hDc := hD.sub (ws' := [(a_open, .inr (6, [.ref a_open_things, .int (nI v_a_open_1), .int z_open_most])), (a_open_things, .inl (ka_open_things, 181, .inl f_open_things))]) [5, 1] (by decide) rfl
    have hKc := hK.sub (tys' := [(ka_open_things, .int)]) [0] rfl
    have hFc := va_free (wc := [(a_open, .inr (6, [.ref a_open_things, .int (nI v_a_open_1), .int z_open_most])), (a_open_things, .inl (ka_open_things, 181, .inl f_open_things))]) hD hS hA [5, 1] rfl
    refine va_calli (va_runV (As := []) (rest := []) ⟨hx, hb, hml, hown, hz⟩ (s_Open_belowLets6 l dC dI H.size a_open a_open_things f_open_things v_a_open_1 z_open_most ka_open_things (by first | omega | assumption | exact Or.inl rfl | exact Or.inr rfl | decide)) (cwV 0 hz (zV zm_276 zm_277 zm_278 zm_177 zm_279) rfl rfl rfl (by decide +kernel) ⟨Nat.le_of_ble_eq_true rfl, Nat.le_of_ble_eq_true rfl⟩) ⟨fun a U g mk q => by obtain ⟨q0, q1, qP, qK, qD⟩ := q; exact ⟨q0, q1, qP, va_K.moved (u := U) (U := U.calling g mk a) (Vm.Alike.refl U.vm) qK, qD⟩, va_recv (q := (R_Open, F_Open, 3)) (q0 := 5) (ci := 6) hK hP rfl rfl, fun U hU hW => ⟨rfl, by rw [hU], by rw [hU]; exact hPc, va_K.moved hW.alike hKc, hDc.weaken (fun _ _ _ _ => trivial)⟩⟩ rfl rfl hl.1 rfl (lv_room (Nat.le_of_ble_eq_true rfl)) d_Blocks_mark_53 ⟨Nat.zero_le _, Nat.zero_le _⟩) hS (fun q _ h => hFc q h) hFc (fun r u t H1 locs ht hvm hw hB hz1 hk1 hS => ?_)
    obtain ⟨hP1, hK1, hD1⟩ := hB
    subst r
    rw [ht] at hP1
    obtain ⟨hP, hD⟩ := va_join (wr := [(a_t, .inr (2, [.ref a_open, .ref a_laid, .int z_begun])), (a_laid, .inr (11, [.ref a_laid_kinds, .ref a_laid_values, .int (nI v_a_laid_2)])), (a_laid_kinds, .inl (ka_laid_kinds, 362, .inl v_a_laid_kinds)), (a_laid_values, .inl (ka_laid_values, 362, .inr (.inl v_a_laid_values)))]) (w1 := [(a_open, .inr (6, [.ref a_open_things, .int (nI v_a_open_1), .int z_open_most])), (a_open_things, .inl (ka_open_things, 181, .inl f_open_things))]) hP hD [5, 1] [0, 2, 3, 4] rfl rfl (by decide) (by decide) hk1 hFc hP1 hD1
    generalize H1 = H at hP hS ⊢
    have hP : va_P (dC, dI) vcl [(a_t, .inr (2, [.ref a_open, .ref a_laid, .int z_begun])), (a_laid, .inr (11, [.ref a_laid_kinds, .ref a_laid_values, .int (nI v_a_laid_2)])), (a_laid_kinds, .inl (ka_laid_kinds, 362, .inl v_a_laid_kinds)), (a_laid_values, .inl (ka_laid_values, 362, .inr (.inl v_a_laid_values))), (a_open, .inr (6, [.ref a_open_things, .int (nI v_a_open_1), .int z_open_most])), (a_open_things, .inl (ka_open_things, 181, .inl f_open_things))] H := hP
    have hD : va_D A [(a_t, .inr (2, [.ref a_open, .ref a_laid, .int z_begun])), (a_laid, .inr (11, [.ref a_laid_kinds, .ref a_laid_values, .int (nI v_a_laid_2)])), (a_laid_kinds, .inl (ka_laid_kinds, 362, .inl v_a_laid_kinds)), (a_laid_values, .inl (ka_laid_values, 362, .inr (.inl v_a_laid_values))), (a_open, .inr (6, [.ref a_open_things, .int (nI v_a_open_1), .int z_open_most])), (a_open_things, .inl (ka_open_things, 181, .inl f_open_things))] := hD
    refine lv_iload_n hx hb d_Blocks_mark_56 rfl (lv_at hl 2 rfl) ?_
    refine lv_icmp_ne (tgt := 73) hx hb d_Blocks_mark_57 (by decide) (fun h2 => ?_) (fun h2 => ?_)
    · have e57 := h2
      have hP9 := hP.sub (ws' := [(a_t, .inr (2, [.ref a_open, .ref a_laid, .int z_begun])), (a_open, .inr (6, [.ref a_open_things, .int (nI v_a_open_1), .int z_open_most])), (a_open_things, .inl (ka_open_things, 181, .inl f_open_things)), (a_laid, .inr (11, [.ref a_laid_kinds, .ref a_laid_values, .int (nI v_a_laid_2)])), (a_laid_kinds, .inl (ka_laid_kinds, 362, .inl v_a_laid_kinds)), (a_laid_values, .inl (ka_laid_values, 362, .inr (.inl v_a_laid_values)))]) [0, 4, 5, 1, 2, 3] rfl
      have hD9 := hD.sub (ws' := [(a_t, .inr (2, [.ref a_open, .ref a_laid, .int z_begun])), (a_open, .inr (6, [.ref a_open_things, .int (nI v_a_open_1), .int z_open_most])), (a_open_things, .inl (ka_open_things, 181, .inl f_open_things)), (a_laid, .inr (11, [.ref a_laid_kinds, .ref a_laid_values, .int (nI v_a_laid_2)])), (a_laid_kinds, .inl (ka_laid_kinds, 362, .inl v_a_laid_kinds)), (a_laid_values, .inl (ka_laid_values, 362, .inr (.inl v_a_laid_values)))]) [0, 4, 5, 1, 2, 3] (by decide) rfl
      exact W.vret hx hb hr (fun t ht hW => ⟨⟨(), rfl, trivial, v_a_open_1, v_a_laid_2, v_a_laid_kinds, v_a_laid_values, by first | omega | assumption | exact Or.inl rfl | exact Or.inr rfl | decide, by first | omega | assumption | exact Or.inl rfl | exact Or.inr rfl | decide, by exact (mC_c (mC_0 hp0 (by omega)) e57).trans iE, by rw [ht]; exact hP9, va_K.moved hW.alike hK, hD9⟩, hS.F ht⟩) hS.2.2 d_Blocks_mark_73
    · have e57 := h2
      refine lv_aload_n hx hb d_Blocks_mark_60 rfl (lv_at hl 1 rfl) ?_
      refine va_get (D := (dC, dI)) (ci := 2) (v := .ref a_open) (C := R_Blocks) (T := F_Blocks) (N := 3) hx hb hz zu_Blocks hown hK hP 0 rfl rfl 0 (by decide) (hz (.fieldLink R_Blocks 12 "LayoutFront$Blocks" "open" "LLayoutFront$Open;") zm_183) (fun _ h9 => h9) rfl d_Blocks_mark_61 ?_
      have hPc := hP.sub (ws' := [(a_open, .inr (6, [.ref a_open_things, .int (nI v_a_open_1), .int z_open_most])), (a_open_things, .inl (ka_open_things, 181, .inl f_open_things))]) [4, 5] rfl
      have hDc := hD.sub (ws' := [(a_open, .inr (6, [.ref a_open_things, .int (nI v_a_open_1), .int z_open_most])), (a_open_things, .inl (ka_open_things, 181, .inl f_open_things))]) [4, 5] (by decide) rfl
      have hKc := hK.sub (tys' := [(ka_open_things, .int)]) [0] rfl
      have hFc := va_free (wc := [(a_open, .inr (6, [.ref a_open_things, .int (nI v_a_open_1), .int z_open_most])), (a_open_things, .inl (ka_open_things, 181, .inl f_open_things))]) hD hS hA [4, 5] rfl
      refine va_callv (va_runV (As := []) (rest := []) ⟨hx, hb, hml, hown, hz⟩ (s_Open_dropLets6 l dC dI H.size a_open a_open_things f_open_things v_a_open_1 z_open_most ka_open_things (by first | omega | assumption | exact Or.inl rfl | exact Or.inr rfl | decide)) (cwV 0 hz (zV zm_280 zm_281 zm_282 zm_177 zm_283) rfl rfl rfl (by decide +kernel) ⟨Nat.le_of_ble_eq_true rfl, Nat.le_of_ble_eq_true rfl⟩) ⟨fun a U g mk q => by obtain ⟨q0, q1, qP, qK, qD⟩ := q; exact ⟨q0, q1, qP, va_K.moved (u := U) (U := U.calling g mk a) (Vm.Alike.refl U.vm) qK, qD⟩, va_recv (q := (R_Open, F_Open, 3)) (q0 := 4) (ci := 6) hK hP rfl rfl, fun U hU hW => ⟨rfl, by rw [hU], by rw [hU]; exact hPc, va_K.moved hW.alike hKc, hDc.weaken (fun _ _ _ _ => trivial)⟩⟩ rfl rfl hl.1 rfl (lv_room (Nat.le_of_ble_eq_true rfl)) d_Blocks_mark_64 ⟨Nat.zero_le _, Nat.zero_le _⟩) hS (fun q _ h => hFc q h) hFc (fun u t H1 locs ht hvm hw hB hz1 hk1 hS => ?_)
      obtain ⟨g3, hb_g3, hq0_64, hP1, hK1, hD1⟩ := hB
      subst g3
      rw [ht] at hP1
      obtain ⟨hP, hD⟩ := va_join (wr := [(a_t, .inr (2, [.ref a_open, .ref a_laid, .int z_begun])), (a_laid, .inr (11, [.ref a_laid_kinds, .ref a_laid_values, .int (nI v_a_laid_2)])), (a_laid_kinds, .inl (ka_laid_kinds, 362, .inl v_a_laid_kinds)), (a_laid_values, .inl (ka_laid_values, 362, .inr (.inl v_a_laid_values)))]) (w1 := [(a_open, .inr (6, [.ref a_open_things, .int (nI (drp f_open_things v_a_open_1)), .int z_open_most])), (a_open_things, .inl (ka_open_things, 181, .inl f_open_things))]) hP hD [4, 5] [0, 1, 2, 3] rfl rfl (by decide) (by decide) hk1 hFc hP1 hD1
      generalize H1 = H at hP hS ⊢
      have hP : va_P (dC, dI) vcl [(a_t, .inr (2, [.ref a_open, .ref a_laid, .int z_begun])), (a_laid, .inr (11, [.ref a_laid_kinds, .ref a_laid_values, .int (nI v_a_laid_2)])), (a_laid_kinds, .inl (ka_laid_kinds, 362, .inl v_a_laid_kinds)), (a_laid_values, .inl (ka_laid_values, 362, .inr (.inl v_a_laid_values))), (a_open, .inr (6, [.ref a_open_things, .int (nI (drp f_open_things v_a_open_1)), .int z_open_most])), (a_open_things, .inl (ka_open_things, 181, .inl f_open_things))] H := hP
      have hD : va_D A [(a_t, .inr (2, [.ref a_open, .ref a_laid, .int z_begun])), (a_laid, .inr (11, [.ref a_laid_kinds, .ref a_laid_values, .int (nI v_a_laid_2)])), (a_laid_kinds, .inl (ka_laid_kinds, 362, .inl v_a_laid_kinds)), (a_laid_values, .inl (ka_laid_values, 362, .inr (.inl v_a_laid_values))), (a_open, .inr (6, [.ref a_open_things, .int (nI (drp f_open_things v_a_open_1)), .int z_open_most])), (a_open_things, .inl (ka_open_things, 181, .inl f_open_things))] := hD
      refine lv_aload_n hx hb d_Blocks_mark_67 rfl (lv_at hl 1 rfl) ?_
      refine lv_bipush (v := 59) hx hb d_Blocks_mark_68 (by decide) ?_
      have hPc := hP.sub (ws' := [(a_t, .inr (2, [.ref a_open, .ref a_laid, .int z_begun])), (a_laid, .inr (11, [.ref a_laid_kinds, .ref a_laid_values, .int (nI v_a_laid_2)])), (a_laid_kinds, .inl (ka_laid_kinds, 362, .inl v_a_laid_kinds)), (a_laid_values, .inl (ka_laid_values, 362, .inr (.inl v_a_laid_values)))]) [0, 1, 2, 3] rfl
      have hDc := hD.sub (ws' := [(a_t, .inr (2, [.ref a_open, .ref a_laid, .int z_begun])), (a_laid, .inr (11, [.ref a_laid_kinds, .ref a_laid_values, .int (nI v_a_laid_2)])), (a_laid_kinds, .inl (ka_laid_kinds, 362, .inl v_a_laid_kinds)), (a_laid_values, .inl (ka_laid_values, 362, .inr (.inl v_a_laid_values)))]) [0, 1, 2, 3] (by decide) rfl
      have hKc := hK.sub (tys' := [(ka_laid_kinds, .int), (ka_laid_values, .long)]) [1, 2] rfl
      have hFc := va_free (wc := [(a_t, .inr (2, [.ref a_open, .ref a_laid, .int z_begun])), (a_laid, .inr (11, [.ref a_laid_kinds, .ref a_laid_values, .int (nI v_a_laid_2)])), (a_laid_kinds, .inl (ka_laid_kinds, 362, .inl v_a_laid_kinds)), (a_laid_values, .inl (ka_laid_values, 362, .inr (.inl v_a_laid_values)))]) hD hS hA [0, 1, 2, 3] rfl
      refine va_callv (va_runV (As := [.int 59]) (rest := []) ⟨hx, hb, hml, hown, hz⟩ (s_Blocks_putIn6 l dC dI H.size a_t a_open a_laid a_laid_kinds v_a_laid_kinds a_laid_values v_a_laid_values v_a_laid_2 z_begun 59 ka_laid_kinds ka_laid_values (by first | omega | assumption | exact Or.inl rfl | exact Or.inr rfl | decide) (by first | omega | assumption | exact Or.inl rfl | exact Or.inr rfl | decide)) (cwV 1 hz (zV zm_264 zm_265 zm_266 zm_205 zm_267) rfl rfl rfl (by decide +kernel) ⟨Nat.le_of_ble_eq_true rfl, Nat.le_of_ble_eq_true rfl⟩) ⟨fun a U g mk q => by obtain ⟨q0, q1, qP, qK, qD⟩ := q; exact ⟨q0, q1, qP, va_K.moved (u := U) (U := U.calling g mk a) (Vm.Alike.refl U.vm) qK, qD⟩, va_recv (q := (R_Blocks, F_Blocks, 3)) (q0 := 0) (ci := 2) hK hP rfl rfl, fun U hU hW => ⟨rfl, by rw [hU], by rw [hU]; exact hPc, va_K.moved hW.alike hKc, hDc.weaken (fun _ _ _ _ => trivial)⟩⟩ rfl rfl hl.1 rfl (lv_room (Nat.le_of_ble_eq_true rfl)) d_Blocks_mark_70 ⟨Nat.zero_le _, Nat.zero_le _⟩) hS (fun q _ h => hFc q h) hFc (fun u t H1 locs ht hvm hw hB hz1 hk1 hS => ?_)
      obtain ⟨g4, g5, g6, hb_g4, hq0_70, hq1_70, hq2_70, hP1, hK1, hD1⟩ := hB
      subst g4
      subst g5
      subst g6
      rw [ht] at hP1
      obtain ⟨hP, hD⟩ := va_join (wr := [(a_open, .inr (6, [.ref a_open_things, .int (nI (drp f_open_things v_a_open_1)), .int z_open_most])), (a_open_things, .inl (ka_open_things, 181, .inl f_open_things))]) (w1 := [(a_t, .inr (2, [.ref a_open, .ref a_laid, .int z_begun])), (a_laid, .inr (11, [.ref a_laid_kinds, .ref a_laid_values, .int (nI (v_a_laid_2 + 1))])), (a_laid_kinds, .inl (ka_laid_kinds, 362, .inl (upd v_a_laid_kinds v_a_laid_2 4))), (a_laid_values, .inl (ka_laid_values, 362, .inr (.inl (vp_updL v_a_laid_values v_a_laid_2 (i6 59)))))]) hP hD [0, 1, 2, 3] [4, 5] rfl rfl (by decide) (by decide) hk1 hFc hP1 hD1
      generalize H1 = H at hP hS ⊢
      have hP : va_P (dC, dI) vcl [(a_open, .inr (6, [.ref a_open_things, .int (nI (drp f_open_things v_a_open_1)), .int z_open_most])), (a_open_things, .inl (ka_open_things, 181, .inl f_open_things)), (a_t, .inr (2, [.ref a_open, .ref a_laid, .int z_begun])), (a_laid, .inr (11, [.ref a_laid_kinds, .ref a_laid_values, .int (nI (v_a_laid_2 + 1))])), (a_laid_kinds, .inl (ka_laid_kinds, 362, .inl (upd v_a_laid_kinds v_a_laid_2 4))), (a_laid_values, .inl (ka_laid_values, 362, .inr (.inl (vp_updL v_a_laid_values v_a_laid_2 (i6 59)))))] H := hP
      have hD : va_D A [(a_open, .inr (6, [.ref a_open_things, .int (nI (drp f_open_things v_a_open_1)), .int z_open_most])), (a_open_things, .inl (ka_open_things, 181, .inl f_open_things)), (a_t, .inr (2, [.ref a_open, .ref a_laid, .int z_begun])), (a_laid, .inr (11, [.ref a_laid_kinds, .ref a_laid_values, .int (nI (v_a_laid_2 + 1))])), (a_laid_kinds, .inl (ka_laid_kinds, 362, .inl (upd v_a_laid_kinds v_a_laid_2 4))), (a_laid_values, .inl (ka_laid_values, 362, .inr (.inl (vp_updL v_a_laid_values v_a_laid_2 (i6 59)))))] := hD
      have hP9 := hP.sub (ws' := [(a_t, .inr (2, [.ref a_open, .ref a_laid, .int z_begun])), (a_open, .inr (6, [.ref a_open_things, .int (nI (drp f_open_things v_a_open_1)), .int z_open_most])), (a_open_things, .inl (ka_open_things, 181, .inl f_open_things)), (a_laid, .inr (11, [.ref a_laid_kinds, .ref a_laid_values, .int (nI (v_a_laid_2 + 1))])), (a_laid_kinds, .inl (ka_laid_kinds, 362, .inl (upd v_a_laid_kinds v_a_laid_2 4))), (a_laid_values, .inl (ka_laid_values, 362, .inr (.inl (vp_updL v_a_laid_values v_a_laid_2 (i6 59)))))]) [2, 0, 1, 3, 4, 5] rfl
      have hD9 := hD.sub (ws' := [(a_t, .inr (2, [.ref a_open, .ref a_laid, .int z_begun])), (a_open, .inr (6, [.ref a_open_things, .int (nI (drp f_open_things v_a_open_1)), .int z_open_most])), (a_open_things, .inl (ka_open_things, 181, .inl f_open_things)), (a_laid, .inr (11, [.ref a_laid_kinds, .ref a_laid_values, .int (nI (v_a_laid_2 + 1))])), (a_laid_kinds, .inl (ka_laid_kinds, 362, .inl (upd v_a_laid_kinds v_a_laid_2 4))), (a_laid_values, .inl (ka_laid_values, 362, .inr (.inl (vp_updL v_a_laid_values v_a_laid_2 (i6 59)))))]) [2, 0, 1, 3, 4, 5] (by decide) rfl
      exact W.vret hx hb hr (fun t ht hW => ⟨⟨(), rfl, trivial, ((drp f_open_things v_a_open_1)), ((v_a_laid_2 + 1)), ((upd v_a_laid_kinds v_a_laid_2 4)), ((vp_updL v_a_laid_values v_a_laid_2 (i6 59))), by first | omega | assumption | exact Or.inl rfl | exact Or.inr rfl | decide, by first | omega | assumption | exact Or.inl rfl | exact Or.inr rfl | decide, by exact (congrArg (Prod.mk _) (tk_i (z := 59) (by decide))).trans ((mC_b hp0 e57).trans iE), by rw [ht]; exact hP9, va_K.moved hW.alike hK, hD9⟩, hS.F ht⟩) hS.2.2 d_Blocks_mark_73
  · have h1 : ¬ k2 ≤ 0 := fun q => h1 ((nI_leI (a := k2) (b := 0) (by omega) (by omega)).mpr q)
    refine lv_aload_n hx hb d_Blocks_mark_12 rfl (lv_at hl 1 rfl) ?_
    refine va_get (D := (dC, dI)) (ci := 2) (v := .ref a_open) (C := R_Blocks) (T := F_Blocks) (N := 3) hx hb hz zu_Blocks hown hK hP 0 rfl rfl 0 (by decide) (hz (.fieldLink R_Blocks 12 "LayoutFront$Blocks" "open" "LLayoutFront$Open;") zm_183) (fun _ h9 => h9) rfl d_Blocks_mark_13 ?_
    have hPc := hP.sub (ws' := [(a_open, .inr (6, [.ref a_open_things, .int (nI v_a_open_1), .int z_open_most])), (a_open_things, .inl (ka_open_things, 181, .inl f_open_things))]) [5, 1] rfl
    have hDc := hD.sub (ws' := [(a_open, .inr (6, [.ref a_open_things, .int (nI v_a_open_1), .int z_open_most])), (a_open_things, .inl (ka_open_things, 181, .inl f_open_things))]) [5, 1] (by decide) rfl
    have hKc := hK.sub (tys' := [(ka_open_things, .int)]) [0] rfl
    have hFc := va_free (wc := [(a_open, .inr (6, [.ref a_open_things, .int (nI v_a_open_1), .int z_open_most])), (a_open_things, .inl (ka_open_things, 181, .inl f_open_things))]) hD hS hA [5, 1] rfl
    refine va_calli (va_runV (As := []) (rest := []) ⟨hx, hb, hml, hown, hz⟩ (s_Open_belowLets6 l dC dI H.size a_open a_open_things f_open_things v_a_open_1 z_open_most ka_open_things (by first | omega | assumption | exact Or.inl rfl | exact Or.inr rfl | decide)) (cwV 0 hz (zV zm_276 zm_277 zm_278 zm_177 zm_279) rfl rfl rfl (by decide +kernel) ⟨Nat.le_of_ble_eq_true rfl, Nat.le_of_ble_eq_true rfl⟩) ⟨fun a U g mk q => by obtain ⟨q0, q1, qP, qK, qD⟩ := q; exact ⟨q0, q1, qP, va_K.moved (u := U) (U := U.calling g mk a) (Vm.Alike.refl U.vm) qK, qD⟩, va_recv (q := (R_Open, F_Open, 3)) (q0 := 5) (ci := 6) hK hP rfl rfl, fun U hU hW => ⟨rfl, by rw [hU], by rw [hU]; exact hPc, va_K.moved hW.alike hKc, hDc.weaken (fun _ _ _ _ => trivial)⟩⟩ rfl rfl hl.1 rfl (lv_room (Nat.le_of_ble_eq_true rfl)) d_Blocks_mark_16 ⟨Nat.zero_le _, Nat.zero_le _⟩) hS (fun q _ h => hFc q h) hFc (fun r u t H1 locs ht hvm hw hB hz1 hk1 hS => ?_)
    obtain ⟨hP1, hK1, hD1⟩ := hB
    subst r
    rw [ht] at hP1
    obtain ⟨hP, hD⟩ := va_join (wr := [(a_t, .inr (2, [.ref a_open, .ref a_laid, .int z_begun])), (a_laid, .inr (11, [.ref a_laid_kinds, .ref a_laid_values, .int (nI v_a_laid_2)])), (a_laid_kinds, .inl (ka_laid_kinds, 362, .inl v_a_laid_kinds)), (a_laid_values, .inl (ka_laid_values, 362, .inr (.inl v_a_laid_values)))]) (w1 := [(a_open, .inr (6, [.ref a_open_things, .int (nI v_a_open_1), .int z_open_most])), (a_open_things, .inl (ka_open_things, 181, .inl f_open_things))]) hP hD [5, 1] [0, 2, 3, 4] rfl rfl (by decide) (by decide) hk1 hFc hP1 hD1
    generalize H1 = H at hP hS ⊢
    have hP : va_P (dC, dI) vcl [(a_t, .inr (2, [.ref a_open, .ref a_laid, .int z_begun])), (a_laid, .inr (11, [.ref a_laid_kinds, .ref a_laid_values, .int (nI v_a_laid_2)])), (a_laid_kinds, .inl (ka_laid_kinds, 362, .inl v_a_laid_kinds)), (a_laid_values, .inl (ka_laid_values, 362, .inr (.inl v_a_laid_values))), (a_open, .inr (6, [.ref a_open_things, .int (nI v_a_open_1), .int z_open_most])), (a_open_things, .inl (ka_open_things, 181, .inl f_open_things))] H := hP
    have hD : va_D A [(a_t, .inr (2, [.ref a_open, .ref a_laid, .int z_begun])), (a_laid, .inr (11, [.ref a_laid_kinds, .ref a_laid_values, .int (nI v_a_laid_2)])), (a_laid_kinds, .inl (ka_laid_kinds, 362, .inl v_a_laid_kinds)), (a_laid_values, .inl (ka_laid_values, 362, .inr (.inl v_a_laid_values))), (a_open, .inr (6, [.ref a_open_things, .int (nI v_a_open_1), .int z_open_most])), (a_open_things, .inl (ka_open_things, 181, .inl f_open_things))] := hD
    refine lv_iload_n hx hb d_Blocks_mark_19 rfl (lv_at hl 2 rfl) ?_
    refine lv_icmp_le (tgt := 49) hx hb d_Blocks_mark_20 (by decide) (fun h7 => ?_) (fun h7 => ?_)
    · have e20 := h7
      have dd := drp_le (row := f_open_things) v_a_open_1
      have p9 := pt_t (row := f_open_things) (o := v_a_open_1) (hi := z_open_most) (kk := v_a_laid_kinds) (vv := v_a_laid_values) (t := v_a_laid_2)
      refine lv_aload_n hx hb d_Blocks_mark_49 rfl (lv_at hl 1 rfl) ?_
      refine va_get (D := (dC, dI)) (ci := 2) (v := .ref a_open) (C := R_Blocks) (T := F_Blocks) (N := 3) hx hb hz zu_Blocks hown hK hP 0 rfl rfl 0 (by decide) (hz (.fieldLink R_Blocks 12 "LayoutFront$Blocks" "open" "LLayoutFront$Open;") zm_183) (fun _ h9 => h9) rfl d_Blocks_mark_50 ?_
      have hPc := hP.sub (ws' := [(a_open, .inr (6, [.ref a_open_things, .int (nI v_a_open_1), .int z_open_most])), (a_open_things, .inl (ka_open_things, 181, .inl f_open_things))]) [4, 5] rfl
      have hDc := hD.sub (ws' := [(a_open, .inr (6, [.ref a_open_things, .int (nI v_a_open_1), .int z_open_most])), (a_open_things, .inl (ka_open_things, 181, .inl f_open_things))]) [4, 5] (by decide) rfl
      have hKc := hK.sub (tys' := [(ka_open_things, .int)]) [0] rfl
      have hFc := va_free (wc := [(a_open, .inr (6, [.ref a_open_things, .int (nI v_a_open_1), .int z_open_most])), (a_open_things, .inl (ka_open_things, 181, .inl f_open_things))]) hD hS hA [4, 5] rfl
      refine va_calli (va_runV (As := []) (rest := []) ⟨hx, hb, hml, hown, hz⟩ (s_Open_belowLets6 l dC dI H.size a_open a_open_things f_open_things v_a_open_1 z_open_most ka_open_things (by first | omega | assumption | exact Or.inl rfl | exact Or.inr rfl | decide)) (cwV 0 hz (zV zm_276 zm_277 zm_278 zm_177 zm_279) rfl rfl rfl (by decide +kernel) ⟨Nat.le_of_ble_eq_true rfl, Nat.le_of_ble_eq_true rfl⟩) ⟨fun a U g mk q => by obtain ⟨q0, q1, qP, qK, qD⟩ := q; exact ⟨q0, q1, qP, va_K.moved (u := U) (U := U.calling g mk a) (Vm.Alike.refl U.vm) qK, qD⟩, va_recv (q := (R_Open, F_Open, 3)) (q0 := 4) (ci := 6) hK hP rfl rfl, fun U hU hW => ⟨rfl, by rw [hU], by rw [hU]; exact hPc, va_K.moved hW.alike hKc, hDc.weaken (fun _ _ _ _ => trivial)⟩⟩ rfl rfl hl.1 rfl (lv_room (Nat.le_of_ble_eq_true rfl)) d_Blocks_mark_53 ⟨Nat.zero_le _, Nat.zero_le _⟩) hS (fun q _ h => hFc q h) hFc (fun r u t H1 locs ht hvm hw hB hz1 hk1 hS => ?_)
      obtain ⟨hP1, hK1, hD1⟩ := hB
      subst r
      rw [ht] at hP1
      obtain ⟨hP, hD⟩ := va_join (wr := [(a_t, .inr (2, [.ref a_open, .ref a_laid, .int z_begun])), (a_laid, .inr (11, [.ref a_laid_kinds, .ref a_laid_values, .int (nI v_a_laid_2)])), (a_laid_kinds, .inl (ka_laid_kinds, 362, .inl v_a_laid_kinds)), (a_laid_values, .inl (ka_laid_values, 362, .inr (.inl v_a_laid_values)))]) (w1 := [(a_open, .inr (6, [.ref a_open_things, .int (nI v_a_open_1), .int z_open_most])), (a_open_things, .inl (ka_open_things, 181, .inl f_open_things))]) hP hD [4, 5] [0, 1, 2, 3] rfl rfl (by decide) (by decide) hk1 hFc hP1 hD1
      generalize H1 = H at hP hS ⊢
      have hP : va_P (dC, dI) vcl [(a_t, .inr (2, [.ref a_open, .ref a_laid, .int z_begun])), (a_laid, .inr (11, [.ref a_laid_kinds, .ref a_laid_values, .int (nI v_a_laid_2)])), (a_laid_kinds, .inl (ka_laid_kinds, 362, .inl v_a_laid_kinds)), (a_laid_values, .inl (ka_laid_values, 362, .inr (.inl v_a_laid_values))), (a_open, .inr (6, [.ref a_open_things, .int (nI v_a_open_1), .int z_open_most])), (a_open_things, .inl (ka_open_things, 181, .inl f_open_things))] H := hP
      have hD : va_D A [(a_t, .inr (2, [.ref a_open, .ref a_laid, .int z_begun])), (a_laid, .inr (11, [.ref a_laid_kinds, .ref a_laid_values, .int (nI v_a_laid_2)])), (a_laid_kinds, .inl (ka_laid_kinds, 362, .inl v_a_laid_kinds)), (a_laid_values, .inl (ka_laid_values, 362, .inr (.inl v_a_laid_values))), (a_open, .inr (6, [.ref a_open_things, .int (nI v_a_open_1), .int z_open_most])), (a_open_things, .inl (ka_open_things, 181, .inl f_open_things))] := hD
      refine lv_iload_n hx hb d_Blocks_mark_56 rfl (lv_at hl 2 rfl) ?_
      refine lv_icmp_ne (tgt := 73) hx hb d_Blocks_mark_57 (by decide) (fun h8 => ?_) (fun h8 => ?_)
      · have e57 := h8
        have hP9 := hP.sub (ws' := [(a_t, .inr (2, [.ref a_open, .ref a_laid, .int z_begun])), (a_open, .inr (6, [.ref a_open_things, .int (nI v_a_open_1), .int z_open_most])), (a_open_things, .inl (ka_open_things, 181, .inl f_open_things)), (a_laid, .inr (11, [.ref a_laid_kinds, .ref a_laid_values, .int (nI v_a_laid_2)])), (a_laid_kinds, .inl (ka_laid_kinds, 362, .inl v_a_laid_kinds)), (a_laid_values, .inl (ka_laid_values, 362, .inr (.inl v_a_laid_values)))]) [0, 4, 5, 1, 2, 3] rfl
        have hD9 := hD.sub (ws' := [(a_t, .inr (2, [.ref a_open, .ref a_laid, .int z_begun])), (a_open, .inr (6, [.ref a_open_things, .int (nI v_a_open_1), .int z_open_most])), (a_open_things, .inl (ka_open_things, 181, .inl f_open_things)), (a_laid, .inr (11, [.ref a_laid_kinds, .ref a_laid_values, .int (nI v_a_laid_2)])), (a_laid_kinds, .inl (ka_laid_kinds, 362, .inl v_a_laid_kinds)), (a_laid_values, .inl (ka_laid_values, 362, .inr (.inl v_a_laid_values)))]) [0, 4, 5, 1, 2, 3] (by decide) rfl
        exact W.vret hx hb hr (fun t ht hW => ⟨⟨(), rfl, trivial, v_a_open_1, v_a_laid_2, v_a_laid_kinds, v_a_laid_values, by first | omega | assumption | exact Or.inl rfl | exact Or.inr rfl | decide, by first | omega | assumption | exact Or.inl rfl | exact Or.inr rfl | decide, by exact (mC_c e20 e57).trans iE, by rw [ht]; exact hP9, va_K.moved hW.alike hK, hD9⟩, hS.F ht⟩) hS.2.2 d_Blocks_mark_73
      · have e57 := h8
        refine lv_aload_n hx hb d_Blocks_mark_60 rfl (lv_at hl 1 rfl) ?_
        refine va_get (D := (dC, dI)) (ci := 2) (v := .ref a_open) (C := R_Blocks) (T := F_Blocks) (N := 3) hx hb hz zu_Blocks hown hK hP 0 rfl rfl 0 (by decide) (hz (.fieldLink R_Blocks 12 "LayoutFront$Blocks" "open" "LLayoutFront$Open;") zm_183) (fun _ h9 => h9) rfl d_Blocks_mark_61 ?_
        have hPc := hP.sub (ws' := [(a_open, .inr (6, [.ref a_open_things, .int (nI v_a_open_1), .int z_open_most])), (a_open_things, .inl (ka_open_things, 181, .inl f_open_things))]) [4, 5] rfl
        have hDc := hD.sub (ws' := [(a_open, .inr (6, [.ref a_open_things, .int (nI v_a_open_1), .int z_open_most])), (a_open_things, .inl (ka_open_things, 181, .inl f_open_things))]) [4, 5] (by decide) rfl
        have hKc := hK.sub (tys' := [(ka_open_things, .int)]) [0] rfl
        have hFc := va_free (wc := [(a_open, .inr (6, [.ref a_open_things, .int (nI v_a_open_1), .int z_open_most])), (a_open_things, .inl (ka_open_things, 181, .inl f_open_things))]) hD hS hA [4, 5] rfl
        refine va_callv (va_runV (As := []) (rest := []) ⟨hx, hb, hml, hown, hz⟩ (s_Open_dropLets6 l dC dI H.size a_open a_open_things f_open_things v_a_open_1 z_open_most ka_open_things (by first | omega | assumption | exact Or.inl rfl | exact Or.inr rfl | decide)) (cwV 0 hz (zV zm_280 zm_281 zm_282 zm_177 zm_283) rfl rfl rfl (by decide +kernel) ⟨Nat.le_of_ble_eq_true rfl, Nat.le_of_ble_eq_true rfl⟩) ⟨fun a U g mk q => by obtain ⟨q0, q1, qP, qK, qD⟩ := q; exact ⟨q0, q1, qP, va_K.moved (u := U) (U := U.calling g mk a) (Vm.Alike.refl U.vm) qK, qD⟩, va_recv (q := (R_Open, F_Open, 3)) (q0 := 4) (ci := 6) hK hP rfl rfl, fun U hU hW => ⟨rfl, by rw [hU], by rw [hU]; exact hPc, va_K.moved hW.alike hKc, hDc.weaken (fun _ _ _ _ => trivial)⟩⟩ rfl rfl hl.1 rfl (lv_room (Nat.le_of_ble_eq_true rfl)) d_Blocks_mark_64 ⟨Nat.zero_le _, Nat.zero_le _⟩) hS (fun q _ h => hFc q h) hFc (fun u t H1 locs ht hvm hw hB hz1 hk1 hS => ?_)
        obtain ⟨g9, hb_g9, hq0_64, hP1, hK1, hD1⟩ := hB
        subst g9
        rw [ht] at hP1
        obtain ⟨hP, hD⟩ := va_join (wr := [(a_t, .inr (2, [.ref a_open, .ref a_laid, .int z_begun])), (a_laid, .inr (11, [.ref a_laid_kinds, .ref a_laid_values, .int (nI v_a_laid_2)])), (a_laid_kinds, .inl (ka_laid_kinds, 362, .inl v_a_laid_kinds)), (a_laid_values, .inl (ka_laid_values, 362, .inr (.inl v_a_laid_values)))]) (w1 := [(a_open, .inr (6, [.ref a_open_things, .int (nI (drp f_open_things v_a_open_1)), .int z_open_most])), (a_open_things, .inl (ka_open_things, 181, .inl f_open_things))]) hP hD [4, 5] [0, 1, 2, 3] rfl rfl (by decide) (by decide) hk1 hFc hP1 hD1
        generalize H1 = H at hP hS ⊢
        have hP : va_P (dC, dI) vcl [(a_t, .inr (2, [.ref a_open, .ref a_laid, .int z_begun])), (a_laid, .inr (11, [.ref a_laid_kinds, .ref a_laid_values, .int (nI v_a_laid_2)])), (a_laid_kinds, .inl (ka_laid_kinds, 362, .inl v_a_laid_kinds)), (a_laid_values, .inl (ka_laid_values, 362, .inr (.inl v_a_laid_values))), (a_open, .inr (6, [.ref a_open_things, .int (nI (drp f_open_things v_a_open_1)), .int z_open_most])), (a_open_things, .inl (ka_open_things, 181, .inl f_open_things))] H := hP
        have hD : va_D A [(a_t, .inr (2, [.ref a_open, .ref a_laid, .int z_begun])), (a_laid, .inr (11, [.ref a_laid_kinds, .ref a_laid_values, .int (nI v_a_laid_2)])), (a_laid_kinds, .inl (ka_laid_kinds, 362, .inl v_a_laid_kinds)), (a_laid_values, .inl (ka_laid_values, 362, .inr (.inl v_a_laid_values))), (a_open, .inr (6, [.ref a_open_things, .int (nI (drp f_open_things v_a_open_1)), .int z_open_most])), (a_open_things, .inl (ka_open_things, 181, .inl f_open_things))] := hD
        refine lv_aload_n hx hb d_Blocks_mark_67 rfl (lv_at hl 1 rfl) ?_
        refine lv_bipush (v := 59) hx hb d_Blocks_mark_68 (by decide) ?_
        have hPc := hP.sub (ws' := [(a_t, .inr (2, [.ref a_open, .ref a_laid, .int z_begun])), (a_laid, .inr (11, [.ref a_laid_kinds, .ref a_laid_values, .int (nI v_a_laid_2)])), (a_laid_kinds, .inl (ka_laid_kinds, 362, .inl v_a_laid_kinds)), (a_laid_values, .inl (ka_laid_values, 362, .inr (.inl v_a_laid_values)))]) [0, 1, 2, 3] rfl
        have hDc := hD.sub (ws' := [(a_t, .inr (2, [.ref a_open, .ref a_laid, .int z_begun])), (a_laid, .inr (11, [.ref a_laid_kinds, .ref a_laid_values, .int (nI v_a_laid_2)])), (a_laid_kinds, .inl (ka_laid_kinds, 362, .inl v_a_laid_kinds)), (a_laid_values, .inl (ka_laid_values, 362, .inr (.inl v_a_laid_values)))]) [0, 1, 2, 3] (by decide) rfl
        have hKc := hK.sub (tys' := [(ka_laid_kinds, .int), (ka_laid_values, .long)]) [1, 2] rfl
        have hFc := va_free (wc := [(a_t, .inr (2, [.ref a_open, .ref a_laid, .int z_begun])), (a_laid, .inr (11, [.ref a_laid_kinds, .ref a_laid_values, .int (nI v_a_laid_2)])), (a_laid_kinds, .inl (ka_laid_kinds, 362, .inl v_a_laid_kinds)), (a_laid_values, .inl (ka_laid_values, 362, .inr (.inl v_a_laid_values)))]) hD hS hA [0, 1, 2, 3] rfl
        refine va_callv (va_runV (As := [.int 59]) (rest := []) ⟨hx, hb, hml, hown, hz⟩ (s_Blocks_putIn6 l dC dI H.size a_t a_open a_laid a_laid_kinds v_a_laid_kinds a_laid_values v_a_laid_values v_a_laid_2 z_begun 59 ka_laid_kinds ka_laid_values (by first | omega | assumption | exact Or.inl rfl | exact Or.inr rfl | decide) (by first | omega | assumption | exact Or.inl rfl | exact Or.inr rfl | decide)) (cwV 1 hz (zV zm_264 zm_265 zm_266 zm_205 zm_267) rfl rfl rfl (by decide +kernel) ⟨Nat.le_of_ble_eq_true rfl, Nat.le_of_ble_eq_true rfl⟩) ⟨fun a U g mk q => by obtain ⟨q0, q1, qP, qK, qD⟩ := q; exact ⟨q0, q1, qP, va_K.moved (u := U) (U := U.calling g mk a) (Vm.Alike.refl U.vm) qK, qD⟩, va_recv (q := (R_Blocks, F_Blocks, 3)) (q0 := 0) (ci := 2) hK hP rfl rfl, fun U hU hW => ⟨rfl, by rw [hU], by rw [hU]; exact hPc, va_K.moved hW.alike hKc, hDc.weaken (fun _ _ _ _ => trivial)⟩⟩ rfl rfl hl.1 rfl (lv_room (Nat.le_of_ble_eq_true rfl)) d_Blocks_mark_70 ⟨Nat.zero_le _, Nat.zero_le _⟩) hS (fun q _ h => hFc q h) hFc (fun u t H1 locs ht hvm hw hB hz1 hk1 hS => ?_)
        obtain ⟨g10, g11, g12, hb_g10, hq0_70, hq1_70, hq2_70, hP1, hK1, hD1⟩ := hB
        subst g10
        subst g11
        subst g12
        rw [ht] at hP1
        obtain ⟨hP, hD⟩ := va_join (wr := [(a_open, .inr (6, [.ref a_open_things, .int (nI (drp f_open_things v_a_open_1)), .int z_open_most])), (a_open_things, .inl (ka_open_things, 181, .inl f_open_things))]) (w1 := [(a_t, .inr (2, [.ref a_open, .ref a_laid, .int z_begun])), (a_laid, .inr (11, [.ref a_laid_kinds, .ref a_laid_values, .int (nI (v_a_laid_2 + 1))])), (a_laid_kinds, .inl (ka_laid_kinds, 362, .inl (upd v_a_laid_kinds v_a_laid_2 4))), (a_laid_values, .inl (ka_laid_values, 362, .inr (.inl (vp_updL v_a_laid_values v_a_laid_2 (i6 59)))))]) hP hD [0, 1, 2, 3] [4, 5] rfl rfl (by decide) (by decide) hk1 hFc hP1 hD1
        generalize H1 = H at hP hS ⊢
        have hP : va_P (dC, dI) vcl [(a_open, .inr (6, [.ref a_open_things, .int (nI (drp f_open_things v_a_open_1)), .int z_open_most])), (a_open_things, .inl (ka_open_things, 181, .inl f_open_things)), (a_t, .inr (2, [.ref a_open, .ref a_laid, .int z_begun])), (a_laid, .inr (11, [.ref a_laid_kinds, .ref a_laid_values, .int (nI (v_a_laid_2 + 1))])), (a_laid_kinds, .inl (ka_laid_kinds, 362, .inl (upd v_a_laid_kinds v_a_laid_2 4))), (a_laid_values, .inl (ka_laid_values, 362, .inr (.inl (vp_updL v_a_laid_values v_a_laid_2 (i6 59)))))] H := hP
        have hD : va_D A [(a_open, .inr (6, [.ref a_open_things, .int (nI (drp f_open_things v_a_open_1)), .int z_open_most])), (a_open_things, .inl (ka_open_things, 181, .inl f_open_things)), (a_t, .inr (2, [.ref a_open, .ref a_laid, .int z_begun])), (a_laid, .inr (11, [.ref a_laid_kinds, .ref a_laid_values, .int (nI (v_a_laid_2 + 1))])), (a_laid_kinds, .inl (ka_laid_kinds, 362, .inl (upd v_a_laid_kinds v_a_laid_2 4))), (a_laid_values, .inl (ka_laid_values, 362, .inr (.inl (vp_updL v_a_laid_values v_a_laid_2 (i6 59)))))] := hD
        have hP9 := hP.sub (ws' := [(a_t, .inr (2, [.ref a_open, .ref a_laid, .int z_begun])), (a_open, .inr (6, [.ref a_open_things, .int (nI (drp f_open_things v_a_open_1)), .int z_open_most])), (a_open_things, .inl (ka_open_things, 181, .inl f_open_things)), (a_laid, .inr (11, [.ref a_laid_kinds, .ref a_laid_values, .int (nI (v_a_laid_2 + 1))])), (a_laid_kinds, .inl (ka_laid_kinds, 362, .inl (upd v_a_laid_kinds v_a_laid_2 4))), (a_laid_values, .inl (ka_laid_values, 362, .inr (.inl (vp_updL v_a_laid_values v_a_laid_2 (i6 59)))))]) [2, 0, 1, 3, 4, 5] rfl
        have hD9 := hD.sub (ws' := [(a_t, .inr (2, [.ref a_open, .ref a_laid, .int z_begun])), (a_open, .inr (6, [.ref a_open_things, .int (nI (drp f_open_things v_a_open_1)), .int z_open_most])), (a_open_things, .inl (ka_open_things, 181, .inl f_open_things)), (a_laid, .inr (11, [.ref a_laid_kinds, .ref a_laid_values, .int (nI (v_a_laid_2 + 1))])), (a_laid_kinds, .inl (ka_laid_kinds, 362, .inl (upd v_a_laid_kinds v_a_laid_2 4))), (a_laid_values, .inl (ka_laid_values, 362, .inr (.inl (vp_updL v_a_laid_values v_a_laid_2 (i6 59)))))]) [2, 0, 1, 3, 4, 5] (by decide) rfl
        exact W.vret hx hb hr (fun t ht hW => ⟨⟨(), rfl, trivial, ((drp f_open_things v_a_open_1)), ((v_a_laid_2 + 1)), ((upd v_a_laid_kinds v_a_laid_2 4)), ((vp_updL v_a_laid_values v_a_laid_2 (i6 59))), by first | omega | assumption | exact Or.inl rfl | exact Or.inr rfl | decide, by first | omega | assumption | exact Or.inl rfl | exact Or.inr rfl | decide, by exact (congrArg (Prod.mk _) (tk_i (z := 59) (by decide))).trans ((mC_b hp0 e57).trans iE), by rw [ht]; exact hP9, va_K.moved hW.alike hK, hD9⟩, hS.F ht⟩) hS.2.2 d_Blocks_mark_73
    · have e20 := h7
      have dd := drp_le (row := f_open_things) v_a_open_1
      have mm := mC_1 hp0 h7
      have pp := pC_d (kk := v_a_laid_kinds) (vv := v_a_laid_values) (t := v_a_laid_2) (hi := z_open_most) hp0 h7
      refine lv_aload_n hx hb d_Blocks_mark_23 rfl (lv_at hl 1 rfl) ?_
      refine va_get (D := (dC, dI)) (ci := 2) (v := .ref a_open) (C := R_Blocks) (T := F_Blocks) (N := 3) hx hb hz zu_Blocks hown hK hP 0 rfl rfl 0 (by decide) (hz (.fieldLink R_Blocks 12 "LayoutFront$Blocks" "open" "LLayoutFront$Open;") zm_183) (fun _ h9 => h9) rfl d_Blocks_mark_24 ?_
      have hPc := hP.sub (ws' := [(a_open, .inr (6, [.ref a_open_things, .int (nI v_a_open_1), .int z_open_most])), (a_open_things, .inl (ka_open_things, 181, .inl f_open_things))]) [4, 5] rfl
      have hDc := hD.sub (ws' := [(a_open, .inr (6, [.ref a_open_things, .int (nI v_a_open_1), .int z_open_most])), (a_open_things, .inl (ka_open_things, 181, .inl f_open_things))]) [4, 5] (by decide) rfl
      have hKc := hK.sub (tys' := [(ka_open_things, .int)]) [0] rfl
      have hFc := va_free (wc := [(a_open, .inr (6, [.ref a_open_things, .int (nI v_a_open_1), .int z_open_most])), (a_open_things, .inl (ka_open_things, 181, .inl f_open_things))]) hD hS hA [4, 5] rfl
      refine va_callv (va_runV (As := []) (rest := []) ⟨hx, hb, hml, hown, hz⟩ (s_Open_dropLets6 l dC dI H.size a_open a_open_things f_open_things v_a_open_1 z_open_most ka_open_things (by first | omega | assumption | exact Or.inl rfl | exact Or.inr rfl | decide)) (cwV 0 hz (zV zm_280 zm_281 zm_282 zm_177 zm_283) rfl rfl rfl (by decide +kernel) ⟨Nat.le_of_ble_eq_true rfl, Nat.le_of_ble_eq_true rfl⟩) ⟨fun a U g mk q => by obtain ⟨q0, q1, qP, qK, qD⟩ := q; exact ⟨q0, q1, qP, va_K.moved (u := U) (U := U.calling g mk a) (Vm.Alike.refl U.vm) qK, qD⟩, va_recv (q := (R_Open, F_Open, 3)) (q0 := 4) (ci := 6) hK hP rfl rfl, fun U hU hW => ⟨rfl, by rw [hU], by rw [hU]; exact hPc, va_K.moved hW.alike hKc, hDc.weaken (fun _ _ _ _ => trivial)⟩⟩ rfl rfl hl.1 rfl (lv_room (Nat.le_of_ble_eq_true rfl)) d_Blocks_mark_27 ⟨Nat.zero_le _, Nat.zero_le _⟩) hS (fun q _ h => hFc q h) hFc (fun u t H1 locs ht hvm hw hB hz1 hk1 hS => ?_)
      obtain ⟨g13, hb_g13, hq0_27, hP1, hK1, hD1⟩ := hB
      subst g13
      rw [ht] at hP1
      obtain ⟨hP, hD⟩ := va_join (wr := [(a_t, .inr (2, [.ref a_open, .ref a_laid, .int z_begun])), (a_laid, .inr (11, [.ref a_laid_kinds, .ref a_laid_values, .int (nI v_a_laid_2)])), (a_laid_kinds, .inl (ka_laid_kinds, 362, .inl v_a_laid_kinds)), (a_laid_values, .inl (ka_laid_values, 362, .inr (.inl v_a_laid_values)))]) (w1 := [(a_open, .inr (6, [.ref a_open_things, .int (nI (drp f_open_things v_a_open_1)), .int z_open_most])), (a_open_things, .inl (ka_open_things, 181, .inl f_open_things))]) hP hD [4, 5] [0, 1, 2, 3] rfl rfl (by decide) (by decide) hk1 hFc hP1 hD1
      generalize H1 = H at hP hS ⊢
      have hP : va_P (dC, dI) vcl [(a_t, .inr (2, [.ref a_open, .ref a_laid, .int z_begun])), (a_laid, .inr (11, [.ref a_laid_kinds, .ref a_laid_values, .int (nI v_a_laid_2)])), (a_laid_kinds, .inl (ka_laid_kinds, 362, .inl v_a_laid_kinds)), (a_laid_values, .inl (ka_laid_values, 362, .inr (.inl v_a_laid_values))), (a_open, .inr (6, [.ref a_open_things, .int (nI (drp f_open_things v_a_open_1)), .int z_open_most])), (a_open_things, .inl (ka_open_things, 181, .inl f_open_things))] H := hP
      have hD : va_D A [(a_t, .inr (2, [.ref a_open, .ref a_laid, .int z_begun])), (a_laid, .inr (11, [.ref a_laid_kinds, .ref a_laid_values, .int (nI v_a_laid_2)])), (a_laid_kinds, .inl (ka_laid_kinds, 362, .inl v_a_laid_kinds)), (a_laid_values, .inl (ka_laid_values, 362, .inr (.inl v_a_laid_values))), (a_open, .inr (6, [.ref a_open_things, .int (nI (drp f_open_things v_a_open_1)), .int z_open_most])), (a_open_things, .inl (ka_open_things, 181, .inl f_open_things))] := hD
      refine lv_aload_n hx hb d_Blocks_mark_30 rfl (lv_at hl 1 rfl) ?_
      refine lv_bipush (v := 125) hx hb d_Blocks_mark_31 (by decide) ?_
      have hPc := hP.sub (ws' := [(a_t, .inr (2, [.ref a_open, .ref a_laid, .int z_begun])), (a_laid, .inr (11, [.ref a_laid_kinds, .ref a_laid_values, .int (nI v_a_laid_2)])), (a_laid_kinds, .inl (ka_laid_kinds, 362, .inl v_a_laid_kinds)), (a_laid_values, .inl (ka_laid_values, 362, .inr (.inl v_a_laid_values)))]) [0, 1, 2, 3] rfl
      have hDc := hD.sub (ws' := [(a_t, .inr (2, [.ref a_open, .ref a_laid, .int z_begun])), (a_laid, .inr (11, [.ref a_laid_kinds, .ref a_laid_values, .int (nI v_a_laid_2)])), (a_laid_kinds, .inl (ka_laid_kinds, 362, .inl v_a_laid_kinds)), (a_laid_values, .inl (ka_laid_values, 362, .inr (.inl v_a_laid_values)))]) [0, 1, 2, 3] (by decide) rfl
      have hKc := hK.sub (tys' := [(ka_laid_kinds, .int), (ka_laid_values, .long)]) [1, 2] rfl
      have hFc := va_free (wc := [(a_t, .inr (2, [.ref a_open, .ref a_laid, .int z_begun])), (a_laid, .inr (11, [.ref a_laid_kinds, .ref a_laid_values, .int (nI v_a_laid_2)])), (a_laid_kinds, .inl (ka_laid_kinds, 362, .inl v_a_laid_kinds)), (a_laid_values, .inl (ka_laid_values, 362, .inr (.inl v_a_laid_values)))]) hD hS hA [0, 1, 2, 3] rfl
      refine va_callv (va_runV (As := [.int 125]) (rest := []) ⟨hx, hb, hml, hown, hz⟩ (s_Blocks_putIn6 l dC dI H.size a_t a_open a_laid a_laid_kinds v_a_laid_kinds a_laid_values v_a_laid_values v_a_laid_2 z_begun 125 ka_laid_kinds ka_laid_values (by first | omega | assumption | exact Or.inl rfl | exact Or.inr rfl | decide) (by first | omega | assumption | exact Or.inl rfl | exact Or.inr rfl | decide)) (cwV 1 hz (zV zm_264 zm_265 zm_266 zm_205 zm_267) rfl rfl rfl (by decide +kernel) ⟨Nat.le_of_ble_eq_true rfl, Nat.le_of_ble_eq_true rfl⟩) ⟨fun a U g mk q => by obtain ⟨q0, q1, qP, qK, qD⟩ := q; exact ⟨q0, q1, qP, va_K.moved (u := U) (U := U.calling g mk a) (Vm.Alike.refl U.vm) qK, qD⟩, va_recv (q := (R_Blocks, F_Blocks, 3)) (q0 := 0) (ci := 2) hK hP rfl rfl, fun U hU hW => ⟨rfl, by rw [hU], by rw [hU]; exact hPc, va_K.moved hW.alike hKc, hDc.weaken (fun _ _ _ _ => trivial)⟩⟩ rfl rfl hl.1 rfl (lv_room (Nat.le_of_ble_eq_true rfl)) d_Blocks_mark_33 ⟨Nat.zero_le _, Nat.zero_le _⟩) hS (fun q _ h => hFc q h) hFc (fun u t H1 locs ht hvm hw hB hz1 hk1 hS => ?_)
      obtain ⟨g14, g15, g16, hb_g14, hq0_33, hq1_33, hq2_33, hP1, hK1, hD1⟩ := hB
      subst g14
      subst g15
      subst g16
      rw [ht] at hP1
      obtain ⟨hP, hD⟩ := va_join (wr := [(a_open, .inr (6, [.ref a_open_things, .int (nI (drp f_open_things v_a_open_1)), .int z_open_most])), (a_open_things, .inl (ka_open_things, 181, .inl f_open_things))]) (w1 := [(a_t, .inr (2, [.ref a_open, .ref a_laid, .int z_begun])), (a_laid, .inr (11, [.ref a_laid_kinds, .ref a_laid_values, .int (nI (v_a_laid_2 + 1))])), (a_laid_kinds, .inl (ka_laid_kinds, 362, .inl (upd v_a_laid_kinds v_a_laid_2 4))), (a_laid_values, .inl (ka_laid_values, 362, .inr (.inl (vp_updL v_a_laid_values v_a_laid_2 (i6 125)))))]) hP hD [0, 1, 2, 3] [4, 5] rfl rfl (by decide) (by decide) hk1 hFc hP1 hD1
      generalize H1 = H at hP hS ⊢
      have hP : va_P (dC, dI) vcl [(a_open, .inr (6, [.ref a_open_things, .int (nI (drp f_open_things v_a_open_1)), .int z_open_most])), (a_open_things, .inl (ka_open_things, 181, .inl f_open_things)), (a_t, .inr (2, [.ref a_open, .ref a_laid, .int z_begun])), (a_laid, .inr (11, [.ref a_laid_kinds, .ref a_laid_values, .int (nI (v_a_laid_2 + 1))])), (a_laid_kinds, .inl (ka_laid_kinds, 362, .inl (upd v_a_laid_kinds v_a_laid_2 4))), (a_laid_values, .inl (ka_laid_values, 362, .inr (.inl (vp_updL v_a_laid_values v_a_laid_2 (i6 125)))))] H := hP
      have hD : va_D A [(a_open, .inr (6, [.ref a_open_things, .int (nI (drp f_open_things v_a_open_1)), .int z_open_most])), (a_open_things, .inl (ka_open_things, 181, .inl f_open_things)), (a_t, .inr (2, [.ref a_open, .ref a_laid, .int z_begun])), (a_laid, .inr (11, [.ref a_laid_kinds, .ref a_laid_values, .int (nI (v_a_laid_2 + 1))])), (a_laid_kinds, .inl (ka_laid_kinds, 362, .inl (upd v_a_laid_kinds v_a_laid_2 4))), (a_laid_values, .inl (ka_laid_values, 362, .inr (.inl (vp_updL v_a_laid_values v_a_laid_2 (i6 125)))))] := hD
      refine lv_aload_n hx hb d_Blocks_mark_36 rfl (lv_at hl 1 rfl) ?_
      refine va_get (D := (dC, dI)) (ci := 2) (v := .ref a_open) (C := R_Blocks) (T := F_Blocks) (N := 3) hx hb hz zu_Blocks hown hK hP 2 rfl rfl 0 (by decide) (hz (.fieldLink R_Blocks 12 "LayoutFront$Blocks" "open" "LLayoutFront$Open;") zm_183) (fun _ h9 => h9) rfl d_Blocks_mark_37 ?_
      have hPc := hP.sub (ws' := [(a_open, .inr (6, [.ref a_open_things, .int (nI (drp f_open_things v_a_open_1)), .int z_open_most]))]) [0] rfl
      have hDc := hD.sub (ws' := [(a_open, .inr (6, [.ref a_open_things, .int (nI (drp f_open_things v_a_open_1)), .int z_open_most]))]) [0] (by decide) rfl
      have hKc := hK.sub (tys' := []) [] rfl
      have hFc := va_free (wc := [(a_open, .inr (6, [.ref a_open_things, .int (nI (drp f_open_things v_a_open_1)), .int z_open_most]))]) hD hS hA [0] rfl
      refine va_callv (va_runV (As := []) (rest := []) ⟨hx, hb, hml, hown, hz⟩ (s_Open_pop6 l dC dI H.size a_open a_open_things ((drp f_open_things v_a_open_1)) z_open_most (by first | omega | assumption | exact Or.inl rfl | exact Or.inr rfl | decide)) (cwV 0 hz (zV zm_284 zm_285 zm_286 zm_177 zm_287) rfl rfl rfl (by decide +kernel) ⟨Nat.le_of_ble_eq_true rfl, Nat.le_of_ble_eq_true rfl⟩) ⟨fun a U g mk q => by obtain ⟨q0, q1, qP, qK, qD⟩ := q; exact ⟨q0, q1, qP, va_K.moved (u := U) (U := U.calling g mk a) (Vm.Alike.refl U.vm) qK, qD⟩, va_recv (q := (R_Open, F_Open, 3)) (q0 := 0) (ci := 6) hK hP rfl rfl, fun U hU hW => ⟨rfl, by rw [hU], by rw [hU]; exact hPc, va_K.moved hW.alike hKc, hDc.weaken (fun _ _ _ _ => trivial)⟩⟩ rfl rfl hl.1 rfl (lv_room (Nat.le_of_ble_eq_true rfl)) d_Blocks_mark_40 ⟨Nat.zero_le _, Nat.zero_le _⟩) hS (fun q _ h => hFc q h) hFc (fun u t H1 locs ht hvm hw hB hz1 hk1 hS => ?_)
      obtain ⟨g17, hb_g17, hq0_40, hP1, hK1, hD1⟩ := hB
      subst g17
      rw [ht] at hP1
      obtain ⟨hP, hD⟩ := va_join (wr := [(a_open_things, .inl (ka_open_things, 181, .inl f_open_things)), (a_t, .inr (2, [.ref a_open, .ref a_laid, .int z_begun])), (a_laid, .inr (11, [.ref a_laid_kinds, .ref a_laid_values, .int (nI (v_a_laid_2 + 1))])), (a_laid_kinds, .inl (ka_laid_kinds, 362, .inl (upd v_a_laid_kinds v_a_laid_2 4))), (a_laid_values, .inl (ka_laid_values, 362, .inr (.inl (vp_updL v_a_laid_values v_a_laid_2 (i6 125)))))]) (w1 := [(a_open, .inr (6, [.ref a_open_things, .int (nI (((drp f_open_things v_a_open_1)) - 1)), .int z_open_most]))]) hP hD [0] [1, 2, 3, 4, 5] rfl rfl (by decide) (by decide) hk1 hFc hP1 hD1
      generalize H1 = H at hP hS ⊢
      have hP : va_P (dC, dI) vcl [(a_open_things, .inl (ka_open_things, 181, .inl f_open_things)), (a_t, .inr (2, [.ref a_open, .ref a_laid, .int z_begun])), (a_laid, .inr (11, [.ref a_laid_kinds, .ref a_laid_values, .int (nI (v_a_laid_2 + 1))])), (a_laid_kinds, .inl (ka_laid_kinds, 362, .inl (upd v_a_laid_kinds v_a_laid_2 4))), (a_laid_values, .inl (ka_laid_values, 362, .inr (.inl (vp_updL v_a_laid_values v_a_laid_2 (i6 125))))), (a_open, .inr (6, [.ref a_open_things, .int (nI (((drp f_open_things v_a_open_1)) - 1)), .int z_open_most]))] H := hP
      have hD : va_D A [(a_open_things, .inl (ka_open_things, 181, .inl f_open_things)), (a_t, .inr (2, [.ref a_open, .ref a_laid, .int z_begun])), (a_laid, .inr (11, [.ref a_laid_kinds, .ref a_laid_values, .int (nI (v_a_laid_2 + 1))])), (a_laid_kinds, .inl (ka_laid_kinds, 362, .inl (upd v_a_laid_kinds v_a_laid_2 4))), (a_laid_values, .inl (ka_laid_values, 362, .inr (.inl (vp_updL v_a_laid_values v_a_laid_2 (i6 125))))), (a_open, .inr (6, [.ref a_open_things, .int (nI (((drp f_open_things v_a_open_1)) - 1)), .int z_open_most]))] := hD
      refine lv_iinc (k := 0) (v := (nI (k2 - 1))) hx hb d_Blocks_mark_43 hl rfl (xr_dec (k := k2) (by omega)) (by decide) rfl (fun ls hl => ?_)
      have hl : lv_has ls 3 [(2, .int (nI (k2 - 1))), (0, .ref a_t), (1, .int y0)] := hl
      refine lv_goto (tgt := 8) hx hb d_Blocks_mark_46 (by decide) ?_
      have hP9 := hP.sub (ws' := [(a_t, .inr (2, [.ref a_open, .ref a_laid, .int z_begun])), (a_open_things, .inl (ka_open_things, 181, .inl f_open_things)), (a_laid, .inr (11, [.ref a_laid_kinds, .ref a_laid_values, .int (nI (v_a_laid_2 + 1))])), (a_laid_kinds, .inl (ka_laid_kinds, 362, .inl (upd v_a_laid_kinds v_a_laid_2 4))), (a_laid_values, .inl (ka_laid_values, 362, .inr (.inl (vp_updL v_a_laid_values v_a_laid_2 (i6 125))))), (a_open, .inr (6, [.ref a_open_things, .int (nI (((drp f_open_things v_a_open_1)) - 1)), .int z_open_most]))]) [1, 0, 2, 3, 4, 5] rfl
      have hD9 := hD.sub (ws' := [(a_t, .inr (2, [.ref a_open, .ref a_laid, .int z_begun])), (a_open_things, .inl (ka_open_things, 181, .inl f_open_things)), (a_laid, .inr (11, [.ref a_laid_kinds, .ref a_laid_values, .int (nI (v_a_laid_2 + 1))])), (a_laid_kinds, .inl (ka_laid_kinds, 362, .inl (upd v_a_laid_kinds v_a_laid_2 4))), (a_laid_values, .inl (ka_laid_values, 362, .inr (.inl (vp_updL v_a_laid_values v_a_laid_2 (i6 125))))), (a_open, .inr (6, [.ref a_open_things, .int (nI (((drp f_open_things v_a_open_1)) - 1)), .int z_open_most]))]) [1, 0, 2, 3, 4, 5] (by decide) rfl
      exact ih8 ((k2 - 1), (v_a_laid_2 + 1), (upd v_a_laid_kinds v_a_laid_2 4), (vp_updL v_a_laid_values v_a_laid_2 (i6 125)), (((drp f_open_things v_a_open_1)) - 1)) (by show ((k2 - 1)) < k2; omega) _ _ _ ⟨by show ((k2 - 1)) ≤ 181; first | omega | assumption | exact Or.inl rfl | exact Or.inr rfl | decide, by show ((v_a_laid_2 + 1)) ≤ 362; first | omega | assumption | exact Or.inl rfl | exact Or.inr rfl | decide, by show ((((drp f_open_things v_a_open_1)) - 1)) ≤ 181; first | omega | assumption | exact Or.inl rfl | exact Or.inr rfl | decide, by show ((((drp f_open_things v_a_open_1)) - 1)) ≤ ((k2 - 1)); first | omega | assumption | exact Or.inl rfl | exact Or.inr rfl | decide, by show ((((drp f_open_things v_a_open_1)) - 1)) ≤ n_open_size; first | omega | assumption | exact Or.inl rfl | exact Or.inr rfl | decide, by show mkL y0 (stk f_open_things ((((drp f_open_things v_a_open_1)) - 1))) (tks ((upd v_a_laid_kinds v_a_laid_2 4)) ((vp_updL v_a_laid_values v_a_laid_2 (i6 125))) ((v_a_laid_2 + 1))) = mkL y0 (stk f_open_things n_open_size) (tks f_laid_kinds f_laid_values n_laid_size); rw [tk_i (z := 125) (by decide)]; exact (mC_a hp0 e20).trans iE, by show pt (stk f_open_things ((((drp f_open_things v_a_open_1)) - 1)), tks ((upd v_a_laid_kinds v_a_laid_2 4)) ((vp_updL v_a_laid_values v_a_laid_2 (i6 125))) ((v_a_laid_2 + 1)), z_open_most) ≤ pt (stk f_open_things n_open_size, tks f_laid_kinds f_laid_values n_laid_size, z_open_most); rw [tk_i (z := 125) (by decide), pp.1]; exact iP, hl, hP9, hD9, hS⟩
set_option maxHeartbeats 4000000 in
set_option maxRecDepth 100000 in
theorem s_Blocks_closeBlocks6 (l : Launch) (dC : Nat → ClassId) (dI : Nat → Nat → Nat) (sz : Nat) (a_t : Nat) (a_open : Nat) (a_open_things : Nat) (f_open_things : Nat → Int32) (n_open_size : Nat) (z_open_most : Int32) (a_laid : Nat) (a_laid_kinds : Nat) (f_laid_kinds : Nat → Int32) (a_laid_values : Nat) (f_laid_values : Nat → Int64) (n_laid_size : Nat) (z_begun : Int32) (y0 : Int32) (ka_open_things : ClassId) (ka_laid_kinds : ClassId) (ka_laid_values : ClassId) (b_open_size : n_open_size ≤ 181) (b_laid_size : n_laid_size ≤ 362) (hp0 : pt (stk f_open_things n_open_size, tks f_laid_kinds f_laid_values n_laid_size, z_open_most) ≤ 362) : Met l y_Blocks_closeBlocks w_Blocks_closeBlocks ({ frames := 2, cells := 0, slots := 0, locals := 44 }) (va_Pc [.ref a_t, .int y0] (fun U => U.heap.size = sz ∧ va_P (dC, dI) vcl [(a_t, .inr (2, [.ref a_open, .ref a_laid, .int z_begun])), (a_open, .inr (6, [.ref a_open_things, .int (nI n_open_size), .int z_open_most])), (a_open_things, .inl (ka_open_things, 181, .inl f_open_things)), (a_laid, .inr (11, [.ref a_laid_kinds, .ref a_laid_values, .int (nI n_laid_size)])), (a_laid_kinds, .inl (ka_laid_kinds, 362, .inl f_laid_kinds)), (a_laid_values, .inl (ka_laid_values, 362, .inr (.inl f_laid_values)))] U.heap ∧ va_K (dC, dI) vcl [(ka_open_things, .int), (ka_laid_kinds, .int), (ka_laid_values, .long)] U ∧ va_D (fun _ => True) [(a_t, .inr (2, [.ref a_open, .ref a_laid, .int z_begun])), (a_open, .inr (6, [.ref a_open_things, .int (nI n_open_size), .int z_open_most])), (a_open_things, .inl (ka_open_things, 181, .inl f_open_things)), (a_laid, .inr (11, [.ref a_laid_kinds, .ref a_laid_values, .int (nI n_laid_size)])), (a_laid_kinds, .inl (ka_laid_kinds, 362, .inl f_laid_kinds)), (a_laid_values, .inl (ka_laid_values, 362, .inr (.inl f_laid_values)))])) (va_Qv (fun (_ : Unit) => True) (fun _ t => ∃ (w_n_open_size : Nat) (w_n_laid_size : Nat) (w_f_laid_kinds : Nat → Int32) (w_f_laid_values : Nat → Int64), (w_n_open_size ≤ 181) ∧ (w_n_laid_size ≤ 362) ∧ ((stk f_open_things w_n_open_size, tks w_f_laid_kinds w_f_laid_values w_n_laid_size) = lvL (decide (¬ y0 = 0)) (stk f_open_things n_open_size) (tks f_laid_kinds f_laid_values n_laid_size)) ∧ va_P (dC, dI) vcl [(a_t, .inr (2, [.ref a_open, .ref a_laid, .int z_begun])), (a_open, .inr (6, [.ref a_open_things, .int (nI w_n_open_size), .int z_open_most])), (a_open_things, .inl (ka_open_things, 181, .inl f_open_things)), (a_laid, .inr (11, [.ref a_laid_kinds, .ref a_laid_values, .int (nI w_n_laid_size)])), (a_laid_kinds, .inl (ka_laid_kinds, 362, .inl w_f_laid_kinds)), (a_laid_values, .inl (ka_laid_values, 362, .inr (.inl w_f_laid_values)))] t.heap ∧ va_K (dC, dI) vcl [(ka_open_things, .int), (ka_laid_kinds, .int), (ka_laid_values, .long)] t ∧ va_D (va_A [(a_t, .inr (2, [.ref a_open, .ref a_laid, .int z_begun])), (a_open, .inr (6, [.ref a_open_things, .int (nI n_open_size), .int z_open_most])), (a_open_things, .inl (ka_open_things, 181, .inl f_open_things)), (a_laid, .inr (11, [.ref a_laid_kinds, .ref a_laid_values, .int (nI n_laid_size)])), (a_laid_kinds, .inl (ka_laid_kinds, 362, .inl f_laid_kinds)), (a_laid_values, .inl (ka_laid_values, 362, .inr (.inl f_laid_values)))] sz) [(a_t, .inr (2, [.ref a_open, .ref a_laid, .int z_begun])), (a_open, .inr (6, [.ref a_open_things, .int (nI w_n_open_size), .int z_open_most])), (a_open_things, .inl (ka_open_things, 181, .inl f_open_things)), (a_laid, .inr (11, [.ref a_laid_kinds, .ref a_laid_values, .int (nI w_n_laid_size)])), (a_laid_kinds, .inl (ka_laid_kinds, 362, .inl w_f_laid_kinds)), (a_laid_values, .inl (ka_laid_values, 362, .inr (.inl w_f_laid_values)))]) (va_A [(a_t, .inr (2, [.ref a_open, .ref a_laid, .int z_begun])), (a_open, .inr (6, [.ref a_open_things, .int (nI n_open_size), .int z_open_most])), (a_open_things, .inl (ka_open_things, 181, .inl f_open_things)), (a_laid, .inr (11, [.ref a_laid_kinds, .ref a_laid_values, .int (nI n_laid_size)])), (a_laid_kinds, .inl (ka_laid_kinds, 362, .inl f_laid_kinds)), (a_laid_values, .inl (ka_laid_values, 362, .inr (.inl f_laid_values)))] sz)) 0 0 (va_A [(a_t, .inr (2, [.ref a_open, .ref a_laid, .int z_begun])), (a_open, .inr (6, [.ref a_open_things, .int (nI n_open_size), .int z_open_most])), (a_open_things, .inl (ka_open_things, 181, .inl f_open_things)), (a_laid, .inr (11, [.ref a_laid_kinds, .ref a_laid_values, .int (nI n_laid_size)])), (a_laid_kinds, .inl (ka_laid_kinds, 362, .inl f_laid_kinds)), (a_laid_values, .inl (ka_laid_values, 362, .inr (.inl f_laid_values)))] sz) := by
  refine Met.ofW (cc := b_Blocks_closeBlocks) (maxL := 3) (ret := none) (by decide) rfl ?_
  intro p e s m args below meth c s₁ B hml hv
  obtain ⟨rfl, hsz, hP, hK, hD0⟩ := hv
  have hx := B.exec
  have hb := B.bytes
  have hr := B.returns
  have hts := atoms_spec (ws := w_Blocks_closeBlocks) B.pre
  have hz : ∀ w ∈ wz, w.before _ s = true := fun w h => hts w (List.mem_cons_of_mem _ h)
  have hown : s.vm.findClass R_Blocks = some m.cls := findClass_of_methodNamed B.named
  have hlocks := B.notSynchronized
  subst hsz
  have hD := hD0.self (sz := s.heap.size)
  generalize hAe : va_A [(a_t, .inr (2, [.ref a_open, .ref a_laid, .int z_begun])), (a_open, .inr (6, [.ref a_open_things, .int (nI n_open_size), .int z_open_most])), (a_open_things, .inl (ka_open_things, 181, .inl f_open_things)), (a_laid, .inr (11, [.ref a_laid_kinds, .ref a_laid_values, .int (nI n_laid_size)])), (a_laid_kinds, .inl (ka_laid_kinds, 362, .inl f_laid_kinds)), (a_laid_values, .inl (ka_laid_values, 362, .inr (.inl f_laid_values)))] s.heap.size = A at hD ⊢
  have hA : ∀ q : Nat, s.heap.size ≤ q → A q := fun q h => by rw [← hAe]; exact Or.inr h
  have hS : va_S A s.heap s.heap [] := va_S.rf
  have hP : va_P (dC, dI) vcl [(a_t, .inr (2, [.ref a_open, .ref a_laid, .int z_begun])), (a_open, .inr (6, [.ref a_open_things, .int (nI n_open_size), .int z_open_most])), (a_open_things, .inl (ka_open_things, 181, .inl f_open_things)), (a_laid, .inr (11, [.ref a_laid_kinds, .ref a_laid_values, .int (nI n_laid_size)])), (a_laid_kinds, .inl (ka_laid_kinds, 362, .inl f_laid_kinds)), (a_laid_values, .inl (ka_laid_values, 362, .inr (.inl f_laid_values)))] s.heap := hP
  have hl := lv_entry ([.ref a_t, .int y0]) (n := 3) (Nat.le_of_ble_eq_true rfl)
  rw [lg_entry_eq]
  generalize (lg_sl ([.ref a_t, .int y0]) ++ List.replicate (3 - (lg_sl ([.ref a_t, .int y0])).length) Slot.unset).toArray = ls at hl ⊢
  have hl : lv_has ls 3 [(0, .ref a_t), (1, .int y0)] := hl
  refine lv_aload_n hx hb d_Blocks_closeBlocks_0 rfl (lv_at hl 0 rfl) ?_
  refine va_get (D := (dC, dI)) (ci := 2) (v := .ref a_open) (C := R_Blocks) (T := F_Blocks) (N := 3) hx hb hz zu_Blocks hown hK hP 0 rfl rfl 0 (by decide) (hz (.fieldLink R_Blocks 12 "LayoutFront$Blocks" "open" "LLayoutFront$Open;") zm_183) (fun _ h9 => h9) rfl d_Blocks_closeBlocks_1 ?_
  have hPc := hP.sub (ws' := [(a_open, .inr (6, [.ref a_open_things, .int (nI n_open_size), .int z_open_most]))]) [1] rfl
  have hDc := hD.sub (ws' := [(a_open, .inr (6, [.ref a_open_things, .int (nI n_open_size), .int z_open_most]))]) [1] (by decide) rfl
  have hKc := hK.sub (tys' := []) [] rfl
  have hFc := va_free (wc := [(a_open, .inr (6, [.ref a_open_things, .int (nI n_open_size), .int z_open_most]))]) hD hS hA [1] rfl
  refine va_calli (va_runV (As := []) (rest := []) ⟨hx, hb, hml, hown, hz⟩ (s_Open_size l dC dI s.heap.size a_open a_open_things n_open_size z_open_most (by first | omega | assumption | exact Or.inl rfl | exact Or.inr rfl | decide)) (cwV 0 hz (zV zm_240 zm_241 zm_242 zm_177 zm_243) rfl rfl rfl (by decide +kernel) ⟨Nat.le_of_ble_eq_true rfl, Nat.le_of_ble_eq_true rfl⟩) ⟨fun a U g mk q => by obtain ⟨q0, q1, qP, qK, qD⟩ := q; exact ⟨q0, q1, qP, va_K.moved (u := U) (U := U.calling g mk a) (Vm.Alike.refl U.vm) qK, qD⟩, va_recv (q := (R_Open, F_Open, 3)) (q0 := 1) (ci := 6) hK hP rfl rfl, fun U hU hW => ⟨rfl, by rw [hU], by rw [hU]; exact hPc, va_K.moved hW.alike hKc, hDc.weaken (fun _ _ _ _ => trivial)⟩⟩ rfl rfl hl.1 rfl (lv_room (Nat.le_of_ble_eq_true rfl)) d_Blocks_closeBlocks_4 ⟨Nat.zero_le _, Nat.zero_le _⟩) hS (fun q _ h => hFc q h) hFc (fun r u t H1 locs ht hvm hw hB hz1 hk1 hS => ?_)
  obtain ⟨hP1, hK1, hD1⟩ := hB
  subst r
  rw [ht] at hP1
  obtain ⟨hP, hD⟩ := va_join (wr := [(a_t, .inr (2, [.ref a_open, .ref a_laid, .int z_begun])), (a_open_things, .inl (ka_open_things, 181, .inl f_open_things)), (a_laid, .inr (11, [.ref a_laid_kinds, .ref a_laid_values, .int (nI n_laid_size)])), (a_laid_kinds, .inl (ka_laid_kinds, 362, .inl f_laid_kinds)), (a_laid_values, .inl (ka_laid_values, 362, .inr (.inl f_laid_values)))]) (w1 := [(a_open, .inr (6, [.ref a_open_things, .int (nI n_open_size), .int z_open_most]))]) hP hD [1] [0, 2, 3, 4, 5] rfl rfl (by decide) (by decide) hk1 hFc hP1 hD1
  generalize H1 = H at hP hS ⊢
  have hP : va_P (dC, dI) vcl [(a_t, .inr (2, [.ref a_open, .ref a_laid, .int z_begun])), (a_open_things, .inl (ka_open_things, 181, .inl f_open_things)), (a_laid, .inr (11, [.ref a_laid_kinds, .ref a_laid_values, .int (nI n_laid_size)])), (a_laid_kinds, .inl (ka_laid_kinds, 362, .inl f_laid_kinds)), (a_laid_values, .inl (ka_laid_values, 362, .inr (.inl f_laid_values))), (a_open, .inr (6, [.ref a_open_things, .int (nI n_open_size), .int z_open_most]))] H := hP
  have hD : va_D A [(a_t, .inr (2, [.ref a_open, .ref a_laid, .int z_begun])), (a_open_things, .inl (ka_open_things, 181, .inl f_open_things)), (a_laid, .inr (11, [.ref a_laid_kinds, .ref a_laid_values, .int (nI n_laid_size)])), (a_laid_kinds, .inl (ka_laid_kinds, 362, .inl f_laid_kinds)), (a_laid_values, .inl (ka_laid_values, 362, .inr (.inl f_laid_values))), (a_open, .inr (6, [.ref a_open_things, .int (nI n_open_size), .int z_open_most]))] := hD
  refine lv_istore_n hx hb d_Blocks_closeBlocks_7 rfl hl (by decide) rfl (fun ls hl => ?_)
  have hl : lv_has ls 3 [(2, .int (nI n_open_size)), (0, .ref a_t), (1, .int y0)] := hl
  refine xr_loop (α := (Nat) × (Nat) × (Nat → Int32) × (Nat → Int64) × (Nat)) (fun a => (fun (k2 : Nat) (v_a_laid_2 : Nat) (v_a_laid_kinds : Nat → Int32) (v_a_laid_values : Nat → Int64) (v_a_open_1 : Nat) => k2) a.1 a.2.1 a.2.2.1 a.2.2.2.1 a.2.2.2.2) (fun a H locs ls => (fun (k2 : Nat) (v_a_laid_2 : Nat) (v_a_laid_kinds : Nat → Int32) (v_a_laid_values : Nat → Int64) (v_a_open_1 : Nat) => (k2 ≤ 181) ∧ (v_a_laid_2 ≤ 362) ∧ (v_a_open_1 ≤ 181) ∧ (v_a_open_1 ≤ k2) ∧ (v_a_open_1 ≤ n_open_size) ∧ (lvL (decide (¬ y0 = 0)) (stk f_open_things v_a_open_1) (tks v_a_laid_kinds v_a_laid_values v_a_laid_2) = lvL (decide (¬ y0 = 0)) (stk f_open_things n_open_size) (tks f_laid_kinds f_laid_values n_laid_size)) ∧ (pt (stk f_open_things v_a_open_1, tks v_a_laid_kinds v_a_laid_values v_a_laid_2, z_open_most) ≤ pt (stk f_open_things n_open_size, tks f_laid_kinds f_laid_values n_laid_size, z_open_most)) ∧ lv_has ls 3 [(2, .int (nI k2)), (0, .ref a_t), (1, .int y0)] ∧ va_P (dC, dI) vcl [(a_t, .inr (2, [.ref a_open, .ref a_laid, .int z_begun])), (a_open_things, .inl (ka_open_things, 181, .inl f_open_things)), (a_laid, .inr (11, [.ref a_laid_kinds, .ref a_laid_values, .int (nI v_a_laid_2)])), (a_laid_kinds, .inl (ka_laid_kinds, 362, .inl v_a_laid_kinds)), (a_laid_values, .inl (ka_laid_values, 362, .inr (.inl v_a_laid_values))), (a_open, .inr (6, [.ref a_open_things, .int (nI v_a_open_1), .int z_open_most]))] H ∧ va_D A [(a_t, .inr (2, [.ref a_open, .ref a_laid, .int z_begun])), (a_open_things, .inl (ka_open_things, 181, .inl f_open_things)), (a_laid, .inr (11, [.ref a_laid_kinds, .ref a_laid_values, .int (nI v_a_laid_2)])), (a_laid_kinds, .inl (ka_laid_kinds, 362, .inl v_a_laid_kinds)), (a_laid_values, .inl (ka_laid_values, 362, .inr (.inl v_a_laid_values))), (a_open, .inr (6, [.ref a_open_things, .int (nI v_a_open_1), .int z_open_most]))] ∧ va_S A s.heap H locs) a.1 a.2.1 a.2.2.1 a.2.2.2.1 a.2.2.2.2) (fun a ih8 H locs ls hI => ?_) (n_open_size, n_laid_size, f_laid_kinds, f_laid_values, n_open_size) _ _ _ ⟨by show n_open_size ≤ 181; first | omega | assumption | exact Or.inl rfl | exact Or.inr rfl | decide, by show n_laid_size ≤ 362; first | omega | assumption | exact Or.inl rfl | exact Or.inr rfl | decide, by show n_open_size ≤ 181; first | omega | assumption | exact Or.inl rfl | exact Or.inr rfl | decide, by show n_open_size ≤ n_open_size; first | omega | assumption | exact Or.inl rfl | exact Or.inr rfl | decide, by show n_open_size ≤ n_open_size; first | omega | assumption | exact Or.inl rfl | exact Or.inr rfl | decide, by show lvL (decide (¬ y0 = 0)) (stk f_open_things n_open_size) (tks f_laid_kinds f_laid_values n_laid_size) = lvL (decide (¬ y0 = 0)) (stk f_open_things n_open_size) (tks f_laid_kinds f_laid_values n_laid_size); rfl, by show pt (stk f_open_things n_open_size, tks f_laid_kinds f_laid_values n_laid_size, z_open_most) ≤ pt (stk f_open_things n_open_size, tks f_laid_kinds f_laid_values n_laid_size, z_open_most); exact Nat.le_refl _, hl, hP, hD, hS⟩
  obtain ⟨k2, v_a_laid_2, v_a_laid_kinds, v_a_laid_values, v_a_open_1⟩ := a
  obtain ⟨bl0, bl1, bl2, bl3, bl4, bl5, bl6, hl, hP, hD, hS⟩ := hI
  have bl0 : k2 ≤ 181 := bl0
  have bl1 : v_a_laid_2 ≤ 362 := bl1
  have bl2 : v_a_open_1 ≤ 181 := bl2
  have bl3 : v_a_open_1 ≤ k2 := bl3
  have iA := bl3
  have bl4 : v_a_open_1 ≤ n_open_size := bl4
  have iB := bl4
  have bl5 : lvL (decide (¬ y0 = 0)) (stk f_open_things v_a_open_1) (tks v_a_laid_kinds v_a_laid_values v_a_laid_2) = lvL (decide (¬ y0 = 0)) (stk f_open_things n_open_size) (tks f_laid_kinds f_laid_values n_laid_size) := bl5
  have iE := bl5
  have bl6 : pt (stk f_open_things v_a_open_1, tks v_a_laid_kinds v_a_laid_values v_a_laid_2, z_open_most) ≤ pt (stk f_open_things n_open_size, tks f_laid_kinds f_laid_values n_laid_size, z_open_most) := bl6
  have iP := bl6
  have hl : lv_has ls 3 [(2, .int (nI k2)), (0, .ref a_t), (1, .int y0)] := hl
  have hP : va_P (dC, dI) vcl [(a_t, .inr (2, [.ref a_open, .ref a_laid, .int z_begun])), (a_open_things, .inl (ka_open_things, 181, .inl f_open_things)), (a_laid, .inr (11, [.ref a_laid_kinds, .ref a_laid_values, .int (nI v_a_laid_2)])), (a_laid_kinds, .inl (ka_laid_kinds, 362, .inl v_a_laid_kinds)), (a_laid_values, .inl (ka_laid_values, 362, .inr (.inl v_a_laid_values))), (a_open, .inr (6, [.ref a_open_things, .int (nI v_a_open_1), .int z_open_most]))] H := hP
  have hD : va_D A [(a_t, .inr (2, [.ref a_open, .ref a_laid, .int z_begun])), (a_open_things, .inl (ka_open_things, 181, .inl f_open_things)), (a_laid, .inr (11, [.ref a_laid_kinds, .ref a_laid_values, .int (nI v_a_laid_2)])), (a_laid_kinds, .inl (ka_laid_kinds, 362, .inl v_a_laid_kinds)), (a_laid_values, .inl (ka_laid_values, 362, .inr (.inl v_a_laid_values))), (a_open, .inr (6, [.ref a_open_things, .int (nI v_a_open_1), .int z_open_most]))] := hD
  refine lv_iload_n hx hb d_Blocks_closeBlocks_8 rfl (lv_at hl 0 rfl) ?_
  refine lv_if_le (tgt := 62) hx hb d_Blocks_closeBlocks_9 (by decide) (fun h1 => ?_) (fun h1 => ?_)
  · have h1 : k2 ≤ 0 := (nI_leI (a := k2) (b := 0) (by omega) (by omega)).mp h1
    have hP9 := hP.sub (ws' := [(a_t, .inr (2, [.ref a_open, .ref a_laid, .int z_begun])), (a_open, .inr (6, [.ref a_open_things, .int (nI v_a_open_1), .int z_open_most])), (a_open_things, .inl (ka_open_things, 181, .inl f_open_things)), (a_laid, .inr (11, [.ref a_laid_kinds, .ref a_laid_values, .int (nI v_a_laid_2)])), (a_laid_kinds, .inl (ka_laid_kinds, 362, .inl v_a_laid_kinds)), (a_laid_values, .inl (ka_laid_values, 362, .inr (.inl v_a_laid_values)))]) [0, 5, 1, 2, 3, 4] rfl
    have hD9 := hD.sub (ws' := [(a_t, .inr (2, [.ref a_open, .ref a_laid, .int z_begun])), (a_open, .inr (6, [.ref a_open_things, .int (nI v_a_open_1), .int z_open_most])), (a_open_things, .inl (ka_open_things, 181, .inl f_open_things)), (a_laid, .inr (11, [.ref a_laid_kinds, .ref a_laid_values, .int (nI v_a_laid_2)])), (a_laid_kinds, .inl (ka_laid_kinds, 362, .inl v_a_laid_kinds)), (a_laid_values, .inl (ka_laid_values, 362, .inr (.inl v_a_laid_values)))]) [0, 5, 1, 2, 3, 4] (by decide) rfl
    exact W.vret hx hb hr (fun t ht hW => ⟨⟨(), rfl, trivial, v_a_open_1, v_a_laid_2, v_a_laid_kinds, v_a_laid_values, by first | omega | assumption | exact Or.inl rfl | exact Or.inr rfl | decide, by first | omega | assumption | exact Or.inl rfl | exact Or.inr rfl | decide, by exact (vC_0 (by omega)).trans iE, by rw [ht]; exact hP9, va_K.moved hW.alike hK, hD9⟩, hS.F ht⟩) hS.2.2 d_Blocks_closeBlocks_62
  · have h1 : ¬ k2 ≤ 0 := fun q => h1 ((nI_leI (a := k2) (b := 0) (by omega) (by omega)).mpr q)
    refine lv_aload_n hx hb d_Blocks_closeBlocks_12 rfl (lv_at hl 1 rfl) ?_
    refine va_get (D := (dC, dI)) (ci := 2) (v := .ref a_open) (C := R_Blocks) (T := F_Blocks) (N := 3) hx hb hz zu_Blocks hown hK hP 0 rfl rfl 0 (by decide) (hz (.fieldLink R_Blocks 12 "LayoutFront$Blocks" "open" "LLayoutFront$Open;") zm_183) (fun _ h9 => h9) rfl d_Blocks_closeBlocks_13 ?_
    have hPc := hP.sub (ws' := [(a_open, .inr (6, [.ref a_open_things, .int (nI v_a_open_1), .int z_open_most])), (a_open_things, .inl (ka_open_things, 181, .inl f_open_things))]) [5, 1] rfl
    have hDc := hD.sub (ws' := [(a_open, .inr (6, [.ref a_open_things, .int (nI v_a_open_1), .int z_open_most])), (a_open_things, .inl (ka_open_things, 181, .inl f_open_things))]) [5, 1] (by decide) rfl
    have hKc := hK.sub (tys' := [(ka_open_things, .int)]) [0] rfl
    have hFc := va_free (wc := [(a_open, .inr (6, [.ref a_open_things, .int (nI v_a_open_1), .int z_open_most])), (a_open_things, .inl (ka_open_things, 181, .inl f_open_things))]) hD hS hA [5, 1] rfl
    refine va_calli (va_runV (As := []) (rest := []) ⟨hx, hb, hml, hown, hz⟩ (s_Open_top6 l dC dI H.size a_open a_open_things f_open_things v_a_open_1 z_open_most ka_open_things (by first | omega | assumption | exact Or.inl rfl | exact Or.inr rfl | decide)) (cwV 0 hz (zV zm_300 zm_301 zm_302 zm_177 zm_303) rfl rfl rfl (by decide +kernel) ⟨Nat.le_of_ble_eq_true rfl, Nat.le_of_ble_eq_true rfl⟩) ⟨fun a U g mk q => by obtain ⟨q0, q1, qP, qK, qD⟩ := q; exact ⟨q0, q1, qP, va_K.moved (u := U) (U := U.calling g mk a) (Vm.Alike.refl U.vm) qK, qD⟩, va_recv (q := (R_Open, F_Open, 3)) (q0 := 5) (ci := 6) hK hP rfl rfl, fun U hU hW => ⟨rfl, by rw [hU], by rw [hU]; exact hPc, va_K.moved hW.alike hKc, hDc.weaken (fun _ _ _ _ => trivial)⟩⟩ rfl rfl hl.1 rfl (lv_room (Nat.le_of_ble_eq_true rfl)) d_Blocks_closeBlocks_16 ⟨Nat.zero_le _, Nat.zero_le _⟩) hS (fun q _ h => hFc q h) hFc (fun r u t H1 locs ht hvm hw hB hz1 hk1 hS => ?_)
    obtain ⟨hP1, hK1, hD1⟩ := hB
    subst r
    rw [ht] at hP1
    obtain ⟨hP, hD⟩ := va_join (wr := [(a_t, .inr (2, [.ref a_open, .ref a_laid, .int z_begun])), (a_laid, .inr (11, [.ref a_laid_kinds, .ref a_laid_values, .int (nI v_a_laid_2)])), (a_laid_kinds, .inl (ka_laid_kinds, 362, .inl v_a_laid_kinds)), (a_laid_values, .inl (ka_laid_values, 362, .inr (.inl v_a_laid_values)))]) (w1 := [(a_open, .inr (6, [.ref a_open_things, .int (nI v_a_open_1), .int z_open_most])), (a_open_things, .inl (ka_open_things, 181, .inl f_open_things))]) hP hD [5, 1] [0, 2, 3, 4] rfl rfl (by decide) (by decide) hk1 hFc hP1 hD1
    generalize H1 = H at hP hS ⊢
    have hP : va_P (dC, dI) vcl [(a_t, .inr (2, [.ref a_open, .ref a_laid, .int z_begun])), (a_laid, .inr (11, [.ref a_laid_kinds, .ref a_laid_values, .int (nI v_a_laid_2)])), (a_laid_kinds, .inl (ka_laid_kinds, 362, .inl v_a_laid_kinds)), (a_laid_values, .inl (ka_laid_values, 362, .inr (.inl v_a_laid_values))), (a_open, .inr (6, [.ref a_open_things, .int (nI v_a_open_1), .int z_open_most])), (a_open_things, .inl (ka_open_things, 181, .inl f_open_things))] H := hP
    have hD : va_D A [(a_t, .inr (2, [.ref a_open, .ref a_laid, .int z_begun])), (a_laid, .inr (11, [.ref a_laid_kinds, .ref a_laid_values, .int (nI v_a_laid_2)])), (a_laid_kinds, .inl (ka_laid_kinds, 362, .inl v_a_laid_kinds)), (a_laid_values, .inl (ka_laid_values, 362, .inr (.inl v_a_laid_values))), (a_open, .inr (6, [.ref a_open_things, .int (nI v_a_open_1), .int z_open_most])), (a_open_things, .inl (ka_open_things, 181, .inl f_open_things))] := hD
    refine lv_if_le (tgt := 31) hx hb d_Blocks_closeBlocks_19 (by decide) (fun h2 => ?_) (fun h2 => ?_)
    · have e19 := Int32.not_lt.mpr h2
      refine lv_iload_n hx hb d_Blocks_closeBlocks_31 rfl (lv_at hl 2 rfl) ?_
      refine lv_if_eq (tgt := 62) hx hb d_Blocks_closeBlocks_32 (by decide) (fun h3 => ?_) (fun h3 => ?_)
      · have e32 := h3
        have hP9 := hP.sub (ws' := [(a_t, .inr (2, [.ref a_open, .ref a_laid, .int z_begun])), (a_open, .inr (6, [.ref a_open_things, .int (nI v_a_open_1), .int z_open_most])), (a_open_things, .inl (ka_open_things, 181, .inl f_open_things)), (a_laid, .inr (11, [.ref a_laid_kinds, .ref a_laid_values, .int (nI v_a_laid_2)])), (a_laid_kinds, .inl (ka_laid_kinds, 362, .inl v_a_laid_kinds)), (a_laid_values, .inl (ka_laid_values, 362, .inr (.inl v_a_laid_values)))]) [0, 4, 5, 1, 2, 3] rfl
        have hD9 := hD.sub (ws' := [(a_t, .inr (2, [.ref a_open, .ref a_laid, .int z_begun])), (a_open, .inr (6, [.ref a_open_things, .int (nI v_a_open_1), .int z_open_most])), (a_open_things, .inl (ka_open_things, 181, .inl f_open_things)), (a_laid, .inr (11, [.ref a_laid_kinds, .ref a_laid_values, .int (nI v_a_laid_2)])), (a_laid_kinds, .inl (ka_laid_kinds, 362, .inl v_a_laid_kinds)), (a_laid_values, .inl (ka_laid_values, 362, .inr (.inl v_a_laid_values)))]) [0, 4, 5, 1, 2, 3] (by decide) rfl
        exact W.vret hx hb hr (fun t ht hW => ⟨⟨(), rfl, trivial, v_a_open_1, v_a_laid_2, v_a_laid_kinds, v_a_laid_values, by first | omega | assumption | exact Or.inl rfl | exact Or.inr rfl | decide, by first | omega | assumption | exact Or.inl rfl | exact Or.inr rfl | decide, by exact (vC_z e19 (fun z => absurd (of_decide_eq_true z.2) (fun q => q e32))).trans iE, by rw [ht]; exact hP9, va_K.moved hW.alike hK, hD9⟩, hS.F ht⟩) hS.2.2 d_Blocks_closeBlocks_62
      · have e32 := h3
        refine lv_aload_n hx hb d_Blocks_closeBlocks_35 rfl (lv_at hl 1 rfl) ?_
        refine va_get (D := (dC, dI)) (ci := 2) (v := .ref a_open) (C := R_Blocks) (T := F_Blocks) (N := 3) hx hb hz zu_Blocks hown hK hP 0 rfl rfl 0 (by decide) (hz (.fieldLink R_Blocks 12 "LayoutFront$Blocks" "open" "LLayoutFront$Open;") zm_183) (fun _ h9 => h9) rfl d_Blocks_closeBlocks_36 ?_
        have hPc := hP.sub (ws' := [(a_open, .inr (6, [.ref a_open_things, .int (nI v_a_open_1), .int z_open_most])), (a_open_things, .inl (ka_open_things, 181, .inl f_open_things))]) [4, 5] rfl
        have hDc := hD.sub (ws' := [(a_open, .inr (6, [.ref a_open_things, .int (nI v_a_open_1), .int z_open_most])), (a_open_things, .inl (ka_open_things, 181, .inl f_open_things))]) [4, 5] (by decide) rfl
        have hKc := hK.sub (tys' := [(ka_open_things, .int)]) [0] rfl
        have hFc := va_free (wc := [(a_open, .inr (6, [.ref a_open_things, .int (nI v_a_open_1), .int z_open_most])), (a_open_things, .inl (ka_open_things, 181, .inl f_open_things))]) hD hS hA [4, 5] rfl
        refine va_calli (va_runV (As := []) (rest := []) ⟨hx, hb, hml, hown, hz⟩ (s_Open_top6 l dC dI H.size a_open a_open_things f_open_things v_a_open_1 z_open_most ka_open_things (by first | omega | assumption | exact Or.inl rfl | exact Or.inr rfl | decide)) (cwV 0 hz (zV zm_300 zm_301 zm_302 zm_177 zm_303) rfl rfl rfl (by decide +kernel) ⟨Nat.le_of_ble_eq_true rfl, Nat.le_of_ble_eq_true rfl⟩) ⟨fun a U g mk q => by obtain ⟨q0, q1, qP, qK, qD⟩ := q; exact ⟨q0, q1, qP, va_K.moved (u := U) (U := U.calling g mk a) (Vm.Alike.refl U.vm) qK, qD⟩, va_recv (q := (R_Open, F_Open, 3)) (q0 := 4) (ci := 6) hK hP rfl rfl, fun U hU hW => ⟨rfl, by rw [hU], by rw [hU]; exact hPc, va_K.moved hW.alike hKc, hDc.weaken (fun _ _ _ _ => trivial)⟩⟩ rfl rfl hl.1 rfl (lv_room (Nat.le_of_ble_eq_true rfl)) d_Blocks_closeBlocks_39 ⟨Nat.zero_le _, Nat.zero_le _⟩) hS (fun q _ h => hFc q h) hFc (fun r u t H1 locs ht hvm hw hB hz1 hk1 hS => ?_)
        obtain ⟨hP1, hK1, hD1⟩ := hB
        subst r
        rw [ht] at hP1
        obtain ⟨hP, hD⟩ := va_join (wr := [(a_t, .inr (2, [.ref a_open, .ref a_laid, .int z_begun])), (a_laid, .inr (11, [.ref a_laid_kinds, .ref a_laid_values, .int (nI v_a_laid_2)])), (a_laid_kinds, .inl (ka_laid_kinds, 362, .inl v_a_laid_kinds)), (a_laid_values, .inl (ka_laid_values, 362, .inr (.inl v_a_laid_values)))]) (w1 := [(a_open, .inr (6, [.ref a_open_things, .int (nI v_a_open_1), .int z_open_most])), (a_open_things, .inl (ka_open_things, 181, .inl f_open_things))]) hP hD [4, 5] [0, 1, 2, 3] rfl rfl (by decide) (by decide) hk1 hFc hP1 hD1
        generalize H1 = H at hP hS ⊢
        have hP : va_P (dC, dI) vcl [(a_t, .inr (2, [.ref a_open, .ref a_laid, .int z_begun])), (a_laid, .inr (11, [.ref a_laid_kinds, .ref a_laid_values, .int (nI v_a_laid_2)])), (a_laid_kinds, .inl (ka_laid_kinds, 362, .inl v_a_laid_kinds)), (a_laid_values, .inl (ka_laid_values, 362, .inr (.inl v_a_laid_values))), (a_open, .inr (6, [.ref a_open_things, .int (nI v_a_open_1), .int z_open_most])), (a_open_things, .inl (ka_open_things, 181, .inl f_open_things))] H := hP
        have hD : va_D A [(a_t, .inr (2, [.ref a_open, .ref a_laid, .int z_begun])), (a_laid, .inr (11, [.ref a_laid_kinds, .ref a_laid_values, .int (nI v_a_laid_2)])), (a_laid_kinds, .inl (ka_laid_kinds, 362, .inl v_a_laid_kinds)), (a_laid_values, .inl (ka_laid_values, 362, .inr (.inl v_a_laid_values))), (a_open, .inr (6, [.ref a_open_things, .int (nI v_a_open_1), .int z_open_most])), (a_open_things, .inl (ka_open_things, 181, .inl f_open_things))] := hD
        refine lv_iconst (v := (-1)) hx hb d_Blocks_closeBlocks_42 (by decide) ?_
        refine lv_icmp_eq (tgt := 49) hx hb d_Blocks_closeBlocks_43 (by decide) (fun h4 => ?_) (fun h4 => ?_)
        · have e43 := h4
          have o1 := tpC_i h4 (by decide)
          refine lv_aload_n hx hb d_Blocks_closeBlocks_49 rfl (lv_at hl 1 rfl) ?_
          refine va_get (D := (dC, dI)) (ci := 2) (v := .ref a_open) (C := R_Blocks) (T := F_Blocks) (N := 3) hx hb hz zu_Blocks hown hK hP 0 rfl rfl 0 (by decide) (hz (.fieldLink R_Blocks 12 "LayoutFront$Blocks" "open" "LLayoutFront$Open;") zm_183) (fun _ h9 => h9) rfl d_Blocks_closeBlocks_50 ?_
          have hPc := hP.sub (ws' := [(a_open, .inr (6, [.ref a_open_things, .int (nI v_a_open_1), .int z_open_most]))]) [4] rfl
          have hDc := hD.sub (ws' := [(a_open, .inr (6, [.ref a_open_things, .int (nI v_a_open_1), .int z_open_most]))]) [4] (by decide) rfl
          have hKc := hK.sub (tys' := []) [] rfl
          have hFc := va_free (wc := [(a_open, .inr (6, [.ref a_open_things, .int (nI v_a_open_1), .int z_open_most]))]) hD hS hA [4] rfl
          refine va_callv (va_runV (As := []) (rest := []) ⟨hx, hb, hml, hown, hz⟩ (s_Open_pop6 l dC dI H.size a_open a_open_things v_a_open_1 z_open_most (by first | omega | assumption | exact Or.inl rfl | exact Or.inr rfl | decide)) (cwV 0 hz (zV zm_284 zm_285 zm_286 zm_177 zm_287) rfl rfl rfl (by decide +kernel) ⟨Nat.le_of_ble_eq_true rfl, Nat.le_of_ble_eq_true rfl⟩) ⟨fun a U g mk q => by obtain ⟨q0, q1, qP, qK, qD⟩ := q; exact ⟨q0, q1, qP, va_K.moved (u := U) (U := U.calling g mk a) (Vm.Alike.refl U.vm) qK, qD⟩, va_recv (q := (R_Open, F_Open, 3)) (q0 := 4) (ci := 6) hK hP rfl rfl, fun U hU hW => ⟨rfl, by rw [hU], by rw [hU]; exact hPc, va_K.moved hW.alike hKc, hDc.weaken (fun _ _ _ _ => trivial)⟩⟩ rfl rfl hl.1 rfl (lv_room (Nat.le_of_ble_eq_true rfl)) d_Blocks_closeBlocks_53 ⟨Nat.zero_le _, Nat.zero_le _⟩) hS (fun q _ h => hFc q h) hFc (fun u t H1 locs ht hvm hw hB hz1 hk1 hS => ?_)
          obtain ⟨g5, hb_g5, hq0_53, hP1, hK1, hD1⟩ := hB
          subst g5
          rw [ht] at hP1
          obtain ⟨hP, hD⟩ := va_join (wr := [(a_t, .inr (2, [.ref a_open, .ref a_laid, .int z_begun])), (a_laid, .inr (11, [.ref a_laid_kinds, .ref a_laid_values, .int (nI v_a_laid_2)])), (a_laid_kinds, .inl (ka_laid_kinds, 362, .inl v_a_laid_kinds)), (a_laid_values, .inl (ka_laid_values, 362, .inr (.inl v_a_laid_values))), (a_open_things, .inl (ka_open_things, 181, .inl f_open_things))]) (w1 := [(a_open, .inr (6, [.ref a_open_things, .int (nI (v_a_open_1 - 1)), .int z_open_most]))]) hP hD [4] [0, 1, 2, 3, 5] rfl rfl (by decide) (by decide) hk1 hFc hP1 hD1
          generalize H1 = H at hP hS ⊢
          have hP : va_P (dC, dI) vcl [(a_t, .inr (2, [.ref a_open, .ref a_laid, .int z_begun])), (a_laid, .inr (11, [.ref a_laid_kinds, .ref a_laid_values, .int (nI v_a_laid_2)])), (a_laid_kinds, .inl (ka_laid_kinds, 362, .inl v_a_laid_kinds)), (a_laid_values, .inl (ka_laid_values, 362, .inr (.inl v_a_laid_values))), (a_open_things, .inl (ka_open_things, 181, .inl f_open_things)), (a_open, .inr (6, [.ref a_open_things, .int (nI (v_a_open_1 - 1)), .int z_open_most]))] H := hP
          have hD : va_D A [(a_t, .inr (2, [.ref a_open, .ref a_laid, .int z_begun])), (a_laid, .inr (11, [.ref a_laid_kinds, .ref a_laid_values, .int (nI v_a_laid_2)])), (a_laid_kinds, .inl (ka_laid_kinds, 362, .inl v_a_laid_kinds)), (a_laid_values, .inl (ka_laid_values, 362, .inr (.inl v_a_laid_values))), (a_open_things, .inl (ka_open_things, 181, .inl f_open_things)), (a_open, .inr (6, [.ref a_open_things, .int (nI (v_a_open_1 - 1)), .int z_open_most]))] := hD
          refine lv_iinc (k := 0) (v := (nI (k2 - 1))) hx hb d_Blocks_closeBlocks_56 hl rfl (xr_dec (k := k2) (by omega)) (by decide) rfl (fun ls hl => ?_)
          have hl : lv_has ls 3 [(2, .int (nI (k2 - 1))), (0, .ref a_t), (1, .int y0)] := hl
          refine lv_goto (tgt := 8) hx hb d_Blocks_closeBlocks_59 (by decide) ?_
          have hP9 := hP.sub (ws' := [(a_t, .inr (2, [.ref a_open, .ref a_laid, .int z_begun])), (a_open_things, .inl (ka_open_things, 181, .inl f_open_things)), (a_laid, .inr (11, [.ref a_laid_kinds, .ref a_laid_values, .int (nI v_a_laid_2)])), (a_laid_kinds, .inl (ka_laid_kinds, 362, .inl v_a_laid_kinds)), (a_laid_values, .inl (ka_laid_values, 362, .inr (.inl v_a_laid_values))), (a_open, .inr (6, [.ref a_open_things, .int (nI (v_a_open_1 - 1)), .int z_open_most]))]) [0, 4, 1, 2, 3, 5] rfl
          have hD9 := hD.sub (ws' := [(a_t, .inr (2, [.ref a_open, .ref a_laid, .int z_begun])), (a_open_things, .inl (ka_open_things, 181, .inl f_open_things)), (a_laid, .inr (11, [.ref a_laid_kinds, .ref a_laid_values, .int (nI v_a_laid_2)])), (a_laid_kinds, .inl (ka_laid_kinds, 362, .inl v_a_laid_kinds)), (a_laid_values, .inl (ka_laid_values, 362, .inr (.inl v_a_laid_values))), (a_open, .inr (6, [.ref a_open_things, .int (nI (v_a_open_1 - 1)), .int z_open_most]))]) [0, 4, 1, 2, 3, 5] (by decide) rfl
          exact ih8 ((k2 - 1), v_a_laid_2, v_a_laid_kinds, v_a_laid_values, (v_a_open_1 - 1)) (by show ((k2 - 1)) < k2; omega) _ _ _ ⟨by show ((k2 - 1)) ≤ 181; first | omega | assumption | exact Or.inl rfl | exact Or.inr rfl | decide, by show v_a_laid_2 ≤ 362; first | omega | assumption | exact Or.inl rfl | exact Or.inr rfl | decide, by show ((v_a_open_1 - 1)) ≤ 181; first | omega | assumption | exact Or.inl rfl | exact Or.inr rfl | decide, by show ((v_a_open_1 - 1)) ≤ ((k2 - 1)); first | omega | assumption | exact Or.inl rfl | exact Or.inr rfl | decide, by show ((v_a_open_1 - 1)) ≤ n_open_size; first | omega | assumption | exact Or.inl rfl | exact Or.inr rfl | decide, by show lvL (decide (¬ y0 = 0)) (stk f_open_things ((v_a_open_1 - 1))) (tks v_a_laid_kinds v_a_laid_values v_a_laid_2) = lvL (decide (¬ y0 = 0)) (stk f_open_things n_open_size) (tks f_laid_kinds f_laid_values n_laid_size); exact (vC_b e43 (decide_eq_true e32)).trans iE, by show pt (stk f_open_things ((v_a_open_1 - 1)), tks v_a_laid_kinds v_a_laid_values v_a_laid_2, z_open_most) ≤ pt (stk f_open_things n_open_size, tks f_laid_kinds f_laid_values n_laid_size, z_open_most); rw [pC_b e19 o1]; exact iP, hl, hP9, hD9, hS⟩
        · have e43 := h4
          refine lv_goto (tgt := 62) hx hb d_Blocks_closeBlocks_46 (by decide) ?_
          have hP9 := hP.sub (ws' := [(a_t, .inr (2, [.ref a_open, .ref a_laid, .int z_begun])), (a_open, .inr (6, [.ref a_open_things, .int (nI v_a_open_1), .int z_open_most])), (a_open_things, .inl (ka_open_things, 181, .inl f_open_things)), (a_laid, .inr (11, [.ref a_laid_kinds, .ref a_laid_values, .int (nI v_a_laid_2)])), (a_laid_kinds, .inl (ka_laid_kinds, 362, .inl v_a_laid_kinds)), (a_laid_values, .inl (ka_laid_values, 362, .inr (.inl v_a_laid_values)))]) [0, 4, 5, 1, 2, 3] rfl
          have hD9 := hD.sub (ws' := [(a_t, .inr (2, [.ref a_open, .ref a_laid, .int z_begun])), (a_open, .inr (6, [.ref a_open_things, .int (nI v_a_open_1), .int z_open_most])), (a_open_things, .inl (ka_open_things, 181, .inl f_open_things)), (a_laid, .inr (11, [.ref a_laid_kinds, .ref a_laid_values, .int (nI v_a_laid_2)])), (a_laid_kinds, .inl (ka_laid_kinds, 362, .inl v_a_laid_kinds)), (a_laid_values, .inl (ka_laid_values, 362, .inr (.inl v_a_laid_values)))]) [0, 4, 5, 1, 2, 3] (by decide) rfl
          exact W.vret hx hb hr (fun t ht hW => ⟨⟨(), rfl, trivial, v_a_open_1, v_a_laid_2, v_a_laid_kinds, v_a_laid_values, by first | omega | assumption | exact Or.inl rfl | exact Or.inr rfl | decide, by first | omega | assumption | exact Or.inl rfl | exact Or.inr rfl | decide, by exact (vC_z e19 (fun z => e43 z.1)).trans iE, by rw [ht]; exact hP9, va_K.moved hW.alike hK, hD9⟩, hS.F ht⟩) hS.2.2 d_Blocks_closeBlocks_62
    · have e19 := Int32.not_le.mp h2
      have pp := pC_a (kk := v_a_laid_kinds) (vv := v_a_laid_values) (t := v_a_laid_2) (hi := z_open_most) e19
      have o1 := tpC_p e19
      refine lv_aload_n hx hb d_Blocks_closeBlocks_22 rfl (lv_at hl 1 rfl) ?_
      refine lv_bipush (v := 125) hx hb d_Blocks_closeBlocks_23 (by decide) ?_
      have hPc := hP.sub (ws' := [(a_t, .inr (2, [.ref a_open, .ref a_laid, .int z_begun])), (a_laid, .inr (11, [.ref a_laid_kinds, .ref a_laid_values, .int (nI v_a_laid_2)])), (a_laid_kinds, .inl (ka_laid_kinds, 362, .inl v_a_laid_kinds)), (a_laid_values, .inl (ka_laid_values, 362, .inr (.inl v_a_laid_values)))]) [0, 1, 2, 3] rfl
      have hDc := hD.sub (ws' := [(a_t, .inr (2, [.ref a_open, .ref a_laid, .int z_begun])), (a_laid, .inr (11, [.ref a_laid_kinds, .ref a_laid_values, .int (nI v_a_laid_2)])), (a_laid_kinds, .inl (ka_laid_kinds, 362, .inl v_a_laid_kinds)), (a_laid_values, .inl (ka_laid_values, 362, .inr (.inl v_a_laid_values)))]) [0, 1, 2, 3] (by decide) rfl
      have hKc := hK.sub (tys' := [(ka_laid_kinds, .int), (ka_laid_values, .long)]) [1, 2] rfl
      have hFc := va_free (wc := [(a_t, .inr (2, [.ref a_open, .ref a_laid, .int z_begun])), (a_laid, .inr (11, [.ref a_laid_kinds, .ref a_laid_values, .int (nI v_a_laid_2)])), (a_laid_kinds, .inl (ka_laid_kinds, 362, .inl v_a_laid_kinds)), (a_laid_values, .inl (ka_laid_values, 362, .inr (.inl v_a_laid_values)))]) hD hS hA [0, 1, 2, 3] rfl
      refine va_callv (va_runV (As := [.int 125]) (rest := []) ⟨hx, hb, hml, hown, hz⟩ (s_Blocks_putIn6 l dC dI H.size a_t a_open a_laid a_laid_kinds v_a_laid_kinds a_laid_values v_a_laid_values v_a_laid_2 z_begun 125 ka_laid_kinds ka_laid_values (by first | omega | assumption | exact Or.inl rfl | exact Or.inr rfl | decide) (by first | omega | assumption | exact Or.inl rfl | exact Or.inr rfl | decide)) (cwV 1 hz (zV zm_264 zm_265 zm_266 zm_205 zm_267) rfl rfl rfl (by decide +kernel) ⟨Nat.le_of_ble_eq_true rfl, Nat.le_of_ble_eq_true rfl⟩) ⟨fun a U g mk q => by obtain ⟨q0, q1, qP, qK, qD⟩ := q; exact ⟨q0, q1, qP, va_K.moved (u := U) (U := U.calling g mk a) (Vm.Alike.refl U.vm) qK, qD⟩, va_recv (q := (R_Blocks, F_Blocks, 3)) (q0 := 0) (ci := 2) hK hP rfl rfl, fun U hU hW => ⟨rfl, by rw [hU], by rw [hU]; exact hPc, va_K.moved hW.alike hKc, hDc.weaken (fun _ _ _ _ => trivial)⟩⟩ rfl rfl hl.1 rfl (lv_room (Nat.le_of_ble_eq_true rfl)) d_Blocks_closeBlocks_25 ⟨Nat.zero_le _, Nat.zero_le _⟩) hS (fun q _ h => hFc q h) hFc (fun u t H1 locs ht hvm hw hB hz1 hk1 hS => ?_)
      obtain ⟨g6, g7, g8, hb_g6, hq0_25, hq1_25, hq2_25, hP1, hK1, hD1⟩ := hB
      subst g6
      subst g7
      subst g8
      rw [ht] at hP1
      obtain ⟨hP, hD⟩ := va_join (wr := [(a_open, .inr (6, [.ref a_open_things, .int (nI v_a_open_1), .int z_open_most])), (a_open_things, .inl (ka_open_things, 181, .inl f_open_things))]) (w1 := [(a_t, .inr (2, [.ref a_open, .ref a_laid, .int z_begun])), (a_laid, .inr (11, [.ref a_laid_kinds, .ref a_laid_values, .int (nI (v_a_laid_2 + 1))])), (a_laid_kinds, .inl (ka_laid_kinds, 362, .inl (upd v_a_laid_kinds v_a_laid_2 4))), (a_laid_values, .inl (ka_laid_values, 362, .inr (.inl (vp_updL v_a_laid_values v_a_laid_2 (i6 125)))))]) hP hD [0, 1, 2, 3] [4, 5] rfl rfl (by decide) (by decide) hk1 hFc hP1 hD1
      generalize H1 = H at hP hS ⊢
      have hP : va_P (dC, dI) vcl [(a_open, .inr (6, [.ref a_open_things, .int (nI v_a_open_1), .int z_open_most])), (a_open_things, .inl (ka_open_things, 181, .inl f_open_things)), (a_t, .inr (2, [.ref a_open, .ref a_laid, .int z_begun])), (a_laid, .inr (11, [.ref a_laid_kinds, .ref a_laid_values, .int (nI (v_a_laid_2 + 1))])), (a_laid_kinds, .inl (ka_laid_kinds, 362, .inl (upd v_a_laid_kinds v_a_laid_2 4))), (a_laid_values, .inl (ka_laid_values, 362, .inr (.inl (vp_updL v_a_laid_values v_a_laid_2 (i6 125)))))] H := hP
      have hD : va_D A [(a_open, .inr (6, [.ref a_open_things, .int (nI v_a_open_1), .int z_open_most])), (a_open_things, .inl (ka_open_things, 181, .inl f_open_things)), (a_t, .inr (2, [.ref a_open, .ref a_laid, .int z_begun])), (a_laid, .inr (11, [.ref a_laid_kinds, .ref a_laid_values, .int (nI (v_a_laid_2 + 1))])), (a_laid_kinds, .inl (ka_laid_kinds, 362, .inl (upd v_a_laid_kinds v_a_laid_2 4))), (a_laid_values, .inl (ka_laid_values, 362, .inr (.inl (vp_updL v_a_laid_values v_a_laid_2 (i6 125)))))] := hD
      refine lv_goto (tgt := 49) hx hb d_Blocks_closeBlocks_28 (by decide) ?_
      refine lv_aload_n hx hb d_Blocks_closeBlocks_49 rfl (lv_at hl 1 rfl) ?_
      refine va_get (D := (dC, dI)) (ci := 2) (v := .ref a_open) (C := R_Blocks) (T := F_Blocks) (N := 3) hx hb hz zu_Blocks hown hK hP 2 rfl rfl 0 (by decide) (hz (.fieldLink R_Blocks 12 "LayoutFront$Blocks" "open" "LLayoutFront$Open;") zm_183) (fun _ h9 => h9) rfl d_Blocks_closeBlocks_50 ?_
      have hPc := hP.sub (ws' := [(a_open, .inr (6, [.ref a_open_things, .int (nI v_a_open_1), .int z_open_most]))]) [0] rfl
      have hDc := hD.sub (ws' := [(a_open, .inr (6, [.ref a_open_things, .int (nI v_a_open_1), .int z_open_most]))]) [0] (by decide) rfl
      have hKc := hK.sub (tys' := []) [] rfl
      have hFc := va_free (wc := [(a_open, .inr (6, [.ref a_open_things, .int (nI v_a_open_1), .int z_open_most]))]) hD hS hA [0] rfl
      refine va_callv (va_runV (As := []) (rest := []) ⟨hx, hb, hml, hown, hz⟩ (s_Open_pop6 l dC dI H.size a_open a_open_things v_a_open_1 z_open_most (by first | omega | assumption | exact Or.inl rfl | exact Or.inr rfl | decide)) (cwV 0 hz (zV zm_284 zm_285 zm_286 zm_177 zm_287) rfl rfl rfl (by decide +kernel) ⟨Nat.le_of_ble_eq_true rfl, Nat.le_of_ble_eq_true rfl⟩) ⟨fun a U g mk q => by obtain ⟨q0, q1, qP, qK, qD⟩ := q; exact ⟨q0, q1, qP, va_K.moved (u := U) (U := U.calling g mk a) (Vm.Alike.refl U.vm) qK, qD⟩, va_recv (q := (R_Open, F_Open, 3)) (q0 := 0) (ci := 6) hK hP rfl rfl, fun U hU hW => ⟨rfl, by rw [hU], by rw [hU]; exact hPc, va_K.moved hW.alike hKc, hDc.weaken (fun _ _ _ _ => trivial)⟩⟩ rfl rfl hl.1 rfl (lv_room (Nat.le_of_ble_eq_true rfl)) d_Blocks_closeBlocks_53 ⟨Nat.zero_le _, Nat.zero_le _⟩) hS (fun q _ h => hFc q h) hFc (fun u t H1 locs ht hvm hw hB hz1 hk1 hS => ?_)
      obtain ⟨g9, hb_g9, hq0_53, hP1, hK1, hD1⟩ := hB
      subst g9
      rw [ht] at hP1
      obtain ⟨hP, hD⟩ := va_join (wr := [(a_open_things, .inl (ka_open_things, 181, .inl f_open_things)), (a_t, .inr (2, [.ref a_open, .ref a_laid, .int z_begun])), (a_laid, .inr (11, [.ref a_laid_kinds, .ref a_laid_values, .int (nI (v_a_laid_2 + 1))])), (a_laid_kinds, .inl (ka_laid_kinds, 362, .inl (upd v_a_laid_kinds v_a_laid_2 4))), (a_laid_values, .inl (ka_laid_values, 362, .inr (.inl (vp_updL v_a_laid_values v_a_laid_2 (i6 125)))))]) (w1 := [(a_open, .inr (6, [.ref a_open_things, .int (nI (v_a_open_1 - 1)), .int z_open_most]))]) hP hD [0] [1, 2, 3, 4, 5] rfl rfl (by decide) (by decide) hk1 hFc hP1 hD1
      generalize H1 = H at hP hS ⊢
      have hP : va_P (dC, dI) vcl [(a_open_things, .inl (ka_open_things, 181, .inl f_open_things)), (a_t, .inr (2, [.ref a_open, .ref a_laid, .int z_begun])), (a_laid, .inr (11, [.ref a_laid_kinds, .ref a_laid_values, .int (nI (v_a_laid_2 + 1))])), (a_laid_kinds, .inl (ka_laid_kinds, 362, .inl (upd v_a_laid_kinds v_a_laid_2 4))), (a_laid_values, .inl (ka_laid_values, 362, .inr (.inl (vp_updL v_a_laid_values v_a_laid_2 (i6 125))))), (a_open, .inr (6, [.ref a_open_things, .int (nI (v_a_open_1 - 1)), .int z_open_most]))] H := hP
      have hD : va_D A [(a_open_things, .inl (ka_open_things, 181, .inl f_open_things)), (a_t, .inr (2, [.ref a_open, .ref a_laid, .int z_begun])), (a_laid, .inr (11, [.ref a_laid_kinds, .ref a_laid_values, .int (nI (v_a_laid_2 + 1))])), (a_laid_kinds, .inl (ka_laid_kinds, 362, .inl (upd v_a_laid_kinds v_a_laid_2 4))), (a_laid_values, .inl (ka_laid_values, 362, .inr (.inl (vp_updL v_a_laid_values v_a_laid_2 (i6 125))))), (a_open, .inr (6, [.ref a_open_things, .int (nI (v_a_open_1 - 1)), .int z_open_most]))] := hD
      refine lv_iinc (k := 0) (v := (nI (k2 - 1))) hx hb d_Blocks_closeBlocks_56 hl rfl (xr_dec (k := k2) (by omega)) (by decide) rfl (fun ls hl => ?_)
      have hl : lv_has ls 3 [(2, .int (nI (k2 - 1))), (0, .ref a_t), (1, .int y0)] := hl
      refine lv_goto (tgt := 8) hx hb d_Blocks_closeBlocks_59 (by decide) ?_
      have hP9 := hP.sub (ws' := [(a_t, .inr (2, [.ref a_open, .ref a_laid, .int z_begun])), (a_open_things, .inl (ka_open_things, 181, .inl f_open_things)), (a_laid, .inr (11, [.ref a_laid_kinds, .ref a_laid_values, .int (nI (v_a_laid_2 + 1))])), (a_laid_kinds, .inl (ka_laid_kinds, 362, .inl (upd v_a_laid_kinds v_a_laid_2 4))), (a_laid_values, .inl (ka_laid_values, 362, .inr (.inl (vp_updL v_a_laid_values v_a_laid_2 (i6 125))))), (a_open, .inr (6, [.ref a_open_things, .int (nI (v_a_open_1 - 1)), .int z_open_most]))]) [1, 0, 2, 3, 4, 5] rfl
      have hD9 := hD.sub (ws' := [(a_t, .inr (2, [.ref a_open, .ref a_laid, .int z_begun])), (a_open_things, .inl (ka_open_things, 181, .inl f_open_things)), (a_laid, .inr (11, [.ref a_laid_kinds, .ref a_laid_values, .int (nI (v_a_laid_2 + 1))])), (a_laid_kinds, .inl (ka_laid_kinds, 362, .inl (upd v_a_laid_kinds v_a_laid_2 4))), (a_laid_values, .inl (ka_laid_values, 362, .inr (.inl (vp_updL v_a_laid_values v_a_laid_2 (i6 125))))), (a_open, .inr (6, [.ref a_open_things, .int (nI (v_a_open_1 - 1)), .int z_open_most]))]) [1, 0, 2, 3, 4, 5] (by decide) rfl
      exact ih8 ((k2 - 1), (v_a_laid_2 + 1), (upd v_a_laid_kinds v_a_laid_2 4), (vp_updL v_a_laid_values v_a_laid_2 (i6 125)), (v_a_open_1 - 1)) (by show ((k2 - 1)) < k2; omega) _ _ _ ⟨by show ((k2 - 1)) ≤ 181; first | omega | assumption | exact Or.inl rfl | exact Or.inr rfl | decide, by show ((v_a_laid_2 + 1)) ≤ 362; first | omega | assumption | exact Or.inl rfl | exact Or.inr rfl | decide, by show ((v_a_open_1 - 1)) ≤ 181; first | omega | assumption | exact Or.inl rfl | exact Or.inr rfl | decide, by show ((v_a_open_1 - 1)) ≤ ((k2 - 1)); first | omega | assumption | exact Or.inl rfl | exact Or.inr rfl | decide, by show ((v_a_open_1 - 1)) ≤ n_open_size; first | omega | assumption | exact Or.inl rfl | exact Or.inr rfl | decide, by show lvL (decide (¬ y0 = 0)) (stk f_open_things ((v_a_open_1 - 1))) (tks ((upd v_a_laid_kinds v_a_laid_2 4)) ((vp_updL v_a_laid_values v_a_laid_2 (i6 125))) ((v_a_laid_2 + 1))) = lvL (decide (¬ y0 = 0)) (stk f_open_things n_open_size) (tks f_laid_kinds f_laid_values n_laid_size); rw [tk_i (z := 125) (by decide)]; exact (vC_a e19).trans iE, by show pt (stk f_open_things ((v_a_open_1 - 1)), tks ((upd v_a_laid_kinds v_a_laid_2 4)) ((vp_updL v_a_laid_values v_a_laid_2 (i6 125))) ((v_a_laid_2 + 1)), z_open_most) ≤ pt (stk f_open_things n_open_size, tks f_laid_kinds f_laid_values n_laid_size, z_open_most); rw [tk_i (z := 125) (by decide), pp.1]; exact iP, hl, hP9, hD9, hS⟩
set_option maxHeartbeats 4000000 in
set_option maxRecDepth 100000 in
theorem s_Blocks_begin6 (l : Launch) (dC : Nat → ClassId) (dI : Nat → Nat → Nat) (sz : Nat) (a_t : Nat) (a_open : Nat) (a_open_things : Nat) (f_open_things : Nat → Int32) (n_open_size : Nat) (z_open_most : Int32) (a_laid : Nat) (a_laid_kinds : Nat) (f_laid_kinds : Nat → Int32) (a_laid_values : Nat) (f_laid_values : Nat → Int64) (n_laid_size : Nat) (z_begun : Int32) (y0 : Int32) (ka_open_things : ClassId) (ka_laid_kinds : ClassId) (ka_laid_values : ClassId) (b_open_size : n_open_size ≤ 181) (b_laid_size : n_laid_size ≤ 362) (hp0 : 0 ≤ y0) (hp1 : pt (stk f_open_things n_open_size, tks f_laid_kinds f_laid_values n_laid_size, z_open_most) + 2 ≤ 362) (hp2 : 0 < y0 → pt (stk f_open_things n_open_size, tks f_laid_kinds f_laid_values n_laid_size, z_open_most) + 3 ≤ 362) (hp3 : n_open_size < 181) : Met l y_Blocks_begin w_Blocks_begin ({ frames := 3, cells := 0, slots := 0, locals := 66 }) (va_Pc [.ref a_t, .int y0] (fun U => U.heap.size = sz ∧ va_P (dC, dI) vcl [(a_t, .inr (2, [.ref a_open, .ref a_laid, .int z_begun])), (a_open, .inr (6, [.ref a_open_things, .int (nI n_open_size), .int z_open_most])), (a_open_things, .inl (ka_open_things, 181, .inl f_open_things)), (a_laid, .inr (11, [.ref a_laid_kinds, .ref a_laid_values, .int (nI n_laid_size)])), (a_laid_kinds, .inl (ka_laid_kinds, 362, .inl f_laid_kinds)), (a_laid_values, .inl (ka_laid_values, 362, .inr (.inl f_laid_values)))] U.heap ∧ va_K (dC, dI) vcl [(ka_open_things, .int), (ka_laid_kinds, .int), (ka_laid_values, .long)] U ∧ va_D (fun _ => True) [(a_t, .inr (2, [.ref a_open, .ref a_laid, .int z_begun])), (a_open, .inr (6, [.ref a_open_things, .int (nI n_open_size), .int z_open_most])), (a_open_things, .inl (ka_open_things, 181, .inl f_open_things)), (a_laid, .inr (11, [.ref a_laid_kinds, .ref a_laid_values, .int (nI n_laid_size)])), (a_laid_kinds, .inl (ka_laid_kinds, 362, .inl f_laid_kinds)), (a_laid_values, .inl (ka_laid_values, 362, .inr (.inl f_laid_values)))])) (va_Qv (fun (_ : Unit) => True) (fun _ t => ∃ (w_z_begun : Int32) (w_n_open_size : Nat) (w_z_open_most : Int32) (w_f_open_things : Nat → Int32) (w_n_laid_size : Nat) (w_f_laid_kinds : Nat → Int32) (w_f_laid_values : Nat → Int64), (w_n_open_size ≤ 181) ∧ (w_n_laid_size ≤ 362) ∧ ((stk w_f_open_things w_n_open_size, tks w_f_laid_kinds w_f_laid_values w_n_laid_size, w_z_open_most) = bgL y0 (decide (y0 = 0)) (stk f_open_things n_open_size, tks f_laid_kinds f_laid_values n_laid_size, z_open_most)) ∧ (w_z_begun = z_begun + 1) ∧ va_P (dC, dI) vcl [(a_t, .inr (2, [.ref a_open, .ref a_laid, .int w_z_begun])), (a_open, .inr (6, [.ref a_open_things, .int (nI w_n_open_size), .int w_z_open_most])), (a_open_things, .inl (ka_open_things, 181, .inl w_f_open_things)), (a_laid, .inr (11, [.ref a_laid_kinds, .ref a_laid_values, .int (nI w_n_laid_size)])), (a_laid_kinds, .inl (ka_laid_kinds, 362, .inl w_f_laid_kinds)), (a_laid_values, .inl (ka_laid_values, 362, .inr (.inl w_f_laid_values)))] t.heap ∧ va_K (dC, dI) vcl [(ka_open_things, .int), (ka_laid_kinds, .int), (ka_laid_values, .long)] t ∧ va_D (va_A [(a_t, .inr (2, [.ref a_open, .ref a_laid, .int z_begun])), (a_open, .inr (6, [.ref a_open_things, .int (nI n_open_size), .int z_open_most])), (a_open_things, .inl (ka_open_things, 181, .inl f_open_things)), (a_laid, .inr (11, [.ref a_laid_kinds, .ref a_laid_values, .int (nI n_laid_size)])), (a_laid_kinds, .inl (ka_laid_kinds, 362, .inl f_laid_kinds)), (a_laid_values, .inl (ka_laid_values, 362, .inr (.inl f_laid_values)))] sz) [(a_t, .inr (2, [.ref a_open, .ref a_laid, .int w_z_begun])), (a_open, .inr (6, [.ref a_open_things, .int (nI w_n_open_size), .int w_z_open_most])), (a_open_things, .inl (ka_open_things, 181, .inl w_f_open_things)), (a_laid, .inr (11, [.ref a_laid_kinds, .ref a_laid_values, .int (nI w_n_laid_size)])), (a_laid_kinds, .inl (ka_laid_kinds, 362, .inl w_f_laid_kinds)), (a_laid_values, .inl (ka_laid_values, 362, .inr (.inl w_f_laid_values)))]) (va_A [(a_t, .inr (2, [.ref a_open, .ref a_laid, .int z_begun])), (a_open, .inr (6, [.ref a_open_things, .int (nI n_open_size), .int z_open_most])), (a_open_things, .inl (ka_open_things, 181, .inl f_open_things)), (a_laid, .inr (11, [.ref a_laid_kinds, .ref a_laid_values, .int (nI n_laid_size)])), (a_laid_kinds, .inl (ka_laid_kinds, 362, .inl f_laid_kinds)), (a_laid_values, .inl (ka_laid_values, 362, .inr (.inl f_laid_values)))] sz)) 0 0 (va_A [(a_t, .inr (2, [.ref a_open, .ref a_laid, .int z_begun])), (a_open, .inr (6, [.ref a_open_things, .int (nI n_open_size), .int z_open_most])), (a_open_things, .inl (ka_open_things, 181, .inl f_open_things)), (a_laid, .inr (11, [.ref a_laid_kinds, .ref a_laid_values, .int (nI n_laid_size)])), (a_laid_kinds, .inl (ka_laid_kinds, 362, .inl f_laid_kinds)), (a_laid_values, .inl (ka_laid_values, 362, .inr (.inl f_laid_values)))] sz) := by
  refine Met.ofW (cc := b_Blocks_begin) (maxL := 2) (ret := none) (by decide) rfl ?_
  intro p e s m args below meth c s₁ B hml hv
  obtain ⟨rfl, hsz, hP, hK, hD0⟩ := hv
  have hx := B.exec
  have hb := B.bytes
  have hr := B.returns
  have hts := atoms_spec (ws := w_Blocks_begin) B.pre
  have hz : ∀ w ∈ wz, w.before _ s = true := fun w h => hts w (List.mem_cons_of_mem _ h)
  have hown : s.vm.findClass R_Blocks = some m.cls := findClass_of_methodNamed B.named
  have hlocks := B.notSynchronized
  subst hsz
  have hD := hD0.self (sz := s.heap.size)
  generalize hAe : va_A [(a_t, .inr (2, [.ref a_open, .ref a_laid, .int z_begun])), (a_open, .inr (6, [.ref a_open_things, .int (nI n_open_size), .int z_open_most])), (a_open_things, .inl (ka_open_things, 181, .inl f_open_things)), (a_laid, .inr (11, [.ref a_laid_kinds, .ref a_laid_values, .int (nI n_laid_size)])), (a_laid_kinds, .inl (ka_laid_kinds, 362, .inl f_laid_kinds)), (a_laid_values, .inl (ka_laid_values, 362, .inr (.inl f_laid_values)))] s.heap.size = A at hD ⊢
  have hA : ∀ q : Nat, s.heap.size ≤ q → A q := fun q h => by rw [← hAe]; exact Or.inr h
  have hS : va_S A s.heap s.heap [] := va_S.rf
  have hP : va_P (dC, dI) vcl [(a_t, .inr (2, [.ref a_open, .ref a_laid, .int z_begun])), (a_open, .inr (6, [.ref a_open_things, .int (nI n_open_size), .int z_open_most])), (a_open_things, .inl (ka_open_things, 181, .inl f_open_things)), (a_laid, .inr (11, [.ref a_laid_kinds, .ref a_laid_values, .int (nI n_laid_size)])), (a_laid_kinds, .inl (ka_laid_kinds, 362, .inl f_laid_kinds)), (a_laid_values, .inl (ka_laid_values, 362, .inr (.inl f_laid_values)))] s.heap := hP
  have hl := lv_entry ([.ref a_t, .int y0]) (n := 2) (Nat.le_of_ble_eq_true rfl)
  rw [lg_entry_eq]
  generalize (lg_sl ([.ref a_t, .int y0]) ++ List.replicate (2 - (lg_sl ([.ref a_t, .int y0])).length) Slot.unset).toArray = ls at hl ⊢
  have hl : lv_has ls 2 [(0, .ref a_t), (1, .int y0)] := hl
  refine lv_aload_n hx hb d_Blocks_begin_0 rfl (lv_at hl 0 rfl) ?_
  refine lv_dup hx hb d_Blocks_begin_1 rfl ?_
  refine va_get (D := (dC, dI)) (ci := 2) (v := .int z_begun) (C := R_Blocks) (T := F_Blocks) (N := 3) hx hb hz zu_Blocks hown hK hP 0 rfl rfl 2 (by decide) (hz (.fieldLink R_Blocks 27 "LayoutFront$Blocks" "begun" "I") zm_188) (fun _ h9 => h9) rfl d_Blocks_begin_2 ?_
  refine lv_iconst (v := 1) hx hb d_Blocks_begin_5 (by decide) ?_
  refine xr_iadd (v := (z_begun + 1)) hx hb d_Blocks_begin_6 rfl ?_
  refine va_put (D := (dC, dI)) (ci := 2) (v := .int (z_begun + 1)) (ty := .int) (C := R_Blocks) (T := F_Blocks) (N := 3) hx hb hz zu_Blocks t_Blocks t_Blocks_ok n_Blocks hown hK hP hD hS 0 rfl rfl 2 (by decide) (hz (.fieldLink R_Blocks 27 "LayoutFront$Blocks" "begun" "I") zm_188) (fun _ h9 => h9) rfl (by decide +kernel) rfl rfl (Nat.le_of_ble_eq_true rfl) d_Blocks_begin_7 (fun H locs hP hD hS => ?_)
  have hP : va_P (dC, dI) vcl [(a_t, .inr (2, [.ref a_open, .ref a_laid, .int (z_begun + 1)])), (a_open, .inr (6, [.ref a_open_things, .int (nI n_open_size), .int z_open_most])), (a_open_things, .inl (ka_open_things, 181, .inl f_open_things)), (a_laid, .inr (11, [.ref a_laid_kinds, .ref a_laid_values, .int (nI n_laid_size)])), (a_laid_kinds, .inl (ka_laid_kinds, 362, .inl f_laid_kinds)), (a_laid_values, .inl (ka_laid_values, 362, .inr (.inl f_laid_values)))] H := hP
  have hD : va_D A [(a_t, .inr (2, [.ref a_open, .ref a_laid, .int (z_begun + 1)])), (a_open, .inr (6, [.ref a_open_things, .int (nI n_open_size), .int z_open_most])), (a_open_things, .inl (ka_open_things, 181, .inl f_open_things)), (a_laid, .inr (11, [.ref a_laid_kinds, .ref a_laid_values, .int (nI n_laid_size)])), (a_laid_kinds, .inl (ka_laid_kinds, 362, .inl f_laid_kinds)), (a_laid_values, .inl (ka_laid_values, 362, .inr (.inl f_laid_values)))] := hD
  refine lv_aload_n hx hb d_Blocks_begin_10 rfl (lv_at hl 0 rfl) ?_
  refine lv_bipush (v := 123) hx hb d_Blocks_begin_11 (by decide) ?_
  have hPc := hP.sub (ws' := [(a_t, .inr (2, [.ref a_open, .ref a_laid, .int (z_begun + 1)])), (a_laid, .inr (11, [.ref a_laid_kinds, .ref a_laid_values, .int (nI n_laid_size)])), (a_laid_kinds, .inl (ka_laid_kinds, 362, .inl f_laid_kinds)), (a_laid_values, .inl (ka_laid_values, 362, .inr (.inl f_laid_values)))]) [0, 3, 4, 5] rfl
  have hDc := hD.sub (ws' := [(a_t, .inr (2, [.ref a_open, .ref a_laid, .int (z_begun + 1)])), (a_laid, .inr (11, [.ref a_laid_kinds, .ref a_laid_values, .int (nI n_laid_size)])), (a_laid_kinds, .inl (ka_laid_kinds, 362, .inl f_laid_kinds)), (a_laid_values, .inl (ka_laid_values, 362, .inr (.inl f_laid_values)))]) [0, 3, 4, 5] (by decide) rfl
  have hKc := hK.sub (tys' := [(ka_laid_kinds, .int), (ka_laid_values, .long)]) [1, 2] rfl
  have hFc := va_free (wc := [(a_t, .inr (2, [.ref a_open, .ref a_laid, .int (z_begun + 1)])), (a_laid, .inr (11, [.ref a_laid_kinds, .ref a_laid_values, .int (nI n_laid_size)])), (a_laid_kinds, .inl (ka_laid_kinds, 362, .inl f_laid_kinds)), (a_laid_values, .inl (ka_laid_values, 362, .inr (.inl f_laid_values)))]) hD hS hA [0, 3, 4, 5] rfl
  refine va_callv (va_runV (As := [.int 123]) (rest := []) ⟨hx, hb, hml, hown, hz⟩ (s_Blocks_putIn6 l dC dI H.size a_t a_open a_laid a_laid_kinds f_laid_kinds a_laid_values f_laid_values n_laid_size ((z_begun + 1)) 123 ka_laid_kinds ka_laid_values (by have p9 := pt_t (row := f_open_things) (o := n_open_size) (hi := z_open_most) (kk := f_laid_kinds) (vv := f_laid_values) (t := n_laid_size); omega) (by have p9 := pt_t (row := f_open_things) (o := n_open_size) (hi := z_open_most) (kk := f_laid_kinds) (vv := f_laid_values) (t := n_laid_size); omega)) (cwV 1 hz (zV zm_264 zm_265 zm_266 zm_205 zm_267) rfl rfl rfl (by decide +kernel) ⟨Nat.le_of_ble_eq_true rfl, Nat.le_of_ble_eq_true rfl⟩) ⟨fun a U g mk q => by obtain ⟨q0, q1, qP, qK, qD⟩ := q; exact ⟨q0, q1, qP, va_K.moved (u := U) (U := U.calling g mk a) (Vm.Alike.refl U.vm) qK, qD⟩, va_recv (q := (R_Blocks, F_Blocks, 3)) (q0 := 0) (ci := 2) hK hP rfl rfl, fun U hU hW => ⟨rfl, by rw [hU], by rw [hU]; exact hPc, va_K.moved hW.alike hKc, hDc.weaken (fun _ _ _ _ => trivial)⟩⟩ rfl rfl hl.1 rfl (lv_room (Nat.le_of_ble_eq_true rfl)) d_Blocks_begin_13 ⟨Nat.zero_le _, Nat.zero_le _⟩) hS (fun q _ h => hFc q h) hFc (fun u t H1 locs ht hvm hw hB hz1 hk1 hS => ?_)
  obtain ⟨g1, g2, g3, hb_g1, hq0_13, hq1_13, hq2_13, hP1, hK1, hD1⟩ := hB
  subst g1
  subst g2
  subst g3
  rw [ht] at hP1
  obtain ⟨hP, hD⟩ := va_join (wr := [(a_open, .inr (6, [.ref a_open_things, .int (nI n_open_size), .int z_open_most])), (a_open_things, .inl (ka_open_things, 181, .inl f_open_things))]) (w1 := [(a_t, .inr (2, [.ref a_open, .ref a_laid, .int (z_begun + 1)])), (a_laid, .inr (11, [.ref a_laid_kinds, .ref a_laid_values, .int (nI (n_laid_size + 1))])), (a_laid_kinds, .inl (ka_laid_kinds, 362, .inl (upd f_laid_kinds n_laid_size 4))), (a_laid_values, .inl (ka_laid_values, 362, .inr (.inl (vp_updL f_laid_values n_laid_size (i6 123)))))]) hP hD [0, 3, 4, 5] [1, 2] rfl rfl (by decide) (by decide) hk1 hFc hP1 hD1
  generalize H1 = H at hP hS ⊢
  have hP : va_P (dC, dI) vcl [(a_open, .inr (6, [.ref a_open_things, .int (nI n_open_size), .int z_open_most])), (a_open_things, .inl (ka_open_things, 181, .inl f_open_things)), (a_t, .inr (2, [.ref a_open, .ref a_laid, .int (z_begun + 1)])), (a_laid, .inr (11, [.ref a_laid_kinds, .ref a_laid_values, .int (nI (n_laid_size + 1))])), (a_laid_kinds, .inl (ka_laid_kinds, 362, .inl (upd f_laid_kinds n_laid_size 4))), (a_laid_values, .inl (ka_laid_values, 362, .inr (.inl (vp_updL f_laid_values n_laid_size (i6 123)))))] H := hP
  have hD : va_D A [(a_open, .inr (6, [.ref a_open_things, .int (nI n_open_size), .int z_open_most])), (a_open_things, .inl (ka_open_things, 181, .inl f_open_things)), (a_t, .inr (2, [.ref a_open, .ref a_laid, .int (z_begun + 1)])), (a_laid, .inr (11, [.ref a_laid_kinds, .ref a_laid_values, .int (nI (n_laid_size + 1))])), (a_laid_kinds, .inl (ka_laid_kinds, 362, .inl (upd f_laid_kinds n_laid_size 4))), (a_laid_values, .inl (ka_laid_values, 362, .inr (.inl (vp_updL f_laid_values n_laid_size (i6 123)))))] := hD
  refine lv_iload_n hx hb d_Blocks_begin_16 rfl (lv_at hl 1 rfl) ?_
  refine lv_aload_n hx hb d_Blocks_begin_17 rfl (lv_at hl 0 rfl) ?_
  refine va_get (D := (dC, dI)) (ci := 2) (v := .ref a_open) (C := R_Blocks) (T := F_Blocks) (N := 3) hx hb hz zu_Blocks hown hK hP 2 rfl rfl 0 (by decide) (hz (.fieldLink R_Blocks 12 "LayoutFront$Blocks" "open" "LLayoutFront$Open;") zm_183) (fun _ h9 => h9) rfl d_Blocks_begin_18 ?_
  have hPc := hP.sub (ws' := [(a_open, .inr (6, [.ref a_open_things, .int (nI n_open_size), .int z_open_most])), (a_open_things, .inl (ka_open_things, 181, .inl f_open_things))]) [0, 1] rfl
  have hDc := hD.sub (ws' := [(a_open, .inr (6, [.ref a_open_things, .int (nI n_open_size), .int z_open_most])), (a_open_things, .inl (ka_open_things, 181, .inl f_open_things))]) [0, 1] (by decide) rfl
  have hKc := hK.sub (tys' := [(ka_open_things, .int)]) [0] rfl
  have hFc := va_free (wc := [(a_open, .inr (6, [.ref a_open_things, .int (nI n_open_size), .int z_open_most])), (a_open_things, .inl (ka_open_things, 181, .inl f_open_things))]) hD hS hA [0, 1] rfl
  refine va_calli (va_runV (As := []) (rest := [.int y0]) ⟨hx, hb, hml, hown, hz⟩ (s_Open_latestColumn6 l dC dI H.size a_open a_open_things f_open_things n_open_size z_open_most ka_open_things (by first | omega | assumption | exact Or.inl rfl | exact Or.inr rfl | decide)) (cwV 0 hz (zV zm_268 zm_269 zm_270 zm_177 zm_271) rfl rfl rfl (by decide +kernel) ⟨Nat.le_of_ble_eq_true rfl, Nat.le_of_ble_eq_true rfl⟩) ⟨fun a U g mk q => by obtain ⟨q0, q1, qP, qK, qD⟩ := q; exact ⟨q0, q1, qP, va_K.moved (u := U) (U := U.calling g mk a) (Vm.Alike.refl U.vm) qK, qD⟩, va_recv (q := (R_Open, F_Open, 3)) (q0 := 0) (ci := 6) hK hP rfl rfl, fun U hU hW => ⟨rfl, by rw [hU], by rw [hU]; exact hPc, va_K.moved hW.alike hKc, hDc.weaken (fun _ _ _ _ => trivial)⟩⟩ rfl rfl hl.1 rfl (lv_room (Nat.le_of_ble_eq_true rfl)) d_Blocks_begin_21 ⟨Nat.zero_le _, Nat.zero_le _⟩) hS (fun q _ h => hFc q h) hFc (fun r u t H1 locs ht hvm hw hB hz1 hk1 hS => ?_)
  obtain ⟨hP1, hK1, hD1⟩ := hB
  subst r
  rw [ht] at hP1
  obtain ⟨hP, hD⟩ := va_join (wr := [(a_t, .inr (2, [.ref a_open, .ref a_laid, .int (z_begun + 1)])), (a_laid, .inr (11, [.ref a_laid_kinds, .ref a_laid_values, .int (nI (n_laid_size + 1))])), (a_laid_kinds, .inl (ka_laid_kinds, 362, .inl (upd f_laid_kinds n_laid_size 4))), (a_laid_values, .inl (ka_laid_values, 362, .inr (.inl (vp_updL f_laid_values n_laid_size (i6 123)))))]) (w1 := [(a_open, .inr (6, [.ref a_open_things, .int (nI n_open_size), .int z_open_most])), (a_open_things, .inl (ka_open_things, 181, .inl f_open_things))]) hP hD [0, 1] [2, 3, 4, 5] rfl rfl (by decide) (by decide) hk1 hFc hP1 hD1
  generalize H1 = H at hP hS ⊢
  have hP : va_P (dC, dI) vcl [(a_t, .inr (2, [.ref a_open, .ref a_laid, .int (z_begun + 1)])), (a_laid, .inr (11, [.ref a_laid_kinds, .ref a_laid_values, .int (nI (n_laid_size + 1))])), (a_laid_kinds, .inl (ka_laid_kinds, 362, .inl (upd f_laid_kinds n_laid_size 4))), (a_laid_values, .inl (ka_laid_values, 362, .inr (.inl (vp_updL f_laid_values n_laid_size (i6 123))))), (a_open, .inr (6, [.ref a_open_things, .int (nI n_open_size), .int z_open_most])), (a_open_things, .inl (ka_open_things, 181, .inl f_open_things))] H := hP
  have hD : va_D A [(a_t, .inr (2, [.ref a_open, .ref a_laid, .int (z_begun + 1)])), (a_laid, .inr (11, [.ref a_laid_kinds, .ref a_laid_values, .int (nI (n_laid_size + 1))])), (a_laid_kinds, .inl (ka_laid_kinds, 362, .inl (upd f_laid_kinds n_laid_size 4))), (a_laid_values, .inl (ka_laid_values, 362, .inr (.inl (vp_updL f_laid_values n_laid_size (i6 123))))), (a_open, .inr (6, [.ref a_open_things, .int (nI n_open_size), .int z_open_most])), (a_open_things, .inl (ka_open_things, 181, .inl f_open_things))] := hD
  refine lv_icmp_le (tgt := 38) hx hb d_Blocks_begin_24 (by decide) (fun h4 => ?_) (fun h4 => ?_)
  · have e24 := h4
    refine lv_aload_n hx hb d_Blocks_begin_38 rfl (lv_at hl 0 rfl) ?_
    refine lv_bipush (v := 125) hx hb d_Blocks_begin_39 (by decide) ?_
    have hPc := hP.sub (ws' := [(a_t, .inr (2, [.ref a_open, .ref a_laid, .int (z_begun + 1)])), (a_laid, .inr (11, [.ref a_laid_kinds, .ref a_laid_values, .int (nI (n_laid_size + 1))])), (a_laid_kinds, .inl (ka_laid_kinds, 362, .inl (upd f_laid_kinds n_laid_size 4))), (a_laid_values, .inl (ka_laid_values, 362, .inr (.inl (vp_updL f_laid_values n_laid_size (i6 123)))))]) [0, 1, 2, 3] rfl
    have hDc := hD.sub (ws' := [(a_t, .inr (2, [.ref a_open, .ref a_laid, .int (z_begun + 1)])), (a_laid, .inr (11, [.ref a_laid_kinds, .ref a_laid_values, .int (nI (n_laid_size + 1))])), (a_laid_kinds, .inl (ka_laid_kinds, 362, .inl (upd f_laid_kinds n_laid_size 4))), (a_laid_values, .inl (ka_laid_values, 362, .inr (.inl (vp_updL f_laid_values n_laid_size (i6 123)))))]) [0, 1, 2, 3] (by decide) rfl
    have hKc := hK.sub (tys' := [(ka_laid_kinds, .int), (ka_laid_values, .long)]) [1, 2] rfl
    have hFc := va_free (wc := [(a_t, .inr (2, [.ref a_open, .ref a_laid, .int (z_begun + 1)])), (a_laid, .inr (11, [.ref a_laid_kinds, .ref a_laid_values, .int (nI (n_laid_size + 1))])), (a_laid_kinds, .inl (ka_laid_kinds, 362, .inl (upd f_laid_kinds n_laid_size 4))), (a_laid_values, .inl (ka_laid_values, 362, .inr (.inl (vp_updL f_laid_values n_laid_size (i6 123)))))]) hD hS hA [0, 1, 2, 3] rfl
    refine va_callv (va_runV (As := [.int 125]) (rest := []) ⟨hx, hb, hml, hown, hz⟩ (s_Blocks_putIn6 l dC dI H.size a_t a_open a_laid a_laid_kinds ((upd f_laid_kinds n_laid_size 4)) a_laid_values ((vp_updL f_laid_values n_laid_size (i6 123))) ((n_laid_size + 1)) ((z_begun + 1)) 125 ka_laid_kinds ka_laid_values (by have p9 := pt_t (row := f_open_things) (o := n_open_size) (hi := z_open_most) (kk := f_laid_kinds) (vv := f_laid_values) (t := n_laid_size); omega) (by have p9 := pt_t (row := f_open_things) (o := n_open_size) (hi := z_open_most) (kk := f_laid_kinds) (vv := f_laid_values) (t := n_laid_size); omega)) (cwV 1 hz (zV zm_264 zm_265 zm_266 zm_205 zm_267) rfl rfl rfl (by decide +kernel) ⟨Nat.le_of_ble_eq_true rfl, Nat.le_of_ble_eq_true rfl⟩) ⟨fun a U g mk q => by obtain ⟨q0, q1, qP, qK, qD⟩ := q; exact ⟨q0, q1, qP, va_K.moved (u := U) (U := U.calling g mk a) (Vm.Alike.refl U.vm) qK, qD⟩, va_recv (q := (R_Blocks, F_Blocks, 3)) (q0 := 0) (ci := 2) hK hP rfl rfl, fun U hU hW => ⟨rfl, by rw [hU], by rw [hU]; exact hPc, va_K.moved hW.alike hKc, hDc.weaken (fun _ _ _ _ => trivial)⟩⟩ rfl rfl hl.1 rfl (lv_room (Nat.le_of_ble_eq_true rfl)) d_Blocks_begin_41 ⟨Nat.zero_le _, Nat.zero_le _⟩) hS (fun q _ h => hFc q h) hFc (fun u t H1 locs ht hvm hw hB hz1 hk1 hS => ?_)
    obtain ⟨g5, g6, g7, hb_g5, hq0_41, hq1_41, hq2_41, hP1, hK1, hD1⟩ := hB
    subst g5
    subst g6
    subst g7
    rw [ht] at hP1
    obtain ⟨hP, hD⟩ := va_join (wr := [(a_open, .inr (6, [.ref a_open_things, .int (nI n_open_size), .int z_open_most])), (a_open_things, .inl (ka_open_things, 181, .inl f_open_things))]) (w1 := [(a_t, .inr (2, [.ref a_open, .ref a_laid, .int (z_begun + 1)])), (a_laid, .inr (11, [.ref a_laid_kinds, .ref a_laid_values, .int (nI (((n_laid_size + 1)) + 1))])), (a_laid_kinds, .inl (ka_laid_kinds, 362, .inl (upd ((upd f_laid_kinds n_laid_size 4)) ((n_laid_size + 1)) 4))), (a_laid_values, .inl (ka_laid_values, 362, .inr (.inl (vp_updL ((vp_updL f_laid_values n_laid_size (i6 123))) ((n_laid_size + 1)) (i6 125)))))]) hP hD [0, 1, 2, 3] [4, 5] rfl rfl (by decide) (by decide) hk1 hFc hP1 hD1
    generalize H1 = H at hP hS ⊢
    have hP : va_P (dC, dI) vcl [(a_open, .inr (6, [.ref a_open_things, .int (nI n_open_size), .int z_open_most])), (a_open_things, .inl (ka_open_things, 181, .inl f_open_things)), (a_t, .inr (2, [.ref a_open, .ref a_laid, .int (z_begun + 1)])), (a_laid, .inr (11, [.ref a_laid_kinds, .ref a_laid_values, .int (nI (((n_laid_size + 1)) + 1))])), (a_laid_kinds, .inl (ka_laid_kinds, 362, .inl (upd ((upd f_laid_kinds n_laid_size 4)) ((n_laid_size + 1)) 4))), (a_laid_values, .inl (ka_laid_values, 362, .inr (.inl (vp_updL ((vp_updL f_laid_values n_laid_size (i6 123))) ((n_laid_size + 1)) (i6 125)))))] H := hP
    have hD : va_D A [(a_open, .inr (6, [.ref a_open_things, .int (nI n_open_size), .int z_open_most])), (a_open_things, .inl (ka_open_things, 181, .inl f_open_things)), (a_t, .inr (2, [.ref a_open, .ref a_laid, .int (z_begun + 1)])), (a_laid, .inr (11, [.ref a_laid_kinds, .ref a_laid_values, .int (nI (((n_laid_size + 1)) + 1))])), (a_laid_kinds, .inl (ka_laid_kinds, 362, .inl (upd ((upd f_laid_kinds n_laid_size 4)) ((n_laid_size + 1)) 4))), (a_laid_values, .inl (ka_laid_values, 362, .inr (.inl (vp_updL ((vp_updL f_laid_values n_laid_size (i6 123))) ((n_laid_size + 1)) (i6 125)))))] := hD
    refine lv_iload_n hx hb d_Blocks_begin_44 rfl (lv_at hl 1 rfl) ?_
    refine lv_if_le (tgt := 53) hx hb d_Blocks_begin_45 (by decide) (fun h8 => ?_) (fun h8 => ?_)
    · have e45 := h8
      have hP9 := hP.sub (ws' := [(a_t, .inr (2, [.ref a_open, .ref a_laid, .int (z_begun + 1)])), (a_open, .inr (6, [.ref a_open_things, .int (nI n_open_size), .int z_open_most])), (a_open_things, .inl (ka_open_things, 181, .inl f_open_things)), (a_laid, .inr (11, [.ref a_laid_kinds, .ref a_laid_values, .int (nI (((n_laid_size + 1)) + 1))])), (a_laid_kinds, .inl (ka_laid_kinds, 362, .inl (upd ((upd f_laid_kinds n_laid_size 4)) ((n_laid_size + 1)) 4))), (a_laid_values, .inl (ka_laid_values, 362, .inr (.inl (vp_updL ((vp_updL f_laid_values n_laid_size (i6 123))) ((n_laid_size + 1)) (i6 125)))))]) [2, 0, 1, 3, 4, 5] rfl
      have hD9 := hD.sub (ws' := [(a_t, .inr (2, [.ref a_open, .ref a_laid, .int (z_begun + 1)])), (a_open, .inr (6, [.ref a_open_things, .int (nI n_open_size), .int z_open_most])), (a_open_things, .inl (ka_open_things, 181, .inl f_open_things)), (a_laid, .inr (11, [.ref a_laid_kinds, .ref a_laid_values, .int (nI (((n_laid_size + 1)) + 1))])), (a_laid_kinds, .inl (ka_laid_kinds, 362, .inl (upd ((upd f_laid_kinds n_laid_size 4)) ((n_laid_size + 1)) 4))), (a_laid_values, .inl (ka_laid_values, 362, .inr (.inl (vp_updL ((vp_updL f_laid_values n_laid_size (i6 123))) ((n_laid_size + 1)) (i6 125)))))]) [2, 0, 1, 3, 4, 5] (by decide) rfl
      exact W.vret hx hb hr (fun t ht hW => ⟨⟨(), rfl, trivial, ((z_begun + 1)), n_open_size, z_open_most, f_open_things, ((((n_laid_size + 1)) + 1)), ((upd ((upd f_laid_kinds n_laid_size 4)) ((n_laid_size + 1)) 4)), ((vp_updL ((vp_updL f_laid_values n_laid_size (i6 123))) ((n_laid_size + 1)) (i6 125))), by first | omega | assumption | exact Or.inl rfl | exact Or.inr rfl | decide, by first | omega | assumption | exact Or.inl rfl | exact Or.inr rfl | decide, by exact bC_b (Int32.not_lt.mpr e24) (Int32.le_antisymm e45 hp0) tk_i2, by rfl, by rw [ht]; exact hP9, va_K.moved hW.alike hK, hD9⟩, hS.F ht⟩) hS.2.2 d_Blocks_begin_53
    · have e45 := h8
      refine lv_aload_n hx hb d_Blocks_begin_48 rfl (lv_at hl 0 rfl) ?_
      refine lv_iload_n hx hb d_Blocks_begin_49 rfl (lv_at hl 1 rfl) ?_
      have hPc := hP.sub (ws' := [(a_t, .inr (2, [.ref a_open, .ref a_laid, .int (z_begun + 1)])), (a_open, .inr (6, [.ref a_open_things, .int (nI n_open_size), .int z_open_most])), (a_open_things, .inl (ka_open_things, 181, .inl f_open_things)), (a_laid, .inr (11, [.ref a_laid_kinds, .ref a_laid_values, .int (nI (((n_laid_size + 1)) + 1))])), (a_laid_kinds, .inl (ka_laid_kinds, 362, .inl (upd ((upd f_laid_kinds n_laid_size 4)) ((n_laid_size + 1)) 4))), (a_laid_values, .inl (ka_laid_values, 362, .inr (.inl (vp_updL ((vp_updL f_laid_values n_laid_size (i6 123))) ((n_laid_size + 1)) (i6 125)))))]) [2, 0, 1, 3, 4, 5] rfl
      have hDc := hD.sub (ws' := [(a_t, .inr (2, [.ref a_open, .ref a_laid, .int (z_begun + 1)])), (a_open, .inr (6, [.ref a_open_things, .int (nI n_open_size), .int z_open_most])), (a_open_things, .inl (ka_open_things, 181, .inl f_open_things)), (a_laid, .inr (11, [.ref a_laid_kinds, .ref a_laid_values, .int (nI (((n_laid_size + 1)) + 1))])), (a_laid_kinds, .inl (ka_laid_kinds, 362, .inl (upd ((upd f_laid_kinds n_laid_size 4)) ((n_laid_size + 1)) 4))), (a_laid_values, .inl (ka_laid_values, 362, .inr (.inl (vp_updL ((vp_updL f_laid_values n_laid_size (i6 123))) ((n_laid_size + 1)) (i6 125)))))]) [2, 0, 1, 3, 4, 5] (by decide) rfl
      have hKc := hK.sub (tys' := [(ka_open_things, .int), (ka_laid_kinds, .int), (ka_laid_values, .long)]) [0, 1, 2] rfl
      have hFc := va_free (wc := [(a_t, .inr (2, [.ref a_open, .ref a_laid, .int (z_begun + 1)])), (a_open, .inr (6, [.ref a_open_things, .int (nI n_open_size), .int z_open_most])), (a_open_things, .inl (ka_open_things, 181, .inl f_open_things)), (a_laid, .inr (11, [.ref a_laid_kinds, .ref a_laid_values, .int (nI (((n_laid_size + 1)) + 1))])), (a_laid_kinds, .inl (ka_laid_kinds, 362, .inl (upd ((upd f_laid_kinds n_laid_size 4)) ((n_laid_size + 1)) 4))), (a_laid_values, .inl (ka_laid_values, 362, .inr (.inl (vp_updL ((vp_updL f_laid_values n_laid_size (i6 123))) ((n_laid_size + 1)) (i6 125)))))]) hD hS hA [2, 0, 1, 3, 4, 5] rfl
      refine va_callv (va_runV (As := [.int y0]) (rest := []) ⟨hx, hb, hml, hown, hz⟩ (s_Blocks_mark6 l dC dI H.size a_t a_open a_open_things f_open_things n_open_size z_open_most a_laid a_laid_kinds ((upd ((upd f_laid_kinds n_laid_size 4)) ((n_laid_size + 1)) 4)) a_laid_values ((vp_updL ((vp_updL f_laid_values n_laid_size (i6 123))) ((n_laid_size + 1)) (i6 125))) ((((n_laid_size + 1)) + 1)) ((z_begun + 1)) y0 ka_open_things ka_laid_kinds ka_laid_values (by first | omega | assumption | exact Or.inl rfl | exact Or.inr rfl | decide) (by have p9 := pt_t (row := f_open_things) (o := n_open_size) (hi := z_open_most) (kk := f_laid_kinds) (vv := f_laid_values) (t := n_laid_size); omega) (by exact Int32.not_le.mp e45) (by rw [pt_2]; have z9 := hp2 (Int32.not_le.mp e45); omega)) (cwV 1 hz (zV zm_259 zm_260 zm_261 zm_205 zm_262) rfl rfl rfl (by decide +kernel) ⟨Nat.le_of_ble_eq_true rfl, Nat.le_of_ble_eq_true rfl⟩) ⟨fun a U g mk q => by obtain ⟨q0, q1, qP, qK, qD⟩ := q; exact ⟨q0, q1, qP, va_K.moved (u := U) (U := U.calling g mk a) (Vm.Alike.refl U.vm) qK, qD⟩, va_recv (q := (R_Blocks, F_Blocks, 3)) (q0 := 2) (ci := 2) hK hP rfl rfl, fun U hU hW => ⟨rfl, by rw [hU], by rw [hU]; exact hPc, va_K.moved hW.alike hKc, hDc.weaken (fun _ _ _ _ => trivial)⟩⟩ rfl rfl hl.1 rfl (lv_room (Nat.le_of_ble_eq_true rfl)) d_Blocks_begin_50 ⟨Nat.zero_le _, Nat.zero_le _⟩) hS (fun q _ h => hFc q h) hFc (fun u t H1 locs ht hvm hw hB hz1 hk1 hS => ?_)
      obtain ⟨g9, g10, g11, g12, hb_g9, hb_g10, hq0_50, hP1, hK1, hD1⟩ := hB
      rw [ht] at hP1
      obtain ⟨hP, hD⟩ := va_join (wr := []) (w1 := [(a_t, .inr (2, [.ref a_open, .ref a_laid, .int (z_begun + 1)])), (a_open, .inr (6, [.ref a_open_things, .int (nI g9), .int z_open_most])), (a_open_things, .inl (ka_open_things, 181, .inl f_open_things)), (a_laid, .inr (11, [.ref a_laid_kinds, .ref a_laid_values, .int (nI g10)])), (a_laid_kinds, .inl (ka_laid_kinds, 362, .inl g11)), (a_laid_values, .inl (ka_laid_values, 362, .inr (.inl g12)))]) hP hD [2, 0, 1, 3, 4, 5] [] rfl rfl (by decide) (by decide) hk1 hFc hP1 hD1
      generalize H1 = H at hP hS ⊢
      have hP : va_P (dC, dI) vcl [(a_t, .inr (2, [.ref a_open, .ref a_laid, .int (z_begun + 1)])), (a_open, .inr (6, [.ref a_open_things, .int (nI g9), .int z_open_most])), (a_open_things, .inl (ka_open_things, 181, .inl f_open_things)), (a_laid, .inr (11, [.ref a_laid_kinds, .ref a_laid_values, .int (nI g10)])), (a_laid_kinds, .inl (ka_laid_kinds, 362, .inl g11)), (a_laid_values, .inl (ka_laid_values, 362, .inr (.inl g12)))] H := hP
      have hD : va_D A [(a_t, .inr (2, [.ref a_open, .ref a_laid, .int (z_begun + 1)])), (a_open, .inr (6, [.ref a_open_things, .int (nI g9), .int z_open_most])), (a_open_things, .inl (ka_open_things, 181, .inl f_open_things)), (a_laid, .inr (11, [.ref a_laid_kinds, .ref a_laid_values, .int (nI g10)])), (a_laid_kinds, .inl (ka_laid_kinds, 362, .inl g11)), (a_laid_values, .inl (ka_laid_values, 362, .inr (.inl g12)))] := hD
      have hP9 := hP.sub (ws' := [(a_t, .inr (2, [.ref a_open, .ref a_laid, .int (z_begun + 1)])), (a_open, .inr (6, [.ref a_open_things, .int (nI g9), .int z_open_most])), (a_open_things, .inl (ka_open_things, 181, .inl f_open_things)), (a_laid, .inr (11, [.ref a_laid_kinds, .ref a_laid_values, .int (nI g10)])), (a_laid_kinds, .inl (ka_laid_kinds, 362, .inl g11)), (a_laid_values, .inl (ka_laid_values, 362, .inr (.inl g12)))]) [0, 1, 2, 3, 4, 5] rfl
      have hD9 := hD.sub (ws' := [(a_t, .inr (2, [.ref a_open, .ref a_laid, .int (z_begun + 1)])), (a_open, .inr (6, [.ref a_open_things, .int (nI g9), .int z_open_most])), (a_open_things, .inl (ka_open_things, 181, .inl f_open_things)), (a_laid, .inr (11, [.ref a_laid_kinds, .ref a_laid_values, .int (nI g10)])), (a_laid_kinds, .inl (ka_laid_kinds, 362, .inl g11)), (a_laid_values, .inl (ka_laid_values, 362, .inr (.inl g12)))]) [0, 1, 2, 3, 4, 5] (by decide) rfl
      exact W.vret hx hb hr (fun t ht hW => ⟨⟨(), rfl, trivial, ((z_begun + 1)), g9, z_open_most, f_open_things, g10, g11, g12, by first | omega | assumption | exact Or.inl rfl | exact Or.inr rfl | decide, by first | omega | assumption | exact Or.inl rfl | exact Or.inr rfl | decide, by exact bC_c (Int32.not_lt.mpr e24) (fun z9 => by rw [z9] at e45; exact absurd (by decide) e45) tk_i2 hq0_50, by rfl, by rw [ht]; exact hP9, va_K.moved hW.alike hK, hD9⟩, hS.F ht⟩) hS.2.2 d_Blocks_begin_53
  · have e24 := h4
    refine lv_aload_n hx hb d_Blocks_begin_27 rfl (lv_at hl 0 rfl) ?_
    refine va_get (D := (dC, dI)) (ci := 2) (v := .ref a_open) (C := R_Blocks) (T := F_Blocks) (N := 3) hx hb hz zu_Blocks hown hK hP 0 rfl rfl 0 (by decide) (hz (.fieldLink R_Blocks 12 "LayoutFront$Blocks" "open" "LLayoutFront$Open;") zm_183) (fun _ h9 => h9) rfl d_Blocks_begin_28 ?_
    refine lv_iload_n hx hb d_Blocks_begin_31 rfl (lv_at hl 1 rfl) ?_
    have hPc := hP.sub (ws' := [(a_open, .inr (6, [.ref a_open_things, .int (nI n_open_size), .int z_open_most])), (a_open_things, .inl (ka_open_things, 181, .inl f_open_things))]) [4, 5] rfl
    have hDc := hD.sub (ws' := [(a_open, .inr (6, [.ref a_open_things, .int (nI n_open_size), .int z_open_most])), (a_open_things, .inl (ka_open_things, 181, .inl f_open_things))]) [4, 5] (by decide) rfl
    have hKc := hK.sub (tys' := [(ka_open_things, .int)]) [0] rfl
    have hFc := va_free (wc := [(a_open, .inr (6, [.ref a_open_things, .int (nI n_open_size), .int z_open_most])), (a_open_things, .inl (ka_open_things, 181, .inl f_open_things))]) hD hS hA [4, 5] rfl
    refine va_callv (va_runV (As := [.int y0]) (rest := []) ⟨hx, hb, hml, hown, hz⟩ (s_Open_push6 l dC dI H.size a_open a_open_things f_open_things n_open_size z_open_most y0 ka_open_things (by first | omega | assumption | exact Or.inl rfl | exact Or.inr rfl | decide) (by first | omega | assumption | exact Or.inl rfl | exact Or.inr rfl | decide)) (cwV 1 hz (zV zm_272 zm_273 zm_274 zm_177 zm_275) rfl rfl rfl (by decide +kernel) ⟨Nat.le_of_ble_eq_true rfl, Nat.le_of_ble_eq_true rfl⟩) ⟨fun a U g mk q => by obtain ⟨q0, q1, qP, qK, qD⟩ := q; exact ⟨q0, q1, qP, va_K.moved (u := U) (U := U.calling g mk a) (Vm.Alike.refl U.vm) qK, qD⟩, va_recv (q := (R_Open, F_Open, 3)) (q0 := 4) (ci := 6) hK hP rfl rfl, fun U hU hW => ⟨rfl, by rw [hU], by rw [hU]; exact hPc, va_K.moved hW.alike hKc, hDc.weaken (fun _ _ _ _ => trivial)⟩⟩ rfl rfl hl.1 rfl (lv_room (Nat.le_of_ble_eq_true rfl)) d_Blocks_begin_32 ⟨Nat.zero_le _, Nat.zero_le _⟩) hS (fun q _ h => hFc q h) hFc (fun u t H1 locs ht hvm hw hB hz1 hk1 hS => ?_)
    obtain ⟨g13, g14, g15, hb_g13, hq0_32, hq1_32, hq2_32, hP1, hK1, hD1⟩ := hB
    subst g13
    subst g14
    subst g15
    rw [ht] at hP1
    obtain ⟨hP, hD⟩ := va_join (wr := [(a_t, .inr (2, [.ref a_open, .ref a_laid, .int (z_begun + 1)])), (a_laid, .inr (11, [.ref a_laid_kinds, .ref a_laid_values, .int (nI (n_laid_size + 1))])), (a_laid_kinds, .inl (ka_laid_kinds, 362, .inl (upd f_laid_kinds n_laid_size 4))), (a_laid_values, .inl (ka_laid_values, 362, .inr (.inl (vp_updL f_laid_values n_laid_size (i6 123)))))]) (w1 := [(a_open, .inr (6, [.ref a_open_things, .int (nI (n_open_size + 1)), .int (hiO z_open_most n_open_size)])), (a_open_things, .inl (ka_open_things, 181, .inl (upd f_open_things n_open_size y0)))]) hP hD [4, 5] [0, 1, 2, 3] rfl rfl (by decide) (by decide) hk1 hFc hP1 hD1
    generalize H1 = H at hP hS ⊢
    have hP : va_P (dC, dI) vcl [(a_t, .inr (2, [.ref a_open, .ref a_laid, .int (z_begun + 1)])), (a_laid, .inr (11, [.ref a_laid_kinds, .ref a_laid_values, .int (nI (n_laid_size + 1))])), (a_laid_kinds, .inl (ka_laid_kinds, 362, .inl (upd f_laid_kinds n_laid_size 4))), (a_laid_values, .inl (ka_laid_values, 362, .inr (.inl (vp_updL f_laid_values n_laid_size (i6 123))))), (a_open, .inr (6, [.ref a_open_things, .int (nI (n_open_size + 1)), .int (hiO z_open_most n_open_size)])), (a_open_things, .inl (ka_open_things, 181, .inl (upd f_open_things n_open_size y0)))] H := hP
    have hD : va_D A [(a_t, .inr (2, [.ref a_open, .ref a_laid, .int (z_begun + 1)])), (a_laid, .inr (11, [.ref a_laid_kinds, .ref a_laid_values, .int (nI (n_laid_size + 1))])), (a_laid_kinds, .inl (ka_laid_kinds, 362, .inl (upd f_laid_kinds n_laid_size 4))), (a_laid_values, .inl (ka_laid_values, 362, .inr (.inl (vp_updL f_laid_values n_laid_size (i6 123))))), (a_open, .inr (6, [.ref a_open_things, .int (nI (n_open_size + 1)), .int (hiO z_open_most n_open_size)])), (a_open_things, .inl (ka_open_things, 181, .inl (upd f_open_things n_open_size y0)))] := hD
    refine lv_goto (tgt := 53) hx hb d_Blocks_begin_35 (by decide) ?_
    have hP9 := hP.sub (ws' := [(a_t, .inr (2, [.ref a_open, .ref a_laid, .int (z_begun + 1)])), (a_open, .inr (6, [.ref a_open_things, .int (nI (n_open_size + 1)), .int (hiO z_open_most n_open_size)])), (a_open_things, .inl (ka_open_things, 181, .inl (upd f_open_things n_open_size y0))), (a_laid, .inr (11, [.ref a_laid_kinds, .ref a_laid_values, .int (nI (n_laid_size + 1))])), (a_laid_kinds, .inl (ka_laid_kinds, 362, .inl (upd f_laid_kinds n_laid_size 4))), (a_laid_values, .inl (ka_laid_values, 362, .inr (.inl (vp_updL f_laid_values n_laid_size (i6 123)))))]) [0, 4, 5, 1, 2, 3] rfl
    have hD9 := hD.sub (ws' := [(a_t, .inr (2, [.ref a_open, .ref a_laid, .int (z_begun + 1)])), (a_open, .inr (6, [.ref a_open_things, .int (nI (n_open_size + 1)), .int (hiO z_open_most n_open_size)])), (a_open_things, .inl (ka_open_things, 181, .inl (upd f_open_things n_open_size y0))), (a_laid, .inr (11, [.ref a_laid_kinds, .ref a_laid_values, .int (nI (n_laid_size + 1))])), (a_laid_kinds, .inl (ka_laid_kinds, 362, .inl (upd f_laid_kinds n_laid_size 4))), (a_laid_values, .inl (ka_laid_values, 362, .inr (.inl (vp_updL f_laid_values n_laid_size (i6 123)))))]) [0, 4, 5, 1, 2, 3] (by decide) rfl
    exact W.vret hx hb hr (fun t ht hW => ⟨⟨(), rfl, trivial, ((z_begun + 1)), ((n_open_size + 1)), ((hiO z_open_most n_open_size)), ((upd f_open_things n_open_size y0)), ((n_laid_size + 1)), ((upd f_laid_kinds n_laid_size 4)), ((vp_updL f_laid_values n_laid_size (i6 123))), by first | omega | assumption | exact Or.inl rfl | exact Or.inr rfl | decide, by first | omega | assumption | exact Or.inl rfl | exact Or.inr rfl | decide, by exact bC_a (Int32.not_le.mp e24) (tk_i (z := 123) (by decide)), by rfl, by rw [ht]; exact hP9, va_K.moved hW.alike hK, hD9⟩, hS.F ht⟩) hS.2.2 d_Blocks_begin_53
set_option maxHeartbeats 4000000 in
set_option maxRecDepth 100000 in
theorem s_Blocks_passComma6 (l : Launch) (dC : Nat → ClassId) (dI : Nat → Nat → Nat) (sz : Nat) (a_t : Nat) (a_open : Nat) (a_open_things : Nat) (f_open_things : Nat → Int32) (n_open_size : Nat) (z_open_most : Int32) (a_laid : Nat) (a_laid_kinds : Nat) (f_laid_kinds : Nat → Int32) (a_laid_values : Nat) (f_laid_values : Nat → Int64) (n_laid_size : Nat) (z_begun : Int32) (ka_open_things : ClassId) (ka_laid_kinds : ClassId) (ka_laid_values : ClassId) (b_open_size : n_open_size ≤ 181) (b_laid_size : n_laid_size ≤ 362) (hp0 : pt (stk f_open_things n_open_size, tks f_laid_kinds f_laid_values n_laid_size, z_open_most) ≤ 362) : Met l y_Blocks_passComma w_Blocks_passComma ({ frames := 3, cells := 0, slots := 0, locals := 66 }) (va_Pc [.ref a_t] (fun U => U.heap.size = sz ∧ va_P (dC, dI) vcl [(a_t, .inr (2, [.ref a_open, .ref a_laid, .int z_begun])), (a_open, .inr (6, [.ref a_open_things, .int (nI n_open_size), .int z_open_most])), (a_open_things, .inl (ka_open_things, 181, .inl f_open_things)), (a_laid, .inr (11, [.ref a_laid_kinds, .ref a_laid_values, .int (nI n_laid_size)])), (a_laid_kinds, .inl (ka_laid_kinds, 362, .inl f_laid_kinds)), (a_laid_values, .inl (ka_laid_values, 362, .inr (.inl f_laid_values)))] U.heap ∧ va_K (dC, dI) vcl [(ka_open_things, .int), (ka_laid_kinds, .int), (ka_laid_values, .long)] U ∧ va_D (fun _ => True) [(a_t, .inr (2, [.ref a_open, .ref a_laid, .int z_begun])), (a_open, .inr (6, [.ref a_open_things, .int (nI n_open_size), .int z_open_most])), (a_open_things, .inl (ka_open_things, 181, .inl f_open_things)), (a_laid, .inr (11, [.ref a_laid_kinds, .ref a_laid_values, .int (nI n_laid_size)])), (a_laid_kinds, .inl (ka_laid_kinds, 362, .inl f_laid_kinds)), (a_laid_values, .inl (ka_laid_values, 362, .inr (.inl f_laid_values)))])) (va_Qv (fun (_ : Unit) => True) (fun _ t => ∃ (w_n_open_size : Nat) (w_n_laid_size : Nat) (w_f_laid_kinds : Nat → Int32) (w_f_laid_values : Nat → Int64), (w_n_open_size ≤ 181) ∧ (w_n_laid_size ≤ 362) ∧ ((stk f_open_things w_n_open_size, tks w_f_laid_kinds w_f_laid_values w_n_laid_size, z_open_most) = cmL (stk f_open_things n_open_size, tks f_laid_kinds f_laid_values n_laid_size, z_open_most)) ∧ va_P (dC, dI) vcl [(a_t, .inr (2, [.ref a_open, .ref a_laid, .int z_begun])), (a_open, .inr (6, [.ref a_open_things, .int (nI w_n_open_size), .int z_open_most])), (a_open_things, .inl (ka_open_things, 181, .inl f_open_things)), (a_laid, .inr (11, [.ref a_laid_kinds, .ref a_laid_values, .int (nI w_n_laid_size)])), (a_laid_kinds, .inl (ka_laid_kinds, 362, .inl w_f_laid_kinds)), (a_laid_values, .inl (ka_laid_values, 362, .inr (.inl w_f_laid_values)))] t.heap ∧ va_K (dC, dI) vcl [(ka_open_things, .int), (ka_laid_kinds, .int), (ka_laid_values, .long)] t ∧ va_D (va_A [(a_t, .inr (2, [.ref a_open, .ref a_laid, .int z_begun])), (a_open, .inr (6, [.ref a_open_things, .int (nI n_open_size), .int z_open_most])), (a_open_things, .inl (ka_open_things, 181, .inl f_open_things)), (a_laid, .inr (11, [.ref a_laid_kinds, .ref a_laid_values, .int (nI n_laid_size)])), (a_laid_kinds, .inl (ka_laid_kinds, 362, .inl f_laid_kinds)), (a_laid_values, .inl (ka_laid_values, 362, .inr (.inl f_laid_values)))] sz) [(a_t, .inr (2, [.ref a_open, .ref a_laid, .int z_begun])), (a_open, .inr (6, [.ref a_open_things, .int (nI w_n_open_size), .int z_open_most])), (a_open_things, .inl (ka_open_things, 181, .inl f_open_things)), (a_laid, .inr (11, [.ref a_laid_kinds, .ref a_laid_values, .int (nI w_n_laid_size)])), (a_laid_kinds, .inl (ka_laid_kinds, 362, .inl w_f_laid_kinds)), (a_laid_values, .inl (ka_laid_values, 362, .inr (.inl w_f_laid_values)))]) (va_A [(a_t, .inr (2, [.ref a_open, .ref a_laid, .int z_begun])), (a_open, .inr (6, [.ref a_open_things, .int (nI n_open_size), .int z_open_most])), (a_open_things, .inl (ka_open_things, 181, .inl f_open_things)), (a_laid, .inr (11, [.ref a_laid_kinds, .ref a_laid_values, .int (nI n_laid_size)])), (a_laid_kinds, .inl (ka_laid_kinds, 362, .inl f_laid_kinds)), (a_laid_values, .inl (ka_laid_values, 362, .inr (.inl f_laid_values)))] sz)) 0 0 (va_A [(a_t, .inr (2, [.ref a_open, .ref a_laid, .int z_begun])), (a_open, .inr (6, [.ref a_open_things, .int (nI n_open_size), .int z_open_most])), (a_open_things, .inl (ka_open_things, 181, .inl f_open_things)), (a_laid, .inr (11, [.ref a_laid_kinds, .ref a_laid_values, .int (nI n_laid_size)])), (a_laid_kinds, .inl (ka_laid_kinds, 362, .inl f_laid_kinds)), (a_laid_values, .inl (ka_laid_values, 362, .inr (.inl f_laid_values)))] sz) := by
  refine Met.ofW (cc := b_Blocks_passComma) (maxL := 2) (ret := none) (by decide) rfl ?_
  intro p e s m args below meth c s₁ B hml hv
  obtain ⟨rfl, hsz, hP, hK, hD0⟩ := hv
  have hx := B.exec
  have hb := B.bytes
  have hr := B.returns
  have hts := atoms_spec (ws := w_Blocks_passComma) B.pre
  have hz : ∀ w ∈ wz, w.before _ s = true := fun w h => hts w (List.mem_cons_of_mem _ h)
  have hown : s.vm.findClass R_Blocks = some m.cls := findClass_of_methodNamed B.named
  have hlocks := B.notSynchronized
  subst hsz
  have hD := hD0.self (sz := s.heap.size)
  generalize hAe : va_A [(a_t, .inr (2, [.ref a_open, .ref a_laid, .int z_begun])), (a_open, .inr (6, [.ref a_open_things, .int (nI n_open_size), .int z_open_most])), (a_open_things, .inl (ka_open_things, 181, .inl f_open_things)), (a_laid, .inr (11, [.ref a_laid_kinds, .ref a_laid_values, .int (nI n_laid_size)])), (a_laid_kinds, .inl (ka_laid_kinds, 362, .inl f_laid_kinds)), (a_laid_values, .inl (ka_laid_values, 362, .inr (.inl f_laid_values)))] s.heap.size = A at hD ⊢
  have hA : ∀ q : Nat, s.heap.size ≤ q → A q := fun q h => by rw [← hAe]; exact Or.inr h
  have hS : va_S A s.heap s.heap [] := va_S.rf
  have hP : va_P (dC, dI) vcl [(a_t, .inr (2, [.ref a_open, .ref a_laid, .int z_begun])), (a_open, .inr (6, [.ref a_open_things, .int (nI n_open_size), .int z_open_most])), (a_open_things, .inl (ka_open_things, 181, .inl f_open_things)), (a_laid, .inr (11, [.ref a_laid_kinds, .ref a_laid_values, .int (nI n_laid_size)])), (a_laid_kinds, .inl (ka_laid_kinds, 362, .inl f_laid_kinds)), (a_laid_values, .inl (ka_laid_values, 362, .inr (.inl f_laid_values)))] s.heap := hP
  have hl := lv_entry ([.ref a_t]) (n := 2) (Nat.le_of_ble_eq_true rfl)
  rw [lg_entry_eq]
  generalize (lg_sl ([.ref a_t]) ++ List.replicate (2 - (lg_sl ([.ref a_t])).length) Slot.unset).toArray = ls at hl ⊢
  have hl : lv_has ls 2 [(0, .ref a_t)] := hl
  refine lv_aload_n hx hb d_Blocks_passComma_0 rfl (lv_at hl 0 rfl) ?_
  refine va_get (D := (dC, dI)) (ci := 2) (v := .ref a_open) (C := R_Blocks) (T := F_Blocks) (N := 3) hx hb hz zu_Blocks hown hK hP 0 rfl rfl 0 (by decide) (hz (.fieldLink R_Blocks 12 "LayoutFront$Blocks" "open" "LLayoutFront$Open;") zm_183) (fun _ h9 => h9) rfl d_Blocks_passComma_1 ?_
  have hPc := hP.sub (ws' := [(a_open, .inr (6, [.ref a_open_things, .int (nI n_open_size), .int z_open_most])), (a_open_things, .inl (ka_open_things, 181, .inl f_open_things))]) [1, 2] rfl
  have hDc := hD.sub (ws' := [(a_open, .inr (6, [.ref a_open_things, .int (nI n_open_size), .int z_open_most])), (a_open_things, .inl (ka_open_things, 181, .inl f_open_things))]) [1, 2] (by decide) rfl
  have hKc := hK.sub (tys' := [(ka_open_things, .int)]) [0] rfl
  have hFc := va_free (wc := [(a_open, .inr (6, [.ref a_open_things, .int (nI n_open_size), .int z_open_most])), (a_open_things, .inl (ka_open_things, 181, .inl f_open_things))]) hD hS hA [1, 2] rfl
  refine va_calli (va_runV (As := []) (rest := []) ⟨hx, hb, hml, hown, hz⟩ (s_Open_belowLetsAndLaidBlocks6 l dC dI s.heap.size a_open a_open_things f_open_things n_open_size z_open_most ka_open_things (by first | omega | assumption | exact Or.inl rfl | exact Or.inr rfl | decide)) (cwV 0 hz (zV zm_304 zm_305 zm_306 zm_177 zm_307) rfl rfl rfl (by decide +kernel) ⟨Nat.le_of_ble_eq_true rfl, Nat.le_of_ble_eq_true rfl⟩) ⟨fun a U g mk q => by obtain ⟨q0, q1, qP, qK, qD⟩ := q; exact ⟨q0, q1, qP, va_K.moved (u := U) (U := U.calling g mk a) (Vm.Alike.refl U.vm) qK, qD⟩, va_recv (q := (R_Open, F_Open, 3)) (q0 := 1) (ci := 6) hK hP rfl rfl, fun U hU hW => ⟨rfl, by rw [hU], by rw [hU]; exact hPc, va_K.moved hW.alike hKc, hDc.weaken (fun _ _ _ _ => trivial)⟩⟩ rfl rfl hl.1 rfl (lv_room (Nat.le_of_ble_eq_true rfl)) d_Blocks_passComma_4 ⟨Nat.zero_le _, Nat.zero_le _⟩) hS (fun q _ h => hFc q h) hFc (fun r u t H1 locs ht hvm hw hB hz1 hk1 hS => ?_)
  obtain ⟨hP1, hK1, hD1⟩ := hB
  subst r
  rw [ht] at hP1
  obtain ⟨hP, hD⟩ := va_join (wr := [(a_t, .inr (2, [.ref a_open, .ref a_laid, .int z_begun])), (a_laid, .inr (11, [.ref a_laid_kinds, .ref a_laid_values, .int (nI n_laid_size)])), (a_laid_kinds, .inl (ka_laid_kinds, 362, .inl f_laid_kinds)), (a_laid_values, .inl (ka_laid_values, 362, .inr (.inl f_laid_values)))]) (w1 := [(a_open, .inr (6, [.ref a_open_things, .int (nI n_open_size), .int z_open_most])), (a_open_things, .inl (ka_open_things, 181, .inl f_open_things))]) hP hD [1, 2] [0, 3, 4, 5] rfl rfl (by decide) (by decide) hk1 hFc hP1 hD1
  generalize H1 = H at hP hS ⊢
  have hP : va_P (dC, dI) vcl [(a_t, .inr (2, [.ref a_open, .ref a_laid, .int z_begun])), (a_laid, .inr (11, [.ref a_laid_kinds, .ref a_laid_values, .int (nI n_laid_size)])), (a_laid_kinds, .inl (ka_laid_kinds, 362, .inl f_laid_kinds)), (a_laid_values, .inl (ka_laid_values, 362, .inr (.inl f_laid_values))), (a_open, .inr (6, [.ref a_open_things, .int (nI n_open_size), .int z_open_most])), (a_open_things, .inl (ka_open_things, 181, .inl f_open_things))] H := hP
  have hD : va_D A [(a_t, .inr (2, [.ref a_open, .ref a_laid, .int z_begun])), (a_laid, .inr (11, [.ref a_laid_kinds, .ref a_laid_values, .int (nI n_laid_size)])), (a_laid_kinds, .inl (ka_laid_kinds, 362, .inl f_laid_kinds)), (a_laid_values, .inl (ka_laid_values, 362, .inr (.inl f_laid_values))), (a_open, .inr (6, [.ref a_open_things, .int (nI n_open_size), .int z_open_most])), (a_open_things, .inl (ka_open_things, 181, .inl f_open_things))] := hD
  refine lv_istore_n hx hb d_Blocks_passComma_7 rfl hl (by decide) rfl (fun ls hl => ?_)
  have hl : lv_has ls 2 [(1, .int (blC (stk f_open_things n_open_size))), (0, .ref a_t)] := hl
  refine lv_iload_n hx hb d_Blocks_passComma_8 rfl (lv_at hl 0 rfl) ?_
  refine lv_bipush (v := (-5)) hx hb d_Blocks_passComma_9 (by decide) ?_
  refine lv_icmp_eq (tgt := 20) hx hb d_Blocks_passComma_11 (by decide) (fun h1 => ?_) (fun h1 => ?_)
  · have e11 := h1
    refine lv_aload_n hx hb d_Blocks_passComma_20 rfl (lv_at hl 1 rfl) ?_
    refine lv_iconst (v := 1) hx hb d_Blocks_passComma_21 (by decide) ?_
    have hPc := hP.sub (ws' := [(a_t, .inr (2, [.ref a_open, .ref a_laid, .int z_begun])), (a_open, .inr (6, [.ref a_open_things, .int (nI n_open_size), .int z_open_most])), (a_open_things, .inl (ka_open_things, 181, .inl f_open_things)), (a_laid, .inr (11, [.ref a_laid_kinds, .ref a_laid_values, .int (nI n_laid_size)])), (a_laid_kinds, .inl (ka_laid_kinds, 362, .inl f_laid_kinds)), (a_laid_values, .inl (ka_laid_values, 362, .inr (.inl f_laid_values)))]) [0, 4, 5, 1, 2, 3] rfl
    have hDc := hD.sub (ws' := [(a_t, .inr (2, [.ref a_open, .ref a_laid, .int z_begun])), (a_open, .inr (6, [.ref a_open_things, .int (nI n_open_size), .int z_open_most])), (a_open_things, .inl (ka_open_things, 181, .inl f_open_things)), (a_laid, .inr (11, [.ref a_laid_kinds, .ref a_laid_values, .int (nI n_laid_size)])), (a_laid_kinds, .inl (ka_laid_kinds, 362, .inl f_laid_kinds)), (a_laid_values, .inl (ka_laid_values, 362, .inr (.inl f_laid_values)))]) [0, 4, 5, 1, 2, 3] (by decide) rfl
    have hKc := hK.sub (tys' := [(ka_open_things, .int), (ka_laid_kinds, .int), (ka_laid_values, .long)]) [0, 1, 2] rfl
    have hFc := va_free (wc := [(a_t, .inr (2, [.ref a_open, .ref a_laid, .int z_begun])), (a_open, .inr (6, [.ref a_open_things, .int (nI n_open_size), .int z_open_most])), (a_open_things, .inl (ka_open_things, 181, .inl f_open_things)), (a_laid, .inr (11, [.ref a_laid_kinds, .ref a_laid_values, .int (nI n_laid_size)])), (a_laid_kinds, .inl (ka_laid_kinds, 362, .inl f_laid_kinds)), (a_laid_values, .inl (ka_laid_values, 362, .inr (.inl f_laid_values)))]) hD hS hA [0, 4, 5, 1, 2, 3] rfl
    refine va_callv (va_runV (As := [.int 1]) (rest := []) ⟨hx, hb, hml, hown, hz⟩ (s_Blocks_closeBlocks6 l dC dI H.size a_t a_open a_open_things f_open_things n_open_size z_open_most a_laid a_laid_kinds f_laid_kinds a_laid_values f_laid_values n_laid_size z_begun 1 ka_open_things ka_laid_kinds ka_laid_values (by first | omega | assumption | exact Or.inl rfl | exact Or.inr rfl | decide) (by first | omega | assumption | exact Or.inl rfl | exact Or.inr rfl | decide) (by first | omega | assumption | exact Or.inl rfl | exact Or.inr rfl | decide)) (cwV 1 hz (zV zm_236 zm_237 zm_238 zm_205 zm_239) rfl rfl rfl (by decide +kernel) ⟨Nat.le_of_ble_eq_true rfl, Nat.le_of_ble_eq_true rfl⟩) ⟨fun a U g mk q => by obtain ⟨q0, q1, qP, qK, qD⟩ := q; exact ⟨q0, q1, qP, va_K.moved (u := U) (U := U.calling g mk a) (Vm.Alike.refl U.vm) qK, qD⟩, va_recv (q := (R_Blocks, F_Blocks, 3)) (q0 := 0) (ci := 2) hK hP rfl rfl, fun U hU hW => ⟨rfl, by rw [hU], by rw [hU]; exact hPc, va_K.moved hW.alike hKc, hDc.weaken (fun _ _ _ _ => trivial)⟩⟩ rfl rfl hl.1 rfl (lv_room (Nat.le_of_ble_eq_true rfl)) d_Blocks_passComma_22 ⟨Nat.zero_le _, Nat.zero_le _⟩) hS (fun q _ h => hFc q h) hFc (fun u t H1 locs ht hvm hw hB hz1 hk1 hS => ?_)
    obtain ⟨g2, g3, g4, g5, hb_g2, hb_g3, hq0_22, hP1, hK1, hD1⟩ := hB
    rw [ht] at hP1
    obtain ⟨hP, hD⟩ := va_join (wr := []) (w1 := [(a_t, .inr (2, [.ref a_open, .ref a_laid, .int z_begun])), (a_open, .inr (6, [.ref a_open_things, .int (nI g2), .int z_open_most])), (a_open_things, .inl (ka_open_things, 181, .inl f_open_things)), (a_laid, .inr (11, [.ref a_laid_kinds, .ref a_laid_values, .int (nI g3)])), (a_laid_kinds, .inl (ka_laid_kinds, 362, .inl g4)), (a_laid_values, .inl (ka_laid_values, 362, .inr (.inl g5)))]) hP hD [0, 4, 5, 1, 2, 3] [] rfl rfl (by decide) (by decide) hk1 hFc hP1 hD1
    generalize H1 = H at hP hS ⊢
    have hP : va_P (dC, dI) vcl [(a_t, .inr (2, [.ref a_open, .ref a_laid, .int z_begun])), (a_open, .inr (6, [.ref a_open_things, .int (nI g2), .int z_open_most])), (a_open_things, .inl (ka_open_things, 181, .inl f_open_things)), (a_laid, .inr (11, [.ref a_laid_kinds, .ref a_laid_values, .int (nI g3)])), (a_laid_kinds, .inl (ka_laid_kinds, 362, .inl g4)), (a_laid_values, .inl (ka_laid_values, 362, .inr (.inl g5)))] H := hP
    have hD : va_D A [(a_t, .inr (2, [.ref a_open, .ref a_laid, .int z_begun])), (a_open, .inr (6, [.ref a_open_things, .int (nI g2), .int z_open_most])), (a_open_things, .inl (ka_open_things, 181, .inl f_open_things)), (a_laid, .inr (11, [.ref a_laid_kinds, .ref a_laid_values, .int (nI g3)])), (a_laid_kinds, .inl (ka_laid_kinds, 362, .inl g4)), (a_laid_values, .inl (ka_laid_values, 362, .inr (.inl g5)))] := hD
    have hP9 := hP.sub (ws' := [(a_t, .inr (2, [.ref a_open, .ref a_laid, .int z_begun])), (a_open, .inr (6, [.ref a_open_things, .int (nI g2), .int z_open_most])), (a_open_things, .inl (ka_open_things, 181, .inl f_open_things)), (a_laid, .inr (11, [.ref a_laid_kinds, .ref a_laid_values, .int (nI g3)])), (a_laid_kinds, .inl (ka_laid_kinds, 362, .inl g4)), (a_laid_values, .inl (ka_laid_values, 362, .inr (.inl g5)))]) [0, 1, 2, 3, 4, 5] rfl
    have hD9 := hD.sub (ws' := [(a_t, .inr (2, [.ref a_open, .ref a_laid, .int z_begun])), (a_open, .inr (6, [.ref a_open_things, .int (nI g2), .int z_open_most])), (a_open_things, .inl (ka_open_things, 181, .inl f_open_things)), (a_laid, .inr (11, [.ref a_laid_kinds, .ref a_laid_values, .int (nI g3)])), (a_laid_kinds, .inl (ka_laid_kinds, 362, .inl g4)), (a_laid_values, .inl (ka_laid_values, 362, .inr (.inl g5)))]) [0, 1, 2, 3, 4, 5] (by decide) rfl
    exact W.vret hx hb hr (fun t ht hW => ⟨⟨(), rfl, trivial, g2, g3, g4, g5, by first | omega | assumption | exact Or.inl rfl | exact Or.inr rfl | decide, by first | omega | assumption | exact Or.inl rfl | exact Or.inr rfl | decide, by exact (lp_on hq0_22).trans (cm_y (Or.inl e11)).symm, by rw [ht]; exact hP9, va_K.moved hW.alike hK, hD9⟩, hS.F ht⟩) hS.2.2 d_Blocks_passComma_25
  · have e11 := h1
    refine lv_iload_n hx hb d_Blocks_passComma_14 rfl (lv_at hl 0 rfl) ?_
    refine lv_bipush (v := (-6)) hx hb d_Blocks_passComma_15 (by decide) ?_
    refine lv_icmp_ne (tgt := 25) hx hb d_Blocks_passComma_17 (by decide) (fun h6 => ?_) (fun h6 => ?_)
    · have e17 := h6
      have hP9 := hP.sub (ws' := [(a_t, .inr (2, [.ref a_open, .ref a_laid, .int z_begun])), (a_open, .inr (6, [.ref a_open_things, .int (nI n_open_size), .int z_open_most])), (a_open_things, .inl (ka_open_things, 181, .inl f_open_things)), (a_laid, .inr (11, [.ref a_laid_kinds, .ref a_laid_values, .int (nI n_laid_size)])), (a_laid_kinds, .inl (ka_laid_kinds, 362, .inl f_laid_kinds)), (a_laid_values, .inl (ka_laid_values, 362, .inr (.inl f_laid_values)))]) [0, 4, 5, 1, 2, 3] rfl
      have hD9 := hD.sub (ws' := [(a_t, .inr (2, [.ref a_open, .ref a_laid, .int z_begun])), (a_open, .inr (6, [.ref a_open_things, .int (nI n_open_size), .int z_open_most])), (a_open_things, .inl (ka_open_things, 181, .inl f_open_things)), (a_laid, .inr (11, [.ref a_laid_kinds, .ref a_laid_values, .int (nI n_laid_size)])), (a_laid_kinds, .inl (ka_laid_kinds, 362, .inl f_laid_kinds)), (a_laid_values, .inl (ka_laid_values, 362, .inr (.inl f_laid_values)))]) [0, 4, 5, 1, 2, 3] (by decide) rfl
      exact W.vret hx hb hr (fun t ht hW => ⟨⟨(), rfl, trivial, n_open_size, n_laid_size, f_laid_kinds, f_laid_values, by first | omega | assumption | exact Or.inl rfl | exact Or.inr rfl | decide, by first | omega | assumption | exact Or.inl rfl | exact Or.inr rfl | decide, by exact (cm_n (fun q => q.elim e11 e17)).symm, by rw [ht]; exact hP9, va_K.moved hW.alike hK, hD9⟩, hS.F ht⟩) hS.2.2 d_Blocks_passComma_25
    · have e17 := h6
      refine lv_aload_n hx hb d_Blocks_passComma_20 rfl (lv_at hl 1 rfl) ?_
      refine lv_iconst (v := 1) hx hb d_Blocks_passComma_21 (by decide) ?_
      have hPc := hP.sub (ws' := [(a_t, .inr (2, [.ref a_open, .ref a_laid, .int z_begun])), (a_open, .inr (6, [.ref a_open_things, .int (nI n_open_size), .int z_open_most])), (a_open_things, .inl (ka_open_things, 181, .inl f_open_things)), (a_laid, .inr (11, [.ref a_laid_kinds, .ref a_laid_values, .int (nI n_laid_size)])), (a_laid_kinds, .inl (ka_laid_kinds, 362, .inl f_laid_kinds)), (a_laid_values, .inl (ka_laid_values, 362, .inr (.inl f_laid_values)))]) [0, 4, 5, 1, 2, 3] rfl
      have hDc := hD.sub (ws' := [(a_t, .inr (2, [.ref a_open, .ref a_laid, .int z_begun])), (a_open, .inr (6, [.ref a_open_things, .int (nI n_open_size), .int z_open_most])), (a_open_things, .inl (ka_open_things, 181, .inl f_open_things)), (a_laid, .inr (11, [.ref a_laid_kinds, .ref a_laid_values, .int (nI n_laid_size)])), (a_laid_kinds, .inl (ka_laid_kinds, 362, .inl f_laid_kinds)), (a_laid_values, .inl (ka_laid_values, 362, .inr (.inl f_laid_values)))]) [0, 4, 5, 1, 2, 3] (by decide) rfl
      have hKc := hK.sub (tys' := [(ka_open_things, .int), (ka_laid_kinds, .int), (ka_laid_values, .long)]) [0, 1, 2] rfl
      have hFc := va_free (wc := [(a_t, .inr (2, [.ref a_open, .ref a_laid, .int z_begun])), (a_open, .inr (6, [.ref a_open_things, .int (nI n_open_size), .int z_open_most])), (a_open_things, .inl (ka_open_things, 181, .inl f_open_things)), (a_laid, .inr (11, [.ref a_laid_kinds, .ref a_laid_values, .int (nI n_laid_size)])), (a_laid_kinds, .inl (ka_laid_kinds, 362, .inl f_laid_kinds)), (a_laid_values, .inl (ka_laid_values, 362, .inr (.inl f_laid_values)))]) hD hS hA [0, 4, 5, 1, 2, 3] rfl
      refine va_callv (va_runV (As := [.int 1]) (rest := []) ⟨hx, hb, hml, hown, hz⟩ (s_Blocks_closeBlocks6 l dC dI H.size a_t a_open a_open_things f_open_things n_open_size z_open_most a_laid a_laid_kinds f_laid_kinds a_laid_values f_laid_values n_laid_size z_begun 1 ka_open_things ka_laid_kinds ka_laid_values (by first | omega | assumption | exact Or.inl rfl | exact Or.inr rfl | decide) (by first | omega | assumption | exact Or.inl rfl | exact Or.inr rfl | decide) (by first | omega | assumption | exact Or.inl rfl | exact Or.inr rfl | decide)) (cwV 1 hz (zV zm_236 zm_237 zm_238 zm_205 zm_239) rfl rfl rfl (by decide +kernel) ⟨Nat.le_of_ble_eq_true rfl, Nat.le_of_ble_eq_true rfl⟩) ⟨fun a U g mk q => by obtain ⟨q0, q1, qP, qK, qD⟩ := q; exact ⟨q0, q1, qP, va_K.moved (u := U) (U := U.calling g mk a) (Vm.Alike.refl U.vm) qK, qD⟩, va_recv (q := (R_Blocks, F_Blocks, 3)) (q0 := 0) (ci := 2) hK hP rfl rfl, fun U hU hW => ⟨rfl, by rw [hU], by rw [hU]; exact hPc, va_K.moved hW.alike hKc, hDc.weaken (fun _ _ _ _ => trivial)⟩⟩ rfl rfl hl.1 rfl (lv_room (Nat.le_of_ble_eq_true rfl)) d_Blocks_passComma_22 ⟨Nat.zero_le _, Nat.zero_le _⟩) hS (fun q _ h => hFc q h) hFc (fun u t H1 locs ht hvm hw hB hz1 hk1 hS => ?_)
      obtain ⟨g7, g8, g9, g10, hb_g7, hb_g8, hq0_22, hP1, hK1, hD1⟩ := hB
      rw [ht] at hP1
      obtain ⟨hP, hD⟩ := va_join (wr := []) (w1 := [(a_t, .inr (2, [.ref a_open, .ref a_laid, .int z_begun])), (a_open, .inr (6, [.ref a_open_things, .int (nI g7), .int z_open_most])), (a_open_things, .inl (ka_open_things, 181, .inl f_open_things)), (a_laid, .inr (11, [.ref a_laid_kinds, .ref a_laid_values, .int (nI g8)])), (a_laid_kinds, .inl (ka_laid_kinds, 362, .inl g9)), (a_laid_values, .inl (ka_laid_values, 362, .inr (.inl g10)))]) hP hD [0, 4, 5, 1, 2, 3] [] rfl rfl (by decide) (by decide) hk1 hFc hP1 hD1
      generalize H1 = H at hP hS ⊢
      have hP : va_P (dC, dI) vcl [(a_t, .inr (2, [.ref a_open, .ref a_laid, .int z_begun])), (a_open, .inr (6, [.ref a_open_things, .int (nI g7), .int z_open_most])), (a_open_things, .inl (ka_open_things, 181, .inl f_open_things)), (a_laid, .inr (11, [.ref a_laid_kinds, .ref a_laid_values, .int (nI g8)])), (a_laid_kinds, .inl (ka_laid_kinds, 362, .inl g9)), (a_laid_values, .inl (ka_laid_values, 362, .inr (.inl g10)))] H := hP
      have hD : va_D A [(a_t, .inr (2, [.ref a_open, .ref a_laid, .int z_begun])), (a_open, .inr (6, [.ref a_open_things, .int (nI g7), .int z_open_most])), (a_open_things, .inl (ka_open_things, 181, .inl f_open_things)), (a_laid, .inr (11, [.ref a_laid_kinds, .ref a_laid_values, .int (nI g8)])), (a_laid_kinds, .inl (ka_laid_kinds, 362, .inl g9)), (a_laid_values, .inl (ka_laid_values, 362, .inr (.inl g10)))] := hD
      have hP9 := hP.sub (ws' := [(a_t, .inr (2, [.ref a_open, .ref a_laid, .int z_begun])), (a_open, .inr (6, [.ref a_open_things, .int (nI g7), .int z_open_most])), (a_open_things, .inl (ka_open_things, 181, .inl f_open_things)), (a_laid, .inr (11, [.ref a_laid_kinds, .ref a_laid_values, .int (nI g8)])), (a_laid_kinds, .inl (ka_laid_kinds, 362, .inl g9)), (a_laid_values, .inl (ka_laid_values, 362, .inr (.inl g10)))]) [0, 1, 2, 3, 4, 5] rfl
      have hD9 := hD.sub (ws' := [(a_t, .inr (2, [.ref a_open, .ref a_laid, .int z_begun])), (a_open, .inr (6, [.ref a_open_things, .int (nI g7), .int z_open_most])), (a_open_things, .inl (ka_open_things, 181, .inl f_open_things)), (a_laid, .inr (11, [.ref a_laid_kinds, .ref a_laid_values, .int (nI g8)])), (a_laid_kinds, .inl (ka_laid_kinds, 362, .inl g9)), (a_laid_values, .inl (ka_laid_values, 362, .inr (.inl g10)))]) [0, 1, 2, 3, 4, 5] (by decide) rfl
      exact W.vret hx hb hr (fun t ht hW => ⟨⟨(), rfl, trivial, g7, g8, g9, g10, by first | omega | assumption | exact Or.inl rfl | exact Or.inr rfl | decide, by first | omega | assumption | exact Or.inl rfl | exact Or.inr rfl | decide, by exact (lp_on hq0_22).trans (cm_y (Or.inr e17)).symm, by rw [ht]; exact hP9, va_K.moved hW.alike hK, hD9⟩, hS.F ht⟩) hS.2.2 d_Blocks_passComma_25
set_option maxHeartbeats 4000000 in
set_option maxRecDepth 100000 in
theorem s_Blocks_passBrace6 (l : Launch) (dC : Nat → ClassId) (dI : Nat → Nat → Nat) (sz : Nat) (a_t : Nat) (a_open : Nat) (a_open_things : Nat) (f_open_things : Nat → Int32) (n_open_size : Nat) (z_open_most : Int32) (a_laid : Nat) (f_laid_kinds : Nat → Int32) (f_laid_values : Nat → Int64) (n_laid_size : Nat) (z_begun : Int32) (ka_open_things : ClassId) (b_open_size : n_open_size ≤ 181) (b_laid_size : n_laid_size ≤ 362) : Met l y_Blocks_passBrace w_Blocks_passBrace ({ frames := 2, cells := 0, slots := 0, locals := 41 }) (va_Pc [.ref a_t] (fun U => U.heap.size = sz ∧ va_P (dC, dI) vcl [(a_t, .inr (2, [.ref a_open, .ref a_laid, .int z_begun])), (a_open, .inr (6, [.ref a_open_things, .int (nI n_open_size), .int z_open_most])), (a_open_things, .inl (ka_open_things, 181, .inl f_open_things))] U.heap ∧ va_K (dC, dI) vcl [(ka_open_things, .int)] U ∧ va_D (fun _ => True) [(a_t, .inr (2, [.ref a_open, .ref a_laid, .int z_begun])), (a_open, .inr (6, [.ref a_open_things, .int (nI n_open_size), .int z_open_most])), (a_open_things, .inl (ka_open_things, 181, .inl f_open_things))])) (va_Qi (fun (r : Int32) (_ : Unit) => (r = 0 ∨ r = 1) ∧ (r = b01 (brL (stk f_open_things n_open_size, tks f_laid_kinds f_laid_values n_laid_size, z_open_most)).isSome)) (fun _ t => ∃ (w_n_open_size : Nat), (w_n_open_size ≤ 181) ∧ (∀ s9, brL (stk f_open_things n_open_size, tks f_laid_kinds f_laid_values n_laid_size, z_open_most) = some s9 → (stk f_open_things w_n_open_size, tks f_laid_kinds f_laid_values n_laid_size, z_open_most) = s9) ∧ va_P (dC, dI) vcl [(a_t, .inr (2, [.ref a_open, .ref a_laid, .int z_begun])), (a_open, .inr (6, [.ref a_open_things, .int (nI w_n_open_size), .int z_open_most])), (a_open_things, .inl (ka_open_things, 181, .inl f_open_things))] t.heap ∧ va_K (dC, dI) vcl [(ka_open_things, .int)] t ∧ va_D (va_A [(a_t, .inr (2, [.ref a_open, .ref a_laid, .int z_begun])), (a_open, .inr (6, [.ref a_open_things, .int (nI n_open_size), .int z_open_most])), (a_open_things, .inl (ka_open_things, 181, .inl f_open_things))] sz) [(a_t, .inr (2, [.ref a_open, .ref a_laid, .int z_begun])), (a_open, .inr (6, [.ref a_open_things, .int (nI w_n_open_size), .int z_open_most])), (a_open_things, .inl (ka_open_things, 181, .inl f_open_things))]) (va_A [(a_t, .inr (2, [.ref a_open, .ref a_laid, .int z_begun])), (a_open, .inr (6, [.ref a_open_things, .int (nI n_open_size), .int z_open_most])), (a_open_things, .inl (ka_open_things, 181, .inl f_open_things))] sz)) 0 0 (va_A [(a_t, .inr (2, [.ref a_open, .ref a_laid, .int z_begun])), (a_open, .inr (6, [.ref a_open_things, .int (nI n_open_size), .int z_open_most])), (a_open_things, .inl (ka_open_things, 181, .inl f_open_things))] sz) := by
  refine Met.ofW (cc := b_Blocks_passBrace) (maxL := 2) (ret := (some .boolean)) (by decide) rfl ?_
  intro p e s m args below meth c s₁ B hml hv
  obtain ⟨rfl, hsz, hP, hK, hD0⟩ := hv
  have hx := B.exec
  have hb := B.bytes
  have hr := B.returns
  have hts := atoms_spec (ws := w_Blocks_passBrace) B.pre
  have hz : ∀ w ∈ wz, w.before _ s = true := fun w h => hts w (List.mem_cons_of_mem _ h)
  have hown : s.vm.findClass R_Blocks = some m.cls := findClass_of_methodNamed B.named
  have hlocks := B.notSynchronized
  subst hsz
  have hD := hD0.self (sz := s.heap.size)
  generalize hAe : va_A [(a_t, .inr (2, [.ref a_open, .ref a_laid, .int z_begun])), (a_open, .inr (6, [.ref a_open_things, .int (nI n_open_size), .int z_open_most])), (a_open_things, .inl (ka_open_things, 181, .inl f_open_things))] s.heap.size = A at hD ⊢
  have hA : ∀ q : Nat, s.heap.size ≤ q → A q := fun q h => by rw [← hAe]; exact Or.inr h
  have hS : va_S A s.heap s.heap [] := va_S.rf
  have hP : va_P (dC, dI) vcl [(a_t, .inr (2, [.ref a_open, .ref a_laid, .int z_begun])), (a_open, .inr (6, [.ref a_open_things, .int (nI n_open_size), .int z_open_most])), (a_open_things, .inl (ka_open_things, 181, .inl f_open_things))] s.heap := hP
  have hl := lv_entry ([.ref a_t]) (n := 2) (Nat.le_of_ble_eq_true rfl)
  rw [lg_entry_eq]
  generalize (lg_sl ([.ref a_t]) ++ List.replicate (2 - (lg_sl ([.ref a_t])).length) Slot.unset).toArray = ls at hl ⊢
  have hl : lv_has ls 2 [(0, .ref a_t)] := hl
  refine lv_aload_n hx hb d_Blocks_passBrace_0 rfl (lv_at hl 0 rfl) ?_
  refine va_get (D := (dC, dI)) (ci := 2) (v := .ref a_open) (C := R_Blocks) (T := F_Blocks) (N := 3) hx hb hz zu_Blocks hown hK hP 0 rfl rfl 0 (by decide) (hz (.fieldLink R_Blocks 12 "LayoutFront$Blocks" "open" "LLayoutFront$Open;") zm_183) (fun _ h9 => h9) rfl d_Blocks_passBrace_1 ?_
  have hPc := hP.sub (ws' := [(a_open, .inr (6, [.ref a_open_things, .int (nI n_open_size), .int z_open_most])), (a_open_things, .inl (ka_open_things, 181, .inl f_open_things))]) [1, 2] rfl
  have hDc := hD.sub (ws' := [(a_open, .inr (6, [.ref a_open_things, .int (nI n_open_size), .int z_open_most])), (a_open_things, .inl (ka_open_things, 181, .inl f_open_things))]) [1, 2] (by decide) rfl
  have hKc := hK.sub (tys' := [(ka_open_things, .int)]) [0] rfl
  have hFc := va_free (wc := [(a_open, .inr (6, [.ref a_open_things, .int (nI n_open_size), .int z_open_most])), (a_open_things, .inl (ka_open_things, 181, .inl f_open_things))]) hD hS hA [1, 2] rfl
  refine va_callv (va_runV (As := []) (rest := []) ⟨hx, hb, hml, hown, hz⟩ (s_Open_dropLets6 l dC dI s.heap.size a_open a_open_things f_open_things n_open_size z_open_most ka_open_things (by first | omega | assumption | exact Or.inl rfl | exact Or.inr rfl | decide)) (cwV 0 hz (zV zm_280 zm_281 zm_282 zm_177 zm_283) rfl rfl rfl (by decide +kernel) ⟨Nat.le_of_ble_eq_true rfl, Nat.le_of_ble_eq_true rfl⟩) ⟨fun a U g mk q => by obtain ⟨q0, q1, qP, qK, qD⟩ := q; exact ⟨q0, q1, qP, va_K.moved (u := U) (U := U.calling g mk a) (Vm.Alike.refl U.vm) qK, qD⟩, va_recv (q := (R_Open, F_Open, 3)) (q0 := 1) (ci := 6) hK hP rfl rfl, fun U hU hW => ⟨rfl, by rw [hU], by rw [hU]; exact hPc, va_K.moved hW.alike hKc, hDc.weaken (fun _ _ _ _ => trivial)⟩⟩ rfl rfl hl.1 rfl (lv_room (Nat.le_of_ble_eq_true rfl)) d_Blocks_passBrace_4 ⟨Nat.zero_le _, Nat.zero_le _⟩) hS (fun q _ h => hFc q h) hFc (fun u t H1 locs ht hvm hw hB hz1 hk1 hS => ?_)
  obtain ⟨g1, hb_g1, hq0_4, hP1, hK1, hD1⟩ := hB
  subst g1
  rw [ht] at hP1
  obtain ⟨hP, hD⟩ := va_join (wr := [(a_t, .inr (2, [.ref a_open, .ref a_laid, .int z_begun]))]) (w1 := [(a_open, .inr (6, [.ref a_open_things, .int (nI (drp f_open_things n_open_size)), .int z_open_most])), (a_open_things, .inl (ka_open_things, 181, .inl f_open_things))]) hP hD [1, 2] [0] rfl rfl (by decide) (by decide) hk1 hFc hP1 hD1
  generalize H1 = H at hP hS ⊢
  have hP : va_P (dC, dI) vcl [(a_t, .inr (2, [.ref a_open, .ref a_laid, .int z_begun])), (a_open, .inr (6, [.ref a_open_things, .int (nI (drp f_open_things n_open_size)), .int z_open_most])), (a_open_things, .inl (ka_open_things, 181, .inl f_open_things))] H := hP
  have hD : va_D A [(a_t, .inr (2, [.ref a_open, .ref a_laid, .int z_begun])), (a_open, .inr (6, [.ref a_open_things, .int (nI (drp f_open_things n_open_size)), .int z_open_most])), (a_open_things, .inl (ka_open_things, 181, .inl f_open_things))] := hD
  have dd := drp_le (row := f_open_things) n_open_size
  refine lv_aload_n hx hb d_Blocks_passBrace_7 rfl (lv_at hl 0 rfl) ?_
  refine va_get (D := (dC, dI)) (ci := 2) (v := .ref a_open) (C := R_Blocks) (T := F_Blocks) (N := 3) hx hb hz zu_Blocks hown hK hP 0 rfl rfl 0 (by decide) (hz (.fieldLink R_Blocks 12 "LayoutFront$Blocks" "open" "LLayoutFront$Open;") zm_183) (fun _ h9 => h9) rfl d_Blocks_passBrace_8 ?_
  have hPc := hP.sub (ws' := [(a_open, .inr (6, [.ref a_open_things, .int (nI (drp f_open_things n_open_size)), .int z_open_most])), (a_open_things, .inl (ka_open_things, 181, .inl f_open_things))]) [1, 2] rfl
  have hDc := hD.sub (ws' := [(a_open, .inr (6, [.ref a_open_things, .int (nI (drp f_open_things n_open_size)), .int z_open_most])), (a_open_things, .inl (ka_open_things, 181, .inl f_open_things))]) [1, 2] (by decide) rfl
  have hKc := hK.sub (tys' := [(ka_open_things, .int)]) [0] rfl
  have hFc := va_free (wc := [(a_open, .inr (6, [.ref a_open_things, .int (nI (drp f_open_things n_open_size)), .int z_open_most])), (a_open_things, .inl (ka_open_things, 181, .inl f_open_things))]) hD hS hA [1, 2] rfl
  refine va_calli (va_runV (As := []) (rest := []) ⟨hx, hb, hml, hown, hz⟩ (s_Open_top6 l dC dI H.size a_open a_open_things f_open_things ((drp f_open_things n_open_size)) z_open_most ka_open_things (by first | omega | assumption | exact Or.inl rfl | exact Or.inr rfl | decide)) (cwV 0 hz (zV zm_300 zm_301 zm_302 zm_177 zm_303) rfl rfl rfl (by decide +kernel) ⟨Nat.le_of_ble_eq_true rfl, Nat.le_of_ble_eq_true rfl⟩) ⟨fun a U g mk q => by obtain ⟨q0, q1, qP, qK, qD⟩ := q; exact ⟨q0, q1, qP, va_K.moved (u := U) (U := U.calling g mk a) (Vm.Alike.refl U.vm) qK, qD⟩, va_recv (q := (R_Open, F_Open, 3)) (q0 := 1) (ci := 6) hK hP rfl rfl, fun U hU hW => ⟨rfl, by rw [hU], by rw [hU]; exact hPc, va_K.moved hW.alike hKc, hDc.weaken (fun _ _ _ _ => trivial)⟩⟩ rfl rfl hl.1 rfl (lv_room (Nat.le_of_ble_eq_true rfl)) d_Blocks_passBrace_11 ⟨Nat.zero_le _, Nat.zero_le _⟩) hS (fun q _ h => hFc q h) hFc (fun r u t H1 locs ht hvm hw hB hz1 hk1 hS => ?_)
  obtain ⟨hP1, hK1, hD1⟩ := hB
  subst r
  rw [ht] at hP1
  obtain ⟨hP, hD⟩ := va_join (wr := [(a_t, .inr (2, [.ref a_open, .ref a_laid, .int z_begun]))]) (w1 := [(a_open, .inr (6, [.ref a_open_things, .int (nI (drp f_open_things n_open_size)), .int z_open_most])), (a_open_things, .inl (ka_open_things, 181, .inl f_open_things))]) hP hD [1, 2] [0] rfl rfl (by decide) (by decide) hk1 hFc hP1 hD1
  generalize H1 = H at hP hS ⊢
  have hP : va_P (dC, dI) vcl [(a_t, .inr (2, [.ref a_open, .ref a_laid, .int z_begun])), (a_open, .inr (6, [.ref a_open_things, .int (nI (drp f_open_things n_open_size)), .int z_open_most])), (a_open_things, .inl (ka_open_things, 181, .inl f_open_things))] H := hP
  have hD : va_D A [(a_t, .inr (2, [.ref a_open, .ref a_laid, .int z_begun])), (a_open, .inr (6, [.ref a_open_things, .int (nI (drp f_open_things n_open_size)), .int z_open_most])), (a_open_things, .inl (ka_open_things, 181, .inl f_open_things))] := hD
  refine lv_if_ne (tgt := 21) hx hb d_Blocks_passBrace_14 (by decide) (fun h2 => ?_) (fun h2 => ?_)
  · have e14 := h2
    refine lv_iconst (v := 0) hx hb d_Blocks_passBrace_21 (by decide) ?_
    refine lv_istore_n hx hb d_Blocks_passBrace_22 rfl hl (by decide) rfl (fun ls hl => ?_)
    have hl : lv_has ls 2 [(1, .int 0), (0, .ref a_t)] := hl
    refine lv_iload_n hx hb d_Blocks_passBrace_23 rfl (lv_at hl 0 rfl) ?_
    refine lv_if_eq (tgt := 34) hx hb d_Blocks_passBrace_24 (by decide) (fun _ => ?_) (fun h => (h (by decide +kernel)).elim)
    refine lv_iload_n hx hb d_Blocks_passBrace_34 rfl (lv_at hl 0 rfl) ?_
    have hP9 := hP.sub (ws' := [(a_t, .inr (2, [.ref a_open, .ref a_laid, .int z_begun])), (a_open, .inr (6, [.ref a_open_things, .int (nI (drp f_open_things n_open_size)), .int z_open_most])), (a_open_things, .inl (ka_open_things, 181, .inl f_open_things))]) [0, 1, 2] rfl
    have hD9 := hD.sub (ws' := [(a_t, .inr (2, [.ref a_open, .ref a_laid, .int z_begun])), (a_open, .inr (6, [.ref a_open_things, .int (nI (drp f_open_things n_open_size)), .int z_open_most])), (a_open_things, .inl (ka_open_things, 181, .inl f_open_things))]) [0, 1, 2] (by decide) rfl
    exact W.zret (v := 0) hx hb hr (by decide +kernel) (fun t ht hW => ⟨⟨0, (), rfl, ⟨(by first | assumption | exact Or.inl rfl | exact Or.inr rfl), (by exact so_0 (brC_n e14))⟩, ((drp f_open_things n_open_size)), by first | omega | assumption | exact Or.inl rfl | exact Or.inr rfl | decide, by (intro s9 hh; rw [(brC_n e14)] at hh; cases hh), by rw [ht]; exact hP9, va_K.moved hW.alike hK, hD9⟩, hS.F ht⟩) hS.2.2 d_Blocks_passBrace_35
  · have e14 := h2
    refine lv_iconst (v := 1) hx hb d_Blocks_passBrace_17 (by decide) ?_
    refine lv_goto (tgt := 22) hx hb d_Blocks_passBrace_18 (by decide) ?_
    refine lv_istore_n hx hb d_Blocks_passBrace_22 rfl hl (by decide) rfl (fun ls hl => ?_)
    have hl : lv_has ls 2 [(1, .int 1), (0, .ref a_t)] := hl
    refine lv_iload_n hx hb d_Blocks_passBrace_23 rfl (lv_at hl 0 rfl) ?_
    refine lv_if_eq (tgt := 34) hx hb d_Blocks_passBrace_24 (by decide) (fun h => absurd h (by decide +kernel)) (fun _ => ?_)
    refine lv_aload_n hx hb d_Blocks_passBrace_27 rfl (lv_at hl 1 rfl) ?_
    refine va_get (D := (dC, dI)) (ci := 2) (v := .ref a_open) (C := R_Blocks) (T := F_Blocks) (N := 3) hx hb hz zu_Blocks hown hK hP 0 rfl rfl 0 (by decide) (hz (.fieldLink R_Blocks 12 "LayoutFront$Blocks" "open" "LLayoutFront$Open;") zm_183) (fun _ h9 => h9) rfl d_Blocks_passBrace_28 ?_
    have hPc := hP.sub (ws' := [(a_open, .inr (6, [.ref a_open_things, .int (nI (drp f_open_things n_open_size)), .int z_open_most]))]) [1] rfl
    have hDc := hD.sub (ws' := [(a_open, .inr (6, [.ref a_open_things, .int (nI (drp f_open_things n_open_size)), .int z_open_most]))]) [1] (by decide) rfl
    have hKc := hK.sub (tys' := []) [] rfl
    have hFc := va_free (wc := [(a_open, .inr (6, [.ref a_open_things, .int (nI (drp f_open_things n_open_size)), .int z_open_most]))]) hD hS hA [1] rfl
    refine va_callv (va_runV (As := []) (rest := []) ⟨hx, hb, hml, hown, hz⟩ (s_Open_pop6 l dC dI H.size a_open a_open_things ((drp f_open_things n_open_size)) z_open_most (by first | omega | assumption | exact Or.inl rfl | exact Or.inr rfl | decide)) (cwV 0 hz (zV zm_284 zm_285 zm_286 zm_177 zm_287) rfl rfl rfl (by decide +kernel) ⟨Nat.le_of_ble_eq_true rfl, Nat.le_of_ble_eq_true rfl⟩) ⟨fun a U g mk q => by obtain ⟨q0, q1, qP, qK, qD⟩ := q; exact ⟨q0, q1, qP, va_K.moved (u := U) (U := U.calling g mk a) (Vm.Alike.refl U.vm) qK, qD⟩, va_recv (q := (R_Open, F_Open, 3)) (q0 := 1) (ci := 6) hK hP rfl rfl, fun U hU hW => ⟨rfl, by rw [hU], by rw [hU]; exact hPc, va_K.moved hW.alike hKc, hDc.weaken (fun _ _ _ _ => trivial)⟩⟩ rfl rfl hl.1 rfl (lv_room (Nat.le_of_ble_eq_true rfl)) d_Blocks_passBrace_31 ⟨Nat.zero_le _, Nat.zero_le _⟩) hS (fun q _ h => hFc q h) hFc (fun u t H1 locs ht hvm hw hB hz1 hk1 hS => ?_)
    obtain ⟨g3, hb_g3, hq0_31, hP1, hK1, hD1⟩ := hB
    subst g3
    rw [ht] at hP1
    obtain ⟨hP, hD⟩ := va_join (wr := [(a_t, .inr (2, [.ref a_open, .ref a_laid, .int z_begun])), (a_open_things, .inl (ka_open_things, 181, .inl f_open_things))]) (w1 := [(a_open, .inr (6, [.ref a_open_things, .int (nI (((drp f_open_things n_open_size)) - 1)), .int z_open_most]))]) hP hD [1] [0, 2] rfl rfl (by decide) (by decide) hk1 hFc hP1 hD1
    generalize H1 = H at hP hS ⊢
    have hP : va_P (dC, dI) vcl [(a_t, .inr (2, [.ref a_open, .ref a_laid, .int z_begun])), (a_open_things, .inl (ka_open_things, 181, .inl f_open_things)), (a_open, .inr (6, [.ref a_open_things, .int (nI (((drp f_open_things n_open_size)) - 1)), .int z_open_most]))] H := hP
    have hD : va_D A [(a_t, .inr (2, [.ref a_open, .ref a_laid, .int z_begun])), (a_open_things, .inl (ka_open_things, 181, .inl f_open_things)), (a_open, .inr (6, [.ref a_open_things, .int (nI (((drp f_open_things n_open_size)) - 1)), .int z_open_most]))] := hD
    refine lv_iload_n hx hb d_Blocks_passBrace_34 rfl (lv_at hl 0 rfl) ?_
    have hP9 := hP.sub (ws' := [(a_t, .inr (2, [.ref a_open, .ref a_laid, .int z_begun])), (a_open, .inr (6, [.ref a_open_things, .int (nI (((drp f_open_things n_open_size)) - 1)), .int z_open_most])), (a_open_things, .inl (ka_open_things, 181, .inl f_open_things))]) [0, 2, 1] rfl
    have hD9 := hD.sub (ws' := [(a_t, .inr (2, [.ref a_open, .ref a_laid, .int z_begun])), (a_open, .inr (6, [.ref a_open_things, .int (nI (((drp f_open_things n_open_size)) - 1)), .int z_open_most])), (a_open_things, .inl (ka_open_things, 181, .inl f_open_things))]) [0, 2, 1] (by decide) rfl
    exact W.zret (v := 1) hx hb hr (by decide +kernel) (fun t ht hW => ⟨⟨1, (), rfl, ⟨(by first | assumption | exact Or.inl rfl | exact Or.inr rfl), (by exact so_1 (brC_y e14))⟩, ((((drp f_open_things n_open_size)) - 1)), by first | omega | assumption | exact Or.inl rfl | exact Or.inr rfl | decide, by (intro s9 hh; rw [(brC_y e14)] at hh; cases hh; rfl), by rw [ht]; exact hP9, va_K.moved hW.alike hK, hD9⟩, hS.F ht⟩) hS.2.2 d_Blocks_passBrace_35
set_option maxHeartbeats 4000000 in
set_option maxRecDepth 100000 in
theorem s_Blocks_end6 (l : Launch) (dC : Nat → ClassId) (dI : Nat → Nat → Nat) (sz : Nat) (a_t : Nat) (a_open : Nat) (a_open_things : Nat) (f_open_things : Nat → Int32) (n_open_size : Nat) (z_open_most : Int32) (a_laid : Nat) (a_laid_kinds : Nat) (f_laid_kinds : Nat → Int32) (a_laid_values : Nat) (f_laid_values : Nat → Int64) (n_laid_size : Nat) (z_begun : Int32) (y0 : Int32) (ka_open_things : ClassId) (ka_laid_kinds : ClassId) (ka_laid_values : ClassId) (b_open_size : n_open_size ≤ 181) (b_laid_size : n_laid_size ≤ 362) (hp0 : pt (stk f_open_things n_open_size, tks f_laid_kinds f_laid_values n_laid_size, z_open_most) ≤ 362) (hp1 : ¬ y0 = -7) : Met l y_Blocks_end w_Blocks_end ({ frames := 3, cells := 0, slots := 0, locals := 66 }) (va_Pc [.ref a_t, .int y0] (fun U => U.heap.size = sz ∧ va_P (dC, dI) vcl [(a_t, .inr (2, [.ref a_open, .ref a_laid, .int z_begun])), (a_open, .inr (6, [.ref a_open_things, .int (nI n_open_size), .int z_open_most])), (a_open_things, .inl (ka_open_things, 181, .inl f_open_things)), (a_laid, .inr (11, [.ref a_laid_kinds, .ref a_laid_values, .int (nI n_laid_size)])), (a_laid_kinds, .inl (ka_laid_kinds, 362, .inl f_laid_kinds)), (a_laid_values, .inl (ka_laid_values, 362, .inr (.inl f_laid_values)))] U.heap ∧ va_K (dC, dI) vcl [(ka_open_things, .int), (ka_laid_kinds, .int), (ka_laid_values, .long)] U ∧ va_D (fun _ => True) [(a_t, .inr (2, [.ref a_open, .ref a_laid, .int z_begun])), (a_open, .inr (6, [.ref a_open_things, .int (nI n_open_size), .int z_open_most])), (a_open_things, .inl (ka_open_things, 181, .inl f_open_things)), (a_laid, .inr (11, [.ref a_laid_kinds, .ref a_laid_values, .int (nI n_laid_size)])), (a_laid_kinds, .inl (ka_laid_kinds, 362, .inl f_laid_kinds)), (a_laid_values, .inl (ka_laid_values, 362, .inr (.inl f_laid_values)))])) (va_Qi (fun (r : Int32) (_ : Unit) => (r = 0 ∨ r = 1) ∧ (r = b01 (clL y0 (stk f_open_things n_open_size, tks f_laid_kinds f_laid_values n_laid_size, z_open_most)).isSome)) (fun _ t => ∃ (w_n_open_size : Nat) (w_n_laid_size : Nat) (w_f_laid_kinds : Nat → Int32) (w_f_laid_values : Nat → Int64), (w_n_open_size ≤ 181) ∧ (w_n_laid_size ≤ 362) ∧ (∀ s9, clL y0 (stk f_open_things n_open_size, tks f_laid_kinds f_laid_values n_laid_size, z_open_most) = some s9 → (stk f_open_things w_n_open_size, tks w_f_laid_kinds w_f_laid_values w_n_laid_size, z_open_most) = s9) ∧ va_P (dC, dI) vcl [(a_t, .inr (2, [.ref a_open, .ref a_laid, .int z_begun])), (a_open, .inr (6, [.ref a_open_things, .int (nI w_n_open_size), .int z_open_most])), (a_open_things, .inl (ka_open_things, 181, .inl f_open_things)), (a_laid, .inr (11, [.ref a_laid_kinds, .ref a_laid_values, .int (nI w_n_laid_size)])), (a_laid_kinds, .inl (ka_laid_kinds, 362, .inl w_f_laid_kinds)), (a_laid_values, .inl (ka_laid_values, 362, .inr (.inl w_f_laid_values)))] t.heap ∧ va_K (dC, dI) vcl [(ka_open_things, .int), (ka_laid_kinds, .int), (ka_laid_values, .long)] t ∧ va_D (va_A [(a_t, .inr (2, [.ref a_open, .ref a_laid, .int z_begun])), (a_open, .inr (6, [.ref a_open_things, .int (nI n_open_size), .int z_open_most])), (a_open_things, .inl (ka_open_things, 181, .inl f_open_things)), (a_laid, .inr (11, [.ref a_laid_kinds, .ref a_laid_values, .int (nI n_laid_size)])), (a_laid_kinds, .inl (ka_laid_kinds, 362, .inl f_laid_kinds)), (a_laid_values, .inl (ka_laid_values, 362, .inr (.inl f_laid_values)))] sz) [(a_t, .inr (2, [.ref a_open, .ref a_laid, .int z_begun])), (a_open, .inr (6, [.ref a_open_things, .int (nI w_n_open_size), .int z_open_most])), (a_open_things, .inl (ka_open_things, 181, .inl f_open_things)), (a_laid, .inr (11, [.ref a_laid_kinds, .ref a_laid_values, .int (nI w_n_laid_size)])), (a_laid_kinds, .inl (ka_laid_kinds, 362, .inl w_f_laid_kinds)), (a_laid_values, .inl (ka_laid_values, 362, .inr (.inl w_f_laid_values)))]) (va_A [(a_t, .inr (2, [.ref a_open, .ref a_laid, .int z_begun])), (a_open, .inr (6, [.ref a_open_things, .int (nI n_open_size), .int z_open_most])), (a_open_things, .inl (ka_open_things, 181, .inl f_open_things)), (a_laid, .inr (11, [.ref a_laid_kinds, .ref a_laid_values, .int (nI n_laid_size)])), (a_laid_kinds, .inl (ka_laid_kinds, 362, .inl f_laid_kinds)), (a_laid_values, .inl (ka_laid_values, 362, .inr (.inl f_laid_values)))] sz)) 0 0 (va_A [(a_t, .inr (2, [.ref a_open, .ref a_laid, .int z_begun])), (a_open, .inr (6, [.ref a_open_things, .int (nI n_open_size), .int z_open_most])), (a_open_things, .inl (ka_open_things, 181, .inl f_open_things)), (a_laid, .inr (11, [.ref a_laid_kinds, .ref a_laid_values, .int (nI n_laid_size)])), (a_laid_kinds, .inl (ka_laid_kinds, 362, .inl f_laid_kinds)), (a_laid_values, .inl (ka_laid_values, 362, .inr (.inl f_laid_values)))] sz) := by
  refine Met.ofW (cc := b_Blocks_end) (maxL := 3) (ret := (some .boolean)) (by decide) rfl ?_
  intro p e s m args below meth c s₁ B hml hv
  obtain ⟨rfl, hsz, hP, hK, hD0⟩ := hv
  have hx := B.exec
  have hb := B.bytes
  have hr := B.returns
  have hts := atoms_spec (ws := w_Blocks_end) B.pre
  have hz : ∀ w ∈ wz, w.before _ s = true := fun w h => hts w (List.mem_cons_of_mem _ h)
  have hown : s.vm.findClass R_Blocks = some m.cls := findClass_of_methodNamed B.named
  have hlocks := B.notSynchronized
  subst hsz
  have hD := hD0.self (sz := s.heap.size)
  generalize hAe : va_A [(a_t, .inr (2, [.ref a_open, .ref a_laid, .int z_begun])), (a_open, .inr (6, [.ref a_open_things, .int (nI n_open_size), .int z_open_most])), (a_open_things, .inl (ka_open_things, 181, .inl f_open_things)), (a_laid, .inr (11, [.ref a_laid_kinds, .ref a_laid_values, .int (nI n_laid_size)])), (a_laid_kinds, .inl (ka_laid_kinds, 362, .inl f_laid_kinds)), (a_laid_values, .inl (ka_laid_values, 362, .inr (.inl f_laid_values)))] s.heap.size = A at hD ⊢
  have hA : ∀ q : Nat, s.heap.size ≤ q → A q := fun q h => by rw [← hAe]; exact Or.inr h
  have hS : va_S A s.heap s.heap [] := va_S.rf
  have hP : va_P (dC, dI) vcl [(a_t, .inr (2, [.ref a_open, .ref a_laid, .int z_begun])), (a_open, .inr (6, [.ref a_open_things, .int (nI n_open_size), .int z_open_most])), (a_open_things, .inl (ka_open_things, 181, .inl f_open_things)), (a_laid, .inr (11, [.ref a_laid_kinds, .ref a_laid_values, .int (nI n_laid_size)])), (a_laid_kinds, .inl (ka_laid_kinds, 362, .inl f_laid_kinds)), (a_laid_values, .inl (ka_laid_values, 362, .inr (.inl f_laid_values)))] s.heap := hP
  have hl := lv_entry ([.ref a_t, .int y0]) (n := 3) (Nat.le_of_ble_eq_true rfl)
  rw [lg_entry_eq]
  generalize (lg_sl ([.ref a_t, .int y0]) ++ List.replicate (3 - (lg_sl ([.ref a_t, .int y0])).length) Slot.unset).toArray = ls at hl ⊢
  have hl : lv_has ls 3 [(0, .ref a_t), (1, .int y0)] := hl
  refine lv_aload_n hx hb d_Blocks_end_0 rfl (lv_at hl 0 rfl) ?_
  refine lv_iload_n hx hb d_Blocks_end_1 rfl (lv_at hl 1 rfl) ?_
  refine lv_iconst (v := (-1)) hx hb d_Blocks_end_2 (by decide) ?_
  refine lv_icmp_eq (tgt := 10) hx hb d_Blocks_end_3 (by decide) (fun h1 => ?_) (fun h1 => ?_)
  · have e3 := h1
    refine lv_iconst (v := 0) hx hb d_Blocks_end_10 (by decide) ?_
    have hPc := hP.sub (ws' := [(a_t, .inr (2, [.ref a_open, .ref a_laid, .int z_begun])), (a_open, .inr (6, [.ref a_open_things, .int (nI n_open_size), .int z_open_most])), (a_open_things, .inl (ka_open_things, 181, .inl f_open_things)), (a_laid, .inr (11, [.ref a_laid_kinds, .ref a_laid_values, .int (nI n_laid_size)])), (a_laid_kinds, .inl (ka_laid_kinds, 362, .inl f_laid_kinds)), (a_laid_values, .inl (ka_laid_values, 362, .inr (.inl f_laid_values)))]) [0, 1, 2, 3, 4, 5] rfl
    have hDc := hD.sub (ws' := [(a_t, .inr (2, [.ref a_open, .ref a_laid, .int z_begun])), (a_open, .inr (6, [.ref a_open_things, .int (nI n_open_size), .int z_open_most])), (a_open_things, .inl (ka_open_things, 181, .inl f_open_things)), (a_laid, .inr (11, [.ref a_laid_kinds, .ref a_laid_values, .int (nI n_laid_size)])), (a_laid_kinds, .inl (ka_laid_kinds, 362, .inl f_laid_kinds)), (a_laid_values, .inl (ka_laid_values, 362, .inr (.inl f_laid_values)))]) [0, 1, 2, 3, 4, 5] (by decide) rfl
    have hKc := hK.sub (tys' := [(ka_open_things, .int), (ka_laid_kinds, .int), (ka_laid_values, .long)]) [0, 1, 2] rfl
    have hFc := va_free (wc := [(a_t, .inr (2, [.ref a_open, .ref a_laid, .int z_begun])), (a_open, .inr (6, [.ref a_open_things, .int (nI n_open_size), .int z_open_most])), (a_open_things, .inl (ka_open_things, 181, .inl f_open_things)), (a_laid, .inr (11, [.ref a_laid_kinds, .ref a_laid_values, .int (nI n_laid_size)])), (a_laid_kinds, .inl (ka_laid_kinds, 362, .inl f_laid_kinds)), (a_laid_values, .inl (ka_laid_values, 362, .inr (.inl f_laid_values)))]) hD hS hA [0, 1, 2, 3, 4, 5] rfl
    refine va_callv (va_runV (As := [.int 0]) (rest := []) ⟨hx, hb, hml, hown, hz⟩ (s_Blocks_closeBlocks6 l dC dI s.heap.size a_t a_open a_open_things f_open_things n_open_size z_open_most a_laid a_laid_kinds f_laid_kinds a_laid_values f_laid_values n_laid_size z_begun 0 ka_open_things ka_laid_kinds ka_laid_values (by first | omega | assumption | exact Or.inl rfl | exact Or.inr rfl | decide) (by first | omega | assumption | exact Or.inl rfl | exact Or.inr rfl | decide) (by first | omega | assumption | exact Or.inl rfl | exact Or.inr rfl | decide)) (cwV 1 hz (zV zm_236 zm_237 zm_238 zm_205 zm_239) rfl rfl rfl (by decide +kernel) ⟨Nat.le_of_ble_eq_true rfl, Nat.le_of_ble_eq_true rfl⟩) ⟨fun a U g mk q => by obtain ⟨q0, q1, qP, qK, qD⟩ := q; exact ⟨q0, q1, qP, va_K.moved (u := U) (U := U.calling g mk a) (Vm.Alike.refl U.vm) qK, qD⟩, va_recv (q := (R_Blocks, F_Blocks, 3)) (q0 := 0) (ci := 2) hK hP rfl rfl, fun U hU hW => ⟨rfl, by rw [hU], by rw [hU]; exact hPc, va_K.moved hW.alike hKc, hDc.weaken (fun _ _ _ _ => trivial)⟩⟩ rfl rfl hl.1 rfl (lv_room (Nat.le_of_ble_eq_true rfl)) d_Blocks_end_11 ⟨Nat.zero_le _, Nat.zero_le _⟩) hS (fun q _ h => hFc q h) hFc (fun u t H1 locs ht hvm hw hB hz1 hk1 hS => ?_)
    obtain ⟨g2, g3, g4, g5, hb_g2, hb_g3, hq0_11, hP1, hK1, hD1⟩ := hB
    rw [ht] at hP1
    obtain ⟨hP, hD⟩ := va_join (wr := []) (w1 := [(a_t, .inr (2, [.ref a_open, .ref a_laid, .int z_begun])), (a_open, .inr (6, [.ref a_open_things, .int (nI g2), .int z_open_most])), (a_open_things, .inl (ka_open_things, 181, .inl f_open_things)), (a_laid, .inr (11, [.ref a_laid_kinds, .ref a_laid_values, .int (nI g3)])), (a_laid_kinds, .inl (ka_laid_kinds, 362, .inl g4)), (a_laid_values, .inl (ka_laid_values, 362, .inr (.inl g5)))]) hP hD [0, 1, 2, 3, 4, 5] [] rfl rfl (by decide) (by decide) hk1 hFc hP1 hD1
    generalize H1 = H at hP hS ⊢
    have hP : va_P (dC, dI) vcl [(a_t, .inr (2, [.ref a_open, .ref a_laid, .int z_begun])), (a_open, .inr (6, [.ref a_open_things, .int (nI g2), .int z_open_most])), (a_open_things, .inl (ka_open_things, 181, .inl f_open_things)), (a_laid, .inr (11, [.ref a_laid_kinds, .ref a_laid_values, .int (nI g3)])), (a_laid_kinds, .inl (ka_laid_kinds, 362, .inl g4)), (a_laid_values, .inl (ka_laid_values, 362, .inr (.inl g5)))] H := hP
    have hD : va_D A [(a_t, .inr (2, [.ref a_open, .ref a_laid, .int z_begun])), (a_open, .inr (6, [.ref a_open_things, .int (nI g2), .int z_open_most])), (a_open_things, .inl (ka_open_things, 181, .inl f_open_things)), (a_laid, .inr (11, [.ref a_laid_kinds, .ref a_laid_values, .int (nI g3)])), (a_laid_kinds, .inl (ka_laid_kinds, 362, .inl g4)), (a_laid_values, .inl (ka_laid_values, 362, .inr (.inl g5)))] := hD
    refine lv_aload_n hx hb d_Blocks_end_14 rfl (lv_at hl 0 rfl) ?_
    refine va_get (D := (dC, dI)) (ci := 2) (v := .ref a_open) (C := R_Blocks) (T := F_Blocks) (N := 3) hx hb hz zu_Blocks hown hK hP 0 rfl rfl 0 (by decide) (hz (.fieldLink R_Blocks 12 "LayoutFront$Blocks" "open" "LLayoutFront$Open;") zm_183) (fun _ h9 => h9) rfl d_Blocks_end_15 ?_
    have hPc := hP.sub (ws' := [(a_open, .inr (6, [.ref a_open_things, .int (nI g2), .int z_open_most])), (a_open_things, .inl (ka_open_things, 181, .inl f_open_things))]) [1, 2] rfl
    have hDc := hD.sub (ws' := [(a_open, .inr (6, [.ref a_open_things, .int (nI g2), .int z_open_most])), (a_open_things, .inl (ka_open_things, 181, .inl f_open_things))]) [1, 2] (by decide) rfl
    have hKc := hK.sub (tys' := [(ka_open_things, .int)]) [0] rfl
    have hFc := va_free (wc := [(a_open, .inr (6, [.ref a_open_things, .int (nI g2), .int z_open_most])), (a_open_things, .inl (ka_open_things, 181, .inl f_open_things))]) hD hS hA [1, 2] rfl
    refine va_calli (va_runV (As := []) (rest := []) ⟨hx, hb, hml, hown, hz⟩ (s_Open_top6 l dC dI H.size a_open a_open_things f_open_things g2 z_open_most ka_open_things (by first | omega | assumption | exact Or.inl rfl | exact Or.inr rfl | decide)) (cwV 0 hz (zV zm_300 zm_301 zm_302 zm_177 zm_303) rfl rfl rfl (by decide +kernel) ⟨Nat.le_of_ble_eq_true rfl, Nat.le_of_ble_eq_true rfl⟩) ⟨fun a U g mk q => by obtain ⟨q0, q1, qP, qK, qD⟩ := q; exact ⟨q0, q1, qP, va_K.moved (u := U) (U := U.calling g mk a) (Vm.Alike.refl U.vm) qK, qD⟩, va_recv (q := (R_Open, F_Open, 3)) (q0 := 1) (ci := 6) hK hP rfl rfl, fun U hU hW => ⟨rfl, by rw [hU], by rw [hU]; exact hPc, va_K.moved hW.alike hKc, hDc.weaken (fun _ _ _ _ => trivial)⟩⟩ rfl rfl hl.1 rfl (lv_room (Nat.le_of_ble_eq_true rfl)) d_Blocks_end_18 ⟨Nat.zero_le _, Nat.zero_le _⟩) hS (fun q _ h => hFc q h) hFc (fun r u t H1 locs ht hvm hw hB hz1 hk1 hS => ?_)
    obtain ⟨hP1, hK1, hD1⟩ := hB
    subst r
    rw [ht] at hP1
    obtain ⟨hP, hD⟩ := va_join (wr := [(a_t, .inr (2, [.ref a_open, .ref a_laid, .int z_begun])), (a_laid, .inr (11, [.ref a_laid_kinds, .ref a_laid_values, .int (nI g3)])), (a_laid_kinds, .inl (ka_laid_kinds, 362, .inl g4)), (a_laid_values, .inl (ka_laid_values, 362, .inr (.inl g5)))]) (w1 := [(a_open, .inr (6, [.ref a_open_things, .int (nI g2), .int z_open_most])), (a_open_things, .inl (ka_open_things, 181, .inl f_open_things))]) hP hD [1, 2] [0, 3, 4, 5] rfl rfl (by decide) (by decide) hk1 hFc hP1 hD1
    generalize H1 = H at hP hS ⊢
    have hP : va_P (dC, dI) vcl [(a_t, .inr (2, [.ref a_open, .ref a_laid, .int z_begun])), (a_laid, .inr (11, [.ref a_laid_kinds, .ref a_laid_values, .int (nI g3)])), (a_laid_kinds, .inl (ka_laid_kinds, 362, .inl g4)), (a_laid_values, .inl (ka_laid_values, 362, .inr (.inl g5))), (a_open, .inr (6, [.ref a_open_things, .int (nI g2), .int z_open_most])), (a_open_things, .inl (ka_open_things, 181, .inl f_open_things))] H := hP
    have hD : va_D A [(a_t, .inr (2, [.ref a_open, .ref a_laid, .int z_begun])), (a_laid, .inr (11, [.ref a_laid_kinds, .ref a_laid_values, .int (nI g3)])), (a_laid_kinds, .inl (ka_laid_kinds, 362, .inl g4)), (a_laid_values, .inl (ka_laid_values, 362, .inr (.inl g5))), (a_open, .inr (6, [.ref a_open_things, .int (nI g2), .int z_open_most])), (a_open_things, .inl (ka_open_things, 181, .inl f_open_things))] := hD
    refine lv_iload_n hx hb d_Blocks_end_21 rfl (lv_at hl 1 rfl) ?_
    refine lv_icmp_ne (tgt := 29) hx hb d_Blocks_end_22 (by decide) (fun h6 => ?_) (fun h6 => ?_)
    · have e22 := h6
      refine lv_iconst (v := 0) hx hb d_Blocks_end_29 (by decide) ?_
      refine lv_istore_n hx hb d_Blocks_end_30 rfl hl (by decide) rfl (fun ls hl => ?_)
      have hl : lv_has ls 3 [(2, .int 0), (0, .ref a_t), (1, .int y0)] := hl
      refine lv_iload_n hx hb d_Blocks_end_31 rfl (lv_at hl 0 rfl) ?_
      refine lv_if_eq (tgt := 42) hx hb d_Blocks_end_32 (by decide) (fun _ => ?_) (fun h => (h (by decide +kernel)).elim)
      refine lv_iload_n hx hb d_Blocks_end_42 rfl (lv_at hl 0 rfl) ?_
      have hP9 := hP.sub (ws' := [(a_t, .inr (2, [.ref a_open, .ref a_laid, .int z_begun])), (a_open, .inr (6, [.ref a_open_things, .int (nI g2), .int z_open_most])), (a_open_things, .inl (ka_open_things, 181, .inl f_open_things)), (a_laid, .inr (11, [.ref a_laid_kinds, .ref a_laid_values, .int (nI g3)])), (a_laid_kinds, .inl (ka_laid_kinds, 362, .inl g4)), (a_laid_values, .inl (ka_laid_values, 362, .inr (.inl g5)))]) [0, 4, 5, 1, 2, 3] rfl
      have hD9 := hD.sub (ws' := [(a_t, .inr (2, [.ref a_open, .ref a_laid, .int z_begun])), (a_open, .inr (6, [.ref a_open_things, .int (nI g2), .int z_open_most])), (a_open_things, .inl (ka_open_things, 181, .inl f_open_things)), (a_laid, .inr (11, [.ref a_laid_kinds, .ref a_laid_values, .int (nI g3)])), (a_laid_kinds, .inl (ka_laid_kinds, 362, .inl g4)), (a_laid_values, .inl (ka_laid_values, 362, .inr (.inl g5)))]) [0, 4, 5, 1, 2, 3] (by decide) rfl
      exact W.zret (v := 0) hx hb hr (by decide +kernel) (fun t ht hW => ⟨⟨0, (), rfl, ⟨(by first | assumption | exact Or.inl rfl | exact Or.inr rfl), (by exact so_0 (clC_n (b := 0) hq0_11 (by rw [e3]; decide) e22))⟩, g2, g3, g4, g5, by first | omega | assumption | exact Or.inl rfl | exact Or.inr rfl | decide, by first | omega | assumption | exact Or.inl rfl | exact Or.inr rfl | decide, by (intro s9 hh; rw [(clC_n (b := 0) hq0_11 (by rw [e3]; decide) e22)] at hh; cases hh), by rw [ht]; exact hP9, va_K.moved hW.alike hK, hD9⟩, hS.F ht⟩) hS.2.2 d_Blocks_end_43
    · have e22 := h6
      refine lv_iconst (v := 1) hx hb d_Blocks_end_25 (by decide) ?_
      refine lv_goto (tgt := 30) hx hb d_Blocks_end_26 (by decide) ?_
      refine lv_istore_n hx hb d_Blocks_end_30 rfl hl (by decide) rfl (fun ls hl => ?_)
      have hl : lv_has ls 3 [(2, .int 1), (0, .ref a_t), (1, .int y0)] := hl
      refine lv_iload_n hx hb d_Blocks_end_31 rfl (lv_at hl 0 rfl) ?_
      refine lv_if_eq (tgt := 42) hx hb d_Blocks_end_32 (by decide) (fun h => absurd h (by decide +kernel)) (fun _ => ?_)
      refine lv_aload_n hx hb d_Blocks_end_35 rfl (lv_at hl 1 rfl) ?_
      refine va_get (D := (dC, dI)) (ci := 2) (v := .ref a_open) (C := R_Blocks) (T := F_Blocks) (N := 3) hx hb hz zu_Blocks hown hK hP 0 rfl rfl 0 (by decide) (hz (.fieldLink R_Blocks 12 "LayoutFront$Blocks" "open" "LLayoutFront$Open;") zm_183) (fun _ h9 => h9) rfl d_Blocks_end_36 ?_
      have hPc := hP.sub (ws' := [(a_open, .inr (6, [.ref a_open_things, .int (nI g2), .int z_open_most]))]) [4] rfl
      have hDc := hD.sub (ws' := [(a_open, .inr (6, [.ref a_open_things, .int (nI g2), .int z_open_most]))]) [4] (by decide) rfl
      have hKc := hK.sub (tys' := []) [] rfl
      have hFc := va_free (wc := [(a_open, .inr (6, [.ref a_open_things, .int (nI g2), .int z_open_most]))]) hD hS hA [4] rfl
      refine va_callv (va_runV (As := []) (rest := []) ⟨hx, hb, hml, hown, hz⟩ (s_Open_pop6 l dC dI H.size a_open a_open_things g2 z_open_most (by first | omega | assumption | exact Or.inl rfl | exact Or.inr rfl | decide)) (cwV 0 hz (zV zm_284 zm_285 zm_286 zm_177 zm_287) rfl rfl rfl (by decide +kernel) ⟨Nat.le_of_ble_eq_true rfl, Nat.le_of_ble_eq_true rfl⟩) ⟨fun a U g mk q => by obtain ⟨q0, q1, qP, qK, qD⟩ := q; exact ⟨q0, q1, qP, va_K.moved (u := U) (U := U.calling g mk a) (Vm.Alike.refl U.vm) qK, qD⟩, va_recv (q := (R_Open, F_Open, 3)) (q0 := 4) (ci := 6) hK hP rfl rfl, fun U hU hW => ⟨rfl, by rw [hU], by rw [hU]; exact hPc, va_K.moved hW.alike hKc, hDc.weaken (fun _ _ _ _ => trivial)⟩⟩ rfl rfl hl.1 rfl (lv_room (Nat.le_of_ble_eq_true rfl)) d_Blocks_end_39 ⟨Nat.zero_le _, Nat.zero_le _⟩) hS (fun q _ h => hFc q h) hFc (fun u t H1 locs ht hvm hw hB hz1 hk1 hS => ?_)
      obtain ⟨g7, hb_g7, hq0_39, hP1, hK1, hD1⟩ := hB
      subst g7
      rw [ht] at hP1
      obtain ⟨hP, hD⟩ := va_join (wr := [(a_t, .inr (2, [.ref a_open, .ref a_laid, .int z_begun])), (a_laid, .inr (11, [.ref a_laid_kinds, .ref a_laid_values, .int (nI g3)])), (a_laid_kinds, .inl (ka_laid_kinds, 362, .inl g4)), (a_laid_values, .inl (ka_laid_values, 362, .inr (.inl g5))), (a_open_things, .inl (ka_open_things, 181, .inl f_open_things))]) (w1 := [(a_open, .inr (6, [.ref a_open_things, .int (nI (g2 - 1)), .int z_open_most]))]) hP hD [4] [0, 1, 2, 3, 5] rfl rfl (by decide) (by decide) hk1 hFc hP1 hD1
      generalize H1 = H at hP hS ⊢
      have hP : va_P (dC, dI) vcl [(a_t, .inr (2, [.ref a_open, .ref a_laid, .int z_begun])), (a_laid, .inr (11, [.ref a_laid_kinds, .ref a_laid_values, .int (nI g3)])), (a_laid_kinds, .inl (ka_laid_kinds, 362, .inl g4)), (a_laid_values, .inl (ka_laid_values, 362, .inr (.inl g5))), (a_open_things, .inl (ka_open_things, 181, .inl f_open_things)), (a_open, .inr (6, [.ref a_open_things, .int (nI (g2 - 1)), .int z_open_most]))] H := hP
      have hD : va_D A [(a_t, .inr (2, [.ref a_open, .ref a_laid, .int z_begun])), (a_laid, .inr (11, [.ref a_laid_kinds, .ref a_laid_values, .int (nI g3)])), (a_laid_kinds, .inl (ka_laid_kinds, 362, .inl g4)), (a_laid_values, .inl (ka_laid_values, 362, .inr (.inl g5))), (a_open_things, .inl (ka_open_things, 181, .inl f_open_things)), (a_open, .inr (6, [.ref a_open_things, .int (nI (g2 - 1)), .int z_open_most]))] := hD
      refine lv_iload_n hx hb d_Blocks_end_42 rfl (lv_at hl 0 rfl) ?_
      have hP9 := hP.sub (ws' := [(a_t, .inr (2, [.ref a_open, .ref a_laid, .int z_begun])), (a_open, .inr (6, [.ref a_open_things, .int (nI (g2 - 1)), .int z_open_most])), (a_open_things, .inl (ka_open_things, 181, .inl f_open_things)), (a_laid, .inr (11, [.ref a_laid_kinds, .ref a_laid_values, .int (nI g3)])), (a_laid_kinds, .inl (ka_laid_kinds, 362, .inl g4)), (a_laid_values, .inl (ka_laid_values, 362, .inr (.inl g5)))]) [0, 5, 4, 1, 2, 3] rfl
      have hD9 := hD.sub (ws' := [(a_t, .inr (2, [.ref a_open, .ref a_laid, .int z_begun])), (a_open, .inr (6, [.ref a_open_things, .int (nI (g2 - 1)), .int z_open_most])), (a_open_things, .inl (ka_open_things, 181, .inl f_open_things)), (a_laid, .inr (11, [.ref a_laid_kinds, .ref a_laid_values, .int (nI g3)])), (a_laid_kinds, .inl (ka_laid_kinds, 362, .inl g4)), (a_laid_values, .inl (ka_laid_values, 362, .inr (.inl g5)))]) [0, 5, 4, 1, 2, 3] (by decide) rfl
      exact W.zret (v := 1) hx hb hr (by decide +kernel) (fun t ht hW => ⟨⟨1, (), rfl, ⟨(by first | assumption | exact Or.inl rfl | exact Or.inr rfl), (by exact so_1 (clC_y (b := 0) hq0_11 (by rw [e3]; decide) e22 hp1))⟩, ((g2 - 1)), g3, g4, g5, by first | omega | assumption | exact Or.inl rfl | exact Or.inr rfl | decide, by first | omega | assumption | exact Or.inl rfl | exact Or.inr rfl | decide, by (intro s9 hh; rw [(clC_y (b := 0) hq0_11 (by rw [e3]; decide) e22 hp1)] at hh; cases hh; rfl), by rw [ht]; exact hP9, va_K.moved hW.alike hK, hD9⟩, hS.F ht⟩) hS.2.2 d_Blocks_end_43
  · have e3 := h1
    refine lv_iconst (v := 1) hx hb d_Blocks_end_6 (by decide) ?_
    refine lv_goto (tgt := 11) hx hb d_Blocks_end_7 (by decide) ?_
    have hPc := hP.sub (ws' := [(a_t, .inr (2, [.ref a_open, .ref a_laid, .int z_begun])), (a_open, .inr (6, [.ref a_open_things, .int (nI n_open_size), .int z_open_most])), (a_open_things, .inl (ka_open_things, 181, .inl f_open_things)), (a_laid, .inr (11, [.ref a_laid_kinds, .ref a_laid_values, .int (nI n_laid_size)])), (a_laid_kinds, .inl (ka_laid_kinds, 362, .inl f_laid_kinds)), (a_laid_values, .inl (ka_laid_values, 362, .inr (.inl f_laid_values)))]) [0, 1, 2, 3, 4, 5] rfl
    have hDc := hD.sub (ws' := [(a_t, .inr (2, [.ref a_open, .ref a_laid, .int z_begun])), (a_open, .inr (6, [.ref a_open_things, .int (nI n_open_size), .int z_open_most])), (a_open_things, .inl (ka_open_things, 181, .inl f_open_things)), (a_laid, .inr (11, [.ref a_laid_kinds, .ref a_laid_values, .int (nI n_laid_size)])), (a_laid_kinds, .inl (ka_laid_kinds, 362, .inl f_laid_kinds)), (a_laid_values, .inl (ka_laid_values, 362, .inr (.inl f_laid_values)))]) [0, 1, 2, 3, 4, 5] (by decide) rfl
    have hKc := hK.sub (tys' := [(ka_open_things, .int), (ka_laid_kinds, .int), (ka_laid_values, .long)]) [0, 1, 2] rfl
    have hFc := va_free (wc := [(a_t, .inr (2, [.ref a_open, .ref a_laid, .int z_begun])), (a_open, .inr (6, [.ref a_open_things, .int (nI n_open_size), .int z_open_most])), (a_open_things, .inl (ka_open_things, 181, .inl f_open_things)), (a_laid, .inr (11, [.ref a_laid_kinds, .ref a_laid_values, .int (nI n_laid_size)])), (a_laid_kinds, .inl (ka_laid_kinds, 362, .inl f_laid_kinds)), (a_laid_values, .inl (ka_laid_values, 362, .inr (.inl f_laid_values)))]) hD hS hA [0, 1, 2, 3, 4, 5] rfl
    refine va_callv (va_runV (As := [.int 1]) (rest := []) ⟨hx, hb, hml, hown, hz⟩ (s_Blocks_closeBlocks6 l dC dI s.heap.size a_t a_open a_open_things f_open_things n_open_size z_open_most a_laid a_laid_kinds f_laid_kinds a_laid_values f_laid_values n_laid_size z_begun 1 ka_open_things ka_laid_kinds ka_laid_values (by first | omega | assumption | exact Or.inl rfl | exact Or.inr rfl | decide) (by first | omega | assumption | exact Or.inl rfl | exact Or.inr rfl | decide) (by first | omega | assumption | exact Or.inl rfl | exact Or.inr rfl | decide)) (cwV 1 hz (zV zm_236 zm_237 zm_238 zm_205 zm_239) rfl rfl rfl (by decide +kernel) ⟨Nat.le_of_ble_eq_true rfl, Nat.le_of_ble_eq_true rfl⟩) ⟨fun a U g mk q => by obtain ⟨q0, q1, qP, qK, qD⟩ := q; exact ⟨q0, q1, qP, va_K.moved (u := U) (U := U.calling g mk a) (Vm.Alike.refl U.vm) qK, qD⟩, va_recv (q := (R_Blocks, F_Blocks, 3)) (q0 := 0) (ci := 2) hK hP rfl rfl, fun U hU hW => ⟨rfl, by rw [hU], by rw [hU]; exact hPc, va_K.moved hW.alike hKc, hDc.weaken (fun _ _ _ _ => trivial)⟩⟩ rfl rfl hl.1 rfl (lv_room (Nat.le_of_ble_eq_true rfl)) d_Blocks_end_11 ⟨Nat.zero_le _, Nat.zero_le _⟩) hS (fun q _ h => hFc q h) hFc (fun u t H1 locs ht hvm hw hB hz1 hk1 hS => ?_)
    obtain ⟨g8, g9, g10, g11, hb_g8, hb_g9, hq0_11, hP1, hK1, hD1⟩ := hB
    rw [ht] at hP1
    obtain ⟨hP, hD⟩ := va_join (wr := []) (w1 := [(a_t, .inr (2, [.ref a_open, .ref a_laid, .int z_begun])), (a_open, .inr (6, [.ref a_open_things, .int (nI g8), .int z_open_most])), (a_open_things, .inl (ka_open_things, 181, .inl f_open_things)), (a_laid, .inr (11, [.ref a_laid_kinds, .ref a_laid_values, .int (nI g9)])), (a_laid_kinds, .inl (ka_laid_kinds, 362, .inl g10)), (a_laid_values, .inl (ka_laid_values, 362, .inr (.inl g11)))]) hP hD [0, 1, 2, 3, 4, 5] [] rfl rfl (by decide) (by decide) hk1 hFc hP1 hD1
    generalize H1 = H at hP hS ⊢
    have hP : va_P (dC, dI) vcl [(a_t, .inr (2, [.ref a_open, .ref a_laid, .int z_begun])), (a_open, .inr (6, [.ref a_open_things, .int (nI g8), .int z_open_most])), (a_open_things, .inl (ka_open_things, 181, .inl f_open_things)), (a_laid, .inr (11, [.ref a_laid_kinds, .ref a_laid_values, .int (nI g9)])), (a_laid_kinds, .inl (ka_laid_kinds, 362, .inl g10)), (a_laid_values, .inl (ka_laid_values, 362, .inr (.inl g11)))] H := hP
    have hD : va_D A [(a_t, .inr (2, [.ref a_open, .ref a_laid, .int z_begun])), (a_open, .inr (6, [.ref a_open_things, .int (nI g8), .int z_open_most])), (a_open_things, .inl (ka_open_things, 181, .inl f_open_things)), (a_laid, .inr (11, [.ref a_laid_kinds, .ref a_laid_values, .int (nI g9)])), (a_laid_kinds, .inl (ka_laid_kinds, 362, .inl g10)), (a_laid_values, .inl (ka_laid_values, 362, .inr (.inl g11)))] := hD
    refine lv_aload_n hx hb d_Blocks_end_14 rfl (lv_at hl 0 rfl) ?_
    refine va_get (D := (dC, dI)) (ci := 2) (v := .ref a_open) (C := R_Blocks) (T := F_Blocks) (N := 3) hx hb hz zu_Blocks hown hK hP 0 rfl rfl 0 (by decide) (hz (.fieldLink R_Blocks 12 "LayoutFront$Blocks" "open" "LLayoutFront$Open;") zm_183) (fun _ h9 => h9) rfl d_Blocks_end_15 ?_
    have hPc := hP.sub (ws' := [(a_open, .inr (6, [.ref a_open_things, .int (nI g8), .int z_open_most])), (a_open_things, .inl (ka_open_things, 181, .inl f_open_things))]) [1, 2] rfl
    have hDc := hD.sub (ws' := [(a_open, .inr (6, [.ref a_open_things, .int (nI g8), .int z_open_most])), (a_open_things, .inl (ka_open_things, 181, .inl f_open_things))]) [1, 2] (by decide) rfl
    have hKc := hK.sub (tys' := [(ka_open_things, .int)]) [0] rfl
    have hFc := va_free (wc := [(a_open, .inr (6, [.ref a_open_things, .int (nI g8), .int z_open_most])), (a_open_things, .inl (ka_open_things, 181, .inl f_open_things))]) hD hS hA [1, 2] rfl
    refine va_calli (va_runV (As := []) (rest := []) ⟨hx, hb, hml, hown, hz⟩ (s_Open_top6 l dC dI H.size a_open a_open_things f_open_things g8 z_open_most ka_open_things (by first | omega | assumption | exact Or.inl rfl | exact Or.inr rfl | decide)) (cwV 0 hz (zV zm_300 zm_301 zm_302 zm_177 zm_303) rfl rfl rfl (by decide +kernel) ⟨Nat.le_of_ble_eq_true rfl, Nat.le_of_ble_eq_true rfl⟩) ⟨fun a U g mk q => by obtain ⟨q0, q1, qP, qK, qD⟩ := q; exact ⟨q0, q1, qP, va_K.moved (u := U) (U := U.calling g mk a) (Vm.Alike.refl U.vm) qK, qD⟩, va_recv (q := (R_Open, F_Open, 3)) (q0 := 1) (ci := 6) hK hP rfl rfl, fun U hU hW => ⟨rfl, by rw [hU], by rw [hU]; exact hPc, va_K.moved hW.alike hKc, hDc.weaken (fun _ _ _ _ => trivial)⟩⟩ rfl rfl hl.1 rfl (lv_room (Nat.le_of_ble_eq_true rfl)) d_Blocks_end_18 ⟨Nat.zero_le _, Nat.zero_le _⟩) hS (fun q _ h => hFc q h) hFc (fun r u t H1 locs ht hvm hw hB hz1 hk1 hS => ?_)
    obtain ⟨hP1, hK1, hD1⟩ := hB
    subst r
    rw [ht] at hP1
    obtain ⟨hP, hD⟩ := va_join (wr := [(a_t, .inr (2, [.ref a_open, .ref a_laid, .int z_begun])), (a_laid, .inr (11, [.ref a_laid_kinds, .ref a_laid_values, .int (nI g9)])), (a_laid_kinds, .inl (ka_laid_kinds, 362, .inl g10)), (a_laid_values, .inl (ka_laid_values, 362, .inr (.inl g11)))]) (w1 := [(a_open, .inr (6, [.ref a_open_things, .int (nI g8), .int z_open_most])), (a_open_things, .inl (ka_open_things, 181, .inl f_open_things))]) hP hD [1, 2] [0, 3, 4, 5] rfl rfl (by decide) (by decide) hk1 hFc hP1 hD1
    generalize H1 = H at hP hS ⊢
    have hP : va_P (dC, dI) vcl [(a_t, .inr (2, [.ref a_open, .ref a_laid, .int z_begun])), (a_laid, .inr (11, [.ref a_laid_kinds, .ref a_laid_values, .int (nI g9)])), (a_laid_kinds, .inl (ka_laid_kinds, 362, .inl g10)), (a_laid_values, .inl (ka_laid_values, 362, .inr (.inl g11))), (a_open, .inr (6, [.ref a_open_things, .int (nI g8), .int z_open_most])), (a_open_things, .inl (ka_open_things, 181, .inl f_open_things))] H := hP
    have hD : va_D A [(a_t, .inr (2, [.ref a_open, .ref a_laid, .int z_begun])), (a_laid, .inr (11, [.ref a_laid_kinds, .ref a_laid_values, .int (nI g9)])), (a_laid_kinds, .inl (ka_laid_kinds, 362, .inl g10)), (a_laid_values, .inl (ka_laid_values, 362, .inr (.inl g11))), (a_open, .inr (6, [.ref a_open_things, .int (nI g8), .int z_open_most])), (a_open_things, .inl (ka_open_things, 181, .inl f_open_things))] := hD
    refine lv_iload_n hx hb d_Blocks_end_21 rfl (lv_at hl 1 rfl) ?_
    refine lv_icmp_ne (tgt := 29) hx hb d_Blocks_end_22 (by decide) (fun h12 => ?_) (fun h12 => ?_)
    · have e22 := h12
      refine lv_iconst (v := 0) hx hb d_Blocks_end_29 (by decide) ?_
      refine lv_istore_n hx hb d_Blocks_end_30 rfl hl (by decide) rfl (fun ls hl => ?_)
      have hl : lv_has ls 3 [(2, .int 0), (0, .ref a_t), (1, .int y0)] := hl
      refine lv_iload_n hx hb d_Blocks_end_31 rfl (lv_at hl 0 rfl) ?_
      refine lv_if_eq (tgt := 42) hx hb d_Blocks_end_32 (by decide) (fun _ => ?_) (fun h => (h (by decide +kernel)).elim)
      refine lv_iload_n hx hb d_Blocks_end_42 rfl (lv_at hl 0 rfl) ?_
      have hP9 := hP.sub (ws' := [(a_t, .inr (2, [.ref a_open, .ref a_laid, .int z_begun])), (a_open, .inr (6, [.ref a_open_things, .int (nI g8), .int z_open_most])), (a_open_things, .inl (ka_open_things, 181, .inl f_open_things)), (a_laid, .inr (11, [.ref a_laid_kinds, .ref a_laid_values, .int (nI g9)])), (a_laid_kinds, .inl (ka_laid_kinds, 362, .inl g10)), (a_laid_values, .inl (ka_laid_values, 362, .inr (.inl g11)))]) [0, 4, 5, 1, 2, 3] rfl
      have hD9 := hD.sub (ws' := [(a_t, .inr (2, [.ref a_open, .ref a_laid, .int z_begun])), (a_open, .inr (6, [.ref a_open_things, .int (nI g8), .int z_open_most])), (a_open_things, .inl (ka_open_things, 181, .inl f_open_things)), (a_laid, .inr (11, [.ref a_laid_kinds, .ref a_laid_values, .int (nI g9)])), (a_laid_kinds, .inl (ka_laid_kinds, 362, .inl g10)), (a_laid_values, .inl (ka_laid_values, 362, .inr (.inl g11)))]) [0, 4, 5, 1, 2, 3] (by decide) rfl
      exact W.zret (v := 0) hx hb hr (by decide +kernel) (fun t ht hW => ⟨⟨0, (), rfl, ⟨(by first | assumption | exact Or.inl rfl | exact Or.inr rfl), (by exact so_0 (clC_n (b := 1) hq0_11 (by rw [show (y0 == -1) = false from (by simpa using e3)]; decide) e22))⟩, g8, g9, g10, g11, by first | omega | assumption | exact Or.inl rfl | exact Or.inr rfl | decide, by first | omega | assumption | exact Or.inl rfl | exact Or.inr rfl | decide, by (intro s9 hh; rw [(clC_n (b := 1) hq0_11 (by rw [show (y0 == -1) = false from (by simpa using e3)]; decide) e22)] at hh; cases hh), by rw [ht]; exact hP9, va_K.moved hW.alike hK, hD9⟩, hS.F ht⟩) hS.2.2 d_Blocks_end_43
    · have e22 := h12
      refine lv_iconst (v := 1) hx hb d_Blocks_end_25 (by decide) ?_
      refine lv_goto (tgt := 30) hx hb d_Blocks_end_26 (by decide) ?_
      refine lv_istore_n hx hb d_Blocks_end_30 rfl hl (by decide) rfl (fun ls hl => ?_)
      have hl : lv_has ls 3 [(2, .int 1), (0, .ref a_t), (1, .int y0)] := hl
      refine lv_iload_n hx hb d_Blocks_end_31 rfl (lv_at hl 0 rfl) ?_
      refine lv_if_eq (tgt := 42) hx hb d_Blocks_end_32 (by decide) (fun h => absurd h (by decide +kernel)) (fun _ => ?_)
      refine lv_aload_n hx hb d_Blocks_end_35 rfl (lv_at hl 1 rfl) ?_
      refine va_get (D := (dC, dI)) (ci := 2) (v := .ref a_open) (C := R_Blocks) (T := F_Blocks) (N := 3) hx hb hz zu_Blocks hown hK hP 0 rfl rfl 0 (by decide) (hz (.fieldLink R_Blocks 12 "LayoutFront$Blocks" "open" "LLayoutFront$Open;") zm_183) (fun _ h9 => h9) rfl d_Blocks_end_36 ?_
      have hPc := hP.sub (ws' := [(a_open, .inr (6, [.ref a_open_things, .int (nI g8), .int z_open_most]))]) [4] rfl
      have hDc := hD.sub (ws' := [(a_open, .inr (6, [.ref a_open_things, .int (nI g8), .int z_open_most]))]) [4] (by decide) rfl
      have hKc := hK.sub (tys' := []) [] rfl
      have hFc := va_free (wc := [(a_open, .inr (6, [.ref a_open_things, .int (nI g8), .int z_open_most]))]) hD hS hA [4] rfl
      refine va_callv (va_runV (As := []) (rest := []) ⟨hx, hb, hml, hown, hz⟩ (s_Open_pop6 l dC dI H.size a_open a_open_things g8 z_open_most (by first | omega | assumption | exact Or.inl rfl | exact Or.inr rfl | decide)) (cwV 0 hz (zV zm_284 zm_285 zm_286 zm_177 zm_287) rfl rfl rfl (by decide +kernel) ⟨Nat.le_of_ble_eq_true rfl, Nat.le_of_ble_eq_true rfl⟩) ⟨fun a U g mk q => by obtain ⟨q0, q1, qP, qK, qD⟩ := q; exact ⟨q0, q1, qP, va_K.moved (u := U) (U := U.calling g mk a) (Vm.Alike.refl U.vm) qK, qD⟩, va_recv (q := (R_Open, F_Open, 3)) (q0 := 4) (ci := 6) hK hP rfl rfl, fun U hU hW => ⟨rfl, by rw [hU], by rw [hU]; exact hPc, va_K.moved hW.alike hKc, hDc.weaken (fun _ _ _ _ => trivial)⟩⟩ rfl rfl hl.1 rfl (lv_room (Nat.le_of_ble_eq_true rfl)) d_Blocks_end_39 ⟨Nat.zero_le _, Nat.zero_le _⟩) hS (fun q _ h => hFc q h) hFc (fun u t H1 locs ht hvm hw hB hz1 hk1 hS => ?_)
      obtain ⟨g13, hb_g13, hq0_39, hP1, hK1, hD1⟩ := hB
      subst g13
      rw [ht] at hP1
      obtain ⟨hP, hD⟩ := va_join (wr := [(a_t, .inr (2, [.ref a_open, .ref a_laid, .int z_begun])), (a_laid, .inr (11, [.ref a_laid_kinds, .ref a_laid_values, .int (nI g9)])), (a_laid_kinds, .inl (ka_laid_kinds, 362, .inl g10)), (a_laid_values, .inl (ka_laid_values, 362, .inr (.inl g11))), (a_open_things, .inl (ka_open_things, 181, .inl f_open_things))]) (w1 := [(a_open, .inr (6, [.ref a_open_things, .int (nI (g8 - 1)), .int z_open_most]))]) hP hD [4] [0, 1, 2, 3, 5] rfl rfl (by decide) (by decide) hk1 hFc hP1 hD1
      generalize H1 = H at hP hS ⊢
      have hP : va_P (dC, dI) vcl [(a_t, .inr (2, [.ref a_open, .ref a_laid, .int z_begun])), (a_laid, .inr (11, [.ref a_laid_kinds, .ref a_laid_values, .int (nI g9)])), (a_laid_kinds, .inl (ka_laid_kinds, 362, .inl g10)), (a_laid_values, .inl (ka_laid_values, 362, .inr (.inl g11))), (a_open_things, .inl (ka_open_things, 181, .inl f_open_things)), (a_open, .inr (6, [.ref a_open_things, .int (nI (g8 - 1)), .int z_open_most]))] H := hP
      have hD : va_D A [(a_t, .inr (2, [.ref a_open, .ref a_laid, .int z_begun])), (a_laid, .inr (11, [.ref a_laid_kinds, .ref a_laid_values, .int (nI g9)])), (a_laid_kinds, .inl (ka_laid_kinds, 362, .inl g10)), (a_laid_values, .inl (ka_laid_values, 362, .inr (.inl g11))), (a_open_things, .inl (ka_open_things, 181, .inl f_open_things)), (a_open, .inr (6, [.ref a_open_things, .int (nI (g8 - 1)), .int z_open_most]))] := hD
      refine lv_iload_n hx hb d_Blocks_end_42 rfl (lv_at hl 0 rfl) ?_
      have hP9 := hP.sub (ws' := [(a_t, .inr (2, [.ref a_open, .ref a_laid, .int z_begun])), (a_open, .inr (6, [.ref a_open_things, .int (nI (g8 - 1)), .int z_open_most])), (a_open_things, .inl (ka_open_things, 181, .inl f_open_things)), (a_laid, .inr (11, [.ref a_laid_kinds, .ref a_laid_values, .int (nI g9)])), (a_laid_kinds, .inl (ka_laid_kinds, 362, .inl g10)), (a_laid_values, .inl (ka_laid_values, 362, .inr (.inl g11)))]) [0, 5, 4, 1, 2, 3] rfl
      have hD9 := hD.sub (ws' := [(a_t, .inr (2, [.ref a_open, .ref a_laid, .int z_begun])), (a_open, .inr (6, [.ref a_open_things, .int (nI (g8 - 1)), .int z_open_most])), (a_open_things, .inl (ka_open_things, 181, .inl f_open_things)), (a_laid, .inr (11, [.ref a_laid_kinds, .ref a_laid_values, .int (nI g9)])), (a_laid_kinds, .inl (ka_laid_kinds, 362, .inl g10)), (a_laid_values, .inl (ka_laid_values, 362, .inr (.inl g11)))]) [0, 5, 4, 1, 2, 3] (by decide) rfl
      exact W.zret (v := 1) hx hb hr (by decide +kernel) (fun t ht hW => ⟨⟨1, (), rfl, ⟨(by first | assumption | exact Or.inl rfl | exact Or.inr rfl), (by exact so_1 (clC_y (b := 1) hq0_11 (by rw [show (y0 == -1) = false from (by simpa using e3)]; decide) e22 hp1))⟩, ((g8 - 1)), g9, g10, g11, by first | omega | assumption | exact Or.inl rfl | exact Or.inr rfl | decide, by first | omega | assumption | exact Or.inl rfl | exact Or.inr rfl | decide, by (intro s9 hh; rw [(clC_y (b := 1) hq0_11 (by rw [show (y0 == -1) = false from (by simpa using e3)]; decide) e22 hp1)] at hh; cases hh; rfl), by rw [ht]; exact hP9, va_K.moved hW.alike hK, hD9⟩, hS.F ht⟩) hS.2.2 d_Blocks_end_43
