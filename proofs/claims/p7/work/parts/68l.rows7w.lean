/-! fixities as functions of the name, on both sides -/
section RWW
variable {f g : Nat → Int64} {b y w : Int64} {lv lv' : Nat → Int32} {n i j : Nat} {d z x : Int32}
theorem ix_none (hn : n ≤ 600) : ∀ (d i : Nat), n - i = d → ixE f b n i = -1 → ∀ x, i ≤ x → x < n → ¬ f x = b
  | 0, i, hd, _, x, h1, h2 => absurd h2 (by omega)
  | d + 1, i, hd, e, x, h1, h2 => by
    by_cases q : f i = b
    · rw [ix_at (by omega) q] at e; exact absurd e (nI_n1 (by omega))
    · rw [ix_go (by omega) q] at e
      by_cases z : x = i
      · rw [z]; exact q
      · exact ix_none hn d (i + 1) (by omega) e x (by omega) h2
theorem ix_fst (hn : n ≤ 600) (hj : j ≤ 600) : ∀ (d i : Nat), n - i = d → ixE f b n i = nI j → ∀ x, i ≤ x → x < j → ¬ f x = b
  | 0, i, hd, e, x, h1, h2 => by rw [ix_end (by omega)] at e; exact absurd e.symm (nI_n1 hj)
  | d + 1, i, hd, e, x, h1, h2 => by
    by_cases q : f i = b
    · rw [ix_at (by omega) q] at e
      have := (nI_eq (a := i) (b := j) (by omega) (by omega)).mp e
      omega
    · rw [ix_go (by omega) q] at e
      by_cases z : x = i
      · rw [z]; exact q
      · exact ix_fst hn hj d (i + 1) (by omega) e x (by omega) h2
theorem ix_skip : ∀ (d i : Nat), i + d = j → j ≤ n → (∀ x, i ≤ x → x < j → ¬ f x = b) → ixE f b n i = ixE f b n j
  | 0, i, hd, _, _ => by rw [show i = j by omega]
  | d + 1, i, hd, hn, h => by
    rw [ix_go (by omega) (h i (Nat.le_refl _) (by omega))]
    exact ix_skip d (i + 1) (by omega) hn (fun x h1 h2 => h x (by omega) h2)
theorem ix_of (hj : j < n) (e : f j = b) (h : ∀ x, x < j → ¬ f x = b) : ixE f b n 0 = nI j := by
  rw [ix_skip j 0 (by omega) (by omega) (fun x _ h2 => h x h2), ix_at hj e]
theorem ix_nn (h : ∀ x, x < n → ¬ f x = b) : ixE f b n 0 = -1 := by
  rw [ix_skip (j := n) n 0 (by omega) (Nat.le_refl _) (fun x _ h2 => h x h2), ix_end (Nat.le_refl _)]
theorem ix_cg : ∀ (d i : Nat), n - i = d → (∀ x, x < n → f x = g x) → ixE f b n i = ixE g b n i
  | 0, i, hd, _ => by rw [ix_end (by omega), ix_end (by omega)]
  | d + 1, i, hd, h => by
    by_cases q : f i = b
    · rw [ix_at (f := f) (by omega) q, ix_at (f := g) (i := i) (by omega) (by rw [← h i (by omega)]; exact q)]
    · rw [ix_go (f := f) (by omega) q, ix_go (f := g) (i := i) (by omega) (by rw [← h i (by omega)]; exact q)]
      exact ix_cg d (i + 1) (by omega) h
def hx7 (f : Nat → Int64) (w : Int64) (n : Nat) : Bool := decide (¬ ixE f w n 0 = -1)
theorem ix_val (h : ixE f y n 0 = nI j) (hn : n ≤ 600) (hj : j < n) : f j = y := by
  rcases ix_rng (f := f) (b := y) (n := n) _ 0 rfl with e | ⟨k, -, h2, h3, h4⟩
  · rw [e] at h; exact absurd h.symm (nI_n1 (by omega))
  · have := (nI_eq (a := k) (b := j) (by omega) (by omega)).mp (h4.symm.trans h)
    rw [← this]; exact h3
/-- set, of a name that is there -/
theorem fa_nm (h : ixE f y n 0 = nI j) (hn : n ≤ 600) (hj : j < n) (e : vp_updL f j y = g) : ∀ x, x < n → g x = f x := by
  intro x hx
  rw [← e]
  by_cases q : x = j
  · rw [q]; exact (if_pos rfl).trans (ix_val h hn hj).symm
  · exact if_neg q
theorem fa_ix (h : ixE f y n 0 = nI j) (hn : n ≤ 600) (hj : j < n) (e : vp_updL f j y = g) : ixE g w n 0 = ixE f w n 0 := ix_cg _ 0 rfl (fa_nm h hn hj e)
theorem fa_hx (h : ixE f y n 0 = nI j) (hn : n ≤ 600) (hj : j < n) (e : vp_updL f j y = g) : hx7 g w n = (hx7 f w n || w == y) := by
  unfold hx7
  rw [fa_ix h hn hj e]
  by_cases q : w = y
  · rw [q, h, decide_eq_true (nI_n1 (by omega))]; simp
  · rw [beq_false_of_ne q, Bool.or_false]
theorem fa_lv (h : ixE f y n 0 = nI j) (hn : n ≤ 600) (hj : j < n) (e : vp_updL f j y = g) (e2 : upd lv j z = lv') : lvC g lv' n d w = if w = y then z else lvC f lv n d w := by
  subst e2
  unfold lvC
  rw [fa_ix h hn hj e]
  by_cases q : w = y
  · rw [if_pos q, q, h, if_neg (nI_n1 (by omega)), nI_clamp (by omega)]; exact if_pos rfl
  · rw [if_neg q]
    rcases ix_rng (f := f) (b := w) (n := n) _ 0 rfl with e1 | ⟨k, -, h2, h3, h4⟩
    · rw [if_pos e1, if_pos e1]
    · rw [h4, if_neg (nI_n1 (by omega)), if_neg (nI_n1 (by omega)), nI_clamp (by omega)]
      exact if_neg (fun c => q (by rw [← h3, c]; exact ix_val h hn hj))
/-- set, of a new name -/
theorem fb_lo (e : vp_updL f n y = g) : ∀ x, x < n → g x = f x := by
  intro x hx; rw [← e]; exact if_neg (by omega)
theorem fb_hi (e : vp_updL f n y = g) : g n = y := by rw [← e]; exact if_pos rfl
theorem fb_ix (h : ixE f y n 0 = -1) (hn : n ≤ 599) (e : vp_updL f n y = g) : ixE g w (n + 1) 0 = if w = y then nI n else ixE f w n 0 := by
  by_cases q : w = y
  · rw [if_pos q, q]
    exact ix_of (by omega) (fb_hi e) (fun x hx => by rw [fb_lo e x hx]; exact ix_none (by omega) _ 0 rfl h x (Nat.zero_le _) hx)
  · rw [if_neg q]
    rcases ix_rng (f := f) (b := w) (n := n) _ 0 rfl with e1 | ⟨k, -, h2, h3, h4⟩
    · rw [e1]
      refine ix_nn (fun x hx => ?_)
      by_cases c : x = n
      · rw [c, fb_hi e]; exact fun r => q r.symm
      · rw [fb_lo e x (by omega)]; exact ix_none (by omega) _ 0 rfl e1 x (Nat.zero_le _) (by omega)
    · rw [h4]
      exact ix_of (by omega) (by rw [fb_lo e k h2]; exact h3) (fun x hx => by rw [fb_lo e x (by omega)]; exact ix_fst (by omega) (by omega) _ 0 rfl h4 x (Nat.zero_le _) hx)
theorem fb_hx (h : ixE f y n 0 = -1) (hn : n ≤ 599) (e : vp_updL f n y = g) : hx7 g w (n + 1) = (hx7 f w n || w == y) := by
  unfold hx7
  rw [fb_ix h hn e]
  by_cases q : w = y
  · rw [if_pos q, decide_eq_true (nI_n1 (by omega)), q]; simp
  · rw [if_neg q, beq_false_of_ne q, Bool.or_false]
theorem fb_lv (h : ixE f y n 0 = -1) (hn : n ≤ 599) (e : vp_updL f n y = g) (e2 : upd lv n z = lv') : lvC g lv' (n + 1) d w = if w = y then z else lvC f lv n d w := by
  subst e2
  unfold lvC
  rw [fb_ix h hn e]
  by_cases q : w = y
  · rw [if_pos q, if_pos q, if_neg (nI_n1 (by omega)), nI_clamp (by omega)]; exact if_pos rfl
  · rw [if_neg q, if_neg q]
    rcases ix_rng (f := f) (b := w) (n := n) _ 0 rfl with e1 | ⟨k, -, h2, h3, h4⟩
    · rw [if_pos e1, if_pos e1]
    · rw [h4, if_neg (nI_n1 (by omega)), if_neg (nI_n1 (by omega)), nI_clamp (by omega)]
      exact if_neg (by omega)
/-! the reference's side -/
def hM (f : Nat → Int64) (w : Int64) (n : Nat) : Bool := decide (0 ≤ fnN f w n)
theorem fn_cg : ∀ n, (∀ x, x < n → g x = f x) → fnN g w n = fnN f w n
  | 0, _ => rfl
  | n + 1, h => by rw [fnN, fnN, h n (by omega), fn_cg n (fun x hx => h x (by omega))]
theorem lm_cg : ∀ n, (∀ x, x < n → g x = f x ∧ lv' x = lv x) → lvM g lv' d w n = lvM f lv d w n
  | 0, _ => rfl
  | n + 1, h => by rw [lvM, lvM, (h n (by omega)).1, (h n (by omega)).2, lm_cg n (fun x hx => h x (by omega))]
theorem ge_m1 : ¬ (0 : Int32) ≤ -1 := by decide
theorem ge_nI (hj : j ≤ 600) : (0 : Int32) ≤ nI j := (nI_leI (a := 0) (b := j) (by omega) (by omega)).mpr (Nat.zero_le _)
theorem fn_val : ∀ n, n ≤ 600 → fnN f y n = nI j → j < n → f j = y
  | 0, _, _, h => absurd h (Nat.not_lt_zero _)
  | n + 1, hn, e, h => by
    rw [fnN] at e
    by_cases q : f n = y
    · rw [if_pos q] at e
      have := (nI_eq (a := n) (b := j) (by omega) (by omega)).mp e
      rw [← this]; exact q
    · rw [if_neg q] at e
      rcases fn_rng (f := f) (v := y) n with e1 | ⟨k, h1, h2⟩
      · rw [e1] at e; exact absurd e.symm (nI_n1 (by omega))
      · have := (nI_eq (a := k) (b := j) (by omega) (by omega)).mp (h2.symm.trans e)
        exact fn_val n (by omega) e (by omega)
theorem ga_nm (h : fnN f y n = nI j) (hn : n ≤ 600) (hj : j < n) (e : vp_updL f j y = g) : ∀ x, x < n → g x = f x := by
  intro x hx
  rw [← e]
  by_cases q : x = j
  · rw [q]; exact (if_pos rfl).trans (fn_val n hn h hj).symm
  · exact if_neg q
theorem ga_hx (h : fnN f y n = nI j) (hn : n ≤ 600) (hj : j < n) (e : vp_updL f j y = g) : hM g w n = (hM f w n || w == y) := by
  unfold hM
  rw [fn_cg n (ga_nm h hn hj e)]
  by_cases q : w = y
  · rw [q, h, decide_eq_true (ge_nI (by omega))]; simp
  · rw [beq_false_of_ne q, Bool.or_false]
theorem lm_if (hn : n ≤ 600) : lvM f lv d w n = if 0 ≤ fnN f w n then lv (fnN f w n).toNatClampNeg else d := by
  by_cases q : 0 ≤ fnN f w n
  · rw [if_pos q]; exact (lm_1 n hn q).symm
  · rw [if_neg q]; exact (lm_0 n hn q).symm
theorem ga_lv (h : fnN f y n = nI j) (hn : n ≤ 600) (hj : j < n) (e : vp_updL f j y = g) (e2 : upd lv j z = lv') : lvM g lv' d w n = if w = y then z else lvM f lv d w n := by
  subst e2
  rw [lm_if hn, fn_cg n (ga_nm h hn hj e), lm_if hn]
  by_cases q : w = y
  · rw [if_pos q, q, h, if_pos (ge_nI (by omega)), nI_clamp (by omega)]; exact if_pos rfl
  · rw [if_neg q]
    rcases fn_rng (f := f) (v := w) n with e1 | ⟨k, h1, h2⟩
    · rw [e1, if_neg ge_m1, if_neg ge_m1]
    · rw [h2, if_pos (ge_nI (by omega)), if_pos (ge_nI (by omega)), nI_clamp (by omega)]
      exact if_neg (fun c => q (by rw [← fn_val n hn h2 h1, c]; exact fn_val n hn h hj))
theorem gb_hx (hn : n ≤ 599) (e : vp_updL f n y = g) : hM g w (n + 1) = (hM f w n || w == y) := by
  unfold hM
  rw [fnN, fb_hi e, fn_cg n (fb_lo e)]
  by_cases q : y = w
  · rw [if_pos q, decide_eq_true (ge_nI (by omega)), q]; simp
  · rw [if_neg q, beq_false_of_ne (fun c => q c.symm), Bool.or_false]
theorem gb_lv (e : vp_updL f n y = g) (e2 : upd lv n z = lv') : lvM g lv' d w (n + 1) = if w = y then z else lvM f lv d w n := by
  rw [lvM, fb_hi e]
  by_cases q : y = w
  · rw [if_pos q, if_pos q.symm, ← e2]; exact if_pos rfl
  · rw [if_neg q, if_neg (fun c => q c.symm)]
    exact lm_cg n (fun x hx => ⟨fb_lo e x hx, by rw [← e2]; exact if_neg (by omega)⟩)
/-! is it set at all -/
def fxK (h : Bool) (n : Nat) (s t : Int32) : Bool := !(wi s 0 2 == 0) && (!(wi t 0 9 == 0) && (decide (n < 12) || h))
variable {s t : Int32} {h : Bool} {old : Int32} {A : Bool}
theorem wy_l {a c y : Int32} (h : y < a) : wi y a c = 0 := if_pos h
theorem wy_g {a c y : Int32} (h : c < y) : wi y a c = 0 := by
  unfold wi
  by_cases q : y < a
  · rw [if_pos q]
  · rw [if_neg q, if_pos h]
theorem wy_y {a c y : Int32} (h : ¬ y < a) (h2 : ¬ c < y) : ¬ wi y a c = 0 := by
  unfold wi
  rw [if_neg h, if_neg h2]; decide
theorem fk_1 (q : wi s 0 2 = 0) : fxK h n s t = false := by unfold fxK; rw [q]; rfl
theorem fk_2 (q : wi t 0 9 = 0) : fxK h n s t = false := by
  unfold fxK; rw [q]; cases (wi s 0 2 == 0) <;> rfl
theorem fk_3 (q : (decide (n < 12) || h) = false) : fxK h n s t = false := by
  unfold fxK; rw [q]; cases (wi s 0 2 == 0) <;> cases (wi t 0 9 == 0) <;> rfl
theorem fk_t (q1 : ¬ wi s 0 2 = 0) (q2 : ¬ wi t 0 9 = 0) (q : (decide (n < 12) || h) = true) : fxK h n s t = true := by
  unfold fxK; rw [q, beq_false_of_ne q1, beq_false_of_ne q2]; rfl
theorem fp_0 (k : fxK h n s t = false) : old = if (fxK h n s t && A) = true then z else old := by
  rw [k]; exact (if_neg (by simp)).symm
theorem fp_1 (k : fxK h n s t = true) (e : x = if w = y then z else old) : x = if (fxK h n s t && w == y) = true then z else old := by
  rw [k, e]
  by_cases q : w = y
  · rw [if_pos q, if_pos (by rw [q]; simp)]
  · rw [if_neg q, if_neg (by simpa using q)]
theorem fh_0 {B : Bool} (k : fxK h n s t = false) : B = (B || (fxK h n s t && A)) := by rw [k]; simp
theorem fh_1 {B C : Bool} (k : fxK h n s t = true) (e : C = (B || w == y)) : C = (B || (fxK h n s t && w == y)) := by rw [k, e]; simp
theorem fj_0 (k : fxK h n s t = false) : n = if (fxK h n s t && !h) = true then n + 1 else n := by rw [k]; exact (if_neg (by simp)).symm
theorem fj_1 {m : Nat} (k : fxK h n s t = true) (q : h = true) (e : m = n) : m = if (fxK h n s t && !h) = true then n + 1 else n := by rw [k, q, e]; exact (if_neg (by simp)).symm
theorem fj_2 {m : Nat} (k : fxK h n s t = true) (q : h = false) (e : m = n + 1) : m = if (fxK h n s t && !h) = true then n + 1 else n := by rw [k, q, e]; exact (if_pos (by simp)).symm
theorem hr_t {K : Int32} (e : K = -1) : decide (¬ K = -1) = false := decide_eq_false (fun q => q e)
theorem hr_a (q : n < 12) : (1 : Int32) = b01 (decide (n < 12) || A) := by rw [decide_eq_true q]; rfl
theorem hr_b (q : ¬ n < 12) {K : Int32} (e : K = -1) : (0 : Int32) = b01 (decide (n < 12) || decide (¬ K = -1)) := by rw [decide_eq_false q, hr_t e]; rfl
theorem hr_c {K : Int32} (e : ¬ K = -1) : (1 : Int32) = b01 (decide (n < 12) || decide (¬ K = -1)) := by rw [decide_eq_true e]; simp [b01]
end RWW
theorem fn_b {m n : Nat} {h : Bool} {s t : Int32} (k : fxK h n s t = true) (q1 : h = true → m = n) (q2 : h = false → m = n + 1) : m = if (fxK h n s t && !h) = true then n + 1 else n := by
  cases h with
  | true => exact fj_1 k rfl (q1 rfl)
  | false => exact fj_2 k rfl (q2 rfl)
theorem fn_fd {f : Nat → Int64} {v : Int64} {n : Nat} {z : Int32} (e : fnN f v n = z) (h : 0 ≤ z) : ∃ j, j < n ∧ z = nI j := by
  rcases fn_rng (f := f) (v := v) n with e1 | ⟨j, h1, h2⟩
  · rw [← e, e1] at h; exact absurd h (by decide)
  · exact ⟨j, h1, by rw [← e, h2]⟩
theorem hM_t {f : Nat → Int64} {v : Int64} {n j : Nat} (e : fnN f v n = nI j) (hj : j ≤ 600) : hM f v n = true := by unfold hM; rw [e]; exact decide_eq_true (ge_nI hj)
theorem hM_f {f : Nat → Int64} {v : Int64} {n : Nat} (h : ¬ 0 ≤ fnN f v n) : hM f v n = false := decide_eq_false h
theorem or_l {n : Nat} {h : Bool} (q : n < 12) : (decide (n < 12) || h) = true := by rw [decide_eq_true q]; rfl
theorem or_r {n : Nat} {h : Bool} (q : h = true) : (decide (n < 12) || h) = true := by rw [q]; simp
theorem or_n {n : Nat} {h : Bool} (q : ¬ n < 12) (e : h = false) : (decide (n < 12) || h) = false := by rw [decide_eq_false q, e]; rfl
