/-! brackets matched by the class; where an item ends -/
section RWH
variable {s : Nat → Int32} {v : Nat → Int64} {P op P' : Nat → Int32} {n k q d j : Nat}
theorem sk_out : ∀ m, k ≤ m → q < k → q ∉ sk s v k → q ∉ sk s v m
  | 0, h, _, z => by rw [Nat.le_zero.mp h] at z; exact z
  | m + 1, h, hq, z => by
    by_cases e : k = m + 1
    · rw [e] at z; exact z
    · have ih := sk_out m (by omega) hq z
      by_cases o : opn (s m) (v m) = true
      · rw [sk_o o]
        intro w
        rcases List.mem_cons.mp w with w | w
        · omega
        · exact ih w
      · by_cases c : clo (s m) (v m) = true
        · rw [sk_c c]; exact fun w => ih (List.mem_of_mem_tail w)
        · rw [sk_n (by simpa using o) (by simpa using c)]; exact ih
theorem sk_pw : ∀ k, (sk s v k).Pairwise (fun a b => b < a)
  | 0 => List.Pairwise.nil
  | k + 1 => by
    have ih := sk_pw k
    by_cases o : opn (s k) (v k) = true
    · rw [sk_o o]; exact List.Pairwise.cons (fun x hx => sk_lt k x hx) ih
    · by_cases c : clo (s k) (v k) = true
      · rw [sk_c c]
        cases hk : sk s v k with
        | nil => exact List.Pairwise.nil
        | cons a T => rw [hk] at ih; exact (List.pairwise_cons.mp ih).2
      · rw [sk_n (by simpa using o) (by simpa using c)]; exact ih
theorem sk_top (h : (sk s v k).head? = some q) : sk s v k = q :: sk s v q := by
  cases hs : sk s v k with
  | nil => rw [hs] at h; cases h
  | cons a T =>
    rw [hs] at h
    have e : a = q := by simpa using h
    subst e
    obtain ⟨L, hL⟩ := sk_suf (s := s) (v := v) k a (by rw [hs]; exact List.mem_cons_self)
    cases L with
    | nil => rw [← hs]; exact hL
    | cons b L =>
      exfalso
      rw [hs] at hL
      have h2 := List.cons.inj hL
      have h3 : a ∈ T := by rw [h2.2]; exact List.mem_append_right _ List.mem_cons_self
      have pw := sk_pw (s := s) (v := v) k
      rw [hs] at pw
      exact absurd ((List.pairwise_cons.mp pw).1 a h3) (Nat.lt_irrefl _)
/-- the class's loop: openers are the open brackets, closers tell those that are closed -/
def MB (s : Nat → Int32) (v : Nat → Int64) (op P : Nat → Int32) (d k : Nat) : Prop := stk op d = (sk s v k).map nI ∧ PN s v P k
theorem mb_0 : MB s v op P 0 0 := ⟨rfl, fun p q h => absurd h (Nat.not_lt_zero _)⟩
theorem mb_d (h : MB s v op P d k) : d = (sk s v k).length := by
  have e := congrArg List.length h.1
  rw [stk_len, List.length_map] at e; exact e
theorem mb_few (h : MB s v op P d k) (hb : bl7 s v n) (hk : k < n) (ho : opn (s k) (v k) = true) (hc : cn s n ≤ 90) : d < 90 := by
  have h1 := mb_d h
  have h2 := sk_len (s := s) (v := v) (k + 1) (fun p hp => hb.1 p (by omega))
  rw [sk_o ho, List.length_cons] at h2
  have h3 := dep_le_cn (s := s) (v := v) (k + 1)
  have h4 := cn_mono (s := s) (k + 1) n (by omega)
  omega
theorem mb_pos (h : MB s v op P d k) (hb : bl7 s v n) (hk : k < n) (hc : clo (s k) (v k) = true) : 1 ≤ d := by
  have h1 := mb_d h
  have h2 := sk_len (s := s) (v := v) k (fun p hp => hb.1 p (by omega))
  have h3 := hb.1 (k + 1) (by omega)
  rw [dep] at h3
  simp only [dlt, clo_opn hc, hc, if_true] at h3
  simp at h3
  omega
theorem pn_up (hk : k ≤ 600) (h : PN s v P k) (x : Int32) : PN s v (upd P k x) k := by
  intro p q h1 h2 h3
  have hq := sk_lt p q (by rw [sk_top h3]; exact List.mem_cons_self)
  rw [show upd P k x q = P q from if_neg (by omega)]
  exact h p q h1 h2 h3
theorem pn_nc (h : PN s v P k) (hc : clo (s k) (v k) = false) : PN s v P (k + 1) := by
  intro p q h1 h2 h3
  by_cases e : p = k
  · rw [e, hc] at h2; cases h2
  · exact h p q (by omega) h2 h3
theorem mb_o (hk : k ≤ 600) (h : MB s v op P d k) (ho : opn (s k) (v k) = true) (e1 : upd P k (nI k) = P') {op' : Nat → Int32} (e2 : upd op d (nI k) = op') : MB s v op' P' (d + 1) (k + 1) := by
  subst e1; subst e2
  refine ⟨?_, pn_nc (pn_up hk h.2 _) (opn_clo ho)⟩
  rw [stk_push, h.1, sk_o ho]; rfl
theorem mb_n (hk : k ≤ 600) (h : MB s v op P d k) (ho : opn (s k) (v k) = false) (hc : clo (s k) (v k) = false) (e1 : upd P k (nI k) = P') : MB s v op P' d (k + 1) := by
  subst e1
  refine ⟨?_, pn_nc (pn_up hk h.2 _) hc⟩
  rw [h.1, sk_n ho hc]
theorem mb_c {P'' : Nat → Int32} (hk : k ≤ 600) (hd : 1 ≤ d) (h : MB s v op P d k) (hc : clo (s k) (v k) = true) (ej : op (d - 1) = nI j) (hj : j ≤ 600) (e1 : upd P k (nI k) = P') (e2 : upd P' j (nI k) = P'') : MB s v op P'' (d - 1) (k + 1) := by
  subst e1; subst e2
  have h1 := h.1
  rw [stk_pop hd] at h1
  cases hs : sk s v k with
  | nil => rw [hs] at h1; cases h1
  | cons q T =>
    rw [hs] at h1
    have h2 := List.cons.inj h1
    have hq := sk_lt k q (by rw [hs]; exact List.mem_cons_self)
    have eq : j = q := (nI_eq (a := j) (b := q) (by omega) (by omega)).mp (ej.symm.trans h2.1)
    subst eq
    refine ⟨by rw [sk_c hc, hs]; exact h2.2, fun p r p1 p2 p3 => ?_⟩
    by_cases e : p = k
    · subst e
      rw [hs] at p3
      have : j = r := by simpa using p3
      rw [← this]
      exact if_pos rfl
    · have hr := sk_top p3
      have hn : ¬ r = j := by
        intro z
        have z1 : r ∉ sk s v (p + 1) := by
          rw [sk_c p2, hr]
          exact fun w => absurd (sk_lt r r w) (Nat.lt_irrefl _)
        have z2 := sk_out (s := s) (v := v) (k := p + 1) (q := r) k (by omega) (by have := sk_lt p r (by rw [hr]; exact List.mem_cons_self); omega) z1
        exact z2 (by rw [hs, z]; exact List.mem_cons_self)
      rw [show upd (upd P k (nI k)) j (nI k) r = upd P k (nI k) r from if_neg hn]
      exact pn_up hk h.2 (nI k) p r (by omega) p2 p3
/-- where an operand, an operation ends -/
def bA (s : Nat → Int32) (v : Nat → Int64) (P : Nat → Int32) (n k : Nat) : Nat := if opB s v n k = true then 0 else e7 s v P n k
def bO (s : Nat → Int32) (v : Nat → Int64) (P : Nat → Int32) (n k : Nat) : Nat := if opB s v n k = true then e7 s v P n k else 0
theorem ob_y (h : obB s v n k = true) : k < n ∧ opn (s k) (v k) = true := by
  simp only [obB, Bool.and_eq_true, decide_eq_true_eq] at h; exact h
theorem ob_no (hk : k < n) (h : obB s v n k = false) : opn (s k) (v k) = false := by
  cases z : opn (s k) (v k)
  · rfl
  · simp [obB, hk, z] at h
theorem cb_y (h : cbB s v n k = true) : k < n ∧ clo (s k) (v k) = true := by
  simp only [cbB, Bool.and_eq_true, decide_eq_true_eq] at h; exact h
theorem cb_no (hk : k < n) (h : cbB s v n k = false) : clo (s k) (v k) = false := by
  cases z : clo (s k) (v k)
  · rfl
  · simp [cbB, hk, z] at h
theorem opB_br (ho : opn (s k) (v k) = true) : opB s v n k = false := by
  have b := br_no (Or.inl ho)
  unfold opB tkB
  simp [b.1, b.2]
theorem opB_s (h : s k = 0 ∨ s k = 1) : opB s v n k = false := by
  unfold opB tkB
  rcases h with h | h <;> simp [h]
theorem ba_1 (hb : bl7 s v n) (hn : n ≤ 600) (hP : PN s v P n) (h : obB s v n k = true) (hj : j < 600) (e : P k = nI j) : j + 1 = k + bA s v P n k := by
  obtain ⟨hk, ho⟩ := ob_y h
  obtain ⟨p, p1, p2, p3, p4, -, p6⟩ := op_ex hb hn hP hk ho
  have := (nI_eq (a := j) (b := p) (by omega) (by omega)).mp (e.symm.trans p4)
  unfold bA
  rw [if_neg (by rw [opB_br ho]; decide), p6]; omega
theorem ba_2 (h : nmB wdB s v n k = true) : k + 1 = k + bA s v P n k := by
  have hs := nmB_s h
  unfold bA
  rw [if_neg (by rw [opB_s (Or.inl hs)]; decide)]
  have hk : k < n := by
    simp only [nmB, Bool.and_eq_true, decide_eq_true_eq] at h; exact h.1
  have : e7 s v P n k = 1 := by
    unfold e7 exN
    rw [if_neg (by omega), if_pos (by rw [h]; rfl)]
  omega
theorem ba_3 (hk : k < n) (h : s k = 1) : k + 1 = k + bA s v P n k := by
  unfold bA
  rw [if_neg (by rw [opB_s (Or.inr h)]; decide)]
  have : e7 s v P n k = 1 := by
    unfold e7 exN
    rw [if_neg (by omega), if_pos (by rw [h]; simp)]
  omega
theorem ba_0 (hk : k < n) (h1 : obB s v n k = false) (h2 : nmB wdB s v n k = false) (h3 : ¬ s k = 1) : k = k + bA s v P n k := by
  unfold bA
  by_cases z : opB s v n k = true
  · rw [if_pos z]; rfl
  · rw [if_neg z]
    have z' : ¬ s k = 2 ∧ tkB s v n k = false := by
      unfold opB at z
      simp only [Bool.or_eq_true, beq_iff_eq, not_or] at z
      exact ⟨z.1, by simpa using z.2⟩
    have : e7 s v P n k = 0 := by
      unfold e7 exN
      rw [if_neg (by omega), if_neg (by rw [h2]; simpa using h3), if_neg (by rw [ob_no hk h1]; decide), if_neg (by simpa using z'.1), if_neg (by rw [z'.2]; simp)]
    omega
theorem tk_sg : sgB s v n k 96 = tkB s v n k := by unfold sgB tkB; rw [i6_96]
theorem bo_3 (h1 : tkB s v n k = true) (h2 : nmB wdB s v n (k + 1) = true) (h3 : tkB s v n (k + 2) = true) : k + 3 = k + bO s v P n k := by
  have z := tkB_s h1
  have hk : k < n := by
    simp only [tkB, Bool.and_eq_true, decide_eq_true_eq] at h1; exact h1.1
  have t : t3 s v n k = true := by unfold t3; rw [h1, h2, h3]; rfl
  have : e7 s v P n k = 3 := by
    unfold e7 exN
    rw [if_neg (by omega), if_neg (by simp [nmB, z.1]), if_neg (by rw [(no_br (a := s k) (Or.inr z.2)).1]; decide), if_neg (by rw [z.1]; decide)]
    exact if_pos t
  unfold bO
  rw [if_pos (by unfold opB; rw [h1]; simp)]; omega
theorem bo_1 (h : foB s v n k = true) : k + 1 = k + bO s v P n k := by
  simp only [foB, Bool.and_eq_true, decide_eq_true_eq, beq_iff_eq] at h
  obtain ⟨hk, hs, hr⟩ := h
  have hr' : rsB (v k) = false := by simpa using hr
  have : e7 s v P n k = 1 := by
    unfold e7 exN
    rw [if_neg (by omega), if_neg (by simp [nmB, hs]), if_neg (by rw [(no_br (a := s k) (b := v k) (Or.inl (by rw [hs]; decide))).1]; decide), if_pos (by rw [hs]; rfl), if_neg (by rw [hr']; decide)]
  unfold bO
  rw [if_pos (by unfold opB; rw [hs]; rfl)]; omega
theorem bo_0 (hk : k < n) (h1 : tkB s v n k = false ∨ nmB wdB s v n (k + 1) = false ∨ tkB s v n (k + 2) = false) (h2 : foB s v n k = false) : k = k + bO s v P n k := by
  unfold bO
  by_cases z : opB s v n k = true
  · rw [if_pos z]
    have : e7 s v P n k = 0 := by
      unfold opB at z
      rcases Bool.or_eq_true_iff.mp z with z | z
      · have hs : s k = 2 := by simpa using z
        have hr : rsB (v k) = true := by
          cases w : rsB (v k)
          · simp [foB, hk, hs, w] at h2
          · rfl
        unfold e7 exN
        rw [if_neg (by omega), if_neg (by simp [nmB, hs]), if_neg (by rw [(no_br (a := s k) (b := v k) (Or.inl (by rw [hs]; decide))).1]; decide), if_pos (by rw [hs]; rfl), if_pos hr]
      · have w := tkB_s z
        unfold e7 exN
        rw [if_neg (by omega), if_neg (by simp [nmB, w.1]), if_neg (by rw [(no_br (a := s k) (Or.inr w.2)).1]; decide), if_neg (by rw [w.1]; decide), if_neg]
        rw [z]
        rcases h1 with h | h | h
        · rw [z] at h; cases h
        · rw [h]; simp
        · rw [h]; simp
    omega
  · rw [if_neg z]; rfl
end RWH
