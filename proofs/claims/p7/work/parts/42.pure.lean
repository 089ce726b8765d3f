/-! the reference's rows: how many brackets are open, how deep the tokens are, how many are lexemes -/
def isBr (x : Int32) : Bool := x == -5 || x == -6
def nbr (f : Nat → Int32) : Nat → Nat
  | 0 => 0
  | n + 1 => nbr f n + (if isBr (f n) then 1 else 0)
def opn (s : Int32) (v : Int64) : Bool := s == 3 && (v == 40 || v == 91)
def clo (s : Int32) (v : Int64) : Bool := s == 3 && (v == 41 || v == 93)
def dlt (s : Int32) (v : Int64) : Int := if opn s v then 1 else if clo s v then -1 else 0
def dep (s : Nat → Int32) (v : Nat → Int64) : Nat → Int
  | 0 => 0
  | n + 1 => dep s v n + dlt (s n) (v n)
def cn (s : Nat → Int32) : Nat → Nat
  | 0 => 0
  | n + 1 => cn s n + (if s n = 4 then 0 else 1)
theorem nbr_upd {f : Nat → Int32} {t : Nat} {x : Int32} : ∀ n, n ≤ t → nbr (upd f t x) n = nbr f n
  | 0, _ => rfl
  | n + 1, h => by
    have e : upd f t x n = f n := if_neg (by omega)
    rw [nbr, nbr, nbr_upd n (by omega), e]
theorem dep_upd {s : Nat → Int32} {v : Nat → Int64} {t : Nat} {x : Int32} {y : Int64} : ∀ n, n ≤ t → dep (upd s t x) (vp_updL v t y) n = dep s v n
  | 0, _ => rfl
  | n + 1, h => by
    have e : upd s t x n = s n := if_neg (by omega)
    have e2 : vp_updL v t y n = v n := if_neg (by omega)
    rw [dep, dep, dep_upd n (by omega), e, e2]
theorem cn_upd {s : Nat → Int32} {t : Nat} {x : Int32} : ∀ n, n ≤ t → cn (upd s t x) n = cn s n
  | 0, _ => rfl
  | n + 1, h => by
    have e : upd s t x n = s n := if_neg (by omega)
    rw [cn, cn, cn_upd n (by omega), e]
theorem upd_self {f : Nat → Int32} {t : Nat} {x : Int32} : upd f t x t = x := if_pos rfl
theorem updL_self {f : Nat → Int64} {t : Nat} {x : Int64} : vp_updL f t x t = x := if_pos rfl
theorem nbr_drop {f : Nat → Int32} {a : Nat} : ∀ b, a ≤ b → (∀ j, a ≤ j → j < b → f j = -1) → nbr f b = nbr f a
  | 0, h, _ => by rw [Nat.le_zero.mp h]
  | b + 1, h, q => by
    rcases Nat.lt_or_ge a (b + 1) with h1 | h1
    · rw [nbr, nbr_drop b (by omega) (fun j h2 h3 => q j h2 (by omega)), q b (by omega) (by omega)]
      rfl
    · rw [Nat.le_antisymm h h1]
theorem nbr_pop {f : Nat → Int32} {n : Nat} (h : 1 ≤ n) (hb : isBr (f (n - 1)) = false) : nbr f (n - 1) = nbr f n := by
  obtain ⟨k, rfl⟩ : ∃ k, n = k + 1 := ⟨n - 1, by omega⟩
  have e : k + 1 - 1 = k := by omega
  rw [e] at hb ⊢
  rw [nbr, hb]
  rfl
theorem nbr_popB {f : Nat → Int32} {n : Nat} (h : 1 ≤ n) (hb : isBr (f (n - 1)) = true) : nbr f (n - 1) + 1 = nbr f n := by
  obtain ⟨k, rfl⟩ : ∃ k, n = k + 1 := ⟨n - 1, by omega⟩
  have e : k + 1 - 1 = k := by omega
  rw [e] at hb ⊢
  rw [nbr, hb]
  rfl
/-- the reference's state while it lays: d is what the lexeme in hand will add to the depth -/
def Lv (row : Nat → Int32) (opened : Nat) (s : Nat → Int32) (v : Nat → Int64) (t : Nat) (d : Int) (c b w : Nat) : Prop :=
  (∀ p, p ≤ t → 0 ≤ dep s v p) ∧ dep s v t + d = (nbr row opened : Int) ∧ cn s t = c ∧ t + opened ≤ b ∧ opened ≤ w
theorem Lv.put {row : Nat → Int32} {o : Nat} {s : Nat → Int32} {v : Nat → Int64} {t : Nat} {d : Int} {c b w : Nat} {y : Int64} (h : Lv row o s v t d c b w) : Lv row o (upd s t 4) (vp_updL v t y) (t + 1) d c (b + 1) w := by
  obtain ⟨h1, h2, h3, h4, h5⟩ := h
  have e1 : dep (upd s t 4) (vp_updL v t y) (t + 1) = dep s v t := by
    rw [dep, dep_upd t (Nat.le_refl _), upd_self, updL_self]
    simp [dlt, opn, clo]
  refine ⟨fun p hp => ?_, by rw [e1]; exact h2, ?_, by omega, h5⟩
  · rcases Nat.lt_or_ge p (t + 1) with q | q
    · rw [dep_upd p (by omega)]; exact h1 p (by omega)
    · have : p = t + 1 := by omega
      rw [this, e1]; exact h1 t (Nat.le_refl _)
  · rw [cn, cn_upd t (Nat.le_refl _), upd_self, if_pos rfl]; exact h3
theorem Lv.lex {row : Nat → Int32} {o : Nat} {s : Nat → Int32} {v : Nat → Int64} {t : Nat} {c b w : Nat} {k : Int32} {y : Int64} (hk : ¬ k = 4) (h : Lv row o s v t (dlt k y) c b w) : Lv row o (upd s t k) (vp_updL v t y) (t + 1) 0 (c + 1) (b + 1) w := by
  obtain ⟨h1, h2, h3, h4, h5⟩ := h
  have e1 : dep (upd s t k) (vp_updL v t y) (t + 1) = dep s v t + dlt k y := by
    rw [dep, dep_upd t (Nat.le_refl _), upd_self, updL_self]
  refine ⟨fun p hp => ?_, by rw [e1, h2]; omega, ?_, by omega, h5⟩
  · rcases Nat.lt_or_ge p (t + 1) with q | q
    · rw [dep_upd p (by omega)]; exact h1 p (by omega)
    · have : p = t + 1 := by omega
      rw [this, e1, h2]; omega
  · rw [cn, cn_upd t (Nat.le_refl _), upd_self, if_neg hk, h3]
theorem Lv.pop {row : Nat → Int32} {o : Nat} {s : Nat → Int32} {v : Nat → Int64} {t : Nat} {d : Int} {c b w : Nat} (ho : 1 ≤ o) (hb : isBr (row (o - 1)) = false) (h : Lv row o s v t d c (b + 1) w) : Lv row (o - 1) s v t d c b w := by
  obtain ⟨h1, h2, h3, h4, h5⟩ := h
  exact ⟨h1, by rw [nbr_pop ho hb]; exact h2, h3, by omega, by omega⟩
theorem Lv.popB {row : Nat → Int32} {o : Nat} {s : Nat → Int32} {v : Nat → Int64} {t : Nat} {c b w : Nat} (ho : 1 ≤ o) (hb : isBr (row (o - 1)) = true) (h : Lv row o s v t 0 c (b + 1) w) : Lv row (o - 1) s v t (-1) c b w := by
  obtain ⟨h1, h2, h3, h4, h5⟩ := h
  have := nbr_popB ho hb
  exact ⟨h1, by omega, h3, by omega, by omega⟩
theorem Lv.push {row : Nat → Int32} {o : Nat} {s : Nat → Int32} {v : Nat → Int64} {t : Nat} {d : Int} {c b w : Nat} {x : Int32} (hx : isBr x = false) (h : Lv row o s v t d c b w) : Lv (upd row o x) (o + 1) s v t d c (b + 1) (w + 1) := by
  obtain ⟨h1, h2, h3, h4, h5⟩ := h
  refine ⟨h1, ?_, h3, by omega, by omega⟩
  rw [nbr, nbr_upd o (Nat.le_refl _), upd_self, hx]
  exact h2
theorem Lv.pushB {row : Nat → Int32} {o : Nat} {s : Nat → Int32} {v : Nat → Int64} {t : Nat} {c b w : Nat} {x : Int32} (hx : isBr x = true) (h : Lv row o s v t 0 c b w) : Lv (upd row o x) (o + 1) s v t 1 c (b + 1) (w + 1) := by
  obtain ⟨h1, h2, h3, h4, h5⟩ := h
  refine ⟨h1, ?_, h3, by omega, by omega⟩
  rw [nbr, nbr_upd o (Nat.le_refl _), upd_self, hx]
  simp
  omega
theorem Lv.drop {row : Nat → Int32} {o o' : Nat} {s : Nat → Int32} {v : Nat → Int64} {t : Nat} {d : Int} {c b w : Nat} (ho : o' ≤ o) (hd : ∀ j, o' ≤ j → j < o → row j = -1) (h : Lv row o s v t d c b w) : Lv row o' s v t d c b w := by
  obtain ⟨h1, h2, h3, h4, h5⟩ := h
  exact ⟨h1, by rw [← nbr_drop o ho hd]; exact h2, h3, by omega, by omega⟩
theorem Lv.le {row : Nat → Int32} {o : Nat} {s : Nat → Int32} {v : Nat → Int64} {t : Nat} {d : Int} {c b w b' w' : Nat} (hb : b ≤ b') (hw : w ≤ w') (h : Lv row o s v t d c b w) : Lv row o s v t d c b' w' := by
  obtain ⟨h1, h2, h3, h4, h5⟩ := h
  exact ⟨h1, h2, h3, by omega, by omega⟩
theorem opn_clo {s : Int32} {v : Int64} (h : opn s v = true) : clo s v = false := by
  simp only [opn, clo, Bool.and_eq_true, Bool.or_eq_true, beq_iff_eq, Bool.and_eq_false_iff, Bool.or_eq_false_iff] at *
  rcases h.2 with e | e <;> rw [e] <;> exact Or.inr (by decide)
theorem dep_le_cn {s : Nat → Int32} {v : Nat → Int64} : ∀ n, dep s v n ≤ (cn s n : Int)
  | 0 => Int.le_refl _
  | n + 1 => by
    have ih := dep_le_cn (s := s) (v := v) n
    rw [dep, cn]
    by_cases h : s n = 4
    · have e : dlt (s n) (v n) = 0 := by rw [h]; simp [dlt, opn, clo]
      rw [e, if_pos h]; omega
    · have e : dlt (s n) (v n) ≤ 1 := by unfold dlt; split; omega; split <;> omega
      rw [if_neg h]; omega
theorem cn_mono {s : Nat → Int32} : ∀ a b, a ≤ b → cn s a ≤ cn s b
  | a, 0, h => by rw [Nat.le_zero.mp h]; exact Nat.le_refl _
  | a, b + 1, h => by
    rcases Nat.lt_or_ge a (b + 1) with q | q
    · have := cn_mono (s := s) a b (by omega)
      rw [cn]; omega
    · rw [Nat.le_antisymm h q]; exact Nat.le_refl _
/-- a bracket at q whose partner has been found: it waits no more -/
def Mt (s : Nat → Int32) (v : Nat → Int64) (w : Nat → Int32) (n k q : Nat) : Prop := q < k ∧ opn (s q) (v q) = true ∧ ∀ j, j < n → w j ≠ nI q
def PTi (s : Nat → Int32) (v : Nat → Int64) (w P : Nat → Int32) (n k : Nat) : Prop :=
  (n : Int) = dep s v k ∧ (∀ j, j < n → ∃ q, q < k ∧ w j = nI q) ∧ (∀ q, Mt s v w n k q → ∃ p, q < p ∧ p < k ∧ clo (s p) (v p) = true ∧ P q = nI p) ∧ ∀ q q', Mt s v w n k q → Mt s v w n k q' → P q = P q' → q = q'
theorem PTi.start {s : Nat → Int32} {v : Nat → Int64} {w P : Nat → Int32} : PTi s v w P 0 0 := ⟨rfl, fun _ h => absurd h (by omega), fun q h => absurd h.1 (by omega), fun q _ h => absurd h.1 (by omega)⟩
theorem PTi.opening {s : Nat → Int32} {v : Nat → Int64} {w P : Nat → Int32} {n k : Nat} (hk : k ≤ 600) (ho : opn (s k) (v k) = true) (h : PTi s v w P n k) : PTi s v (upd w n (nI k)) P (n + 1) (k + 1) := by
  obtain ⟨h1, h2, h3, h4⟩ := h
  have key : ∀ q, Mt s v (upd w n (nI k)) (n + 1) (k + 1) q → Mt s v w n k q := by
    intro q hq
    have hne : q ≠ k := fun e => hq.2.2 n (by omega) (by rw [upd_self, e])
    refine ⟨by have := hq.1; omega, hq.2.1, fun j hj => ?_⟩
    have := hq.2.2 j (by omega)
    rwa [show upd w n (nI k) j = w j from if_neg (by omega)] at this
  refine ⟨?_, fun j hj => ?_, fun q hq => ?_, fun q q' hq hq' => h4 q q' (key q hq) (key q' hq')⟩
  · rw [dep, ← h1]; simp [dlt, ho]
  · rcases Nat.lt_or_ge j n with e | e
    · obtain ⟨q, g1, g2⟩ := h2 j e
      exact ⟨q, by omega, by rw [show upd w n (nI k) j = w j from if_neg (by omega)]; exact g2⟩
    · exact ⟨k, by omega, by rw [show j = n by omega, upd_self]⟩
  · obtain ⟨p, g1, g2, g3, g4⟩ := h3 q (key q hq)
    exact ⟨p, g1, by omega, g3, g4⟩
theorem PTi.closing {s : Nat → Int32} {v : Nat → Int64} {w P : Nat → Int32} {n k q0 : Nat} (hk : k ≤ 600) (hc : clo (s k) (v k) = true) (hn : 1 ≤ n) (hq0 : q0 ≤ 600) (hw : w (n - 1) = nI q0) (h : PTi s v w P n k) : PTi s v w (upd P q0 (nI k)) (n - 1) (k + 1) := by
  obtain ⟨h1, h2, h3, h4⟩ := h
  have hno : opn (s k) (v k) = false := by
    cases ho : opn (s k) (v k)
    · rfl
    · have := opn_clo ho; rw [hc] at this; cases this
  have hlt : q0 < k := by
    obtain ⟨q, g1, g2⟩ := h2 (n - 1) (by omega)
    have := (nI_eq (a := q0) (b := q) (by omega) (by omega)).mp (hw.symm.trans g2)
    omega
  have key : ∀ q, Mt s v w (n - 1) (k + 1) q → q ≠ q0 → Mt s v w n k q := by
    intro q hq hne
    have h5 : q ≠ k := fun e => by have := hq.2.1; rw [e, hno] at this; cases this
    have h6 := hq.1
    refine ⟨by omega, hq.2.1, fun j hj => ?_⟩
    rcases Nat.lt_or_ge j (n - 1) with e | e
    · exact hq.2.2 j e
    · rw [show j = n - 1 by omega, hw]
      exact fun e2 => hne ((nI_eq (a := q0) (b := q) (by omega) (by omega)).mp e2).symm
  have val : ∀ q, q ≠ q0 → upd P q0 (nI k) q = P q := fun q hq => if_neg hq
  refine ⟨?_, fun j hj => ?_, fun q hq => ?_, fun q q' hq hq' e => ?_⟩
  · rw [dep, ← h1]; simp [dlt, hno, hc]; omega
  · obtain ⟨q, g1, g2⟩ := h2 j (by omega)
    exact ⟨q, by omega, g2⟩
  · by_cases e : q = q0
    · exact ⟨k, by omega, by omega, hc, by rw [e, upd_self]⟩
    · obtain ⟨p, g1, g2, g3, g4⟩ := h3 q (key q hq e)
      exact ⟨p, g1, by omega, g3, by rw [val q e]; exact g4⟩
  · have small : ∀ z, Mt s v w (n - 1) (k + 1) z → z ≠ q0 → P z ≠ nI k := by
      intro z hz hne e9
      obtain ⟨p, g1, g2, g3, g4⟩ := h3 z (key z hz hne)
      have := (nI_eq (a := p) (b := k) (by omega) (by omega)).mp (g4.symm.trans e9)
      omega
    by_cases e1 : q = q0
    · by_cases e2 : q' = q0
      · rw [e1, e2]
      · rw [e1, upd_self, val q' e2] at e
        exact absurd e.symm (small q' hq' e2)
    · by_cases e2 : q' = q0
      · rw [e2, upd_self, val q e1] at e
        exact absurd e (small q hq e1)
      · rw [val q e1, val q' e2] at e
        exact h4 q q' (key q hq e1) (key q' hq' e2) e
theorem PTi.other {s : Nat → Int32} {v : Nat → Int64} {w P : Nat → Int32} {n k : Nat} (ho : opn (s k) (v k) = false) (hc : clo (s k) (v k) = false) (h : PTi s v w P n k) : PTi s v w P n (k + 1) := by
  obtain ⟨h1, h2, h3, h4⟩ := h
  have key : ∀ q, Mt s v w n (k + 1) q → Mt s v w n k q := by
    intro q hq
    have h5 : q ≠ k := fun e => by have := hq.2.1; rw [e, ho] at this; cases this
    have h6 := hq.1
    exact ⟨by omega, hq.2⟩
  refine ⟨?_, fun j hj => ?_, fun q hq => ?_, fun q q' hq hq' => h4 q q' (key q hq) (key q' hq')⟩
  · rw [dep, ← h1]; simp [dlt, ho, hc]
  · obtain ⟨q, g1, g2⟩ := h2 j hj
    exact ⟨q, by omega, g2⟩
  · obtain ⟨p, g1, g2, g3, g4⟩ := h3 q (key q hq)
    exact ⟨p, g1, by omega, g3, g4⟩
/-- every bracket has its partner, and no two have the same -/
def PT (s : Nat → Int32) (v : Nat → Int64) (P : Nat → Int32) (t : Nat) : Prop :=
  (∀ q, q < t → opn (s q) (v q) = true → ∃ p, q < p ∧ p < t ∧ clo (s p) (v p) = true ∧ P q = nI p) ∧ ∀ q q', q < t → q' < t → opn (s q) (v q) = true → opn (s q') (v q') = true → P q = P q' → q = q'
theorem PTi.done {s : Nat → Int32} {v : Nat → Int64} {w P : Nat → Int32} {n t : Nat} (h0 : dep s v t = 0) (h : PTi s v w P n t) : PT s v P t := by
  obtain ⟨h1, h2, h3, h4⟩ := h
  have hn : n = 0 := by omega
  subst hn
  have m : ∀ q, q < t → opn (s q) (v q) = true → Mt s v w 0 t q := fun q a b => ⟨a, b, fun j hj => absurd hj (by omega)⟩
  exact ⟨fun q a b => h3 q (m q a b), fun q q' a a' b b' => h4 q q' (m q a b) (m q' a' b')⟩
/-! items of a row: their extents, and which tokens have been passed -/
section EXT
variable {wd rs : Int64 → Bool} {s : Nat → Int32} {v : Nat → Int64} {P : Nat → Int32} {t : Nat}
def nmB (wd : Int64 → Bool) (s : Nat → Int32) (v : Nat → Int64) (t k : Nat) : Bool := decide (k < t) && (s k == 0 && !wd (v k))
def tkB (s : Nat → Int32) (v : Nat → Int64) (t k : Nat) : Bool := decide (k < t) && (s k == 3 && v k == 96)
def exN (wd rs : Int64 → Bool) (s : Nat → Int32) (v : Nat → Int64) (P : Nat → Int32) (t k : Nat) : Nat :=
  if t ≤ k then 0 else if nmB wd s v t k || s k == 1 then 1 else if opn (s k) (v k) then (P k).toNatClampNeg - k + 1 else if s k == 2 then (if rs (v k) then 0 else 1) else if tkB s v t k && (nmB wd s v t (k + 1) && tkB s v t (k + 2)) then 3 else 0
/-- a single token -/
def exA (s : Nat → Int32) (k n : Nat) : Prop := n = 1 ∧ (s k = 0 ∨ s k = 1 ∨ s k = 2)
def exB (s : Nat → Int32) (v : Nat → Int64) (P : Nat → Int32) (t k n : Nat) : Prop := opn (s k) (v k) = true ∧ ∃ p, k < p ∧ p < t ∧ clo (s p) (v p) = true ∧ P k = nI p ∧ n = p - k + 1
def exC (s : Nat → Int32) (v : Nat → Int64) (t k n : Nat) : Prop := n = 3 ∧ k + 2 < t ∧ s k = 3 ∧ v k = 96 ∧ s (k + 1) = 0 ∧ s (k + 2) = 3 ∧ v (k + 2) = 96
theorem exN_cases (ht : t ≤ 600) (hP : PT s v P t) {k : Nat} (h : 0 < exN wd rs s v P t k) : k < t ∧ (exA s k (exN wd rs s v P t k) ∨ exB s v P t k (exN wd rs s v P t k) ∨ exC s v t k (exN wd rs s v P t k)) := by
  unfold exN at h ⊢
  by_cases h1 : t ≤ k
  · rw [if_pos h1] at h; omega
  rw [if_neg h1] at h ⊢
  refine ⟨by omega, ?_⟩
  by_cases h2 : (nmB wd s v t k || s k == 1) = true
  · rw [if_pos h2]
    refine Or.inl ⟨rfl, ?_⟩
    simp only [nmB, Bool.or_eq_true, Bool.and_eq_true, beq_iff_eq] at h2
    rcases h2 with h2 | h2
    · exact Or.inl h2.2.1
    · exact Or.inr (Or.inl h2)
  rw [if_neg h2] at h ⊢
  by_cases h3 : opn (s k) (v k) = true
  · rw [if_pos h3] at h ⊢
    obtain ⟨p, p1, p2, p3, p4⟩ := hP.1 k (by omega) h3
    refine Or.inr (Or.inl ⟨h3, p, p1, p2, p3, p4, ?_⟩)
    rw [p4, nI_clamp (by omega)]
  rw [if_neg h3] at h ⊢
  by_cases h4 : (s k == 2) = true
  · rw [if_pos h4] at h ⊢
    by_cases h5 : rs (v k) = true
    · rw [if_pos h5] at h; omega
    · rw [if_neg h5]
      exact Or.inl ⟨rfl, Or.inr (Or.inr (by simpa using h4))⟩
  rw [if_neg h4] at h ⊢
  by_cases h6 : (tkB s v t k && (nmB wd s v t (k + 1) && tkB s v t (k + 2))) = true
  · rw [if_pos h6]
    simp only [tkB, nmB, Bool.and_eq_true, decide_eq_true_eq, beq_iff_eq] at h6
    exact Or.inr (Or.inr ⟨rfl, h6.2.2.1, h6.1.2.1, h6.1.2.2, h6.2.1.2.1, h6.2.2.2.1, h6.2.2.2.2⟩)
  · rw [if_neg h6] at h; omega
theorem clo_s {x : Int32} {y : Int64} (h : clo x y = true) : x = 3 ∧ y ≠ 96 := by
  simp only [clo, Bool.and_eq_true, Bool.or_eq_true, beq_iff_eq] at h
  refine ⟨h.1, ?_⟩
  rcases h.2 with e | e <;> rw [e] <;> decide
theorem opn_s {x : Int32} {y : Int64} (h : opn x y = true) : x = 3 ∧ y ≠ 96 := by
  simp only [opn, Bool.and_eq_true, Bool.or_eq_true, beq_iff_eq] at h
  refine ⟨h.1, ?_⟩
  rcases h.2 with e | e <;> rw [e] <;> decide
theorem exN_clo (ht : t ≤ 600) (hP : PT s v P t) {k : Nat} (h : clo (s k) (v k) = true) : exN wd rs s v P t k = 0 := by
  rcases Nat.eq_zero_or_pos (exN wd rs s v P t k) with e | e
  · exact e
  · exfalso
    obtain ⟨c1, c2⟩ := clo_s h
    obtain ⟨-, a | b | c⟩ := exN_cases ht hP e
    · rcases a.2 with q | q | q <;> rw [c1] at q <;> exact absurd q (by decide)
    · have := opn_clo b.1; rw [h] at this; cases this
    · exact c2 c.2.2.2.1
/-- the item before one is unique -/
theorem exN_one (ht : t ≤ 600) (hP : PT s v P t) {k k' : Nat} (h : 0 < exN wd rs s v P t k) (h' : 0 < exN wd rs s v P t k') (e : k' + exN wd rs s v P t k' = k + exN wd rs s v P t k) : k' = k := by
  obtain ⟨hk, c⟩ := exN_cases ht hP h
  obtain ⟨hk', c'⟩ := exN_cases ht hP h'
  have d30 : ¬ (3 : Int32) = 0 := by decide
  have d31 : ¬ (3 : Int32) = 1 := by decide
  have d32 : ¬ (3 : Int32) = 2 := by decide
  have sgl : ∀ x, s x = 3 → ¬ (s x = 0 ∨ s x = 1 ∨ s x = 2) := by
    intro x hx q; rw [hx] at q
    rcases q with q | q | q
    · exact d30 q
    · exact d31 q
    · exact d32 q
  rcases c with ⟨n1, a⟩ | ⟨o, p, p1, p2, p3, p4, p5⟩ | ⟨n3, c1, c2, c3, c4, c5, c6⟩ <;> rcases c' with ⟨n1', a'⟩ | ⟨o', p', p1', p2', p3', p4', p5'⟩ | ⟨n3', c1', c2', c3', c4', c5', c6'⟩
  · omega
  · have : p' = k := by omega
    rw [this] at p3'; exact absurd a (sgl k (clo_s p3').1)
  · have : k' + 2 = k := by omega
    rw [this] at c5'; exact absurd a (sgl k c5')
  · have : p = k' := by omega
    rw [this] at p3; exact absurd a' (sgl k' (clo_s p3).1)
  · have : p' = p := by omega
    exact hP.2 k' k hk' hk o' o (by rw [p4', p4, this])
  · have : k' + 2 = p := by omega
    rw [this] at c6'; exact absurd c6' (clo_s p3).2
  · have : k + 2 = k' := by omega
    rw [this] at c5; exact absurd a' (sgl k' c5)
  · have : k + 2 = p' := by omega
    rw [this] at c6; exact absurd c6 (clo_s p3').2
  · omega
/-- what holds while a row that begins at a is collected, before the item at k -/
def CI (wd rs : Int64 → Bool) (s : Nat → Int32) (v : Nat → Int64) (P : Nat → Int32) (t a k : Nat) (D : Nat → Prop) : Prop :=
  a ≤ k ∧ (∀ q, a ≤ q → 0 < exN wd rs s v P t q → D (q + exN wd rs s v P t q) → 0 < exN wd rs s v P t (q + exN wd rs s v P t q) → D q) ∧ (0 < exN wd rs s v P t k → ¬ D k) ∧
    (∀ q, a ≤ q → 0 < exN wd rs s v P t q → q + exN wd rs s v P t q = k → 0 < exN wd rs s v P t k → D q) ∧ (k = a ∨ D (k - 1)) ∧ (k = a ∨ k - 1 = a ∨ D (k - 2) ∨ ¬ s (k - 1) = 0)
theorem CI.step (ht : t ≤ 600) (hP : PT s v P t) {a k n : Nat} {D D' : Nat → Prop} (hn : exN wd rs s v P t k = n) (h0 : 0 < n) (hD : ∀ x, D' x ↔ D x ∨ x = k ∨ x = k + n - 1 ∨ (n = 3 ∧ tkB s v t k = true ∧ x = k + 1)) (h : CI wd rs s v P t a k D) : CI wd rs s v P t a (k + n) D' := by
  obtain ⟨g1, g2, g3, g4, g5, g6⟩ := h
  subst hn
  obtain ⟨hk, cs⟩ := exN_cases ht hP h0
  have mono : ∀ x, D x → D' x := fun x hx => (hD x).mpr (Or.inl hx)
  have tkk : exC s v t k (exN wd rs s v P t k) → tkB s v t k = true := by
    rintro ⟨-, -, c2, c3, -⟩
    simp [tkB, hk, c2, c3]
  refine ⟨by omega, fun q hq e1 e2 e3 => ?_, fun e1 e2 => ?_, fun q hq e1 e2 e3 => ?_, Or.inr ((hD _).mpr (Or.inr (Or.inr (Or.inl rfl)))), ?_⟩
  · rcases (hD _).mp e2 with e | e | e | ⟨n3, tk, e⟩
    · exact mono _ (g2 q hq e1 e e3)
    · exact mono _ (g4 q hq e1 e h0)
    · rcases cs with ⟨n1, a1⟩ | ⟨o, p, p1, p2, p3, p4, p5⟩ | ⟨n3, c1, c2, c3, c4, c5, c6⟩
      · exact mono _ (g4 q hq e1 (by omega) h0)
      · have : q + exN wd rs s v P t q = p := by omega
        rw [this, exN_clo ht hP p3] at e3; omega
      · obtain ⟨hk', c'⟩ := exN_cases ht hP e1
        rcases c' with ⟨n1', a'⟩ | ⟨o', p', p1', p2', p3', p4', p5'⟩ | ⟨n3', c1', c2', c3', c4', c5', c6'⟩
        · have : q = k + 1 := by omega
          exact (hD q).mpr (Or.inr (Or.inr (Or.inr ⟨n3, tkk ⟨n3, c1, c2, c3, c4, c5, c6⟩, this⟩)))
        · have : p' = k + 1 := by omega
          rw [this] at p3'
          have := (clo_s p3').1; rw [c4] at this; exact absurd this (by decide)
        · have : q + 2 = k + 1 := by omega
          rw [this, c4] at c5'; exact absurd c5' (by decide)
    · obtain ⟨hk', c'⟩ := exN_cases ht hP e1
      have tk9 : s k = 3 ∧ v k = 96 := by
        simp only [tkB, Bool.and_eq_true, decide_eq_true_eq, beq_iff_eq] at tk
        exact tk.2
      rcases c' with ⟨n1', a'⟩ | ⟨o', p', p1', p2', p3', p4', p5'⟩ | ⟨n3', c1', c2', c3', c4', c5', c6'⟩
      · have : q = k := by omega
        rw [this] at n1'; omega
      · have : p' = k := by omega
        rw [this] at p3'; exact absurd tk9.2 (clo_s p3').2
      · have hq2 : q = k - 2 := by omega
        have hk2 : k = q + 2 := by omega
        rcases g6 with z | z | z | z
        · omega
        · omega
        · rw [hq2]; exact mono _ z
        · rw [show k - 1 = q + 1 by omega] at z; exact absurd c4' z
  · rcases (hD _).mp e2 with e | e | e | ⟨n3, -, e⟩
    · exact g3 h0 (g2 k g1 h0 e e1)
    · omega
    · omega
    · omega
  · have := exN_one ht hP h0 e1 e2
    rw [this]; exact (hD k).mpr (Or.inr (Or.inl rfl))
  · rcases cs with ⟨n1, a1⟩ | ⟨o, p, p1, p2, p3, p4, p5⟩ | ⟨n3, c1, c2, c3, c4, c5, c6⟩
    · rcases g5 with z | z
      · exact Or.inr (Or.inl (by omega))
      · exact Or.inr (Or.inr (Or.inl (by rw [show k + exN wd rs s v P t k - 2 = k - 1 by omega]; exact mono _ z)))
    · refine Or.inr (Or.inr (Or.inr ?_))
      rw [show k + exN wd rs s v P t k - 1 = p by omega, (clo_s p3).1]; decide
    · refine Or.inr (Or.inr (Or.inr ?_))
      rw [show k + exN wd rs s v P t k - 1 = k + 2 by omega, c5]; decide
theorem exN_lex (ht : t ≤ 600) (hP : PT s v P t) {k : Nat} (h : 0 < exN wd rs s v P t k) : ¬ s k = 4 := by
  intro e
  obtain ⟨-, a | b | c⟩ := exN_cases ht hP h
  · rcases a.2 with q | q | q <;> rw [e] at q <;> exact absurd q (by decide)
  · have := (opn_s b.1).1; rw [e] at this; exact absurd this (by decide)
  · have := c.2.2.1; rw [e] at this; exact absurd this (by decide)
theorem exN_in (ht : t ≤ 600) (hP : PT s v P t) {k : Nat} (h : 0 < exN wd rs s v P t k) : k + exN wd rs s v P t k ≤ t := by
  obtain ⟨hk, a | b | c⟩ := exN_cases ht hP h
  · have := a.1; omega
  · obtain ⟨-, p, p1, p2, -, -, p5⟩ := b; omega
  · have := c.1; have := c.2.1; omega
end EXT
/-- lexemes that have not been passed -/
def und (s d : Nat → Int32) : Nat → Nat
  | 0 => 0
  | n + 1 => und s d n + (if s n = 4 then 0 else if d n = 0 then 1 else 0)
theorem und_le {s d d' : Nat → Int32} (h : ∀ x, ¬ d x = 0 → ¬ d' x = 0) : ∀ n, und s d' n ≤ und s d n
  | 0 => Nat.le_refl _
  | n + 1 => by
    have ih := und_le h (s := s) n
    rw [und, und]
    by_cases h4 : s n = 4
    · rw [if_pos h4, if_pos h4]; omega
    · rw [if_neg h4, if_neg h4]
      by_cases h5 : d n = 0
      · rw [if_pos h5]; split <;> omega
      · rw [if_neg h5, if_neg (h n h5)]; omega
theorem und_lt {s d d' : Nat → Int32} (h : ∀ x, ¬ d x = 0 → ¬ d' x = 0) {k : Nat} (h1 : ¬ s k = 4) (h2 : d k = 0) (h3 : ¬ d' k = 0) : ∀ n, k < n → und s d' n + 1 ≤ und s d n
  | 0, q => absurd q (by omega)
  | n + 1, q => by
    rw [und, und]
    rcases Nat.lt_or_ge k n with e | e
    · have ih := und_lt h h1 h2 h3 n e
      by_cases h4 : s n = 4
      · rw [if_pos h4, if_pos h4]; omega
      · rw [if_neg h4, if_neg h4]
        by_cases h5 : d n = 0
        · rw [if_pos h5]; split <;> omega
        · rw [if_neg h5, if_neg (h n h5)]; omega
    · have : n = k := by omega
      subst this
      have := und_le h (s := s) n
      rw [if_neg h1, if_neg h1, if_pos h2, if_neg h3]; omega
theorem und_cn {s d : Nat → Int32} : ∀ n, und s d n ≤ cn s n
  | 0 => Nat.le_refl _
  | n + 1 => by
    have ih := und_cn (s := s) (d := d) n
    rw [und, cn]
    split
    · omega
    · split <;> omega
/-- how many brackets the counts ask for -/
def tB (f : Nat → Int32) : Nat → Nat
  | 0 => 0
  | n + 1 => tB f n + (f n).toNatClampNeg
theorem inc_le (a : Int32) : (a + 1).toNatClampNeg ≤ a.toNatClampNeg + 1 := by
  have h1 := Int32.toInt_lt a
  have h2 := Int32.le_toInt a
  have e : ∀ z : Int32, z.toNatClampNeg = z.toInt.toNat := fun z => rfl
  rw [e, e, Int32.toInt_add, show (1 : Int32).toInt = 1 by decide]
  by_cases q : a.toInt + 1 < 2147483648
  · rw [Int.bmod_eq_of_le (by omega) (by omega)]; omega
  · have : a.toInt + 1 = 2147483648 := by omega
    rw [this]
    have e9 : (Int.bmod 2147483648 (2 ^ 32)).toNat = 0 := by decide
    omega
theorem tB_upd {f : Nat → Int32} {x : Nat} : ∀ n, tB (upd f x (f x + 1)) n ≤ tB f n + 1 ∧ (n ≤ x → tB (upd f x (f x + 1)) n = tB f n)
  | 0 => ⟨by simp [tB], fun _ => rfl⟩
  | n + 1 => by
    obtain ⟨i1, i2⟩ := tB_upd (f := f) (x := x) n
    rw [tB, tB]
    by_cases h : n = x
    · have e : upd f x (f x + 1) n = f x + 1 := if_pos h
      rw [e, i2 (by omega), h]
      have := inc_le (f x)
      exact ⟨by omega, fun q => by omega⟩
    · have e : upd f x (f x + 1) n = f n := if_neg h
      rw [e]
      exact ⟨by omega, fun q => by rw [i2 (by omega)]⟩
theorem tB_upd0 {f : Nat → Int32} {x : Nat} : ∀ n, n ≤ x → ∀ y, tB (upd f x y) n = tB f n
  | 0, _, _ => rfl
  | n + 1, h, y => by
    have e : upd f x y n = f n := if_neg (by omega)
    rw [tB, tB, tB_upd0 n (by omega) y, e]
/-! a row that is put together: enough operands wait -/
def bw (what waits : Nat → Int32) : Nat → Nat
  | 0 => 0
  | n + 1 => bw what waits n + (if what (waits n).toNatClampNeg = 1 then 1 else 0)
theorem bw_upd {what waits : Nat → Int32} {t : Nat} {x : Int32} : ∀ n, n ≤ t → bw what (upd waits t x) n = bw what waits n
  | 0, _ => rfl
  | n + 1, h => by
    have e : upd waits t x n = waits n := if_neg (by omega)
    rw [bw, bw, bw_upd n (by omega), e]
/-- i items have been taken, o operands and w operations wait, p pairs have been made; e: the last item is an operand -/
def PV (what waits : Nat → Int32) (o w p i e : Nat) : Prop := bw what waits w + e ≤ o ∧ o ≤ i ∧ p + w ≤ i
theorem PV.start {what waits : Nat → Int32} : PV what waits 0 0 0 0 0 := ⟨Nat.le_refl _, Nat.le_refl _, Nat.le_refl _⟩
theorem PV.operand {what waits : Nat → Int32} {o w p i e : Nat} (h : PV what waits o w p i e) : PV what waits (o + 1) w p (i + 1) 1 := by
  obtain ⟨h1, h2, h3⟩ := h
  exact ⟨by omega, by omega, by omega⟩
theorem PV.wait1 {what waits : Nat → Int32} {o w p i q : Nat} (hq : q ≤ 600) (h : PV what waits o w p i 1) : PV what (upd waits w (nI q)) o (w + 1) p (i + 1) 0 := by
  obtain ⟨h1, h2, h3⟩ := h
  refine ⟨?_, by omega, by omega⟩
  rw [bw, bw_upd w (Nat.le_refl _)]
  split <;> omega
theorem PV.wait2 {what waits : Nat → Int32} {o w p i e q : Nat} (hq : q ≤ 600) (h2' : what q = 2) (h : PV what waits o w p i e) : PV what (upd waits w (nI q)) o (w + 1) p (i + 1) 0 := by
  obtain ⟨h1, h2, h3⟩ := h
  refine ⟨?_, by omega, by omega⟩
  rw [bw, bw_upd w (Nat.le_refl _), show upd waits w (nI q) w = nI q from if_pos rfl, nI_clamp (by omega), h2', if_neg (by decide)]
  omega
theorem PV.minus {what waits : Nat → Int32} {o w p i q : Nat} (hq : q ≤ 600) (hw : 1 ≤ w) (hwq : waits (w - 1) = nI q) (h2' : what q = 2) (h : PV what waits o w p i 1) : 1 ≤ o ∧ PV what waits o (w - 1) (p + 1) i 1 := by
  obtain ⟨h1, h2, h3⟩ := h
  refine ⟨by omega, ?_, by omega, by omega⟩
  obtain ⟨k, rfl⟩ : ∃ k, w = k + 1 := ⟨w - 1, by omega⟩
  rw [bw] at h1
  show bw what waits k + 1 ≤ o
  omega
theorem PV.binary {what waits : Nat → Int32} {o w p i q : Nat} (hq : q ≤ 600) (hw : 1 ≤ w) (hwq : waits (w - 1) = nI q) (h2' : what q = 1) (h : PV what waits o w p i 1) : 2 ≤ o ∧ PV what waits (o - 1) (w - 1) (p + 1) i 1 := by
  obtain ⟨h1, h2, h3⟩ := h
  obtain ⟨k, rfl⟩ : ∃ k, w = k + 1 := ⟨w - 1, by omega⟩
  rw [show k + 1 - 1 = k by omega] at hwq
  rw [bw, hwq, nI_clamp (by omega), h2', if_pos rfl] at h1
  refine ⟨by omega, ?_, by omega, by omega⟩
  show bw what waits k + 1 ≤ o - 1
  omega
/-- the marks of a row after it has been found regular: an operation of two sides stands behind an operand, the last item is one -/
def RG (what : Nat → Int32) (n : Nat) : Prop := (∀ i, i < n → what i = 0 ∨ what i = 1 ∨ what i = 2) ∧ (∀ i, i < n → what i = 1 → 1 ≤ i ∧ what (i - 1) = 0) ∧ 1 ≤ n ∧ what (n - 1) = 0
/-! how the reference's state moves while it lays -/
abbrev lst : Type := (Nat → Int32) × Nat × (Nat → Int32) × (Nat → Int64) × (Nat → Int32) × (Nat → Int32) × (Nat → Int32) × Nat
def Zr (b h d : Nat → Int32) (t : Nat) : Prop := ∀ x, x < t → b x = 0 ∧ h x = 0 ∧ d x = 0
/-- bounds alone -/
def LB (x y : lst) (k j : Int) : Prop := cn y.2.2.1 y.2.2.2.2.2.2.2 = cn x.2.2.1 x.2.2.2.2.2.2.2 ∧ ((y.2.2.2.2.2.2.2 : Int) + y.2.1 ≤ x.2.2.2.2.2.2.2 + x.2.1 + k) ∧ ((y.2.1 : Int) ≤ x.2.1 + j)
def LD (x y : lst) (e : Int) : Prop := ((∀ p, p ≤ x.2.2.2.2.2.2.2 → 0 ≤ dep x.2.2.1 x.2.2.2.1 p) → ∀ p, p ≤ y.2.2.2.2.2.2.2 → 0 ≤ dep y.2.2.1 y.2.2.2.1 p) ∧
  dep y.2.2.1 y.2.2.2.1 y.2.2.2.2.2.2.2 + e - nbr y.1 y.2.1 = dep x.2.2.1 x.2.2.2.1 x.2.2.2.2.2.2.2 - nbr x.1 x.2.1 ∧ (Zr x.2.2.2.2.1 x.2.2.2.2.2.1 x.2.2.2.2.2.2.1 x.2.2.2.2.2.2.2 → Zr y.2.2.2.2.1 y.2.2.2.2.2.1 y.2.2.2.2.2.2.1 y.2.2.2.2.2.2.2)
theorem LB.refl (x : lst) : LB x x 0 0 := ⟨rfl, by omega, by omega⟩
theorem LD.refl (x : lst) : LD x x 0 := ⟨fun h => h, by omega, fun h => h⟩
theorem LB.trans {x y z : lst} {k j k' j' : Int} (h : LB x y k j) (h' : LB y z k' j') : LB x z (k + k') (j + j') := ⟨h'.1.trans h.1, by have := h.2.1; have := h'.2.1; omega, by have := h.2.2; have := h'.2.2; omega⟩
theorem LB.le {x y : lst} {k j k' j' : Int} (h : LB x y k j) (hk : k ≤ k') (hj : j ≤ j') : LB x y k' j' := ⟨h.1, by have := h.2.1; omega, by have := h.2.2; omega⟩
theorem LD.trans {x y z : lst} {e e' : Int} (h : LD x y e) (h' : LD y z e') : LD x z (e + e') := ⟨fun q => h'.1 (h.1 q), by have := h.2.1; have := h'.2.1; omega, fun q => h'.2.2 (h.2.2 q)⟩
section LAY
variable {row s b h d : Nat → Int32} {v : Nat → Int64} {o t : Nat}
theorem LB.put {y : Int64} : LB (row, o, s, v, b, h, d, t) (row, o, upd s t 4, vp_updL v t y, upd b t 0, upd h t 0, upd d t 0, t + 1) 1 0 := by
  refine ⟨?_, by show ((t + 1 : Nat) : Int) + o ≤ t + o + 1; omega, by show (o : Int) ≤ o + 0; omega⟩
  show cn (upd s t 4) (t + 1) = cn s t
  rw [cn, cn_upd t (Nat.le_refl _), upd_self, if_pos rfl]; rfl
theorem LD.put {y : Int64} : LD (row, o, s, v, b, h, d, t) (row, o, upd s t 4, vp_updL v t y, upd b t 0, upd h t 0, upd d t 0, t + 1) 0 := by
  have e1 : dep (upd s t 4) (vp_updL v t y) (t + 1) = dep s v t := by
    rw [dep, dep_upd t (Nat.le_refl _), upd_self, updL_self]
    simp [dlt, opn, clo]
  refine ⟨fun h1 p hp => ?_, ?_, fun z x hx => ?_⟩
  · have hp : p ≤ t + 1 := hp
    show 0 ≤ dep (upd s t 4) (vp_updL v t y) p
    rcases Nat.lt_or_ge p (t + 1) with q | q
    · rw [dep_upd p (by omega)]; exact h1 p (by show p ≤ t; omega)
    · rw [show p = t + 1 by omega, e1]; exact h1 t (Nat.le_refl _)
  · show dep (upd s t 4) (vp_updL v t y) (t + 1) + 0 - nbr row o = dep s v t - nbr row o
    rw [e1]; omega
  · have hx : x < t + 1 := hx
    show upd b t 0 x = 0 ∧ upd h t 0 x = 0 ∧ upd d t 0 x = 0
    unfold upd
    by_cases q : x = t
    · simp [q]
    · simp only [q, if_false]; exact z x (by show x < t; omega)
theorem LB.pop (ho : 1 ≤ o) : LB (row, o, s, v, b, h, d, t) (row, o - 1, s, v, b, h, d, t) (-1) (-1) := ⟨rfl, by show (t : Int) + (o - 1 : Nat) ≤ t + o + -1; omega, by show ((o - 1 : Nat) : Int) ≤ o + -1; omega⟩
theorem LD.pop (ho : 1 ≤ o) (hb : isBr (row (o - 1)) = false) : LD (row, o, s, v, b, h, d, t) (row, o - 1, s, v, b, h, d, t) 0 := by
  refine ⟨fun h => h, ?_, fun h => h⟩
  show dep s v t + 0 - nbr row (o - 1) = dep s v t - nbr row o
  rw [nbr_pop ho hb]; omega
theorem LD.popB (ho : 1 ≤ o) (hb : isBr (row (o - 1)) = true) : LD (row, o, s, v, b, h, d, t) (row, o - 1, s, v, b, h, d, t) (-1) := by
  refine ⟨fun h => h, ?_, fun h => h⟩
  have := nbr_popB ho hb
  show dep s v t + -1 - nbr row (o - 1) = dep s v t - nbr row o
  omega
theorem LB.push {x : Int32} : LB (row, o, s, v, b, h, d, t) (upd row o x, o + 1, s, v, b, h, d, t) 1 1 := ⟨rfl, by show (t : Int) + (o + 1 : Nat) ≤ t + o + 1; omega, by show ((o + 1 : Nat) : Int) ≤ o + 1; omega⟩
theorem LD.push {x : Int32} (hx : isBr x = false) : LD (row, o, s, v, b, h, d, t) (upd row o x, o + 1, s, v, b, h, d, t) 0 := by
  refine ⟨fun h => h, ?_, fun h => h⟩
  show dep s v t + 0 - nbr (upd row o x) (o + 1) = dep s v t - nbr row o
  rw [nbr, nbr_upd o (Nat.le_refl _), upd_self, hx]
  simp
theorem LD.pushB {x : Int32} (hx : isBr x = true) : LD (row, o, s, v, b, h, d, t) (upd row o x, o + 1, s, v, b, h, d, t) 1 := by
  refine ⟨fun h => h, ?_, fun h => h⟩
  show dep s v t + 1 - nbr (upd row o x) (o + 1) = dep s v t - nbr row o
  rw [nbr, nbr_upd o (Nat.le_refl _), upd_self, hx]
  simp
  omega
/-- the top of what is open -/
def tp (row : Nat → Int32) (o : Nat) : Int32 := if 0 < o then row (o - 1) else -11
def blw (row : Nat → Int32) : Nat → Int32
  | 0 => -11
  | n + 1 => if row n = -1 then blw row n else row n
def drp (row : Nat → Int32) : Nat → Nat
  | 0 => 0
  | n + 1 => if row n = -1 then drp row n else n + 1
theorem tp_pos (hn : ¬ tp row o = -11) : 1 ≤ o ∧ tp row o = row (o - 1) := by
  unfold tp at hn ⊢
  by_cases q : 0 < o
  · rw [if_pos q]; exact ⟨q, rfl⟩
  · rw [if_neg q] at hn; exact absurd rfl hn
theorem blw_step (ho : 1 ≤ o) (hr : row (o - 1) = -1) : blw row (o - 1) = blw row o := by
  obtain ⟨k, rfl⟩ : ∃ k, o = k + 1 := ⟨o - 1, by omega⟩
  rw [show k + 1 - 1 = k by omega] at hr ⊢
  rw [blw, if_pos hr]
theorem blw_at (ho : 1 ≤ o) (hr : ¬ row (o - 1) = -1) : blw row o = row (o - 1) := by
  obtain ⟨k, rfl⟩ : ∃ k, o = k + 1 := ⟨o - 1, by omega⟩
  rw [show k + 1 - 1 = k by omega] at hr ⊢
  rw [blw, if_neg hr]
theorem drp_step (ho : 1 ≤ o) (hr : row (o - 1) = -1) : drp row (o - 1) = drp row o := by
  obtain ⟨k, rfl⟩ : ∃ k, o = k + 1 := ⟨o - 1, by omega⟩
  rw [show k + 1 - 1 = k by omega] at hr ⊢
  rw [drp, if_pos hr]
theorem drp_at (hr : ¬ tp row o = -1) : drp row o = o := by
  cases o with
  | zero => rfl
  | succ k =>
    unfold tp at hr
    rw [if_pos (by omega), show k + 1 - 1 = k by omega] at hr
    rw [drp, if_neg hr]
theorem drp_le : ∀ o, drp row o ≤ o
  | 0 => Nat.le_refl _
  | n + 1 => by
    rw [drp]; split
    · have := drp_le n; omega
    · omega
theorem drp_lets : ∀ o j, drp row o ≤ j → j < o → row j = -1
  | 0, j, _, h => absurd h (by omega)
  | n + 1, j, h1, h2 => by
    rw [drp] at h1
    by_cases q : row n = -1
    · rw [if_pos q] at h1
      rcases Nat.lt_or_ge j n with e | e
      · exact drp_lets n j h1 e
      · rw [show j = n by omega]; exact q
    · rw [if_neg q] at h1; omega
theorem blw_drp : ∀ o, blw row o = tp row (drp row o)
  | 0 => rfl
  | n + 1 => by
    rw [blw, drp]
    by_cases q : row n = -1
    · rw [if_pos q, if_pos q]; exact blw_drp n
    · rw [if_neg q, if_neg q, tp, if_pos (by omega), show n + 1 - 1 = n by omega]
theorem LB.drop : LB (row, o, s, v, b, h, d, t) (row, drp row o, s, v, b, h, d, t) 0 0 := by
  have := drp_le (row := row) o
  exact ⟨rfl, by show (t : Int) + (drp row o : Nat) ≤ t + o + 0; omega, by show ((drp row o : Nat) : Int) ≤ o + 0; omega⟩
theorem LD.drop : LD (row, o, s, v, b, h, d, t) (row, drp row o, s, v, b, h, d, t) 0 := by
  refine ⟨fun h => h, ?_, fun h => h⟩
  show dep s v t + 0 - nbr row (drp row o) = dep s v t - nbr row o
  rw [nbr_drop o (drp_le o) (drp_lets o)]; omega
end LAY
theorem LD.trans0 {x y z : lst} {e : Int} (h : LD x y 0) (h' : LD y z e) : LD x z e := by
  have := h.trans h'
  rwa [Int.zero_add] at this
theorem cn_put {s : Nat → Int32} {t : Nat} : cn (upd s t 4) (t + 1) = cn s t := by
  rw [cn, cn_upd t (Nat.le_refl _), upd_self, if_pos rfl]; rfl
theorem cn_lex {s : Nat → Int32} {t : Nat} {k : Int32} (hk : ¬ k = 4) : cn (upd s t k) (t + 1) = cn s t + 1 := by
  rw [cn, cn_upd t (Nat.le_refl _), upd_self, if_neg hk]
theorem br_pos {x : Int32} (h : 0 < x) : isBr x = false := by
  have h1 : ¬ x = -5 := fun e => by rw [e] at h; exact absurd h (by decide)
  have h2 : ¬ x = -6 := fun e => by rw [e] at h; exact absurd h (by decide)
  simp [isBr, h1, h2]
theorem tp_gt {row : Nat → Int32} {o : Nat} (h : 0 < tp row o) : 1 ≤ o ∧ isBr (row (o - 1)) = false := by
  have h1 : ¬ tp row o = -11 := fun e => by rw [e] at h; exact absurd h (by decide)
  obtain ⟨p1, p2⟩ := tp_pos h1
  rw [p2] at h
  exact ⟨p1, br_pos h⟩
theorem tp_is {row : Nat → Int32} {o : Nat} {x : Int32} (hx : ¬ x = -11) (h : tp row o = x) : 1 ≤ o ∧ row (o - 1) = x := by
  obtain ⟨p1, p2⟩ := tp_pos (row := row) (o := o) (by rw [h]; exact hx)
  exact ⟨p1, p2.symm.trans h⟩
theorem tp_let {row : Nat → Int32} {o : Nat} (h : tp row o = -1) : 1 ≤ o ∧ isBr (row (o - 1)) = false := by
  obtain ⟨p1, p2⟩ := tp_is (by decide) h
  exact ⟨p1, by rw [p2]; rfl⟩
theorem mk_gt {row : Nat → Int32} {o n : Nat} (hn : n ≤ 600) (h : ¬ blw row o ≤ nI n) : 1 ≤ drp row o ∧ isBr (row (drp row o - 1)) = false := by
  rw [blw_drp] at h
  refine tp_gt ?_
  have h1 := Int32.not_le.mp h
  rw [Int32.lt_iff_toInt_lt, nI_toInt (by omega)] at h1
  rw [Int32.lt_iff_toInt_lt]
  have h2 : (0 : Int32).toInt = 0 := by decide
  omega
theorem wr_no {z g : Int32} {P : Prop} (h1 : z = 0 → g = 1) (h2 : ¬ z = 0 → g = z) (h : g = 0) : P := by
  by_cases q : z = 0
  · rw [h1 q] at h; exact absurd h (by decide)
  · exact absurd ((h2 q).symm.trans h) q
theorem LD.cast {x y : lst} {e e' : Int} (he : e = e') (h : LD x y e) : LD x y e' := he ▸ h
section LAZ
variable {row s b h d : Nat → Int32} {v : Nat → Int64} {o t : Nat} {x : lst}
theorem LD.clos {y0 : Int32} (hL : LD x (row, o, s, v, b, h, d, t) 0) (ho : 1 ≤ o) (hr : row (o - 1) = y0) : LD x (row, o - 1, s, v, b, h, d, t) (if isBr y0 = true then -1 else 0) := by
  cases hb : isBr y0
  · exact LD.trans0 hL (LD.pop ho (by rw [hr]; exact hb))
  · exact LD.trans0 hL (LD.popB ho (by rw [hr]; exact hb))
theorem LD.clos2 {y0 y1 : Int32} (hL : LD x (row, o, s, v, b, h, d, t) 0) (ho : 1 ≤ o) (hr : row (o - 1) = y0) (h1 : isBr y1 = false) : LD x (upd row (o - 1) y1, o - 1 + 1, s, v, b, h, d, t) (if isBr y0 = true then -1 else 0) := by
  have := (LD.clos hL ho hr).trans (LD.push h1)
  rwa [Int.add_zero] at this
theorem dlt_no {y : Int64} (h1 : ¬ y = 40) (h2 : ¬ y = 91) (h3 : ¬ y = 41) (h4 : ¬ y = 93) : dlt 3 y = 0 := by
  simp [dlt, opn, clo, h1, h2, h3, h4]
theorem dlt_ns {k : Int32} {y : Int64} (hk : ¬ k = 3) : dlt k y = 0 := by
  simp [dlt, opn, clo, hk]
theorem br_nat {n : Nat} (hn : n ≤ 600) : isBr (nI n) = false := by
  have h1 : ¬ nI n = -5 := fun e => by
    have := congrArg Int32.toInt e
    rw [nI_toInt (by omega), show (-5 : Int32).toInt = -5 by decide] at this
    omega
  have h2 : ¬ nI n = -6 := fun e => by
    have := congrArg Int32.toInt e
    rw [nI_toInt (by omega), show (-6 : Int32).toInt = -6 by decide] at this
    omega
  simp [isBr, h1, h2]
end LAZ
/-- what is true of the laid tokens while nothing is wrong -/
def LI (x : lst) : Prop := (∀ p, p ≤ x.2.2.2.2.2.2.2 → 0 ≤ dep x.2.2.1 x.2.2.2.1 p) ∧ dep x.2.2.1 x.2.2.2.1 x.2.2.2.2.2.2.2 = nbr x.1 x.2.1 ∧ Zr x.2.2.2.2.1 x.2.2.2.2.2.1 x.2.2.2.2.2.2.1 x.2.2.2.2.2.2.2
theorem LI.zero {row s b h d : Nat → Int32} {v : Nat → Int64} : LI (row, 0, s, v, b, h, d, 0) := ⟨fun p hp => by
  have hp : p ≤ 0 := hp
  rw [Nat.le_zero.mp hp]; exact Int.le_refl _, rfl, fun x hx => absurd hx (Nat.not_lt_zero x)⟩
theorem LI.move {x y : lst} (h : LI x) (hL : LD x y 0) : LI y := ⟨hL.1 h.1, by have := hL.2.1; have := h.2.1; omega, hL.2.2 h.2.2⟩
theorem LI.lex {x : lst} {row s b h d : Nat → Int32} {v : Nat → Int64} {o t : Nat} {k : Int32} {y : Int64} (h0 : LI x) (hL : LD x (row, o, s, v, b, h, d, t) (dlt k y)) : LI (row, o, upd s t k, vp_updL v t y, upd b t 0, upd h t 0, upd d t 0, t + 1) := by
  have e1 : dep (upd s t k) (vp_updL v t y) (t + 1) = dep s v t + dlt k y := by
    rw [dep, dep_upd t (Nat.le_refl _), upd_self, updL_self]
  have g1 : ∀ p, p ≤ t → 0 ≤ dep s v p := hL.1 h0.1
  have g2 : dep s v t + dlt k y - nbr row o = dep x.2.2.1 x.2.2.2.1 x.2.2.2.2.2.2.2 - nbr x.1 x.2.1 := hL.2.1
  have g3 := h0.2.1
  have g4 : Zr b h d t := hL.2.2 h0.2.2
  refine ⟨fun p hp => ?_, ?_, fun z hz => ?_⟩
  · have hp : p ≤ t + 1 := hp
    show 0 ≤ dep (upd s t k) (vp_updL v t y) p
    rcases Nat.lt_or_ge p (t + 1) with q | q
    · rw [dep_upd p (by omega)]; exact g1 p (by omega)
    · rw [show p = t + 1 by omega, e1]; omega
  · show dep (upd s t k) (vp_updL v t y) (t + 1) = nbr row o
    rw [e1]; omega
  · have hz : z < t + 1 := hz
    show upd b t 0 z = 0 ∧ upd h t 0 z = 0 ∧ upd d t 0 z = 0
    unfold upd
    by_cases q : z = t
    · simp [q]
    · simp only [q, if_false]; exact g4 z (by omega)
/-- the laid tokens of a text that is right -/
def LZ (s : Nat → Int32) (v : Nat → Int64) (b h d : Nat → Int32) (t : Nat) : Prop := (∀ p, p ≤ t → 0 ≤ dep s v p) ∧ dep s v t = 0 ∧ Zr b h d t ∧ cn s t ≤ 90
theorem LZ.of {row s b h d : Nat → Int32} {v : Nat → Int64} {o t : Nat} (hL : LI (row, o, s, v, b, h, d, t)) (ho : o = 0) (hc : cn s t ≤ 90) : LZ s v b h d t := by
  obtain ⟨h1, h2, h3⟩ := hL
  subst ho
  exact ⟨h1, h2, h3, hc⟩
