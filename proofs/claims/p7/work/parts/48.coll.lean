theorem dn_upd {d : Nat → Int32} {k x : Nat} : (¬ upd d k (vp_nar .boolean 1) x = 0) ↔ (¬ d x = 0 ∨ x = k) := by
  unfold upd
  by_cases q : x = k
  · rw [if_pos q]
    exact ⟨fun _ => Or.inr q, fun _ => by decide⟩
  · rw [if_neg q]
    exact ⟨Or.inl, fun h => h.elim id (fun e => absurd e q)⟩
theorem dn_2 {d d1 d2 : Nat → Int32} {k m : Nat} (h1 : upd d k (vp_nar .boolean 1) = d1) (h2 : upd d1 m (vp_nar .boolean 1) = d2) (x : Nat) : (¬ d2 x = 0) ↔ (¬ d x = 0 ∨ x = k ∨ x = m) := by
  rw [← h2, dn_upd, ← h1, dn_upd, or_assoc]
theorem dn_3 {d d1 d2 d3 : Nat → Int32} {k m r : Nat} (h1 : upd d k (vp_nar .boolean 1) = d1) (h2 : upd d1 m (vp_nar .boolean 1) = d2) (h3 : upd d2 r (vp_nar .boolean 1) = d3) (x : Nat) : (¬ d3 x = 0) ↔ (¬ d x = 0 ∨ x = k ∨ x = m ∨ x = r) := by
  rw [← h3, dn_upd, dn_2 h1 h2, or_assoc, or_assoc]
/-- an item is passed that is no operation of three tokens -/
theorem CI.two {wd rs : Int64 → Bool} {s : Nat → Int32} {v : Nat → Int64} {P d d1 d2 : Nat → Int32} {t a k n : Nat} (ht : t ≤ 600) (hP : PT s v P t) (hn : n = exN wd rs s v P t k) (h0 : 0 < n) (h1 : upd d k (vp_nar .boolean 1) = d1) (h2 : upd d1 (k + n - 1) (vp_nar .boolean 1) = d2) (hx : ¬ (n = 3 ∧ tkB s v t k = true)) (h : CI wd rs s v P t a k (fun x => ¬ d x = 0)) : CI wd rs s v P t a (k + n) (fun x => ¬ d2 x = 0) := by
  refine CI.step ht hP hn.symm h0 (fun x => ?_) h
  have e := dn_2 h1 h2 x
  constructor
  · intro q
    rcases e.mp q with q | q | q
    · exact Or.inl q
    · exact Or.inr (Or.inl q)
    · exact Or.inr (Or.inr (Or.inl q))
  · intro q
    rcases q with q | q | q | q
    · exact e.mpr (Or.inl q)
    · exact e.mpr (Or.inr (Or.inl q))
    · exact e.mpr (Or.inr (Or.inr q))
    · exact absurd ⟨q.1, q.2.1⟩ hx
theorem CI.three {wd rs : Int64 → Bool} {s : Nat → Int32} {v : Nat → Int64} {P d d1 d2 d3 : Nat → Int32} {t a k n : Nat} (ht : t ≤ 600) (hP : PT s v P t) (hn : n = exN wd rs s v P t k) (h3' : n = 3) (h1 : upd d k (vp_nar .boolean 1) = d1) (h2 : upd d1 (k + n - 1) (vp_nar .boolean 1) = d2) (h3 : upd d2 (k + 1) (vp_nar .boolean 1) = d3) (htk : tkB s v t k = true) (h : CI wd rs s v P t a k (fun x => ¬ d x = 0)) : CI wd rs s v P t a (k + n) (fun x => ¬ d3 x = 0) := by
  refine CI.step ht hP hn.symm (by omega) (fun x => ?_) h
  have e := dn_3 h1 h2 h3 x
  constructor
  · intro q
    rcases e.mp q with q | q | q | q
    · exact Or.inl q
    · exact Or.inr (Or.inl q)
    · exact Or.inr (Or.inr (Or.inl q))
    · exact Or.inr (Or.inr (Or.inr ⟨h3', htk, q⟩))
  · intro q
    rcases q with q | q | q | q
    · exact e.mpr (Or.inl q)
    · exact e.mpr (Or.inr (Or.inl q))
    · exact e.mpr (Or.inr (Or.inr (Or.inl q)))
    · exact e.mpr (Or.inr (Or.inr (Or.inr q.2.2)))
/-- an operation of three tokens is not marked by a sign of another kind -/
theorem op_tk {wd rs : Int64 → Bool} {s : Nat → Int32} {v : Nat → Int64} {P : Nat → Int32} {t k n : Nat} (ht : t ≤ 600) (hP : PT s v P t) (hn : n = exN wd rs s v P t k) (h3 : n = 3) (ho : ¬ b01 (opB s v t k) = 0) : tkB s v t k = true := by
  have e := b01_yes ho
  have h0 : 0 < exN wd rs s v P t k := by omega
  rcases Bool.or_eq_true_iff.mp e with e | e
  · have e2 : s k = 2 := by simpa using e
    obtain ⟨-, a | b | c⟩ := exN_cases ht hP h0
    · have := a.1; omega
    · have := (opn_s b.1).1; rw [e2] at this; exact absurd this (by decide)
    · have := c.2.2.1; rw [e2] at this; exact absurd this (by decide)
  · exact e
theorem op_ntk {s : Nat → Int32} {v : Nat → Int64} {t k : Nat} (ho : b01 (opB s v t k) = 0) : ¬ tkB s v t k = true := by
  have e := b01_no ho
  intro q
  simp [opB, q] at e
theorem und_2 {s d d1 d2 : Nat → Int32} {k m t : Nat} (hs : ¬ s k = 4) (hk : k < t) (hd : d k = 0) (h1 : upd d k (vp_nar .boolean 1) = d1) (h2 : upd d1 m (vp_nar .boolean 1) = d2) : und s d2 t + 1 ≤ und s d t :=
  und_lt (fun x hx => (dn_2 h1 h2 x).mpr (Or.inl hx)) hs hd ((dn_2 h1 h2 k).mpr (Or.inr (Or.inl rfl))) t hk
theorem und_3 {s d d1 d2 d3 : Nat → Int32} {k m r t : Nat} (hs : ¬ s k = 4) (hk : k < t) (hd : d k = 0) (h1 : upd d k (vp_nar .boolean 1) = d1) (h2 : upd d1 m (vp_nar .boolean 1) = d2) (h3 : upd d2 r (vp_nar .boolean 1) = d3) : und s d3 t + 1 ≤ und s d t :=
  und_lt (fun x hx => (dn_3 h1 h2 h3 x).mpr (Or.inl hx)) hs hd ((dn_3 h1 h2 h3 k).mpr (Or.inr (Or.inl rfl))) t hk
theorem wh_upd {w : Nat → Int32} {n : Nat} {x : Int32} (hx : x = 0 ∨ x = 1) (h : ∀ j, j < n → w j = 0 ∨ w j = 1) : ∀ j, j < n + 1 → upd w n x j = 0 ∨ upd w n x j = 1 := by
  intro j hj
  unfold upd
  by_cases q : j = n
  · rw [if_pos q]; exact hx
  · rw [if_neg q]; exact h j (by omega)
theorem exN_600 {wd rs : Int64 → Bool} {s : Nat → Int32} {v : Nat → Int64} {P : Nat → Int32} {t k : Nat} (ht : t ≤ 600) (hP : PT s v P t) : exN wd rs s v P t k ≤ 600 := by
  rcases Nat.eq_zero_or_pos (exN wd rs s v P t k) with e | e
  · omega
  · have := exN_in ht hP e; omega
theorem CI.start {wd rs : Int64 → Bool} {s : Nat → Int32} {v : Nat → Int64} {P d : Nat → Int32} {t a : Nat} (hJ : ∀ q, a ≤ q → 0 < exN wd rs s v P t q → ¬ d (q + exN wd rs s v P t q) = 0 → 0 < exN wd rs s v P t (q + exN wd rs s v P t q) → ¬ d q = 0) (hd : d a = 0) : CI wd rs s v P t a a (fun x => ¬ d x = 0) :=
  ⟨Nat.le_refl _, hJ, fun _ q => q hd, fun q h1 h2 h3 _ => absurd h3 (by omega), Or.inl rfl, Or.inl rfl⟩
