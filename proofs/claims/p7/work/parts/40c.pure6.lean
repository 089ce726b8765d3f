/-! the lexer as both sides do it: a text c of n characters -/
abbrev Lx := Int32 × Int64 × Nat × Nat × Bool
def lxW (x : Lx) : Nat := x.2.2.1
def lnO (c : Nat → Int32) : Nat → Nat
  | 0 => 0
  | a + 1 => if c a = 10 then a + 1 else lnO c a
theorem lnO_le (c : Nat → Int32) : ∀ a, lnO c a ≤ a
  | 0 => Nat.le_refl _
  | a + 1 => by
    rw [lnO]
    split
    · exact Nat.le_refl _
    · have := lnO_le c a; omega
theorem lnO_run {c : Nat → Int32} {a : Nat} : ∀ e, a ≤ e → (∀ i, a ≤ i → i < e → ¬ c i = 10) → lnO c e = lnO c a
  | 0, h, _ => by rw [Nat.le_zero.mp h]
  | e + 1, h, q => by
    by_cases z : a = e + 1
    · rw [z]
    · rw [lnO, if_neg (q e (by omega) (by omega))]
      exact lnO_run e (by omega) (fun i h1 h2 => q i h1 (by omega))
/-- going back to the line's start -/
theorem lnO_back {c : Nat → Int32} {a : Nat} (h : 0 < a) (q : ¬ c (a - 1) = 10) : lnO c a = lnO c (a - 1) := by
  obtain ⟨b, rfl⟩ : ∃ b, a = b + 1 := ⟨a - 1, by omega⟩
  rw [show b + 1 - 1 = b by omega] at q ⊢
  rw [lnO, if_neg q]
theorem lnO_at {c : Nat → Int32} {a : Nat} (q : a = 0 ∨ c (a - 1) = 10) : lnO c a = a := by
  rcases q with rfl | q
  · rfl
  · by_cases h : a = 0
    · subst h; rfl
    · obtain ⟨b, rfl⟩ : ∃ b, a = b + 1 := ⟨a - 1, by omega⟩
      rw [show b + 1 - 1 = b by omega] at q
      rw [lnO, if_pos q]
/-- the end of a run of characters -/
def scn (P : Int32 → Bool) (c : Nat → Int32) (n : Nat) : Nat → Nat → Nat
  | 0, i => i
  | f + 1, i => if i < n then (if P (c i) then scn P c n f (i + 1) else i) else i
def scE (P : Int32 → Bool) (c : Nat → Int32) (n i : Nat) : Nat := scn P c n (n - i) i
theorem scE_go {P : Int32 → Bool} {c : Nat → Int32} {n i : Nat} (h : i < n) (p : P (c i) = true) : scE P c n i = scE P c n (i + 1) := by
  unfold scE
  obtain ⟨f, hf⟩ : ∃ f, n - i = f + 1 := ⟨n - i - 1, by omega⟩
  rw [hf, scn, if_pos h, if_pos p, show n - (i + 1) = f by omega]
theorem scE_stop {P : Int32 → Bool} {c : Nat → Int32} {n i : Nat} (p : n ≤ i ∨ P (c i) = false) : scE P c n i = i := by
  unfold scE
  cases hf : n - i with
  | zero => rfl
  | succ f =>
    rw [scn]
    rcases p with p | p
    · omega
    · rw [if_pos (by omega), p]; rfl
theorem scE_in {P : Int32 → Bool} {c : Nat → Int32} {n : Nat} : ∀ (f i : Nat), n - i = f → i ≤ n → i ≤ scE P c n i ∧ scE P c n i ≤ n ∧ ∀ j, i ≤ j → j < scE P c n i → P (c j) = true
  | 0, i, hf, hi => by
    rw [scE_stop (Or.inl (by omega))]
    exact ⟨Nat.le_refl _, hi, fun j h1 h2 => absurd h2 (by omega)⟩
  | f + 1, i, hf, hi => by
    by_cases p : P (c i) = true
    · rw [scE_go (by omega) p]
      obtain ⟨g1, g2, g3⟩ := scE_in (P := P) (c := c) (n := n) f (i + 1) (by omega) (by omega)
      refine ⟨by omega, g2, fun j h1 h2 => ?_⟩
      by_cases q : j = i
      · rw [q]; exact p
      · exact g3 j (by omega) h2
    · rw [scE_stop (Or.inr (by simpa using p))]
      exact ⟨Nat.le_refl _, hi, fun j h1 h2 => absurd h2 (by omega)⟩
/-- a comment within a comment -/
def opC (c : Nat → Int32) (n i : Nat) : Bool := c i == 123 && (decide (i + 1 < n) && c (i + 1) == 45)
def clC (c : Nat → Int32) (n i : Nat) : Bool := c i == 45 && (decide (i + 1 < n) && c (i + 1) == 125)
def dpC (c : Nat → Int32) (n d i : Nat) : Nat := if opC c n i then d + 1 else if clC c n i then d - 1 else d
def nxC (c : Nat → Int32) (n i : Nat) : Nat := if opC c n i || clC c n i then i + 2 else i + 1
def nst (c : Nat → Int32) (n : Nat) : Nat → Nat → Nat → Option Nat
  | 0, _, _ => none
  | f + 1, d, i => if i < n then (if dpC c n d i = 0 then some (nxC c n i) else nst c n f (dpC c n d i) (nxC c n i)) else none
def nsE (c : Nat → Int32) (n d i : Nat) : Option Nat := nst c n (n - i) d i
theorem nxC_in {c : Nat → Int32} {n i : Nat} (h : i < n) : i < nxC c n i ∧ nxC c n i ≤ n := by
  unfold nxC
  split
  · rename_i q
    have : i + 1 < n := by
      rcases Bool.or_eq_true_iff.mp q with q | q
      · simp only [opC, Bool.and_eq_true, decide_eq_true_eq] at q; exact q.2.1
      · simp only [clC, Bool.and_eq_true, decide_eq_true_eq] at q; exact q.2.1
    omega
  · omega
theorem nst_more {c : Nat → Int32} {n : Nat} : ∀ (f g d i : Nat), n - i ≤ f → n - i ≤ g → nst c n f d i = nst c n g d i
  | 0, 0, _, _, _, _ => rfl
  | 0, g + 1, d, i, h, _ => by rw [nst, nst, if_neg (by omega)]
  | f + 1, 0, d, i, _, h => by rw [nst, nst, if_neg (by omega)]
  | f + 1, g + 1, d, i, h1, h2 => by
    rw [nst, nst]
    by_cases q : i < n
    · have := nxC_in (c := c) q
      rw [if_pos q, if_pos q, nst_more f g _ _ (by omega) (by omega)]
    · rw [if_neg q, if_neg q]
theorem nsE_go {c : Nat → Int32} {n d i : Nat} (h : i < n) (q : ¬ dpC c n d i = 0) : nsE c n d i = nsE c n (dpC c n d i) (nxC c n i) := by
  unfold nsE
  obtain ⟨f, hf⟩ : ∃ f, n - i = f + 1 := ⟨n - i - 1, by omega⟩
  have := nxC_in (c := c) h
  rw [hf, nst, if_pos h, if_neg q]
  exact nst_more _ _ _ _ (by omega) (by omega)
theorem nsE_end {c : Nat → Int32} {n d i : Nat} (h : i < n) (q : dpC c n d i = 0) : nsE c n d i = some (nxC c n i) := by
  unfold nsE
  obtain ⟨f, hf⟩ : ∃ f, n - i = f + 1 := ⟨n - i - 1, by omega⟩
  rw [hf, nst, if_pos h, if_pos q]
theorem nsE_no {c : Nat → Int32} {n d i : Nat} (h : ¬ i < n) : nsE c n d i = none := by
  unfold nsE
  rw [show n - i = 0 by omega, nst]
/-- kinds, runs, dashes, values -/
def cN (f : Nat → Int32) (n : Nat) : Nat → Int32 := fun j => if j < n then f j else 0
theorem cN_lt {f : Nat → Int32} {n j : Nat} (h : j < n) : cN f n j = f j := if_pos h
theorem cN_eq {f g : Nat → Int32} {n : Nat} (h : ∀ j, j < n → f j = g j) : cN f n = cN g n := by
  funext j
  unfold cN
  by_cases q : j < n
  · rw [if_pos q, if_pos q, h j q]
  · rw [if_neg q, if_neg q]
def kdO (x : Int32) : Int32 := if ¬ lt_ x = 0 then 0 else if ¬ wi x 48 57 = 0 then 1 else if ¬ op_ x = 0 then 2 else if ¬ sg_ x = 0 then 3 else -1
def rnB (k x : Int32) : Bool := decide (¬ rn_ k x = 0)
theorem rB_t {f : Nat → Int32} {n i : Nat} {k : Int32} (h : i < n) (p : ¬ rn_ k (f i) = 0) : rnB k (cN f n i) = true := by
  rw [cN_lt h]; exact decide_eq_true p
theorem rB_f {f : Nat → Int32} {n i : Nat} {k : Int32} (h : i < n) (p : rn_ k (f i) = 0) : rnB k (cN f n i) = false := by
  rw [cN_lt h]; exact decide_eq_false (fun q => q p)
theorem rn0d {x : Int32} (h : ¬ wi x 48 57 = 0) : ¬ rn_ 0 x = 0 := by
  unfold rn_
  by_cases q : lt_ x = 0 <;> simp [q, h]
theorem rn0q {x : Int32} (h : x = 39) : ¬ rn_ 0 x = 0 := by
  rw [h]; decide
theorem rn0n {x : Int32} (h1 : lt_ x = 0) (h2 : wi x 48 57 = 0) (h3 : ¬ x = 39) : rn_ 0 x = 0 := by
  unfold rn_; simp [h1, h2, h3]
theorem rn1e {x : Int32} : rn_ 1 x = wi x 48 57 := rfl
theorem rn2e {k x : Int32} (h0 : ¬ k = 0) (h1 : ¬ k = 1) : rn_ k x = op_ x := by
  unfold rn_; rw [if_neg h0, if_neg h1]
def alB (c : Nat → Int32) (v : Int32) (a : Nat) : Nat → Bool
  | 0 => true
  | k + 1 => alB c v a k && c (a + k) == v
def dshO (c : Nat → Int32) (a e : Nat) : Bool := decide (1 < e - a) && alB c 45 a (e - a)
section ALB
variable {c : Nat → Int32} {v x : Int32} {a k y : Nat} {d : Bool}
theorem al_s0 (h : x = b01 (d && alB c v a k)) (h0 : x = 0) : (0 : Int32) = b01 (d && alB c v a (k + 1)) := by
  have e : (d && alB c v a k) = false := b01_no (h.symm.trans h0)
  rw [alB, ← Bool.and_assoc, e]; rfl
theorem al_s1 (h : x = b01 (d && alB c v a k)) (h1 : ¬ x = 0) (e : c (a + k) = v) : (1 : Int32) = b01 (d && alB c v a (k + 1)) := by
  have q : (d && alB c v a k) = true := b01_yes (fun z => h1 (h.trans z))
  rw [alB, ← Bool.and_assoc, q, e]; simp [b01]
theorem al_s2 (e : ¬ c (a + k) = v) : (0 : Int32) = b01 (d && alB c v a (k + 1)) := by
  rw [alB, ← Bool.and_assoc]; simp [b01, e]
theorem ds_s0 (h : y ≤ 1) : (0 : Int32) = b01 (decide (1 < y) && alB c 45 a 0) := by
  rw [decide_eq_false (by omega)]; rfl
theorem ds_s1 (h : ¬ y ≤ 1) : (1 : Int32) = b01 (decide (1 < y) && alB c 45 a 0) := by
  rw [decide_eq_true (by omega)]; rfl
theorem ds_r (h : x = b01 (decide (1 < y) && alB c 45 a y)) : x = b01 (dshO c a (a + y)) := by
  unfold dshO; rw [Nat.add_sub_cancel_left]; exact h
end ALB
def pkL (c : Nat → Int32) (a : Nat) : Nat → Int64
  | 0 => 0
  | k + 1 => pkL c a k ||| ((c (a + k)).toInt64 <<< ((nI (8 * k)).toInt64 &&& 63))
/-- numbers -/
def nmL (c : Nat → Int32) (a : Nat) : Nat → Int64
  | 0 => 0
  | m + 1 => 10 * nmL c a m + (c (a + m)).toInt64 - 48
/-- a step of the lexer: a place where it stops, or where it goes on and what it has -/
def lngO (k : Int32) : Nat := if k = 1 then 9 else 7
def ldO (R : List Lx) (l : Nat) : Bool := match R with | [] => true | x :: _ => decide (lxW x < l)
def lxO (k : Int32) (v : Int64) (c : Nat → Int32) (a : Nat) (R : List Lx) : Lx := (k, v, a, a - lnO c a + 1, ldO R (lnO c a))
def pkO (c : Nat → Int32) (k : Int32) (a e : Nat) : Int64 := if k = 1 then nmL c a (e - a) else pkL c a (e - a)
theorem nm_o {c : Nat → Int32} {k : Int32} {a l y : Nat} {v : Int64} (hk : k = 1) (hl : l = y) (h : v = nmL c a l) : v = pkO c k a (a + y) := by
  unfold pkO; rw [if_pos hk, Nat.add_sub_cancel_left, ← hl]; exact h
theorem nm_m {f : Nat → Int32} {n a l : Nat} {v : Int64} (h : a + l < n) (e : v = nmL (cN f n) a l) : 10 * v + (f (a + l)).toInt64 - 48 = nmL (cN f n) a (l + 1) := by rw [nmL, cN_lt h, e]
def enO (c : Nat → Int32) (n : Nat) (k : Int32) (a : Nat) : Nat := if k = 0 ∨ k = 1 ∨ k = 2 then scE (rnB k) c n (a + 1) else a + 1
def stp (c : Nat → Int32) (n a : Nat) (R : List Lx) : Nat ⊕ (Nat × List Lx) :=
  if c a = 32 ∨ c a = 10 then .inr (a + 1, R)
  else if opC c n a then (match nsE c n 0 a with | none => .inl a | some b => .inr (b, R))
  else if kdO (c a) = 2 ∧ dshO c a (enO c n 2 a) = true then .inr (scE (fun x => !(x == 10)) c n (enO c n 2 a), R)
  else if kdO (c a) = -1 ∨ lngO (kdO (c a)) < enO c n (kdO (c a)) a - a ∨ R.length = 90 then .inl a
  else .inr (enO c n (kdO (c a)) a, lxO (kdO (c a)) (pkO c (kdO (c a)) a (enO c n (kdO (c a)) a)) c a R :: R)
def cuS (c : Nat → Int32) (n : Nat) : Nat → Nat → List Lx → Option Nat × List Lx
  | 0, _, R => (none, R)
  | f + 1, a, R => if a < n then (match stp c n a R with | .inl p => (some p, R) | .inr (b, S) => cuS c n f b S) else (none, R)
def cuE (c : Nat → Int32) (n a : Nat) (R : List Lx) : Option Nat × List Lx := cuS c n (n - a) a R
theorem enO_in {c : Nat → Int32} {n a : Nat} {k : Int32} (h : a < n) : a < enO c n k a ∧ enO c n k a ≤ n := by
  unfold enO
  split
  · have := scE_in (P := rnB k) (c := c) (n := n) _ (a + 1) rfl (by omega)
    omega
  · omega
theorem nsE_in {c : Nat → Int32} {n b : Nat} : ∀ (f d i : Nat), n - i ≤ f → nsE c n d i = some b → i < b ∧ b ≤ n
  | 0, d, i, hf, h => by rw [nsE_no (by omega)] at h; cases h
  | f + 1, d, i, hf, h => by
    by_cases q : i < n
    · have x := nxC_in (c := c) q
      by_cases z : dpC c n d i = 0
      · rw [nsE_end q z] at h
        cases h; exact x
      · rw [nsE_go q z] at h
        have := nsE_in f _ _ (by omega) h
        omega
    · rw [nsE_no q] at h; cases h
theorem stp_in {c : Nat → Int32} {n a b : Nat} {R S : List Lx} (h : a < n) (e : stp c n a R = .inr (b, S)) : a < b ∧ b ≤ n := by
  unfold stp at e
  split at e
  · cases e; omega
  · split at e
    · cases hn : nsE c n 0 a with
      | none => rw [hn] at e; cases e
      | some z => rw [hn] at e; cases e; exact nsE_in _ _ _ (Nat.le_refl _) hn
    · split at e
      · cases e
        have x := enO_in (c := c) (k := 2) h
        have := scE_in (P := fun x => !(x == 10)) (c := c) (n := n) _ _ rfl x.2
        omega
      · split at e
        · cases e
        · cases e
          exact enO_in h
theorem cuS_more {c : Nat → Int32} {n : Nat} : ∀ (f g a : Nat) (R : List Lx), n - a ≤ f → n - a ≤ g → cuS c n f a R = cuS c n g a R
  | 0, 0, _, _, _, _ => rfl
  | 0, g + 1, a, R, h, _ => by rw [cuS, cuS, if_neg (by omega)]
  | f + 1, 0, a, R, _, h => by rw [cuS, cuS, if_neg (by omega)]
  | f + 1, g + 1, a, R, h1, h2 => by
    rw [cuS, cuS]
    by_cases q : a < n
    · rw [if_pos q, if_pos q]
      cases hs : stp c n a R with
      | inl p => rfl
      | inr x =>
        obtain ⟨b, S⟩ := x
        have := stp_in q hs
        exact cuS_more f g b S (by omega) (by omega)
    · rw [if_neg q, if_neg q]
theorem cuE_go {c : Nat → Int32} {n a b : Nat} {R S : List Lx} (h : a < n) (e : stp c n a R = .inr (b, S)) : cuE c n a R = cuE c n b S := by
  unfold cuE
  obtain ⟨f, hf⟩ : ∃ f, n - a = f + 1 := ⟨n - a - 1, by omega⟩
  have := stp_in h e
  rw [hf, cuS, if_pos h, e]
  exact cuS_more _ _ _ _ (by omega) (by omega)
theorem cuE_stop {c : Nat → Int32} {n a p : Nat} {R : List Lx} (h : a < n) (e : stp c n a R = .inl p) : cuE c n a R = (some p, R) := by
  unfold cuE
  obtain ⟨f, hf⟩ : ∃ f, n - a = f + 1 := ⟨n - a - 1, by omega⟩
  rw [hf, cuS, if_pos h, e]
theorem cuE_end {c : Nat → Int32} {n a : Nat} {R : List Lx} (h : ¬ a < n) : cuE c n a R = (none, R) := by
  unfold cuE
  rw [show n - a = 0 by omega, cuS]
/-! lexemes in rows -/
def Rp (kd : Nat → Int32) (vl : Nat → Int64) (wh col ld : Nat → Int32) : List Lx → Prop
  | [] => True
  | x :: L => kd L.length = x.1 ∧ vl L.length = x.2.1 ∧ (wh L.length = nI x.2.2.1 ∧ x.2.2.1 ≤ 240) ∧ col L.length = nI x.2.2.2.1 ∧ ld L.length = b01 x.2.2.2.2 ∧ Rp kd vl wh col ld L
section RPL
variable {kd : Nat → Int32} {vl : Nat → Int64} {wh col ld : Nat → Int32}
theorem Rp_upd {t : Nat} {a c d e : Int32} {b : Int64} : ∀ L : List Lx, L.length ≤ t → Rp kd vl wh col ld L → Rp (upd kd t a) (vp_updL vl t b) (upd wh t c) (upd col t d) (upd ld t e) L
  | [], _, _ => trivial
  | x :: L, ht, h => by
    have hl : L.length < t := by rw [List.length_cons] at ht; omega
    have q : ¬ L.length = t := by omega
    obtain ⟨h1, h2, h3, h4, h5, h6⟩ := h
    exact ⟨(if_neg q).trans h1, (if_neg q).trans h2, ⟨(if_neg q).trans h3.1, h3.2⟩, (if_neg q).trans h4, (if_neg q).trans h5, Rp_upd L (by omega) h6⟩
theorem Rp_fin {kd' : Nat → Int32} {vl' : Nat → Int64} {wh' col' ld' : Nat → Int32} {L : List Lx} {n w q : Nat} {k x : Int32} {v v' : Int64} {d : Bool} (h : Rp kd vl wh col ld L) (hn : n = L.length) (e1 : upd kd n k = kd') (e2 : vp_updL vl n v = vl') (e3 : upd wh n (nI w) = wh') (e4 : upd col n (nI q) = col') (e5 : upd ld n x = ld') (hx : x = b01 d) (hv : v = v') (hw : w ≤ 240) : Rp kd' vl' wh' col' ld' ((k, v', w, q, d) :: L) := by
  subst hn; subst e1; subst e2; subst e3; subst e4; subst e5
  exact ⟨if_pos rfl, (if_pos rfl).trans hv, ⟨if_pos rfl, hw⟩, if_pos rfl, (if_pos rfl).trans hx, Rp_upd L (Nat.le_refl _) h⟩
theorem ld_1 {L : List Lx} {n l : Nat} (hn : n = L.length) (h0 : n = 0) : (1 : Int32) = b01 (ldO L l) := by
  have : L = [] := List.length_eq_zero_iff.mp (hn.symm.trans h0)
  rw [this]; rfl
theorem ld_w {L : List Lx} {n l : Nat} {z : Int32} {wh' : Nat → Int32} (h : Rp kd vl wh col ld L) (hn : n = L.length) (h0 : ¬ n = 0) (hl : l ≤ 240) (e3 : upd wh n z = wh') : b01 (ldO L l) = if nI l ≤ wh' (n - 1) then 0 else 1 := by
  cases L with
  | nil => exact absurd hn h0
  | cons x L =>
    obtain ⟨-, -, ⟨h3, h4⟩, -⟩ := h
    have e : n - 1 = L.length := by rw [hn, List.length_cons]; omega
    have q : wh' (n - 1) = nI x.2.2.1 := by
      rw [← e3, e]
      exact (if_neg (by rw [hn, List.length_cons]; omega)).trans h3
    rw [q]
    by_cases z : x.2.2.1 < l
    · rw [if_neg (fun y => absurd ((nI_leI (a := l) (b := x.2.2.1) (by omega) (by omega)).mp y) (by omega))]
      show b01 (decide (lxW x < l)) = 1
      rw [decide_eq_true (show lxW x < l from z)]; rfl
    · rw [if_pos ((nI_leI (a := l) (b := x.2.2.1) (by omega) (by omega)).mpr (by omega))]
      show b01 (decide (lxW x < l)) = 0
      rw [decide_eq_false (show ¬ lxW x < l from z)]; rfl
end RPL
/-! steps of the lexer, one by one -/
section STQ
variable {c : Nat → Int32} {n a b j : Nat} {R : List Lx} {k x : Int32}
theorem kd_0 (h : ¬ lt_ x = 0) : kdO x = 0 := if_pos h
theorem kd_1 (h0 : lt_ x = 0) (h : ¬ wi x 48 57 = 0) : kdO x = 1 := by
  unfold kdO; rw [if_neg (fun q => q h0), if_pos h]
theorem kd_2 (h0 : lt_ x = 0) (h1 : wi x 48 57 = 0) (h : ¬ op_ x = 0) : kdO x = 2 := by
  unfold kdO; rw [if_neg (fun q => q h0), if_neg (fun q => q h1), if_pos h]
theorem kd_3 (h0 : lt_ x = 0) (h1 : wi x 48 57 = 0) (h2 : op_ x = 0) (h : ¬ sg_ x = 0) : kdO x = 3 := by
  unfold kdO; rw [if_neg (fun q => q h0), if_neg (fun q => q h1), if_neg (fun q => q h2), if_pos h]
theorem kd_n (h0 : lt_ x = 0) (h1 : wi x 48 57 = 0) (h2 : op_ x = 0) (h : sg_ x = 0) : kdO x = -1 := by
  unfold kdO; rw [if_neg (fun q => q h0), if_neg (fun q => q h1), if_neg (fun q => q h2), if_neg (fun q => q h)]
theorem en_r (hk : k = 0 ∨ k = 1 ∨ k = 2) (h : a < n) (p : rnB k (c a) = true) (e : a + j = scE (rnB k) c n a) : enO c n k a = a + j := by
  unfold enO; rw [if_pos hk, ← scE_go h p, e]
theorem st_b (h : c a = 32 ∨ c a = 10) : stp c n a R = .inr (a + 1, R) := if_pos h
theorem st_cn (h : ¬ (c a = 32 ∨ c a = 10)) (o : opC c n a = true) (e : nsE c n 0 a = none) : stp c n a R = .inl a := by
  unfold stp; rw [if_neg h, if_pos o, e]
theorem st_cs (h : ¬ (c a = 32 ∨ c a = 10)) (o : opC c n a = true) (e : nsE c n 0 a = some b) : stp c n a R = .inr (b, R) := by
  unfold stp; rw [if_neg h, if_pos o, e]
theorem st_d (h : ¬ (c a = 32 ∨ c a = 10)) (o : opC c n a = false) (q : kdO (c a) = 2) (e : enO c n 2 a = a + j) (d : dshO c a (a + j) = true) : stp c n a R = .inr (scE (fun x => !(x == 10)) c n (a + j), R) := by
  unfold stp; rw [if_neg h, if_neg (by rw [o]; decide), if_pos ⟨q, by rw [e]; exact d⟩, e]
theorem st_w (h : ¬ (c a = 32 ∨ c a = 10)) (o : opC c n a = false) (q : kdO (c a) = -1) : stp c n a R = .inl a := by
  unfold stp; rw [if_neg h, if_neg (by rw [o]; decide), if_neg (by rw [q]; exact fun z => absurd z.1 (by decide)), if_pos (Or.inl q)]
theorem st_l (h : ¬ (c a = 32 ∨ c a = 10)) (o : opC c n a = false) (q : kdO (c a) = k) (nd : ¬ (k = 2 ∧ dshO c a (enO c n 2 a) = true)) (k1 : ¬ k = -1) (e : enO c n k a = a + j) :
    stp c n a R = if R.length = 90 ∨ lngO k < j then .inl a else .inr (a + j, lxO k (pkO c k a (a + j)) c a R :: R) := by
  unfold stp
  rw [if_neg h, if_neg (by rw [o]; decide), q, if_neg nd, e, Nat.add_sub_cancel_left]
  by_cases z : R.length = 90 ∨ lngO k < j
  · rw [if_pos z, if_pos (Or.inr z.symm)]
  · rw [if_neg z, if_neg (fun y => y.elim k1 (fun w => z w.symm))]
theorem sc_skip {P : Int32 → Bool} : ∀ m, a + m ≤ n → (∀ i, i < m → P (c (a + i)) = true) → scE P c n a = scE P c n (a + m)
  | 0, _, _ => rfl
  | m + 1, h, p => by
    rw [sc_skip m (by omega) (fun i hi => p i (by omega)), scE_go (by omega) (p m (by omega))]; rfl
theorem al_at {v : Int32} : ∀ m, alB c v a m = true → ∀ i, i < m → c (a + i) = v
  | 0, _, i, hi => absurd hi (Nat.not_lt_zero _)
  | m + 1, h, i, hi => by
    rw [alB, Bool.and_eq_true] at h
    by_cases q : i = m
    · rw [q]; simpa using h.2
    · exact al_at m h.1 i (by omega)
theorem ds_skip (hj : a + j ≤ n) (d : dshO c a (a + j) = true) : scE (fun x => !(x == 10)) c n a = scE (fun x => !(x == 10)) c n (a + j) := by
  unfold dshO at d
  rw [Nat.add_sub_cancel_left, Bool.and_eq_true] at d
  exact sc_skip j hj (fun i hi => by rw [al_at j d.2 i hi]; decide)
end STQ
/-- what a lexeme leaves -/
theorem lx_pk {c : Nat → Int32} {n a j at' lx' : Nat} {k b' p' zp : Int32} {R S : List Lx} {X : Option Nat × List Lx} {kd : Nat → Int32} {vl : Nat → Int64} {wh col ld : Nat → Int32} (hL : a < n) (hX : X = cuE c n a R) (hst : stp c n a R = if R.length = 90 ∨ lngO k < j then .inl a else .inr (a + j, S))
    (q0 : (R.length = 90 ∨ lngO k < j) → (¬ b' = 0 ∧ p' = nI a ∧ Rp kd vl wh col ld R ∧ lx' = R.length)) (q1 : ¬ (R.length = 90 ∨ lngO k < j) → (b' = 0 ∧ at' = a + j ∧ p' = zp ∧ Rp kd vl wh col ld S ∧ lx' = R.length + 1)) (hS : S.length = R.length + 1) :
    Rp kd vl wh col ld (if R.length = 90 ∨ lngO k < j then R else S) ∧ lx' = (if R.length = 90 ∨ lngO k < j then R else S).length ∧ (b' = 0 → (X = cuE c n at' (if R.length = 90 ∨ lngO k < j then R else S) ∧ p' = zp)) ∧ (¬ b' = 0 → ∃ p, X = (some p, (if R.length = 90 ∨ lngO k < j then R else S)) ∧ p' = nI p) ∧ (a < at' ∨ ¬ b' = 0) := by
  by_cases z : R.length = 90 ∨ lngO k < j
  · rw [if_pos z] at hst ⊢
    obtain ⟨h1, h2, h3, h4⟩ := q0 z
    exact ⟨h3, h4, fun e => absurd e h1, fun _ => ⟨a, hX.trans (cuE_stop hL hst), h2⟩, Or.inr h1⟩
  · rw [if_neg z] at hst ⊢
    obtain ⟨h1, h2, h3, h4, h5⟩ := q1 z
    have hin := stp_in hL hst
    subst h2
    exact ⟨h4, h5.trans hS.symm, fun _ => ⟨hX.trans (cuE_go hL hst), h3⟩, fun e => absurd h1 e, Or.inl (by omega)⟩

/-! rows of lexemes out of a list, and what a step leaves -/
def kA : List Lx → Nat → Int32
  | [] => fun _ => 0
  | x :: L => upd (kA L) L.length x.1
def vA : List Lx → Nat → Int64
  | [] => fun _ => 0
  | x :: L => vp_updL (vA L) L.length x.2.1
def wA : List Lx → Nat → Int32
  | [] => fun _ => 0
  | x :: L => upd (wA L) L.length (nI x.2.2.1)
def cA : List Lx → Nat → Int32
  | [] => fun _ => 0
  | x :: L => upd (cA L) L.length (nI x.2.2.2.1)
def dA : List Lx → Nat → Int32
  | [] => fun _ => 0
  | x :: L => upd (dA L) L.length (b01 x.2.2.2.2)
theorem Rp_at {kd : Nat → Int32} {vl : Nat → Int64} {wh col ld : Nat → Int32} : ∀ L : List Lx, Rp kd vl wh col ld L → ∀ i, i < L.length → kd i = kA L i ∧ vl i = vA L i ∧ wh i = wA L i ∧ col i = cA L i ∧ ld i = dA L i
  | [], _, i, h => absurd h (Nat.not_lt_zero _)
  | x :: L, ⟨h1, h2, h3, h4, h5, h6⟩, i, hi => by
    rw [List.length_cons] at hi
    by_cases q : i = L.length
    · subst q
      exact ⟨h1.trans (if_pos rfl).symm, h2.trans (if_pos rfl).symm, h3.1.trans (if_pos rfl).symm, h4.trans (if_pos rfl).symm, h5.trans (if_pos rfl).symm⟩
    · obtain ⟨g1, g2, g3, g4, g5⟩ := Rp_at L h6 i (by omega)
      exact ⟨g1.trans (if_neg q).symm, g2.trans (if_neg q).symm, g3.trans (if_neg q).symm, g4.trans (if_neg q).symm, g5.trans (if_neg q).symm⟩
def hdW (L : List Lx) (a : Nat) : Prop := ∀ x, L.head? = some x → lxW x < a
theorem hdW.mono {L : List Lx} {a b : Nat} (h : hdW L a) (hab : a ≤ b) : hdW L b := fun x hx => Nat.lt_of_lt_of_le (h x hx) hab
theorem hdW.nil {a : Nat} : hdW [] a := fun x hx => by cases hx
theorem ld_new {L : List Lx} {a : Nat} (h : hdW L a) : ldO L a = true := by
  cases L with
  | nil => rfl
  | cons x L => exact decide_eq_true (h x rfl)
theorem ln_ch {c : Nat → Int32} {a : Nat} {z : Int32} (h : z = nI (lnO c a)) : (if c a = 10 then nI (a + 1) else z) = nI (lnO c (a + 1)) := by
  rw [lnO, h]
  split <;> rfl
theorem fr_ch {c : Nat → Int32} {a : Nat} {z : Int32} {L : List Lx} (h : z = b01 (ldO L (lnO c a))) (hw : hdW L a) : (if c a = 10 then 1 else z) = b01 (ldO L (lnO c (a + 1))) := by
  rw [lnO, h]
  split
  · rw [ld_new (hw.mono (Nat.le_succ _))]; rfl
  · rfl
theorem ln_2 {c : Nat → Int32} {a : Nat} (h1 : ¬ c a = 10) (h2 : ¬ c (a + 1) = 10) : lnO c (a + 2) = lnO c a := by
  rw [lnO, if_neg h2, lnO, if_neg h1]
theorem ln_op {c : Nat → Int32} {n a : Nat} (h : opC c n a = true) : lnO c (a + 2) = lnO c a ∧ a + 1 < n := by
  simp only [opC, Bool.and_eq_true, beq_iff_eq, decide_eq_true_eq] at h
  exact ⟨ln_2 (by rw [h.1]; decide) (by rw [h.2.2]; decide), h.2.1⟩
theorem ln_cl {c : Nat → Int32} {n a : Nat} (h : clC c n a = true) : lnO c (a + 2) = lnO c a ∧ a + 1 < n := by
  simp only [clC, Bool.and_eq_true, beq_iff_eq, decide_eq_true_eq] at h
  exact ⟨ln_2 (by rw [h.1]; decide) (by rw [h.2.2]; decide), h.2.1⟩
theorem col_e {a l : Nat} {z : Int32} (h : z = nI l) (hl : l ≤ a) : nI a - z + 1 = nI (a - l + 1) := by
  rw [h, pk_sub (a := a) (b := l) hl]; exact nI_add _ 1
