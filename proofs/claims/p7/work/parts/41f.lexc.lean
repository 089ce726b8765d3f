theorem nar01 {x : Int32} (h : x = 0 ∨ x = 1) : vp_nar .boolean x = x := by
  rcases h with e | e <;> rw [e] <;> decide
/-! the class's lexer: rows that its methods answer by -/
section LXC
variable {f : Nat → Int32} {c : Nat → Int32} {n i a e : Nat} {x y k : Int32}
theorem cN_ge (h : n ≤ i) : cN f n i = 0 := if_neg (by omega)
def bkB (x : Int32) : Bool := x == 32 || x == 10
theorem bk_y (h : bkB x = true) : x = 32 ∨ x = 10 := by simpa [bkB] using h
theorem bk_n (h : bkB x = false) : ¬ (x = 32 ∨ x = 10) := by
  intro q
  have : bkB x = true := by simpa [bkB] using q
  rw [this] at h; cases h
theorem bk_1 (h : x = 32) : (1 : Int32) = b01 (bkB x) := by rw [h]; rfl
theorem bk_2 (h : x = 10) : (1 : Int32) = b01 (bkB x) := by rw [h]; rfl
theorem bk_0 (h : ¬ x = 32) (h2 : ¬ x = 10) : (0 : Int32) = b01 (bkB x) := by simp [bkB, b01, h, h2]
theorem oK_t (h1 : cN f n i = 123) (h2 : cN f n (i + 1) = 45) : opC (cN f n) n i = true := by
  have h : i + 1 < n := by
    rcases Nat.lt_or_ge (i + 1) n with q | q
    · exact q
    · rw [cN_ge q] at h2; exact absurd h2 (by decide)
  unfold opC
  rw [h1, h2, decide_eq_true h]; rfl
theorem oK_1 (h1 : ¬ c i = 123) : opC c n i = false := by unfold opC; simp [h1]
theorem oK_2 (h2 : ¬ c (i + 1) = 45) : opC c n i = false := by unfold opC; simp [h2]
theorem kK_t (h1 : cN f n i = 45) (h2 : cN f n (i + 1) = 125) : clC (cN f n) n i = true := by
  have h : i + 1 < n := by
    rcases Nat.lt_or_ge (i + 1) n with q | q
    · exact q
    · rw [cN_ge q] at h2; exact absurd h2 (by decide)
  unfold clC
  rw [h1, h2, decide_eq_true h]; rfl
theorem kK_1 (h1 : ¬ c i = 45) : clC c n i = false := by unfold clC; simp [h1]
theorem kK_2 (h2 : ¬ c (i + 1) = 125) : clC c n i = false := by unfold clC; simp [h2]
theorem b1_t {b : Bool} (h : b = true) : (1 : Int32) = b01 b := by rw [h]; rfl
theorem b1_f {b : Bool} (h : b = false) : (0 : Int32) = b01 b := by rw [h]; rfl
/-! the first place of a value in a row -/
def ixN {α : Type} [DecidableEq α] (f : Nat → α) (b : α) (n : Nat) : Nat → Nat → Int32
  | 0, _ => -1
  | k + 1, i => if i < n then (if f i = b then nI i else ixN f b n k (i + 1)) else -1
def ixE {α : Type} [DecidableEq α] (f : Nat → α) (b : α) (n i : Nat) : Int32 := ixN f b n (n - i) i
theorem ix_at {α : Type} [DecidableEq α] {f : Nat → α} {b : α} (h : i < n) (e : f i = b) : ixE f b n i = nI i := by
  unfold ixE
  obtain ⟨g, hg⟩ : ∃ g, n - i = g + 1 := ⟨n - i - 1, by omega⟩
  rw [hg, ixN, if_pos h, if_pos e]
theorem ix_go {α : Type} [DecidableEq α] {f : Nat → α} {b : α} (h : i < n) (e : ¬ f i = b) : ixE f b n i = ixE f b n (i + 1) := by
  unfold ixE
  obtain ⟨g, hg⟩ : ∃ g, n - i = g + 1 := ⟨n - i - 1, by omega⟩
  rw [hg, ixN, if_pos h, if_neg e, show n - (i + 1) = g by omega]
theorem ix_end {α : Type} [DecidableEq α] {f : Nat → α} {b : α} (h : n ≤ i) : ixE f b n i = -1 := by
  unfold ixE
  rw [show n - i = 0 by omega, ixN]
def b8 (y : Int32) : Int32 := y.toInt8.toInt32
def ceB (y : Int32) : Int32 := if y < 0 then 0 else if 255 < y then 0 else 1
def ixO (f : Nat → Int32) (n : Nat) (y : Int32) (i m : Nat) : Int32 := if ceB y = 0 then -1 else if max i 0 < min m n then ixE f (b8 y) (min m n) (max i 0) else -1
theorem io_0 {m : Nat} (h : ceB y = 0) : -1 = ixO f n y i m := by unfold ixO; rw [if_pos h]
theorem io_1 {m : Nat} (h : ¬ ceB y = 0) (q : max i 0 < min m n) : ixE f (b8 y) (min m n) (max i 0) = ixO f n y i m := by unfold ixO; rw [if_neg h, if_pos q]
theorem io_2 {m : Nat} (h : ¬ ceB y = 0) (q : ¬ max i 0 < min m n) : -1 = ixO f n y i m := by unfold ixO; rw [if_neg h, if_neg q]
theorem op_tab : ∀ q, q < 256 → (decide (ixO bt1 20 (nI q) 0 20 < 0) = decide (op_ (nI q) = 0) ∧ (op_ (nI q) = 0 ∨ op_ (nI q) = 1)) := by decide +kernel
theorem sg_tab : ∀ q, q < 256 → (decide (ixO bt2 9 (nI q) 0 9 < 0) = decide (sg_ (nI q) = 0) ∧ (sg_ (nI q) = 0 ∨ sg_ (nI q) = 1)) := by decide +kernel
theorem ce_nat (h : ¬ ceB y = 0) : ∃ q, q < 256 ∧ y = nI q := by
  unfold ceB at h
  by_cases h1 : y < 0
  · rw [if_pos h1] at h; exact absurd rfl h
  rw [if_neg h1] at h
  by_cases h2 : 255 < y
  · rw [if_pos h2] at h; exact absurd rfl h
  have g1 := Int32.le_iff_toInt_le.mp (Int32.not_lt.mp h1)
  have g2 := Int32.le_iff_toInt_le.mp (Int32.not_lt.mp h2)
  have e0 : (0 : Int32).toInt = 0 := by decide
  have e5 : (255 : Int32).toInt = 255 := by decide
  refine ⟨y.toInt.toNat, by omega, ?_⟩
  apply Int32.toInt_inj.mp
  rw [nI_toInt (by omega)]
  omega
theorem ce_ne {z : Nat} (h : ceB y = 0) (hz : z < 256) : ¬ y = nI z := by
  intro e
  have : ∀ q, q < 256 → ¬ ceB (nI q) = 0 := by decide +kernel
  exact this z hz (by rw [← e]; exact h)
theorem ce_wi {p q : Nat} (h : ceB y = 0) (hp : p < 256) (hq : q < 256) : wi y (nI p) (nI q) = 0 := by
  by_cases h1 : wi y (nI p) (nI q) = 0
  · exact h1
  · exfalso
    unfold wi at h1
    by_cases h2 : y < nI p
    · rw [if_pos h2] at h1; exact h1 rfl
    rw [if_neg h2] at h1
    by_cases h3 : nI q < y
    · rw [if_pos h3] at h1; exact h1 rfl
    have g1 := Int32.le_iff_toInt_le.mp (Int32.not_lt.mp h2)
    have g2 := Int32.le_iff_toInt_le.mp (Int32.not_lt.mp h3)
    rw [nI_toInt (by omega)] at g1 g2
    refine ce_ne (y := y) (z := y.toInt.toNat) h (by omega) ?_
    apply Int32.toInt_inj.mp
    rw [nI_toInt (by omega)]
    omega
theorem op_out (h : ceB y = 0) : op_ y = 0 := by
  have a : ∀ z, z < 256 → ¬ y = nI z := fun z hz => ce_ne h hz
  have b : ∀ p q, p < 256 → q < 256 → wi y (nI p) (nI q) = 0 := fun p q hp hq => ce_wi h hp hq
  unfold op_
  rw [if_neg (show ¬ y = (33 : Int32) from a 33 (by decide)), if_neg (fun z => z (show wi y (35 : Int32) (38 : Int32) = 0 from b 35 38 (by decide) (by decide))), if_neg (show ¬ y = (42 : Int32) from a 42 (by decide)), if_neg (show ¬ y = (43 : Int32) from a 43 (by decide)), if_neg (fun z => z (show wi y (45 : Int32) (47 : Int32) = 0 from b 45 47 (by decide) (by decide))), if_neg (show ¬ y = (58 : Int32) from a 58 (by decide)), if_neg (fun z => z (show wi y (60 : Int32) (64 : Int32) = 0 from b 60 64 (by decide) (by decide))), if_neg (show ¬ y = (92 : Int32) from a 92 (by decide)), if_neg (show ¬ y = (94 : Int32) from a 94 (by decide)), if_neg (show ¬ y = (124 : Int32) from a 124 (by decide)), if_neg (show ¬ y = (126 : Int32) from a 126 (by decide))]
theorem sg_out (h : ceB y = 0) : sg_ y = 0 := by
  have a : ∀ z, z < 256 → ¬ y = nI z := fun z hz => ce_ne h hz
  unfold sg_
  rw [if_neg (show ¬ y = (40 : Int32) from a 40 (by decide)), if_neg (show ¬ y = (41 : Int32) from a 41 (by decide)), if_neg (show ¬ y = (91 : Int32) from a 91 (by decide)), if_neg (show ¬ y = (93 : Int32) from a 93 (by decide)), if_neg (show ¬ y = (123 : Int32) from a 123 (by decide)), if_neg (show ¬ y = (125 : Int32) from a 125 (by decide)), if_neg (show ¬ y = (44 : Int32) from a 44 (by decide)), if_neg (show ¬ y = (59 : Int32) from a 59 (by decide)), if_neg (show ¬ y = (96 : Int32) from a 96 (by decide))]
theorem op_n0 (h : ixO bt1 20 y 0 20 < 0) : (0 : Int32) = op_ y := by
  by_cases q : ceB y = 0
  · exact (op_out q).symm
  · obtain ⟨z, hz, rfl⟩ := ce_nat q
    have t := (op_tab z hz).1
    rw [decide_eq_true h] at t
    exact (of_decide_eq_true t.symm).symm
theorem op_n1 (h : ¬ ixO bt1 20 y 0 20 < 0) : (1 : Int32) = op_ y := by
  by_cases q : ceB y = 0
  · exact absurd (by rw [← io_0 q]; decide) h
  · obtain ⟨z, hz, rfl⟩ := ce_nat q
    have t := op_tab z hz
    have t1 := t.1
    rw [decide_eq_false h] at t1
    exact (t.2.resolve_left (of_decide_eq_false t1.symm)).symm
theorem sg_n0 (h : ixO bt2 9 y 0 9 < 0) : (0 : Int32) = sg_ y := by
  by_cases q : ceB y = 0
  · exact (sg_out q).symm
  · obtain ⟨z, hz, rfl⟩ := ce_nat q
    have t := (sg_tab z hz).1
    rw [decide_eq_true h] at t
    exact (of_decide_eq_true t.symm).symm
theorem sg_n1 (h : ¬ ixO bt2 9 y 0 9 < 0) : (1 : Int32) = sg_ y := by
  by_cases q : ceB y = 0
  · exact absurd (by rw [← io_0 q]; decide) h
  · obtain ⟨z, hz, rfl⟩ := ce_nat q
    have t := sg_tab z hz
    have t1 := t.1
    rw [decide_eq_false h] at t1
    exact (t.2.resolve_left (of_decide_eq_false t1.symm)).symm
/-! kinds and runs -/
def gnO (k y : Int32) : Int32 := if k = 0 ∨ k = 1 ∨ k = 2 then (if rn_ k y = 0 then 0 else 1) else 0
theorem gn_d (h0 : ¬ k = 0) (h1 : ¬ k = 1) (h2 : ¬ k = 2) : (0 : Int32) = gnO k y := by
  unfold gnO; rw [if_neg (fun q => q.elim h0 (fun q => q.elim h1 h2))]
theorem gn_y (h : k = 0 ∨ k = 1 ∨ k = 2) (q : ¬ rn_ k y = 0) : (1 : Int32) = gnO k y := by
  unfold gnO; rw [if_pos h, if_neg q]
theorem gn_n (h : k = 0 ∨ k = 1 ∨ k = 2) (q : rn_ k y = 0) : (0 : Int32) = gnO k y := by
  unfold gnO; rw [if_pos h, if_pos q]
theorem b01_01 {b : Int32} (h : b = 0 ∨ b = 1) : (if b = 0 then (0 : Int32) else 1) = b := by
  rcases h with e | e <;> rw [e] <;> decide
theorem gn_e (h : k = 0 ∨ k = 1 ∨ k = 2) (hb : rn_ k y = 0 ∨ rn_ k y = 1) : rn_ k y = gnO k y := by
  unfold gnO; rw [if_pos h, b01_01 hb]
/-- the end of a lexeme -/
def enR (c : Nat → Int32) (n : Nat) (k : Int32) (i : Nat) : Nat := if k = 0 ∨ k = 1 ∨ k = 2 then scE (rnB k) c n i else i
theorem enR_O : enO c n k a = enR c n k (a + 1) := rfl
theorem enR_go (h : i < n) (q : ¬ gnO k (c i) = 0) : enR c n k i = enR c n k (i + 1) := by
  unfold gnO at q
  by_cases z : k = 0 ∨ k = 1 ∨ k = 2
  · rw [if_pos z] at q
    unfold enR
    rw [if_pos z, if_pos z]
    exact scE_go h (decide_eq_true (fun w => q (if_pos w)))
  · rw [if_neg z] at q; exact absurd rfl q
theorem enR_stop (q : gnO k (c i) = 0) : enR c n k i = i := by
  unfold gnO at q
  unfold enR
  by_cases z : k = 0 ∨ k = 1 ∨ k = 2
  · rw [if_pos z] at q ⊢
    by_cases w : rn_ k (c i) = 0
    · exact scE_stop (Or.inr (decide_eq_false (fun u => u w)))
    · rw [if_neg w] at q; exact absurd q (by decide)
  · rw [if_neg z]
theorem enR_end (h : n ≤ i) (hi : i ≤ n) : enR c n k i = n := by
  have e : i = n := by omega
  unfold enR
  rw [e]
  split
  · exact scE_stop (Or.inl (Nat.le_refl _))
  · rfl
/-- dashes -/
theorem al_no {v : Int32} : ∀ m j, j < m → ¬ c (a + j) = v → alB c v a m = false
  | 0, j, h, _ => absurd h (Nat.not_lt_zero _)
  | m + 1, j, h, q => by
    rw [alB]
    by_cases z : j = m
    · rw [← z]; simp [q]
    · rw [al_no m j (by omega) q]; rfl
theorem dw_s {b : Nat} (hb : a ≤ b) (h : alB c 45 a (b - a) = true) (q : c b = 45) : alB c 45 a (b + 1 - a) = true := by
  rw [show b + 1 - a = (b - a) + 1 by omega, alB, h, show a + (b - a) = b by omega, q]; rfl
theorem dw_0 {b : Nat} (hb : a ≤ b) (he : b < e) (q : ¬ c b = 45) : (0 : Int32) = b01 (dshO c a e) := by
  unfold dshO
  rw [al_no (e - a) (b - a) (by omega) (by rw [show a + (b - a) = b by omega]; exact q), Bool.and_false]; rfl
theorem dw_1 {b : Nat} (hb : b = e) (h : alB c 45 a (b - a) = true) (q : ¬ e - a < 2) : (1 : Int32) = b01 (dshO c a e) := by
  rw [hb] at h
  unfold dshO
  rw [h, decide_eq_true (show 1 < e - a by omega)]; rfl
theorem dw_2 (q : e - a < 2) : (0 : Int32) = b01 (dshO c a e) := by
  unfold dshO
  rw [decide_eq_false (show ¬ 1 < e - a by omega)]; rfl
/-- packed characters, from the last one on -/
def hnL (c : Nat → Int32) (a : Nat) : Nat → Int64
  | 0 => 0
  | m + 1 => (hnL c (a + 1) m <<< ((8 : Int32).toInt64 &&& 63)) ||| (c a).toInt64
theorem hn_s {b : Nat} {v : Int64} (hb : 1 ≤ b) (h : v = hnL c b (e - b)) (he : b ≤ e) : ((v <<< ((8 : Int32).toInt64 &&& 63)) ||| (c (b - 1)).toInt64) = hnL c (b - 1) (e - (b - 1)) := by
  rw [show e - (b - 1) = (e - b) + 1 by omega, hnL, show b - 1 + 1 = b by omega, h]
theorem shl_8 (x : Int64) {k : Nat} (h : k < 7) : (x <<< ((nI (8 * k)).toInt64 &&& 63)) <<< ((8 : Int32).toInt64 &&& 63) = x <<< ((nI (8 * (k + 1))).toInt64 &&& 63) := by
  have key : ∀ k, k < 7 → (((nI (8 * k)).toInt64 &&& 63).toBitVec.smod 64).toNat = 8 * k ∧ (((nI (8 * (k + 1))).toInt64 &&& 63).toBitVec.smod 64).toNat = 8 * k + 8 := by decide +kernel
  obtain ⟨e1, e2⟩ := key k h
  have e8 : (((8 : Int32).toInt64 &&& 63).toBitVec.smod 64).toNat = 8 := by decide +kernel
  apply Int64.toBitVec_inj.mp
  rw [Int64.toBitVec_shiftLeft, Int64.toBitVec_shiftLeft, Int64.toBitVec_shiftLeft, BitVec.shiftLeft_eq', BitVec.shiftLeft_eq', BitVec.shiftLeft_eq', e1, e2, e8, BitVec.shiftLeft_add]
theorem shl_or (x y s : Int64) : (x ||| y) <<< s = (x <<< s) ||| (y <<< s) := by
  apply Int64.toBitVec_inj.mp
  rw [Int64.toBitVec_shiftLeft, Int64.toBitVec_or, Int64.toBitVec_or, Int64.toBitVec_shiftLeft, Int64.toBitVec_shiftLeft, BitVec.shiftLeft_eq', BitVec.shiftLeft_eq', BitVec.shiftLeft_eq', BitVec.shiftLeft_or_distrib]
theorem shl_0 (x : Int64) : x <<< ((nI (8 * 0)).toInt64 &&& 63) = x := by
  have e : (((nI (8 * 0)).toInt64 &&& 63).toBitVec.smod 64).toNat = 0 := by decide +kernel
  apply Int64.toBitVec_inj.mp
  rw [Int64.toBitVec_shiftLeft, BitVec.shiftLeft_eq', e, BitVec.shiftLeft_zero]
theorem pk_sh : ∀ m, m ≤ 7 → pkL c a (m + 1) = (pkL c (a + 1) m <<< ((8 : Int32).toInt64 &&& 63)) ||| (c a).toInt64
  | 0, _ => by
    show (0 : Int64) ||| ((c (a + 0)).toInt64 <<< ((nI (8 * 0)).toInt64 &&& 63)) = ((0 : Int64) <<< ((8 : Int32).toInt64 &&& 63)) ||| (c a).toInt64
    rw [shl_0, show ((0 : Int64) <<< ((8 : Int32).toInt64 &&& 63)) = 0 by decide +kernel, show a + 0 = a by omega]
  | m + 1, h => by
    have h1 : pkL c a (m + 1 + 1) = pkL c a (m + 1) ||| ((c (a + (m + 1))).toInt64 <<< ((nI (8 * (m + 1))).toInt64 &&& 63)) := rfl
    have h2 : pkL c (a + 1) (m + 1) = pkL c (a + 1) m ||| ((c (a + 1 + m)).toInt64 <<< ((nI (8 * m)).toInt64 &&& 63)) := rfl
    rw [h1, h2, pk_sh m (by omega), shl_or, shl_8 _ (show m < 7 by omega), show a + 1 + m = a + (m + 1) by omega, Int64.or_assoc, Int64.or_assoc, Int64.or_comm (c a).toInt64 ((c (a + (m + 1))).toInt64 <<< ((nI (8 * (m + 1))).toInt64 &&& 63))]
theorem hn_pk : ∀ m a, m ≤ 8 → hnL c a m = pkL c a m
  | 0, a, _ => rfl
  | m + 1, a, h => by rw [hnL, hn_pk m (a + 1) (by omega), pk_sh m (by omega)]
/-- numbers -/
theorem nm_dig (h : ¬ wi x 48 57 = 0) (v : Int64) : v * 10 + (x - 48).toInt64 = 10 * v + x.toInt64 - 48 := by
  have key : ∀ q, q < 10 → ((nI (48 + q)) - 48).toInt64 = (nI (48 + q)).toInt64 - 48 := by decide +kernel
  obtain ⟨q, hq, rfl⟩ : ∃ q, q < 10 ∧ x = nI (48 + q) := by
    unfold wi at h
    by_cases h1 : x < 48
    · rw [if_pos h1] at h; exact absurd rfl h
    rw [if_neg h1] at h
    by_cases h2 : 57 < x
    · rw [if_pos h2] at h; exact absurd rfl h
    have g1 := Int32.le_iff_toInt_le.mp (Int32.not_lt.mp h1)
    have g2 := Int32.le_iff_toInt_le.mp (Int32.not_lt.mp h2)
    have e0 : (48 : Int32).toInt = 48 := by decide
    have e5 : (57 : Int32).toInt = 57 := by decide
    refine ⟨x.toInt.toNat - 48, by omega, ?_⟩
    apply Int32.toInt_inj.mp
    rw [nI_toInt (by omega)]
    omega
  rw [key q hq, Int64.mul_comm v 10, Int64.sub_eq_add_neg, Int64.sub_eq_add_neg, Int64.add_assoc]
theorem nm_s {b : Nat} {v : Int64} (hb : a ≤ b) (h : v = nmL c a (b - a)) (d : ¬ wi (c b) 48 57 = 0) : v * 10 + (c b - 48).toInt64 = nmL c a (b + 1 - a) := by
  rw [show b + 1 - a = (b - a) + 1 by omega, nmL, show a + (b - a) = b by omega, nm_dig d, h]
theorem gn_0a (h : k = 0) (q : ¬ lt_ y = 0) : (1 : Int32) = gnO k y := gn_y (Or.inl h) (by rw [h]; exact rn0 q)
theorem gn_0b (h : k = 0) (q : ¬ wi y 48 57 = 0) : (1 : Int32) = gnO k y := gn_y (Or.inl h) (by rw [h]; exact rn0d q)
theorem gn_0c (h : k = 0) (q : y = 39) : (1 : Int32) = gnO k y := gn_y (Or.inl h) (by rw [h]; exact rn0q q)
theorem gn_0n (h : k = 0) (h1 : lt_ y = 0) (h2 : wi y 48 57 = 0) (h3 : ¬ y = 39) : (0 : Int32) = gnO k y := gn_n (Or.inl h) (by rw [h]; exact rn0n h1 h2 h3)
theorem gn_1 (h : k = 1) (hb : wi y 48 57 = 0 ∨ wi y 48 57 = 1) : wi y 48 57 = gnO k y := by
  have e : rn_ k y = wi y 48 57 := by rw [h]; rfl
  rw [← e] at hb ⊢; exact gn_e (Or.inr (Or.inl h)) hb
theorem gn_2 (h : k = 2) (hb : op_ y = 0 ∨ op_ y = 1) : op_ y = gnO k y := by
  have e : rn_ k y = op_ y := by rw [h]; rfl
  rw [← e] at hb ⊢; exact gn_e (Or.inr (Or.inr h)) hb
end LXC
