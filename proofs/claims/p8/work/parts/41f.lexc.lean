theorem nar01 {x : Int32} (h : x = 0 ∨ x = 1) : vp_nar .boolean x = x := by
  rcases h with e | e <;> rw [e] <;> decide
/-! the class's lexer: rows that its methods answer by -/
section LXC
variable {f : Nat → Int32} {c : Nat → Int32} {n i a e : Nat} {x y k : Int32}
theorem cN_ge (h : n ≤ i) : cN f n i = 0 := if_neg (by omega)
def bkB (x : Int32) : Bool := x == 32 || x == 10
theorem bk_y (h : bkB x = true) : x = 32 ∨ x = 10 := by simpa [bkB] using h
theorem bk_n (h : bkB x = false) : ¬ (x = 32 ∨ x = 10) := by
  intro q
  have : bkB x = true := by simpa [bkB] using q
  rw [this] at h; cases h
theorem bk_1 (h : x = 32) : (1 : Int32) = b01 (bkB x) := by rw [h]; rfl
theorem bk_2 (h : x = 10) : (1 : Int32) = b01 (bkB x) := by rw [h]; rfl
theorem bk_0 (h : ¬ x = 32) (h2 : ¬ x = 10) : (0 : Int32) = b01 (bkB x) := by simp [bkB, b01, h, h2]
theorem oK_t (h1 : cN f n i = 123) (h2 : cN f n (i + 1) = 45) : opC (cN f n) n i = true := by
  have h : i + 1 < n := by
    rcases Nat.lt_or_ge (i + 1) n with q | q
    · exact q
    · rw [cN_ge q] at h2; exact absurd h2 (by decide)
  unfold opC
  rw [h1, h2, decide_eq_true h]; rfl
theorem oK_1 (h1 : ¬ c i = 123) : opC c n i = false := by unfold opC; simp [h1]
theorem oK_2 (h2 : ¬ c (i + 1) = 45) : opC c n i = false := by unfold opC; simp [h2]
theorem kK_t (h1 : cN f n i = 45) (h2 : cN f n (i + 1) = 125) : clC (cN f n) n i = true := by
  have h : i + 1 < n := by
    rcases Nat.lt_or_ge (i + 1) n with q | q
    · exact q
    · rw [cN_ge q] at h2; exact absurd h2 (by decide)
  unfold clC
  rw [h1, h2, decide_eq_true h]; rfl
theorem kK_1 (h1 : ¬ c i = 45) : clC c n i = false := by unfold clC; simp [h1]
theorem kK_2 (h2 : ¬ c (i + 1) = 125) : clC c n i = false := by unfold clC; simp [h2]
theorem b1_t {b : Bool} (h : b = true) : (1 : Int32) = b01 b := by rw [h]; rfl
theorem b1_f {b : Bool} (h : b = false) : (0 : Int32) = b01 b := by rw [h]; rfl
/-! the first place of a value in a row -/
def ixN {α : Type} [DecidableEq α] (f : Nat → α) (b : α) (n : Nat) : Nat → Nat → Int32
  | 0, _ => -1
  | k + 1, i => if i < n then (if f i = b then nI i else ixN f b n k (i + 1)) else -1
def ixE {α : Type} [DecidableEq α] (f : Nat → α) (b : α) (n i : Nat) : Int32 := ixN f b n (n - i) i
theorem ix_at {α : Type} [DecidableEq α] {f : Nat → α} {b : α} (h : i < n) (e : f i = b) : ixE f b n i = nI i := by
  unfold ixE
  obtain ⟨g, hg⟩ : ∃ g, n - i = g + 1 := ⟨n - i - 1, by omega⟩
  rw [hg, ixN, if_pos h, if_pos e]
theorem ix_go {α : Type} [DecidableEq α] {f : Nat → α} {b : α} (h : i < n) (e : ¬ f i = b) : ixE f b n i = ixE f b n (i + 1) := by
  unfold ixE
  obtain ⟨g, hg⟩ : ∃ g, n - i = g + 1 := ⟨n - i - 1, by omega⟩
  rw [hg, ixN, if_pos h, if_neg e, show n - (i + 1) = g by omega]
theorem ix_end {α : Type} [DecidableEq α] {f : Nat → α} {b : α} (h : n ≤ i) : ixE f b n i = -1 := by
  unfold ixE
  rw [show n - i = 0 by omega, ixN]
def b8 (y : Int32) : Int32 := y.toInt8.toInt32
def ceB (y : Int32) : Int32 := if y < 0 then 0 else if 255 < y then 0 else 1
def ixO (f : Nat → Int32) (n : Nat) (y : Int32) (i m : Nat) : Int32 := if ceB y = 0 then -1 else if max i 0 < min m n then ixE f (b8 y) (min m n) (max i 0) else -1
theorem io_0 {m : Nat} (h : ceB y = 0) : -1 = ixO f n y i m := by unfold ixO; rw [if_pos h]
theorem io_1 {m : Nat} (h : ¬ ceB y = 0) (q : max i 0 < min m n) : ixE f (b8 y) (min m n) (max i 0) = ixO f n y i m := by unfold ixO; rw [if_neg h, if_pos q]
theorem io_2 {m : Nat} (h : ¬ ceB y = 0) (q : ¬ max i 0 < min m n) : -1 = ixO f n y i m := by unfold ixO; rw [if_neg h, if_neg q]
theorem op_tab : ∀ q, q < 256 → (decide (ixO bt1 20 (nI q) 0 20 < 0) = decide (op_ (nI q) = 0) ∧ (op_ (nI q) = 0 ∨ op_ (nI q) = 1)) := by decide +kernel
theorem sg_tab : ∀ q, q < 256 → (decide (ixO bt2 9 (nI q) 0 9 < 0) = decide (sg_ (nI q) = 0) ∧ (sg_ (nI q) = 0 ∨ sg_ (nI q) = 1)) := by decide +kernel
theorem ce_nat (h : ¬ ceB y = 0) : ∃ q, q < 256 ∧ y = nI q := by
  unfold ceB at h
  by_cases h1 : y < 0
  · rw [if_pos h1] at h; exact absurd rfl h
  rw [if_neg h1] at h
  by_cases h2 : 255 < y
  · rw [if_pos h2] at h; exact absurd rfl h
  have g1 := Int32.le_iff_toInt_le.mp (Int32.not_lt.mp h1)
  have g2 := Int32.le_iff_toInt_le.mp (Int32.not_lt.mp h2)
  have e0 : (0 : Int32).toInt = 0 := by decide
  have e5 : (255 : Int32).toInt = 255 := by decide
  refine ⟨y.toInt.toNat, by omega, ?_⟩
  apply Int32.toInt_inj.mp
  rw [nI_toInt (by omega)]
  omega
theorem ce_ne {z : Nat} (h : ceB y = 0) (hz : z < 256) : ¬ y = nI z := by
  intro e
  have : ∀ q, q < 256 → ¬ ceB (nI q) = 0 := by decide +kernel
  exact this z hz (by rw [← e]; exact h)
theorem ce_wi {p q : Nat} (h : ceB y = 0) (hp : p < 256) (hq : q < 256) : wi y (nI p) (nI q) = 0 := by
  by_cases h1 : wi y (nI p) (nI q) = 0
  · exact h1
  · exfalso
    unfold wi at h1
    by_cases h2 : y < nI p
    · rw [if_pos h2] at h1; exact h1 rfl
    rw [if_neg h2] at h1
    by_cases h3 : nI q < y
    · rw [if_pos h3] at h1; exact h1 rfl
    have g1 := Int32.le_iff_toInt_le.mp (Int32.not_lt.mp h2)
    have g2 := Int32.le_iff_toInt_le.mp (Int32.not_lt.mp h3)
    rw [nI_toInt (by omega)] at g1 g2
    refine ce_ne (y := y) (z := y.toInt.toNat) h (by omega) ?_
    apply Int32.toInt_inj.mp
    rw [nI_toInt (by omega)]
    omega
theorem op_out (h : ceB y = 0) : op_ y = 0 := by
  have a : ∀ z, z < 256 → ¬ y = nI z := fun z hz => ce_ne h hz
  have b : ∀ p q, p < 256 → q < 256 → wi y (nI p) (nI q) = 0 := fun p q hp hq => ce_wi h hp hq
  unfold op_
  rw [if_neg (show ¬ y = (33 : Int32) from a 33 (by decide)), if_neg (fun z => z (show wi y (35 : Int32) (38 : Int32) = 0 from b 35 38 (by decide) (by decide))), if_neg (show ¬ y = (42 : Int32) from a 42 (by decide)), if_neg (show ¬ y = (43 : Int32) from a 43 (by decide)), if_neg (fun z => z (show wi y (45 : Int32) (47 : Int32) = 0 from b 45 47 (by decide) (by decide))), if_neg (show ¬ y = (58 : Int32) from a 58 (by decide)), if_neg (fun z => z (show wi y (60 : Int32) (64 : Int32) = 0 from b 60 64 (by decide) (by decide))), if_neg (show ¬ y = (92 : Int32) from a 92 (by decide)), if_neg (show ¬ y = (94 : Int32) from a 94 (by decide)), if_neg (show ¬ y = (124 : Int32) from a 124 (by decide)), if_neg (show ¬ y = (126 : Int32) from a 126 (by decide))]
theorem sg_out (h : ceB y = 0) : sg_ y = 0 := by
  have a : ∀ z, z < 256 → ¬ y = nI z := fun z hz => ce_ne h hz
  unfold sg_
  rw [if_neg (show ¬ y = (40 : Int32) from a 40 (by decide)), if_neg (show ¬ y = (41 : Int32) from a 41 (by decide)), if_neg (show ¬ y = (91 : Int32) from a 91 (by decide)), if_neg (show ¬ y = (93 : Int32) from a 93 (by decide)), if_neg (show ¬ y = (123 : Int32) from a 123 (by decide)), if_neg (show ¬ y = (125 : Int32) from a 125 (by decide)), if_neg (show ¬ y = (44 : Int32) from a 44 (by decide)), if_neg (show ¬ y = (59 : Int32) from a 59 (by decide)), if_neg (show ¬ y = (96 : Int32) from a 96 (by decide))]
theorem op_n0 (h : ixO bt1 20 y 0 20 < 0) : (0 : Int32) = op_ y := by
  by_cases q : ceB y = 0
  · exact (op_out q).symm
  · obtain ⟨z, hz, rfl⟩ := ce_nat q
    have t := (op_tab z hz).1
    rw [decide_eq_true h] at t
    exact (of_decide_eq_true t.symm).symm
theorem op_n1 (h : ¬ ixO bt1 20 y 0 20 < 0) : (1 : Int32) = op_ y := by
  by_cases q : ceB y = 0
  · exact absurd (by rw [← io_0 q]; decide) h
  · obtain ⟨z, hz, rfl⟩ := ce_nat q
    have t := op_tab z hz
    have t1 := t.1
    rw [decide_eq_false h] at t1
    exact (t.2.resolve_left (of_decide_eq_false t1.symm)).symm
theorem sg_n0 (h : ixO bt2 9 y 0 9 < 0) : (0 : Int32) = sg_ y := by
  by_cases q : ceB y = 0
  · exact (sg_out q).symm
  · obtain ⟨z, hz, rfl⟩ := ce_nat q
    have t := (sg_tab z hz).1
    rw [decide_eq_true h] at t
    exact (of_decide_eq_true t.symm).symm
theorem sg_n1 (h : ¬ ixO bt2 9 y 0 9 < 0) : (1 : Int32) = sg_ y := by
  by_cases q : ceB y = 0
  · exact absurd (by rw [← io_0 q]; decide) h
  · obtain ⟨z, hz, rfl⟩ := ce_nat q
    have t := sg_tab z hz
    have t1 := t.1
    rw [decide_eq_false h] at t1
    exact (t.2.resolve_left (of_decide_eq_false t1.symm)).symm
/-! kinds and runs -/
def gnO (k y : Int32) : Int32 := if k = 0 ∨ k = 1 ∨ k = 2 then (if rn_ k y = 0 then 0 else 1) else 0
theorem gn_d (h0 : ¬ k = 0) (h1 : ¬ k = 1) (h2 : ¬ k = 2) : (0 : Int32) = gnO k y := by
  unfold gnO; rw [if_neg (fun q => q.elim h0 (fun q => q.elim h1 h2))]
theorem gn_y (h : k = 0 ∨ k = 1 ∨ k = 2) (q : ¬ rn_ k y = 0) : (1 : Int32) = gnO k y := by
  unfold gnO; rw [if_pos h, if_neg q]
theorem gn_n (h : k = 0 ∨ k = 1 ∨ k = 2) (q : rn_ k y = 0) : (0 : Int32) = gnO k y := by
  unfold gnO; rw [if_pos h, if_pos q]
theorem b01_01 {b : Int32} (h : b = 0 ∨ b = 1) : (if b = 0 then (0 : Int32) else 1) = b := by
  rcases h with e | e <;> rw [e] <;> decide
theorem gn_e (h : k = 0 ∨ k = 1 ∨ k = 2) (hb : rn_ k y = 0 ∨ rn_ k y = 1) : rn_ k y = gnO k y := by
  unfold gnO; rw [if_pos h, b01_01 hb]
/-- the end of a lexeme -/
def enR (c : Nat → Int32) (n : Nat) (k : Int32) (i : Nat) : Nat := if k = 0 ∨ k = 1 ∨ k = 2 then scE (rnB k) c n i else i
theorem enR_O : enO c n k a = enR c n k (a + 1) := rfl
theorem enR_go (h : i < n) (q : ¬ gnO k (c i) = 0) : enR c n k i = enR c n k (i + 1) := by
  unfold gnO at q
  by_cases z : k = 0 ∨ k = 1 ∨ k = 2
  · rw [if_pos z] at q
    unfold enR
    rw [if_pos z, if_pos z]
    exact scE_go h (decide_eq_true (fun w => q (if_pos w)))
  · rw [if_neg z] at q; exact absurd rfl q
theorem enR_stop (q : gnO k (c i) = 0) : enR c n k i = i := by
  unfold gnO at q
  unfold enR
  by_cases z : k = 0 ∨ k = 1 ∨ k = 2
  · rw [if_pos z] at q ⊢
    by_cases w : rn_ k (c i) = 0
    · exact scE_stop (Or.inr (decide_eq_false (fun u => u w)))
    · rw [if_neg w] at q; exact absurd q (by decide)
  · rw [if_neg z]
theorem enR_end (h : n ≤ i) (hi : i ≤ n) : enR c n k i = n := by
  have e : i = n := by omega
  unfold enR
  rw [e]
  split
  · exact scE_stop (Or.inl (Nat.le_refl _))
  · rfl
/-- dashes -/
theorem al_no {v : Int32} : ∀ m j, j < m → ¬ c (a + j) = v → alB c v a m = false
  | 0, j, h, _ => absurd h (Nat.not_lt_zero _)
  | m + 1, j, h, q => by
    rw [alB]
    by_cases z : j = m
    · rw [← z]; simp [q]
    · rw [al_no m j (by omega) q]; rfl
theorem dw_s {b : Nat} (hb : a ≤ b) (h : alB c 45 a (b - a) = true) (q : c b = 45) : alB c 45 a (b + 1 - a) = true := by
  rw [show b + 1 - a = (b - a) + 1 by omega, alB, h, show a + (b - a) = b by omega, q]; rfl
theorem dw_0 {b : Nat} (hb : a ≤ b) (he : b < e) (q : ¬ c b = 45) : (0 : Int32) = b01 (dshO c a e) := by
  unfold dshO
  rw [al_no (e - a) (b - a) (by omega) (by rw [show a + (b - a) = b by omega]; exact q), Bool.and_false]; rfl
theorem dw_1 {b : Nat} (hb : b = e) (h : alB c 45 a (b - a) = true) (q : ¬ e - a < 2) : (1 : Int32) = b01 (dshO c a e) := by
  rw [hb] at h
  unfold dshO
  rw [h, decide_eq_true (show 1 < e - a by omega)]; rfl
theorem dw_2 (q : e - a < 2) : (0 : Int32) = b01 (dshO c a e) := by
  unfold dshO
  rw [decide_eq_false (show ¬ 1 < e - a by omega)]; rfl
/-- packed characters, from the last one on -/
def hnL (c : Nat → Int32) (a : Nat) : Nat → Int64
  | 0 => 0
  | m + 1 => (hnL c (a + 1) m <<< ((8 : Int32).toInt64 &&& 63)) ||| (c a).toInt64
theorem hn_s {b : Nat} {v : Int64} (hb : 1 ≤ b) (h : v = hnL c b (e - b)) (he : b ≤ e) : ((v <<< ((8 : Int32).toInt64 &&& 63)) ||| (c (b - 1)).toInt64) = hnL c (b - 1) (e - (b - 1)) := by
  rw [show e - (b - 1) = (e - b) + 1 by omega, hnL, show b - 1 + 1 = b by omega, h]
theorem shl_8 (x : Int64) {k : Nat} (h : k < 7) : (x <<< ((nI (8 * k)).toInt64 &&& 63)) <<< ((8 : Int32).toInt64 &&& 63) = x <<< ((nI (8 * (k + 1))).toInt64 &&& 63) := by
  have key : ∀ k, k < 7 → (((nI (8 * k)).toInt64 &&& 63).toBitVec.smod 64).toNat = 8 * k ∧ (((nI (8 * (k + 1))).toInt64 &&& 63).toBitVec.smod 64).toNat = 8 * k + 8 := by decide +kernel
  obtain ⟨e1, e2⟩ := key k h
  have e8 : (((8 : Int32).toInt64 &&& 63).toBitVec.smod 64).toNat = 8 := by decide +kernel
  apply Int64.toBitVec_inj.mp
  rw [Int64.toBitVec_shiftLeft, Int64.toBitVec_shiftLeft, Int64.toBitVec_shiftLeft, BitVec.shiftLeft_eq', BitVec.shiftLeft_eq', BitVec.shiftLeft_eq', e1, e2, e8, BitVec.shiftLeft_add]
theorem shl_or (x y s : Int64) : (x ||| y) <<< s = (x <<< s) ||| (y <<< s) := by
  apply Int64.toBitVec_inj.mp
  rw [Int64.toBitVec_shiftLeft, Int64.toBitVec_or, Int64.toBitVec_or, Int64.toBitVec_shiftLeft, Int64.toBitVec_shiftLeft, BitVec.shiftLeft_eq', BitVec.shiftLeft_eq', BitVec.shiftLeft_eq', BitVec.shiftLeft_or_distrib]
theorem shl_0 (x : Int64) : x <<< ((nI (8 * 0)).toInt64 &&& 63) = x := by
  have e : (((nI (8 * 0)).toInt64 &&& 63).toBitVec.smod 64).toNat = 0 := by decide +kernel
  apply Int64.toBitVec_inj.mp
  rw [Int64.toBitVec_shiftLeft, BitVec.shiftLeft_eq', e, BitVec.shiftLeft_zero]
theorem pk_sh : ∀ m, m ≤ 7 → pkL c a (m + 1) = (pkL c (a + 1) m <<< ((8 : Int32).toInt64 &&& 63)) ||| (c a).toInt64
  | 0, _ => by
    show (0 : Int64) ||| ((c (a + 0)).toInt64 <<< ((nI (8 * 0)).toInt64 &&& 63)) = ((0 : Int64) <<< ((8 : Int32).toInt64 &&& 63)) ||| (c a).toInt64
    rw [shl_0, show ((0 : Int64) <<< ((8 : Int32).toInt64 &&& 63)) = 0 by decide +kernel, show a + 0 = a by omega]
  | m + 1, h => by
    have h1 : pkL c a (m + 1 + 1) = pkL c a (m + 1) ||| ((c (a + (m + 1))).toInt64 <<< ((nI (8 * (m + 1))).toInt64 &&& 63)) := rfl
    have h2 : pkL c (a + 1) (m + 1) = pkL c (a + 1) m ||| ((c (a + 1 + m)).toInt64 <<< ((nI (8 * m)).toInt64 &&& 63)) := rfl
    rw [h1, h2, pk_sh m (by omega), shl_or, shl_8 _ (show m < 7 by omega), show a + 1 + m = a + (m + 1) by omega, Int64.or_assoc, Int64.or_assoc, Int64.or_comm (c a).toInt64 ((c (a + (m + 1))).toInt64 <<< ((nI (8 * (m + 1))).toInt64 &&& 63))]
theorem hn_pk : ∀ m a, m ≤ 8 → hnL c a m = pkL c a m
  | 0, a, _ => rfl
  | m + 1, a, h => by rw [hnL, hn_pk m (a + 1) (by omega), pk_sh m (by omega)]
/-- numbers -/
theorem nm_dig (h : ¬ wi x 48 57 = 0) (v : Int64) : v * 10 + (x - 48).toInt64 = 10 * v + x.toInt64 - 48 := by
  have key : ∀ q, q < 10 → ((nI (48 + q)) - 48).toInt64 = (nI (48 + q)).toInt64 - 48 := by decide +kernel
  obtain ⟨q, hq, rfl⟩ : ∃ q, q < 10 ∧ x = nI (48 + q) := by
    unfold wi at h
    by_cases h1 : x < 48
    · rw [if_pos h1] at h; exact absurd rfl h
    rw [if_neg h1] at h
    by_cases h2 : 57 < x
    · rw [if_pos h2] at h; exact absurd rfl h
    have g1 := Int32.le_iff_toInt_le.mp (Int32.not_lt.mp h1)
    have g2 := Int32.le_iff_toInt_le.mp (Int32.not_lt.mp h2)
    have e0 : (48 : Int32).toInt = 48 := by decide
    have e5 : (57 : Int32).toInt = 57 := by decide
    refine ⟨x.toInt.toNat - 48, by omega, ?_⟩
    apply Int32.toInt_inj.mp
    rw [nI_toInt (by omega)]
    omega
  rw [key q hq, Int64.mul_comm v 10, Int64.sub_eq_add_neg, Int64.sub_eq_add_neg, Int64.add_assoc]
theorem nm_s {b : Nat} {v : Int64} (hb : a ≤ b) (h : v = nmL c a (b - a)) (d : ¬ wi (c b) 48 57 = 0) : v * 10 + (c b - 48).toInt64 = nmL c a (b + 1 - a) := by
  rw [show b + 1 - a = (b - a) + 1 by omega, nmL, show a + (b - a) = b by omega, nm_dig d, h]
theorem gn_0a (h : k = 0) (q : ¬ lt_ y = 0) : (1 : Int32) = gnO k y := gn_y (Or.inl h) (by rw [h]; exact rn0 q)
theorem gn_0b (h : k = 0) (q : ¬ wi y 48 57 = 0) : (1 : Int32) = gnO k y := gn_y (Or.inl h) (by rw [h]; exact rn0d q)
theorem gn_0c (h : k = 0) (q : y = 39) : (1 : Int32) = gnO k y := gn_y (Or.inl h) (by rw [h]; exact rn0q q)
theorem gn_0n (h : k = 0) (h1 : lt_ y = 0) (h2 : wi y 48 57 = 0) (h3 : ¬ y = 39) : (0 : Int32) = gnO k y := gn_n (Or.inl h) (by rw [h]; exact rn0n h1 h2 h3)
theorem gn_1 (h : k = 1) (hb : wi y 48 57 = 0 ∨ wi y 48 57 = 1) : wi y 48 57 = gnO k y := by
  have e : rn_ k y = wi y 48 57 := by rw [h]; rfl
  rw [← e] at hb ⊢; exact gn_e (Or.inr (Or.inl h)) hb
theorem gn_2 (h : k = 2) (hb : op_ y = 0 ∨ op_ y = 1) : op_ y = gnO k y := by
  have e : rn_ k y = op_ y := by rw [h]; rfl
  rw [← e] at hb ⊢; exact gn_e (Or.inr (Or.inr h)) hb
end LXC
set_option maxHeartbeats 4000000 in
set_option maxRecDepth 100000 in
theorem s_Text_at6 (l : Launch) (dC : Nat → ClassId) (dI : Nat → Nat → Nat) (sz : Nat) (a_t : Nat) (a_characters : Nat) (f_characters : Nat → Int32) (n_length : Nat) (y0 : Nat) (ka_characters : ClassId) (c_characters : ∀ j, narrow .char (.int (f_characters j)) = .int (f_characters j)) (b_length : n_length ≤ 240) (by0 : y0 ≤ 242) : Met l y_Text_at w_Text_at ({ frames := 0, cells := 0, slots := 0, locals := 0 }) (va_Pc [.ref a_t, .int (nI y0)] (fun U => U.heap.size = sz ∧ va_P (dC, dI) vcl [(a_t, .inr (10, [.ref a_characters, .int (nI n_length)])), (a_characters, .inl (ka_characters, 240, .inl f_characters))] U.heap ∧ va_K (dC, dI) vcl [(ka_characters, .char)] U ∧ va_D (fun _ => True) [(a_t, .inr (10, [.ref a_characters, .int (nI n_length)])), (a_characters, .inl (ka_characters, 240, .inl f_characters))])) (va_Qi (fun (r : Int32) (_ : Unit) => r = cN f_characters n_length y0) (fun _ t => va_P (dC, dI) vcl [(a_t, .inr (10, [.ref a_characters, .int (nI n_length)])), (a_characters, .inl (ka_characters, 240, .inl f_characters))] t.heap ∧ va_K (dC, dI) vcl [(ka_characters, .char)] t ∧ va_D (va_A [(a_t, .inr (10, [.ref a_characters, .int (nI n_length)])), (a_characters, .inl (ka_characters, 240, .inl f_characters))] sz) [(a_t, .inr (10, [.ref a_characters, .int (nI n_length)])), (a_characters, .inl (ka_characters, 240, .inl f_characters))]) (va_A [(a_t, .inr (10, [.ref a_characters, .int (nI n_length)])), (a_characters, .inl (ka_characters, 240, .inl f_characters))] sz)) 0 0 (va_A [(a_t, .inr (10, [.ref a_characters, .int (nI n_length)])), (a_characters, .inl (ka_characters, 240, .inl f_characters))] sz) := by
  refine Met.ofW (cc := b_Text_at) (maxL := 2) (ret := (some .char)) (by decide) rfl ?_
  intro p e s m args below meth c s₁ B hml hv
  obtain ⟨rfl, hsz, hP, hK, hD0⟩ := hv
  have hx := B.exec
  have hb := B.bytes
  have hr := B.returns
  have hts := atoms_spec (ws := w_Text_at) B.pre
  have hz : ∀ w ∈ wz, w.before _ s = true := fun w h => hts w (List.mem_cons_of_mem _ h)
  have hown : s.vm.findClass R_Text = some m.cls := findClass_of_methodNamed B.named
  have hlocks := B.notSynchronized
  subst hsz
  have hD := hD0.self (sz := s.heap.size)
  generalize hAe : va_A [(a_t, .inr (10, [.ref a_characters, .int (nI n_length)])), (a_characters, .inl (ka_characters, 240, .inl f_characters))] s.heap.size = A at hD ⊢
  have hA : ∀ q : Nat, s.heap.size ≤ q → A q := fun q h => by rw [← hAe]; exact Or.inr h
  have hS : va_S A s.heap s.heap [] := va_S.rf
  have hP : va_P (dC, dI) vcl [(a_t, .inr (10, [.ref a_characters, .int (nI n_length)])), (a_characters, .inl (ka_characters, 240, .inl f_characters))] s.heap := hP
  have hl := lv_entry ([.ref a_t, .int (nI y0)]) (n := 2) (Nat.le_of_ble_eq_true rfl)
  rw [lg_entry_eq]
  generalize (lg_sl ([.ref a_t, .int (nI y0)]) ++ List.replicate (2 - (lg_sl ([.ref a_t, .int (nI y0)])).length) Slot.unset).toArray = ls at hl ⊢
  have hl : lv_has ls 2 [(0, .ref a_t), (1, .int (nI y0))] := hl
  refine lv_iload_n hx hb d_Text_at_0 rfl (lv_at hl 1 rfl) ?_
  refine lv_if_lt (tgt := 21) hx hb d_Text_at_1 (by decide) (fun h1 => ?_) (fun h1 => ?_)
  · have h1 : y0 < 0 := (nI_ltI (a := y0) (b := 0) (by omega) (by omega)).mp h1
    refine lv_iconst (v := 0) hx hb d_Text_at_21 (by decide) ?_
    have hP9 := hP.sub (ws' := [(a_t, .inr (10, [.ref a_characters, .int (nI n_length)])), (a_characters, .inl (ka_characters, 240, .inl f_characters))]) [0, 1] rfl
    have hD9 := hD.sub (ws' := [(a_t, .inr (10, [.ref a_characters, .int (nI n_length)])), (a_characters, .inl (ka_characters, 240, .inl f_characters))]) [0, 1] (by decide) rfl
    exact W.zret (v := 0) hx hb hr (by decide +kernel) (fun t ht hW => ⟨⟨0, (), rfl, (by first | exact (cN_lt (by omega)).symm | exact (cN_ge (by omega)).symm), by rw [ht]; exact hP9, va_K.moved hW.alike hK, hD9⟩, hS.F ht⟩) hS.2.2 d_Text_at_22
  · have h1 : ¬ y0 < 0 := fun q => h1 ((nI_ltI (a := y0) (b := 0) (by omega) (by omega)).mpr q)
    refine lv_iload_n hx hb d_Text_at_4 rfl (lv_at hl 1 rfl) ?_
    refine lv_aload_n hx hb d_Text_at_5 rfl (lv_at hl 0 rfl) ?_
    refine va_get (D := (dC, dI)) (ci := 10) (v := .int (nI n_length)) (C := R_Text) (T := F_Text) (N := 2) hx hb hz zu_Text hown hK hP 0 rfl rfl 1 (by decide) (hz (.fieldLink R_Text 19 "LayoutFront$Text" "length" "I") zm_9) (fun _ h9 => h9) rfl d_Text_at_6 ?_
    refine lv_icmp_ge (tgt := 21) hx hb d_Text_at_9 (by decide) (fun h2 => ?_) (fun h2 => ?_)
    · have h2 : n_length ≤ y0 := (nI_leI (a := n_length) (b := y0) (by omega) (by omega)).mp h2
      refine lv_iconst (v := 0) hx hb d_Text_at_21 (by decide) ?_
      have hP9 := hP.sub (ws' := [(a_t, .inr (10, [.ref a_characters, .int (nI n_length)])), (a_characters, .inl (ka_characters, 240, .inl f_characters))]) [0, 1] rfl
      have hD9 := hD.sub (ws' := [(a_t, .inr (10, [.ref a_characters, .int (nI n_length)])), (a_characters, .inl (ka_characters, 240, .inl f_characters))]) [0, 1] (by decide) rfl
      exact W.zret (v := 0) hx hb hr (by decide +kernel) (fun t ht hW => ⟨⟨0, (), rfl, (by first | exact (cN_lt (by omega)).symm | exact (cN_ge (by omega)).symm), by rw [ht]; exact hP9, va_K.moved hW.alike hK, hD9⟩, hS.F ht⟩) hS.2.2 d_Text_at_22
    · have h2 : ¬ n_length ≤ y0 := fun q => h2 ((nI_leI (a := n_length) (b := y0) (by omega) (by omega)).mpr q)
      refine lv_aload_n hx hb d_Text_at_12 rfl (lv_at hl 0 rfl) ?_
      refine va_get (D := (dC, dI)) (ci := 10) (v := .ref a_characters) (C := R_Text) (T := F_Text) (N := 2) hx hb hz zu_Text hown hK hP 0 rfl rfl 0 (by decide) (hz (.fieldLink R_Text 9 "LayoutFront$Text" "characters" "[C") zm_3) (fun _ h9 => h9) rfl d_Text_at_13 ?_
      refine lv_iload_n hx hb d_Text_at_16 rfl (lv_at hl 1 rfl) ?_
      refine xr_cald (v := (f_characters y0)) hx hb hK hP 1 0 rfl rfl (vp_in_nI (by omega) (by omega)) (congrArg f_characters (nI_clamp (by omega))) d_Text_at_17 ?_
      refine lv_goto (tgt := 22) hx hb d_Text_at_18 (by decide) ?_
      have hP9 := hP.sub (ws' := [(a_t, .inr (10, [.ref a_characters, .int (nI n_length)])), (a_characters, .inl (ka_characters, 240, .inl f_characters))]) [0, 1] rfl
      have hD9 := hD.sub (ws' := [(a_t, .inr (10, [.ref a_characters, .int (nI n_length)])), (a_characters, .inl (ka_characters, 240, .inl f_characters))]) [0, 1] (by decide) rfl
      exact W.zret (v := (f_characters y0)) hx hb hr (c_characters _) (fun t ht hW => ⟨⟨(f_characters y0), (), rfl, (by first | exact (cN_lt (by omega)).symm | exact (cN_ge (by omega)).symm), by rw [ht]; exact hP9, va_K.moved hW.alike hK, hD9⟩, hS.F ht⟩) hS.2.2 d_Text_at_22
set_option maxHeartbeats 4000000 in
set_option maxRecDepth 100000 in
theorem s_Cutter_isBlank6 (l : Launch) (dC : Nat → ClassId) (dI : Nat → Nat → Nat) (sz : Nat) (y0 : Int32) : Met l y_Cutter_isBlank w_Cutter_isBlank ({ frames := 0, cells := 0, slots := 0, locals := 0 }) (va_Pc [.int y0] (fun U => U.heap.size = sz ∧ va_P (dC, dI) vcl [] U.heap ∧ va_K (dC, dI) vcl [] U ∧ va_D (fun _ => True) [])) (va_Qi (fun (r : Int32) (_ : Unit) => (r = 0 ∨ r = 1) ∧ (r = b01 (bkB y0))) (fun _ t => va_P (dC, dI) vcl [] t.heap ∧ va_K (dC, dI) vcl [] t ∧ va_D (va_A [] sz) []) (va_A [] sz)) 0 0 (va_A [] sz) := by
  refine Met.ofW (cc := b_Cutter_isBlank) (maxL := 1) (ret := (some .boolean)) (by decide) rfl ?_
  intro p e s m args below meth c s₁ B hml hv
  obtain ⟨rfl, hsz, hP, hK, hD0⟩ := hv
  have hx := B.exec
  have hb := B.bytes
  have hr := B.returns
  have hts := atoms_spec (ws := w_Cutter_isBlank) B.pre
  have hz : ∀ w ∈ wz, w.before _ s = true := fun w h => hts w (List.mem_cons_of_mem _ h)
  have hown : s.vm.findClass R_Cutter = some m.cls := findClass_of_methodNamed B.named
  have hlocks := B.notSynchronized
  subst hsz
  have hD := hD0.self (sz := s.heap.size)
  generalize hAe : va_A [] s.heap.size = A at hD ⊢
  have hA : ∀ q : Nat, s.heap.size ≤ q → A q := fun q h => by rw [← hAe]; exact Or.inr h
  have hS : va_S A s.heap s.heap [] := va_S.rf
  have hP : va_P (dC, dI) vcl [] s.heap := hP
  have hl := lv_entry ([.int y0]) (n := 1) (Nat.le_of_ble_eq_true rfl)
  rw [lg_entry_eq]
  generalize (lg_sl ([.int y0]) ++ List.replicate (1 - (lg_sl ([.int y0])).length) Slot.unset).toArray = ls at hl ⊢
  have hl : lv_has ls 1 [(0, .int y0)] := hl
  refine lv_iload_n hx hb d_Cutter_isBlank_0 rfl (lv_at hl 0 rfl) ?_
  refine lv_bipush (v := 32) hx hb d_Cutter_isBlank_1 (by decide) ?_
  refine lv_icmp_eq (tgt := 12) hx hb d_Cutter_isBlank_3 (by decide) (fun h1 => ?_) (fun h1 => ?_)
  · refine lv_iconst (v := 1) hx hb d_Cutter_isBlank_12 (by decide) ?_
    refine lv_goto (tgt := 17) hx hb d_Cutter_isBlank_13 (by decide) ?_
    have hP9 := hP.sub (ws' := []) [] rfl
    have hD9 := hD.sub (ws' := []) [] (by decide) rfl
    exact W.zret (v := 1) hx hb hr (by decide +kernel) (fun t ht hW => ⟨⟨1, (), rfl, ⟨(by first | assumption | exact Or.inl rfl | exact Or.inr rfl), (by first | exact bk_1 (by assumption) | exact bk_2 (by assumption) | exact bk_0 (by assumption) (by assumption))⟩, by rw [ht]; exact hP9, va_K.moved hW.alike hK, hD9⟩, hS.F ht⟩) hS.2.2 d_Cutter_isBlank_17
  · refine lv_iload_n hx hb d_Cutter_isBlank_6 rfl (lv_at hl 0 rfl) ?_
    refine lv_bipush (v := 10) hx hb d_Cutter_isBlank_7 (by decide) ?_
    refine lv_icmp_ne (tgt := 16) hx hb d_Cutter_isBlank_9 (by decide) (fun h2 => ?_) (fun h2 => ?_)
    · refine lv_iconst (v := 0) hx hb d_Cutter_isBlank_16 (by decide) ?_
      have hP9 := hP.sub (ws' := []) [] rfl
      have hD9 := hD.sub (ws' := []) [] (by decide) rfl
      exact W.zret (v := 0) hx hb hr (by decide +kernel) (fun t ht hW => ⟨⟨0, (), rfl, ⟨(by first | assumption | exact Or.inl rfl | exact Or.inr rfl), (by first | exact bk_1 (by assumption) | exact bk_2 (by assumption) | exact bk_0 (by assumption) (by assumption))⟩, by rw [ht]; exact hP9, va_K.moved hW.alike hK, hD9⟩, hS.F ht⟩) hS.2.2 d_Cutter_isBlank_17
    · refine lv_iconst (v := 1) hx hb d_Cutter_isBlank_12 (by decide) ?_
      refine lv_goto (tgt := 17) hx hb d_Cutter_isBlank_13 (by decide) ?_
      have hP9 := hP.sub (ws' := []) [] rfl
      have hD9 := hD.sub (ws' := []) [] (by decide) rfl
      exact W.zret (v := 1) hx hb hr (by decide +kernel) (fun t ht hW => ⟨⟨1, (), rfl, ⟨(by first | assumption | exact Or.inl rfl | exact Or.inr rfl), (by first | exact bk_1 (by assumption) | exact bk_2 (by assumption) | exact bk_0 (by assumption) (by assumption))⟩, by rw [ht]; exact hP9, va_K.moved hW.alike hK, hD9⟩, hS.F ht⟩) hS.2.2 d_Cutter_isBlank_17
set_option maxHeartbeats 4000000 in
set_option maxRecDepth 100000 in
theorem s_Cutter_isDigit6 (l : Launch) (dC : Nat → ClassId) (dI : Nat → Nat → Nat) (sz : Nat) (y0 : Int32) : Met l y_Cutter_isDigit w_Cutter_isDigit ({ frames := 0, cells := 0, slots := 0, locals := 0 }) (va_Pc [.int y0] (fun U => U.heap.size = sz ∧ va_P (dC, dI) vcl [] U.heap ∧ va_K (dC, dI) vcl [] U ∧ va_D (fun _ => True) [])) (va_Qi (fun (r : Int32) (_ : Unit) => (r = 0 ∨ r = 1) ∧ (r = wi y0 48 57)) (fun _ t => va_P (dC, dI) vcl [] t.heap ∧ va_K (dC, dI) vcl [] t ∧ va_D (va_A [] sz) []) (va_A [] sz)) 0 0 (va_A [] sz) := by
  refine Met.ofW (cc := b_Cutter_isDigit) (maxL := 1) (ret := (some .boolean)) (by decide) rfl ?_
  intro p e s m args below meth c s₁ B hml hv
  obtain ⟨rfl, hsz, hP, hK, hD0⟩ := hv
  have hx := B.exec
  have hb := B.bytes
  have hr := B.returns
  have hts := atoms_spec (ws := w_Cutter_isDigit) B.pre
  have hz : ∀ w ∈ wz, w.before _ s = true := fun w h => hts w (List.mem_cons_of_mem _ h)
  have hown : s.vm.findClass R_Cutter = some m.cls := findClass_of_methodNamed B.named
  have hlocks := B.notSynchronized
  subst hsz
  have hD := hD0.self (sz := s.heap.size)
  generalize hAe : va_A [] s.heap.size = A at hD ⊢
  have hA : ∀ q : Nat, s.heap.size ≤ q → A q := fun q h => by rw [← hAe]; exact Or.inr h
  have hS : va_S A s.heap s.heap [] := va_S.rf
  have hP : va_P (dC, dI) vcl [] s.heap := hP
  have hl := lv_entry ([.int y0]) (n := 1) (Nat.le_of_ble_eq_true rfl)
  rw [lg_entry_eq]
  generalize (lg_sl ([.int y0]) ++ List.replicate (1 - (lg_sl ([.int y0])).length) Slot.unset).toArray = ls at hl ⊢
  have hl : lv_has ls 1 [(0, .int y0)] := hl
  refine lv_iload_n hx hb d_Cutter_isDigit_0 rfl (lv_at hl 0 rfl) ?_
  refine lv_bipush (v := 48) hx hb d_Cutter_isDigit_1 (by decide) ?_
  refine lv_icmp_lt (tgt := 16) hx hb d_Cutter_isDigit_3 (by decide) (fun h1 => ?_) (fun h1 => ?_)
  · refine lv_iconst (v := 0) hx hb d_Cutter_isDigit_16 (by decide) ?_
    have hP9 := hP.sub (ws' := []) [] rfl
    have hD9 := hD.sub (ws' := []) [] (by decide) rfl
    exact W.zret (v := 0) hx hb hr (by decide +kernel) (fun t ht hW => ⟨⟨0, (), rfl, ⟨(by first | assumption | exact Or.inl rfl | exact Or.inr rfl), (by unfold wi; simp [*])⟩, by rw [ht]; exact hP9, va_K.moved hW.alike hK, hD9⟩, hS.F ht⟩) hS.2.2 d_Cutter_isDigit_17
  · refine lv_iload_n hx hb d_Cutter_isDigit_6 rfl (lv_at hl 0 rfl) ?_
    refine lv_bipush (v := 57) hx hb d_Cutter_isDigit_7 (by decide) ?_
    refine lv_icmp_gt (tgt := 16) hx hb d_Cutter_isDigit_9 (by decide) (fun h2 => ?_) (fun h2 => ?_)
    · refine lv_iconst (v := 0) hx hb d_Cutter_isDigit_16 (by decide) ?_
      have hP9 := hP.sub (ws' := []) [] rfl
      have hD9 := hD.sub (ws' := []) [] (by decide) rfl
      exact W.zret (v := 0) hx hb hr (by decide +kernel) (fun t ht hW => ⟨⟨0, (), rfl, ⟨(by first | assumption | exact Or.inl rfl | exact Or.inr rfl), (by unfold wi; simp [*])⟩, by rw [ht]; exact hP9, va_K.moved hW.alike hK, hD9⟩, hS.F ht⟩) hS.2.2 d_Cutter_isDigit_17
    · refine lv_iconst (v := 1) hx hb d_Cutter_isDigit_12 (by decide) ?_
      refine lv_goto (tgt := 17) hx hb d_Cutter_isDigit_13 (by decide) ?_
      have hP9 := hP.sub (ws' := []) [] rfl
      have hD9 := hD.sub (ws' := []) [] (by decide) rfl
      exact W.zret (v := 1) hx hb hr (by decide +kernel) (fun t ht hW => ⟨⟨1, (), rfl, ⟨(by first | assumption | exact Or.inl rfl | exact Or.inr rfl), (by unfold wi; simp [*])⟩, by rw [ht]; exact hP9, va_K.moved hW.alike hK, hD9⟩, hS.F ht⟩) hS.2.2 d_Cutter_isDigit_17
set_option maxHeartbeats 4000000 in
set_option maxRecDepth 100000 in
theorem s_Cutter_isLetter6 (l : Launch) (dC : Nat → ClassId) (dI : Nat → Nat → Nat) (sz : Nat) (y0 : Int32) : Met l y_Cutter_isLetter w_Cutter_isLetter ({ frames := 0, cells := 0, slots := 0, locals := 0 }) (va_Pc [.int y0] (fun U => U.heap.size = sz ∧ va_P (dC, dI) vcl [] U.heap ∧ va_K (dC, dI) vcl [] U ∧ va_D (fun _ => True) [])) (va_Qi (fun (r : Int32) (_ : Unit) => (r = 0 ∨ r = 1) ∧ (r = lt_ y0)) (fun _ t => va_P (dC, dI) vcl [] t.heap ∧ va_K (dC, dI) vcl [] t ∧ va_D (va_A [] sz) []) (va_A [] sz)) 0 0 (va_A [] sz) := by
  refine Met.ofW (cc := b_Cutter_isLetter) (maxL := 1) (ret := (some .boolean)) (by decide) rfl ?_
  intro p e s m args below meth c s₁ B hml hv
  obtain ⟨rfl, hsz, hP, hK, hD0⟩ := hv
  have hx := B.exec
  have hb := B.bytes
  have hr := B.returns
  have hts := atoms_spec (ws := w_Cutter_isLetter) B.pre
  have hz : ∀ w ∈ wz, w.before _ s = true := fun w h => hts w (List.mem_cons_of_mem _ h)
  have hown : s.vm.findClass R_Cutter = some m.cls := findClass_of_methodNamed B.named
  have hlocks := B.notSynchronized
  subst hsz
  have hD := hD0.self (sz := s.heap.size)
  generalize hAe : va_A [] s.heap.size = A at hD ⊢
  have hA : ∀ q : Nat, s.heap.size ≤ q → A q := fun q h => by rw [← hAe]; exact Or.inr h
  have hS : va_S A s.heap s.heap [] := va_S.rf
  have hP : va_P (dC, dI) vcl [] s.heap := hP
  have hl := lv_entry ([.int y0]) (n := 1) (Nat.le_of_ble_eq_true rfl)
  rw [lg_entry_eq]
  generalize (lg_sl ([.int y0]) ++ List.replicate (1 - (lg_sl ([.int y0])).length) Slot.unset).toArray = ls at hl ⊢
  have hl : lv_has ls 1 [(0, .int y0)] := hl
  refine lv_iload_n hx hb d_Cutter_isLetter_0 rfl (lv_at hl 0 rfl) ?_
  refine lv_bipush (v := 97) hx hb d_Cutter_isLetter_1 (by decide) ?_
  refine lv_icmp_lt (tgt := 12) hx hb d_Cutter_isLetter_3 (by decide) (fun h1 => ?_) (fun h1 => ?_)
  · refine lv_iload_n hx hb d_Cutter_isLetter_12 rfl (lv_at hl 0 rfl) ?_
    refine lv_bipush (v := 65) hx hb d_Cutter_isLetter_13 (by decide) ?_
    refine lv_icmp_lt (tgt := 24) hx hb d_Cutter_isLetter_15 (by decide) (fun h2 => ?_) (fun h2 => ?_)
    · refine lv_iload_n hx hb d_Cutter_isLetter_24 rfl (lv_at hl 0 rfl) ?_
      refine lv_bipush (v := 95) hx hb d_Cutter_isLetter_25 (by decide) ?_
      refine lv_icmp_ne (tgt := 34) hx hb d_Cutter_isLetter_27 (by decide) (fun h3 => ?_) (fun h3 => ?_)
      · refine lv_iconst (v := 0) hx hb d_Cutter_isLetter_34 (by decide) ?_
        have hP9 := hP.sub (ws' := []) [] rfl
        have hD9 := hD.sub (ws' := []) [] (by decide) rfl
        exact W.zret (v := 0) hx hb hr (by decide +kernel) (fun t ht hW => ⟨⟨0, (), rfl, ⟨(by first | assumption | exact Or.inl rfl | exact Or.inr rfl), (by simp [lt_, wi, *])⟩, by rw [ht]; exact hP9, va_K.moved hW.alike hK, hD9⟩, hS.F ht⟩) hS.2.2 d_Cutter_isLetter_35
      · refine lv_iconst (v := 1) hx hb d_Cutter_isLetter_30 (by decide) ?_
        refine lv_goto (tgt := 35) hx hb d_Cutter_isLetter_31 (by decide) ?_
        have hP9 := hP.sub (ws' := []) [] rfl
        have hD9 := hD.sub (ws' := []) [] (by decide) rfl
        exact W.zret (v := 1) hx hb hr (by decide +kernel) (fun t ht hW => ⟨⟨1, (), rfl, ⟨(by first | assumption | exact Or.inl rfl | exact Or.inr rfl), (by simp [lt_, wi, *])⟩, by rw [ht]; exact hP9, va_K.moved hW.alike hK, hD9⟩, hS.F ht⟩) hS.2.2 d_Cutter_isLetter_35
    · refine lv_iload_n hx hb d_Cutter_isLetter_18 rfl (lv_at hl 0 rfl) ?_
      refine lv_bipush (v := 90) hx hb d_Cutter_isLetter_19 (by decide) ?_
      refine lv_icmp_le (tgt := 30) hx hb d_Cutter_isLetter_21 (by decide) (fun h4 => ?_) (fun h4 => ?_)
      · have e21 := Int32.not_lt.mpr h4
        refine lv_iconst (v := 1) hx hb d_Cutter_isLetter_30 (by decide) ?_
        refine lv_goto (tgt := 35) hx hb d_Cutter_isLetter_31 (by decide) ?_
        have hP9 := hP.sub (ws' := []) [] rfl
        have hD9 := hD.sub (ws' := []) [] (by decide) rfl
        exact W.zret (v := 1) hx hb hr (by decide +kernel) (fun t ht hW => ⟨⟨1, (), rfl, ⟨(by first | assumption | exact Or.inl rfl | exact Or.inr rfl), (by simp [lt_, wi, *])⟩, by rw [ht]; exact hP9, va_K.moved hW.alike hK, hD9⟩, hS.F ht⟩) hS.2.2 d_Cutter_isLetter_35
      · have e21 := Int32.not_le.mp h4
        refine lv_iload_n hx hb d_Cutter_isLetter_24 rfl (lv_at hl 0 rfl) ?_
        refine lv_bipush (v := 95) hx hb d_Cutter_isLetter_25 (by decide) ?_
        refine lv_icmp_ne (tgt := 34) hx hb d_Cutter_isLetter_27 (by decide) (fun h5 => ?_) (fun h5 => ?_)
        · refine lv_iconst (v := 0) hx hb d_Cutter_isLetter_34 (by decide) ?_
          have hP9 := hP.sub (ws' := []) [] rfl
          have hD9 := hD.sub (ws' := []) [] (by decide) rfl
          exact W.zret (v := 0) hx hb hr (by decide +kernel) (fun t ht hW => ⟨⟨0, (), rfl, ⟨(by first | assumption | exact Or.inl rfl | exact Or.inr rfl), (by simp [lt_, wi, *])⟩, by rw [ht]; exact hP9, va_K.moved hW.alike hK, hD9⟩, hS.F ht⟩) hS.2.2 d_Cutter_isLetter_35
        · refine lv_iconst (v := 1) hx hb d_Cutter_isLetter_30 (by decide) ?_
          refine lv_goto (tgt := 35) hx hb d_Cutter_isLetter_31 (by decide) ?_
          have hP9 := hP.sub (ws' := []) [] rfl
          have hD9 := hD.sub (ws' := []) [] (by decide) rfl
          exact W.zret (v := 1) hx hb hr (by decide +kernel) (fun t ht hW => ⟨⟨1, (), rfl, ⟨(by first | assumption | exact Or.inl rfl | exact Or.inr rfl), (by simp [lt_, wi, *])⟩, by rw [ht]; exact hP9, va_K.moved hW.alike hK, hD9⟩, hS.F ht⟩) hS.2.2 d_Cutter_isLetter_35
  · refine lv_iload_n hx hb d_Cutter_isLetter_6 rfl (lv_at hl 0 rfl) ?_
    refine lv_bipush (v := 122) hx hb d_Cutter_isLetter_7 (by decide) ?_
    refine lv_icmp_le (tgt := 30) hx hb d_Cutter_isLetter_9 (by decide) (fun h6 => ?_) (fun h6 => ?_)
    · have e9 := Int32.not_lt.mpr h6
      refine lv_iconst (v := 1) hx hb d_Cutter_isLetter_30 (by decide) ?_
      refine lv_goto (tgt := 35) hx hb d_Cutter_isLetter_31 (by decide) ?_
      have hP9 := hP.sub (ws' := []) [] rfl
      have hD9 := hD.sub (ws' := []) [] (by decide) rfl
      exact W.zret (v := 1) hx hb hr (by decide +kernel) (fun t ht hW => ⟨⟨1, (), rfl, ⟨(by first | assumption | exact Or.inl rfl | exact Or.inr rfl), (by simp [lt_, wi, *])⟩, by rw [ht]; exact hP9, va_K.moved hW.alike hK, hD9⟩, hS.F ht⟩) hS.2.2 d_Cutter_isLetter_35
    · have e9 := Int32.not_le.mp h6
      refine lv_iload_n hx hb d_Cutter_isLetter_12 rfl (lv_at hl 0 rfl) ?_
      refine lv_bipush (v := 65) hx hb d_Cutter_isLetter_13 (by decide) ?_
      refine lv_icmp_lt (tgt := 24) hx hb d_Cutter_isLetter_15 (by decide) (fun h7 => ?_) (fun h7 => ?_)
      · refine lv_iload_n hx hb d_Cutter_isLetter_24 rfl (lv_at hl 0 rfl) ?_
        refine lv_bipush (v := 95) hx hb d_Cutter_isLetter_25 (by decide) ?_
        refine lv_icmp_ne (tgt := 34) hx hb d_Cutter_isLetter_27 (by decide) (fun h8 => ?_) (fun h8 => ?_)
        · refine lv_iconst (v := 0) hx hb d_Cutter_isLetter_34 (by decide) ?_
          have hP9 := hP.sub (ws' := []) [] rfl
          have hD9 := hD.sub (ws' := []) [] (by decide) rfl
          exact W.zret (v := 0) hx hb hr (by decide +kernel) (fun t ht hW => ⟨⟨0, (), rfl, ⟨(by first | assumption | exact Or.inl rfl | exact Or.inr rfl), (by simp [lt_, wi, *])⟩, by rw [ht]; exact hP9, va_K.moved hW.alike hK, hD9⟩, hS.F ht⟩) hS.2.2 d_Cutter_isLetter_35
        · refine lv_iconst (v := 1) hx hb d_Cutter_isLetter_30 (by decide) ?_
          refine lv_goto (tgt := 35) hx hb d_Cutter_isLetter_31 (by decide) ?_
          have hP9 := hP.sub (ws' := []) [] rfl
          have hD9 := hD.sub (ws' := []) [] (by decide) rfl
          exact W.zret (v := 1) hx hb hr (by decide +kernel) (fun t ht hW => ⟨⟨1, (), rfl, ⟨(by first | assumption | exact Or.inl rfl | exact Or.inr rfl), (by simp [lt_, wi, *])⟩, by rw [ht]; exact hP9, va_K.moved hW.alike hK, hD9⟩, hS.F ht⟩) hS.2.2 d_Cutter_isLetter_35
      · refine lv_iload_n hx hb d_Cutter_isLetter_18 rfl (lv_at hl 0 rfl) ?_
        refine lv_bipush (v := 90) hx hb d_Cutter_isLetter_19 (by decide) ?_
        refine lv_icmp_le (tgt := 30) hx hb d_Cutter_isLetter_21 (by decide) (fun h9 => ?_) (fun h9 => ?_)
        · have e21 := Int32.not_lt.mpr h9
          refine lv_iconst (v := 1) hx hb d_Cutter_isLetter_30 (by decide) ?_
          refine lv_goto (tgt := 35) hx hb d_Cutter_isLetter_31 (by decide) ?_
          have hP9 := hP.sub (ws' := []) [] rfl
          have hD9 := hD.sub (ws' := []) [] (by decide) rfl
          exact W.zret (v := 1) hx hb hr (by decide +kernel) (fun t ht hW => ⟨⟨1, (), rfl, ⟨(by first | assumption | exact Or.inl rfl | exact Or.inr rfl), (by simp [lt_, wi, *])⟩, by rw [ht]; exact hP9, va_K.moved hW.alike hK, hD9⟩, hS.F ht⟩) hS.2.2 d_Cutter_isLetter_35
        · have e21 := Int32.not_le.mp h9
          refine lv_iload_n hx hb d_Cutter_isLetter_24 rfl (lv_at hl 0 rfl) ?_
          refine lv_bipush (v := 95) hx hb d_Cutter_isLetter_25 (by decide) ?_
          refine lv_icmp_ne (tgt := 34) hx hb d_Cutter_isLetter_27 (by decide) (fun h10 => ?_) (fun h10 => ?_)
          · refine lv_iconst (v := 0) hx hb d_Cutter_isLetter_34 (by decide) ?_
            have hP9 := hP.sub (ws' := []) [] rfl
            have hD9 := hD.sub (ws' := []) [] (by decide) rfl
            exact W.zret (v := 0) hx hb hr (by decide +kernel) (fun t ht hW => ⟨⟨0, (), rfl, ⟨(by first | assumption | exact Or.inl rfl | exact Or.inr rfl), (by simp [lt_, wi, *])⟩, by rw [ht]; exact hP9, va_K.moved hW.alike hK, hD9⟩, hS.F ht⟩) hS.2.2 d_Cutter_isLetter_35
          · refine lv_iconst (v := 1) hx hb d_Cutter_isLetter_30 (by decide) ?_
            refine lv_goto (tgt := 35) hx hb d_Cutter_isLetter_31 (by decide) ?_
            have hP9 := hP.sub (ws' := []) [] rfl
            have hD9 := hD.sub (ws' := []) [] (by decide) rfl
            exact W.zret (v := 1) hx hb hr (by decide +kernel) (fun t ht hW => ⟨⟨1, (), rfl, ⟨(by first | assumption | exact Or.inl rfl | exact Or.inr rfl), (by simp [lt_, wi, *])⟩, by rw [ht]; exact hP9, va_K.moved hW.alike hK, hD9⟩, hS.F ht⟩) hS.2.2 d_Cutter_isLetter_35
set_option maxHeartbeats 4000000 in
set_option maxRecDepth 100000 in
theorem s_Cutter_opensComment6 (l : Launch) (dC : Nat → ClassId) (dI : Nat → Nat → Nat) (sz : Nat) (a_y0 : Nat) (a_y0_characters : Nat) (f_y0_characters : Nat → Int32) (n_y0_length : Nat) (y1 : Nat) (ka_y0_characters : ClassId) (c_y0_characters : ∀ j, narrow .char (.int (f_y0_characters j)) = .int (f_y0_characters j)) (b_y0_length : n_y0_length ≤ 240) (by1 : y1 ≤ 241) : Met l y_Cutter_opensComment w_Cutter_opensComment ({ frames := 1, cells := 0, slots := 0, locals := 21 }) (va_Pc [.ref a_y0, .int (nI y1)] (fun U => U.heap.size = sz ∧ va_P (dC, dI) vcl [(a_y0, .inr (10, [.ref a_y0_characters, .int (nI n_y0_length)])), (a_y0_characters, .inl (ka_y0_characters, 240, .inl f_y0_characters))] U.heap ∧ va_K (dC, dI) vcl [(ka_y0_characters, .char)] U ∧ va_D (fun _ => True) [(a_y0, .inr (10, [.ref a_y0_characters, .int (nI n_y0_length)])), (a_y0_characters, .inl (ka_y0_characters, 240, .inl f_y0_characters))])) (va_Qi (fun (r : Int32) (_ : Unit) => (r = 0 ∨ r = 1) ∧ (r = b01 (opC (cN f_y0_characters n_y0_length) n_y0_length y1))) (fun _ t => va_P (dC, dI) vcl [(a_y0, .inr (10, [.ref a_y0_characters, .int (nI n_y0_length)])), (a_y0_characters, .inl (ka_y0_characters, 240, .inl f_y0_characters))] t.heap ∧ va_K (dC, dI) vcl [(ka_y0_characters, .char)] t ∧ va_D (va_A [(a_y0, .inr (10, [.ref a_y0_characters, .int (nI n_y0_length)])), (a_y0_characters, .inl (ka_y0_characters, 240, .inl f_y0_characters))] sz) [(a_y0, .inr (10, [.ref a_y0_characters, .int (nI n_y0_length)])), (a_y0_characters, .inl (ka_y0_characters, 240, .inl f_y0_characters))]) (va_A [(a_y0, .inr (10, [.ref a_y0_characters, .int (nI n_y0_length)])), (a_y0_characters, .inl (ka_y0_characters, 240, .inl f_y0_characters))] sz)) 0 0 (va_A [(a_y0, .inr (10, [.ref a_y0_characters, .int (nI n_y0_length)])), (a_y0_characters, .inl (ka_y0_characters, 240, .inl f_y0_characters))] sz) := by
  refine Met.ofW (cc := b_Cutter_opensComment) (maxL := 2) (ret := (some .boolean)) (by decide) rfl ?_
  intro p e s m args below meth c s₁ B hml hv
  obtain ⟨rfl, hsz, hP, hK, hD0⟩ := hv
  have hx := B.exec
  have hb := B.bytes
  have hr := B.returns
  have hts := atoms_spec (ws := w_Cutter_opensComment) B.pre
  have hz : ∀ w ∈ wz, w.before _ s = true := fun w h => hts w (List.mem_cons_of_mem _ h)
  have hown : s.vm.findClass R_Cutter = some m.cls := findClass_of_methodNamed B.named
  have hlocks := B.notSynchronized
  subst hsz
  have hD := hD0.self (sz := s.heap.size)
  generalize hAe : va_A [(a_y0, .inr (10, [.ref a_y0_characters, .int (nI n_y0_length)])), (a_y0_characters, .inl (ka_y0_characters, 240, .inl f_y0_characters))] s.heap.size = A at hD ⊢
  have hA : ∀ q : Nat, s.heap.size ≤ q → A q := fun q h => by rw [← hAe]; exact Or.inr h
  have hS : va_S A s.heap s.heap [] := va_S.rf
  have hP : va_P (dC, dI) vcl [(a_y0, .inr (10, [.ref a_y0_characters, .int (nI n_y0_length)])), (a_y0_characters, .inl (ka_y0_characters, 240, .inl f_y0_characters))] s.heap := hP
  have hl := lv_entry ([.ref a_y0, .int (nI y1)]) (n := 2) (Nat.le_of_ble_eq_true rfl)
  rw [lg_entry_eq]
  generalize (lg_sl ([.ref a_y0, .int (nI y1)]) ++ List.replicate (2 - (lg_sl ([.ref a_y0, .int (nI y1)])).length) Slot.unset).toArray = ls at hl ⊢
  have hl : lv_has ls 2 [(0, .ref a_y0), (1, .int (nI y1))] := hl
  refine lv_aload_n hx hb d_Cutter_opensComment_0 rfl (lv_at hl 0 rfl) ?_
  refine lv_iload_n hx hb d_Cutter_opensComment_1 rfl (lv_at hl 1 rfl) ?_
  have hPc := hP.sub (ws' := [(a_y0, .inr (10, [.ref a_y0_characters, .int (nI n_y0_length)])), (a_y0_characters, .inl (ka_y0_characters, 240, .inl f_y0_characters))]) [0, 1] rfl
  have hDc := hD.sub (ws' := [(a_y0, .inr (10, [.ref a_y0_characters, .int (nI n_y0_length)])), (a_y0_characters, .inl (ka_y0_characters, 240, .inl f_y0_characters))]) [0, 1] (by decide) rfl
  have hKc := hK.sub (tys' := [(ka_y0_characters, .char)]) [0] rfl
  have hFc := va_free (wc := [(a_y0, .inr (10, [.ref a_y0_characters, .int (nI n_y0_length)])), (a_y0_characters, .inl (ka_y0_characters, 240, .inl f_y0_characters))]) hD hS hA [0, 1] rfl
  refine va_calli (va_runV (As := [.int (nI y1)]) (rest := []) ⟨hx, hb, hml, hown, hz⟩ (s_Text_at6 l dC dI s.heap.size a_y0 a_y0_characters f_y0_characters n_y0_length y1 ka_y0_characters (by first | omega | assumption | exact Or.inl rfl | exact Or.inr rfl) (by first | omega | assumption | exact Or.inl rfl | exact Or.inr rfl) (by first | omega | assumption | exact Or.inl rfl | exact Or.inr rfl)) (cwV 1 hz (zV zm_89 zm_11 zm_12 zm_7 zm_13) rfl rfl rfl (by decide +kernel) ⟨Nat.le_of_ble_eq_true rfl, Nat.le_of_ble_eq_true rfl⟩) ⟨fun a U g mk q => by obtain ⟨q0, q1, qP, qK, qD⟩ := q; exact ⟨q0, q1, qP, va_K.moved (u := U) (U := U.calling g mk a) (Vm.Alike.refl U.vm) qK, qD⟩, va_recv (q := (R_Text, F_Text, 2)) (q0 := 0) (ci := 10) hK hP rfl rfl, fun U hU hW => ⟨rfl, by rw [hU], by rw [hU]; exact hPc, va_K.moved hW.alike hKc, hDc.weaken (fun _ _ _ _ => trivial)⟩⟩ rfl rfl hl.1 rfl (lv_room (Nat.le_of_ble_eq_true rfl)) d_Cutter_opensComment_2 ⟨Nat.zero_le _, Nat.zero_le _⟩) hS (fun q _ h => hFc q h) hFc (fun r u t H1 locs ht hvm hw hB hz1 hk1 hS => ?_)
  obtain ⟨hP1, hK1, hD1⟩ := hB
  subst r
  rw [ht] at hP1
  obtain ⟨hP, hD⟩ := va_join (wr := []) (w1 := [(a_y0, .inr (10, [.ref a_y0_characters, .int (nI n_y0_length)])), (a_y0_characters, .inl (ka_y0_characters, 240, .inl f_y0_characters))]) hP hD [0, 1] [] rfl rfl (by decide) (by decide) hk1 hFc hP1 hD1
  generalize H1 = H at hP hS ⊢
  have hP : va_P (dC, dI) vcl [(a_y0, .inr (10, [.ref a_y0_characters, .int (nI n_y0_length)])), (a_y0_characters, .inl (ka_y0_characters, 240, .inl f_y0_characters))] H := hP
  have hD : va_D A [(a_y0, .inr (10, [.ref a_y0_characters, .int (nI n_y0_length)])), (a_y0_characters, .inl (ka_y0_characters, 240, .inl f_y0_characters))] := hD
  refine lv_bipush (v := 123) hx hb d_Cutter_opensComment_5 (by decide) ?_
  refine lv_icmp_ne (tgt := 26) hx hb d_Cutter_opensComment_7 (by decide) (fun h1 => ?_) (fun h1 => ?_)
  · refine lv_iconst (v := 0) hx hb d_Cutter_opensComment_26 (by decide) ?_
    have hP9 := hP.sub (ws' := [(a_y0, .inr (10, [.ref a_y0_characters, .int (nI n_y0_length)])), (a_y0_characters, .inl (ka_y0_characters, 240, .inl f_y0_characters))]) [0, 1] rfl
    have hD9 := hD.sub (ws' := [(a_y0, .inr (10, [.ref a_y0_characters, .int (nI n_y0_length)])), (a_y0_characters, .inl (ka_y0_characters, 240, .inl f_y0_characters))]) [0, 1] (by decide) rfl
    exact W.zret (v := 0) hx hb hr (by decide +kernel) (fun t ht hW => ⟨⟨0, (), rfl, ⟨(by first | assumption | exact Or.inl rfl | exact Or.inr rfl), (by first | exact b1_t (oK_t (by assumption) (by assumption)) | exact b1_f (oK_1 (by assumption)) | exact b1_f (oK_2 (by assumption)))⟩, by rw [ht]; exact hP9, va_K.moved hW.alike hK, hD9⟩, hS.F ht⟩) hS.2.2 d_Cutter_opensComment_27
  · refine lv_aload_n hx hb d_Cutter_opensComment_10 rfl (lv_at hl 0 rfl) ?_
    refine lv_iload_n hx hb d_Cutter_opensComment_11 rfl (lv_at hl 1 rfl) ?_
    refine lv_iconst (v := 1) hx hb d_Cutter_opensComment_12 (by decide) ?_
    refine xr_iadd (v := (nI (y1 + 1))) hx hb d_Cutter_opensComment_13 (nI_add y1 1) ?_
    have hPc := hP.sub (ws' := [(a_y0, .inr (10, [.ref a_y0_characters, .int (nI n_y0_length)])), (a_y0_characters, .inl (ka_y0_characters, 240, .inl f_y0_characters))]) [0, 1] rfl
    have hDc := hD.sub (ws' := [(a_y0, .inr (10, [.ref a_y0_characters, .int (nI n_y0_length)])), (a_y0_characters, .inl (ka_y0_characters, 240, .inl f_y0_characters))]) [0, 1] (by decide) rfl
    have hKc := hK.sub (tys' := [(ka_y0_characters, .char)]) [0] rfl
    have hFc := va_free (wc := [(a_y0, .inr (10, [.ref a_y0_characters, .int (nI n_y0_length)])), (a_y0_characters, .inl (ka_y0_characters, 240, .inl f_y0_characters))]) hD hS hA [0, 1] rfl
    refine va_calli (va_runV (As := [.int (nI (y1 + 1))]) (rest := []) ⟨hx, hb, hml, hown, hz⟩ (s_Text_at6 l dC dI H.size a_y0 a_y0_characters f_y0_characters n_y0_length ((y1 + 1)) ka_y0_characters (by first | omega | assumption | exact Or.inl rfl | exact Or.inr rfl) (by first | omega | assumption | exact Or.inl rfl | exact Or.inr rfl) (by first | omega | assumption | exact Or.inl rfl | exact Or.inr rfl)) (cwV 1 hz (zV zm_89 zm_11 zm_12 zm_7 zm_13) rfl rfl rfl (by decide +kernel) ⟨Nat.le_of_ble_eq_true rfl, Nat.le_of_ble_eq_true rfl⟩) ⟨fun a U g mk q => by obtain ⟨q0, q1, qP, qK, qD⟩ := q; exact ⟨q0, q1, qP, va_K.moved (u := U) (U := U.calling g mk a) (Vm.Alike.refl U.vm) qK, qD⟩, va_recv (q := (R_Text, F_Text, 2)) (q0 := 0) (ci := 10) hK hP rfl rfl, fun U hU hW => ⟨rfl, by rw [hU], by rw [hU]; exact hPc, va_K.moved hW.alike hKc, hDc.weaken (fun _ _ _ _ => trivial)⟩⟩ rfl rfl hl.1 rfl (lv_room (Nat.le_of_ble_eq_true rfl)) d_Cutter_opensComment_14 ⟨Nat.zero_le _, Nat.zero_le _⟩) hS (fun q _ h => hFc q h) hFc (fun r u t H1 locs ht hvm hw hB hz1 hk1 hS => ?_)
    obtain ⟨hP1, hK1, hD1⟩ := hB
    subst r
    rw [ht] at hP1
    obtain ⟨hP, hD⟩ := va_join (wr := []) (w1 := [(a_y0, .inr (10, [.ref a_y0_characters, .int (nI n_y0_length)])), (a_y0_characters, .inl (ka_y0_characters, 240, .inl f_y0_characters))]) hP hD [0, 1] [] rfl rfl (by decide) (by decide) hk1 hFc hP1 hD1
    generalize H1 = H at hP hS ⊢
    have hP : va_P (dC, dI) vcl [(a_y0, .inr (10, [.ref a_y0_characters, .int (nI n_y0_length)])), (a_y0_characters, .inl (ka_y0_characters, 240, .inl f_y0_characters))] H := hP
    have hD : va_D A [(a_y0, .inr (10, [.ref a_y0_characters, .int (nI n_y0_length)])), (a_y0_characters, .inl (ka_y0_characters, 240, .inl f_y0_characters))] := hD
    refine lv_bipush (v := 45) hx hb d_Cutter_opensComment_17 (by decide) ?_
    refine lv_icmp_ne (tgt := 26) hx hb d_Cutter_opensComment_19 (by decide) (fun h2 => ?_) (fun h2 => ?_)
    · refine lv_iconst (v := 0) hx hb d_Cutter_opensComment_26 (by decide) ?_
      have hP9 := hP.sub (ws' := [(a_y0, .inr (10, [.ref a_y0_characters, .int (nI n_y0_length)])), (a_y0_characters, .inl (ka_y0_characters, 240, .inl f_y0_characters))]) [0, 1] rfl
      have hD9 := hD.sub (ws' := [(a_y0, .inr (10, [.ref a_y0_characters, .int (nI n_y0_length)])), (a_y0_characters, .inl (ka_y0_characters, 240, .inl f_y0_characters))]) [0, 1] (by decide) rfl
      exact W.zret (v := 0) hx hb hr (by decide +kernel) (fun t ht hW => ⟨⟨0, (), rfl, ⟨(by first | assumption | exact Or.inl rfl | exact Or.inr rfl), (by first | exact b1_t (oK_t (by assumption) (by assumption)) | exact b1_f (oK_1 (by assumption)) | exact b1_f (oK_2 (by assumption)))⟩, by rw [ht]; exact hP9, va_K.moved hW.alike hK, hD9⟩, hS.F ht⟩) hS.2.2 d_Cutter_opensComment_27
    · refine lv_iconst (v := 1) hx hb d_Cutter_opensComment_22 (by decide) ?_
      refine lv_goto (tgt := 27) hx hb d_Cutter_opensComment_23 (by decide) ?_
      have hP9 := hP.sub (ws' := [(a_y0, .inr (10, [.ref a_y0_characters, .int (nI n_y0_length)])), (a_y0_characters, .inl (ka_y0_characters, 240, .inl f_y0_characters))]) [0, 1] rfl
      have hD9 := hD.sub (ws' := [(a_y0, .inr (10, [.ref a_y0_characters, .int (nI n_y0_length)])), (a_y0_characters, .inl (ka_y0_characters, 240, .inl f_y0_characters))]) [0, 1] (by decide) rfl
      exact W.zret (v := 1) hx hb hr (by decide +kernel) (fun t ht hW => ⟨⟨1, (), rfl, ⟨(by first | assumption | exact Or.inl rfl | exact Or.inr rfl), (by first | exact b1_t (oK_t (by assumption) (by assumption)) | exact b1_f (oK_1 (by assumption)) | exact b1_f (oK_2 (by assumption)))⟩, by rw [ht]; exact hP9, va_K.moved hW.alike hK, hD9⟩, hS.F ht⟩) hS.2.2 d_Cutter_opensComment_27
set_option maxHeartbeats 4000000 in
set_option maxRecDepth 100000 in
theorem s_Cutter_closesComment6 (l : Launch) (dC : Nat → ClassId) (dI : Nat → Nat → Nat) (sz : Nat) (a_y0 : Nat) (a_y0_characters : Nat) (f_y0_characters : Nat → Int32) (n_y0_length : Nat) (y1 : Nat) (ka_y0_characters : ClassId) (c_y0_characters : ∀ j, narrow .char (.int (f_y0_characters j)) = .int (f_y0_characters j)) (b_y0_length : n_y0_length ≤ 240) (by1 : y1 ≤ 241) : Met l y_Cutter_closesComment w_Cutter_closesComment ({ frames := 1, cells := 0, slots := 0, locals := 21 }) (va_Pc [.ref a_y0, .int (nI y1)] (fun U => U.heap.size = sz ∧ va_P (dC, dI) vcl [(a_y0, .inr (10, [.ref a_y0_characters, .int (nI n_y0_length)])), (a_y0_characters, .inl (ka_y0_characters, 240, .inl f_y0_characters))] U.heap ∧ va_K (dC, dI) vcl [(ka_y0_characters, .char)] U ∧ va_D (fun _ => True) [(a_y0, .inr (10, [.ref a_y0_characters, .int (nI n_y0_length)])), (a_y0_characters, .inl (ka_y0_characters, 240, .inl f_y0_characters))])) (va_Qi (fun (r : Int32) (_ : Unit) => (r = 0 ∨ r = 1) ∧ (r = b01 (clC (cN f_y0_characters n_y0_length) n_y0_length y1))) (fun _ t => va_P (dC, dI) vcl [(a_y0, .inr (10, [.ref a_y0_characters, .int (nI n_y0_length)])), (a_y0_characters, .inl (ka_y0_characters, 240, .inl f_y0_characters))] t.heap ∧ va_K (dC, dI) vcl [(ka_y0_characters, .char)] t ∧ va_D (va_A [(a_y0, .inr (10, [.ref a_y0_characters, .int (nI n_y0_length)])), (a_y0_characters, .inl (ka_y0_characters, 240, .inl f_y0_characters))] sz) [(a_y0, .inr (10, [.ref a_y0_characters, .int (nI n_y0_length)])), (a_y0_characters, .inl (ka_y0_characters, 240, .inl f_y0_characters))]) (va_A [(a_y0, .inr (10, [.ref a_y0_characters, .int (nI n_y0_length)])), (a_y0_characters, .inl (ka_y0_characters, 240, .inl f_y0_characters))] sz)) 0 0 (va_A [(a_y0, .inr (10, [.ref a_y0_characters, .int (nI n_y0_length)])), (a_y0_characters, .inl (ka_y0_characters, 240, .inl f_y0_characters))] sz) := by
  refine Met.ofW (cc := b_Cutter_closesComment) (maxL := 2) (ret := (some .boolean)) (by decide) rfl ?_
  intro p e s m args below meth c s₁ B hml hv
  obtain ⟨rfl, hsz, hP, hK, hD0⟩ := hv
  have hx := B.exec
  have hb := B.bytes
  have hr := B.returns
  have hts := atoms_spec (ws := w_Cutter_closesComment) B.pre
  have hz : ∀ w ∈ wz, w.before _ s = true := fun w h => hts w (List.mem_cons_of_mem _ h)
  have hown : s.vm.findClass R_Cutter = some m.cls := findClass_of_methodNamed B.named
  have hlocks := B.notSynchronized
  subst hsz
  have hD := hD0.self (sz := s.heap.size)
  generalize hAe : va_A [(a_y0, .inr (10, [.ref a_y0_characters, .int (nI n_y0_length)])), (a_y0_characters, .inl (ka_y0_characters, 240, .inl f_y0_characters))] s.heap.size = A at hD ⊢
  have hA : ∀ q : Nat, s.heap.size ≤ q → A q := fun q h => by rw [← hAe]; exact Or.inr h
  have hS : va_S A s.heap s.heap [] := va_S.rf
  have hP : va_P (dC, dI) vcl [(a_y0, .inr (10, [.ref a_y0_characters, .int (nI n_y0_length)])), (a_y0_characters, .inl (ka_y0_characters, 240, .inl f_y0_characters))] s.heap := hP
  have hl := lv_entry ([.ref a_y0, .int (nI y1)]) (n := 2) (Nat.le_of_ble_eq_true rfl)
  rw [lg_entry_eq]
  generalize (lg_sl ([.ref a_y0, .int (nI y1)]) ++ List.replicate (2 - (lg_sl ([.ref a_y0, .int (nI y1)])).length) Slot.unset).toArray = ls at hl ⊢
  have hl : lv_has ls 2 [(0, .ref a_y0), (1, .int (nI y1))] := hl
  refine lv_aload_n hx hb d_Cutter_closesComment_0 rfl (lv_at hl 0 rfl) ?_
  refine lv_iload_n hx hb d_Cutter_closesComment_1 rfl (lv_at hl 1 rfl) ?_
  have hPc := hP.sub (ws' := [(a_y0, .inr (10, [.ref a_y0_characters, .int (nI n_y0_length)])), (a_y0_characters, .inl (ka_y0_characters, 240, .inl f_y0_characters))]) [0, 1] rfl
  have hDc := hD.sub (ws' := [(a_y0, .inr (10, [.ref a_y0_characters, .int (nI n_y0_length)])), (a_y0_characters, .inl (ka_y0_characters, 240, .inl f_y0_characters))]) [0, 1] (by decide) rfl
  have hKc := hK.sub (tys' := [(ka_y0_characters, .char)]) [0] rfl
  have hFc := va_free (wc := [(a_y0, .inr (10, [.ref a_y0_characters, .int (nI n_y0_length)])), (a_y0_characters, .inl (ka_y0_characters, 240, .inl f_y0_characters))]) hD hS hA [0, 1] rfl
  refine va_calli (va_runV (As := [.int (nI y1)]) (rest := []) ⟨hx, hb, hml, hown, hz⟩ (s_Text_at6 l dC dI s.heap.size a_y0 a_y0_characters f_y0_characters n_y0_length y1 ka_y0_characters (by first | omega | assumption | exact Or.inl rfl | exact Or.inr rfl) (by first | omega | assumption | exact Or.inl rfl | exact Or.inr rfl) (by first | omega | assumption | exact Or.inl rfl | exact Or.inr rfl)) (cwV 1 hz (zV zm_89 zm_11 zm_12 zm_7 zm_13) rfl rfl rfl (by decide +kernel) ⟨Nat.le_of_ble_eq_true rfl, Nat.le_of_ble_eq_true rfl⟩) ⟨fun a U g mk q => by obtain ⟨q0, q1, qP, qK, qD⟩ := q; exact ⟨q0, q1, qP, va_K.moved (u := U) (U := U.calling g mk a) (Vm.Alike.refl U.vm) qK, qD⟩, va_recv (q := (R_Text, F_Text, 2)) (q0 := 0) (ci := 10) hK hP rfl rfl, fun U hU hW => ⟨rfl, by rw [hU], by rw [hU]; exact hPc, va_K.moved hW.alike hKc, hDc.weaken (fun _ _ _ _ => trivial)⟩⟩ rfl rfl hl.1 rfl (lv_room (Nat.le_of_ble_eq_true rfl)) d_Cutter_closesComment_2 ⟨Nat.zero_le _, Nat.zero_le _⟩) hS (fun q _ h => hFc q h) hFc (fun r u t H1 locs ht hvm hw hB hz1 hk1 hS => ?_)
  obtain ⟨hP1, hK1, hD1⟩ := hB
  subst r
  rw [ht] at hP1
  obtain ⟨hP, hD⟩ := va_join (wr := []) (w1 := [(a_y0, .inr (10, [.ref a_y0_characters, .int (nI n_y0_length)])), (a_y0_characters, .inl (ka_y0_characters, 240, .inl f_y0_characters))]) hP hD [0, 1] [] rfl rfl (by decide) (by decide) hk1 hFc hP1 hD1
  generalize H1 = H at hP hS ⊢
  have hP : va_P (dC, dI) vcl [(a_y0, .inr (10, [.ref a_y0_characters, .int (nI n_y0_length)])), (a_y0_characters, .inl (ka_y0_characters, 240, .inl f_y0_characters))] H := hP
  have hD : va_D A [(a_y0, .inr (10, [.ref a_y0_characters, .int (nI n_y0_length)])), (a_y0_characters, .inl (ka_y0_characters, 240, .inl f_y0_characters))] := hD
  refine lv_bipush (v := 45) hx hb d_Cutter_closesComment_5 (by decide) ?_
  refine lv_icmp_ne (tgt := 26) hx hb d_Cutter_closesComment_7 (by decide) (fun h1 => ?_) (fun h1 => ?_)
  · refine lv_iconst (v := 0) hx hb d_Cutter_closesComment_26 (by decide) ?_
    have hP9 := hP.sub (ws' := [(a_y0, .inr (10, [.ref a_y0_characters, .int (nI n_y0_length)])), (a_y0_characters, .inl (ka_y0_characters, 240, .inl f_y0_characters))]) [0, 1] rfl
    have hD9 := hD.sub (ws' := [(a_y0, .inr (10, [.ref a_y0_characters, .int (nI n_y0_length)])), (a_y0_characters, .inl (ka_y0_characters, 240, .inl f_y0_characters))]) [0, 1] (by decide) rfl
    exact W.zret (v := 0) hx hb hr (by decide +kernel) (fun t ht hW => ⟨⟨0, (), rfl, ⟨(by first | assumption | exact Or.inl rfl | exact Or.inr rfl), (by first | exact b1_t (kK_t (by assumption) (by assumption)) | exact b1_f (kK_1 (by assumption)) | exact b1_f (kK_2 (by assumption)))⟩, by rw [ht]; exact hP9, va_K.moved hW.alike hK, hD9⟩, hS.F ht⟩) hS.2.2 d_Cutter_closesComment_27
  · refine lv_aload_n hx hb d_Cutter_closesComment_10 rfl (lv_at hl 0 rfl) ?_
    refine lv_iload_n hx hb d_Cutter_closesComment_11 rfl (lv_at hl 1 rfl) ?_
    refine lv_iconst (v := 1) hx hb d_Cutter_closesComment_12 (by decide) ?_
    refine xr_iadd (v := (nI (y1 + 1))) hx hb d_Cutter_closesComment_13 (nI_add y1 1) ?_
    have hPc := hP.sub (ws' := [(a_y0, .inr (10, [.ref a_y0_characters, .int (nI n_y0_length)])), (a_y0_characters, .inl (ka_y0_characters, 240, .inl f_y0_characters))]) [0, 1] rfl
    have hDc := hD.sub (ws' := [(a_y0, .inr (10, [.ref a_y0_characters, .int (nI n_y0_length)])), (a_y0_characters, .inl (ka_y0_characters, 240, .inl f_y0_characters))]) [0, 1] (by decide) rfl
    have hKc := hK.sub (tys' := [(ka_y0_characters, .char)]) [0] rfl
    have hFc := va_free (wc := [(a_y0, .inr (10, [.ref a_y0_characters, .int (nI n_y0_length)])), (a_y0_characters, .inl (ka_y0_characters, 240, .inl f_y0_characters))]) hD hS hA [0, 1] rfl
    refine va_calli (va_runV (As := [.int (nI (y1 + 1))]) (rest := []) ⟨hx, hb, hml, hown, hz⟩ (s_Text_at6 l dC dI H.size a_y0 a_y0_characters f_y0_characters n_y0_length ((y1 + 1)) ka_y0_characters (by first | omega | assumption | exact Or.inl rfl | exact Or.inr rfl) (by first | omega | assumption | exact Or.inl rfl | exact Or.inr rfl) (by first | omega | assumption | exact Or.inl rfl | exact Or.inr rfl)) (cwV 1 hz (zV zm_89 zm_11 zm_12 zm_7 zm_13) rfl rfl rfl (by decide +kernel) ⟨Nat.le_of_ble_eq_true rfl, Nat.le_of_ble_eq_true rfl⟩) ⟨fun a U g mk q => by obtain ⟨q0, q1, qP, qK, qD⟩ := q; exact ⟨q0, q1, qP, va_K.moved (u := U) (U := U.calling g mk a) (Vm.Alike.refl U.vm) qK, qD⟩, va_recv (q := (R_Text, F_Text, 2)) (q0 := 0) (ci := 10) hK hP rfl rfl, fun U hU hW => ⟨rfl, by rw [hU], by rw [hU]; exact hPc, va_K.moved hW.alike hKc, hDc.weaken (fun _ _ _ _ => trivial)⟩⟩ rfl rfl hl.1 rfl (lv_room (Nat.le_of_ble_eq_true rfl)) d_Cutter_closesComment_14 ⟨Nat.zero_le _, Nat.zero_le _⟩) hS (fun q _ h => hFc q h) hFc (fun r u t H1 locs ht hvm hw hB hz1 hk1 hS => ?_)
    obtain ⟨hP1, hK1, hD1⟩ := hB
    subst r
    rw [ht] at hP1
    obtain ⟨hP, hD⟩ := va_join (wr := []) (w1 := [(a_y0, .inr (10, [.ref a_y0_characters, .int (nI n_y0_length)])), (a_y0_characters, .inl (ka_y0_characters, 240, .inl f_y0_characters))]) hP hD [0, 1] [] rfl rfl (by decide) (by decide) hk1 hFc hP1 hD1
    generalize H1 = H at hP hS ⊢
    have hP : va_P (dC, dI) vcl [(a_y0, .inr (10, [.ref a_y0_characters, .int (nI n_y0_length)])), (a_y0_characters, .inl (ka_y0_characters, 240, .inl f_y0_characters))] H := hP
    have hD : va_D A [(a_y0, .inr (10, [.ref a_y0_characters, .int (nI n_y0_length)])), (a_y0_characters, .inl (ka_y0_characters, 240, .inl f_y0_characters))] := hD
    refine lv_bipush (v := 125) hx hb d_Cutter_closesComment_17 (by decide) ?_
    refine lv_icmp_ne (tgt := 26) hx hb d_Cutter_closesComment_19 (by decide) (fun h2 => ?_) (fun h2 => ?_)
    · refine lv_iconst (v := 0) hx hb d_Cutter_closesComment_26 (by decide) ?_
      have hP9 := hP.sub (ws' := [(a_y0, .inr (10, [.ref a_y0_characters, .int (nI n_y0_length)])), (a_y0_characters, .inl (ka_y0_characters, 240, .inl f_y0_characters))]) [0, 1] rfl
      have hD9 := hD.sub (ws' := [(a_y0, .inr (10, [.ref a_y0_characters, .int (nI n_y0_length)])), (a_y0_characters, .inl (ka_y0_characters, 240, .inl f_y0_characters))]) [0, 1] (by decide) rfl
      exact W.zret (v := 0) hx hb hr (by decide +kernel) (fun t ht hW => ⟨⟨0, (), rfl, ⟨(by first | assumption | exact Or.inl rfl | exact Or.inr rfl), (by first | exact b1_t (kK_t (by assumption) (by assumption)) | exact b1_f (kK_1 (by assumption)) | exact b1_f (kK_2 (by assumption)))⟩, by rw [ht]; exact hP9, va_K.moved hW.alike hK, hD9⟩, hS.F ht⟩) hS.2.2 d_Cutter_closesComment_27
    · refine lv_iconst (v := 1) hx hb d_Cutter_closesComment_22 (by decide) ?_
      refine lv_goto (tgt := 27) hx hb d_Cutter_closesComment_23 (by decide) ?_
      have hP9 := hP.sub (ws' := [(a_y0, .inr (10, [.ref a_y0_characters, .int (nI n_y0_length)])), (a_y0_characters, .inl (ka_y0_characters, 240, .inl f_y0_characters))]) [0, 1] rfl
      have hD9 := hD.sub (ws' := [(a_y0, .inr (10, [.ref a_y0_characters, .int (nI n_y0_length)])), (a_y0_characters, .inl (ka_y0_characters, 240, .inl f_y0_characters))]) [0, 1] (by decide) rfl
      exact W.zret (v := 1) hx hb hr (by decide +kernel) (fun t ht hW => ⟨⟨1, (), rfl, ⟨(by first | assumption | exact Or.inl rfl | exact Or.inr rfl), (by first | exact b1_t (kK_t (by assumption) (by assumption)) | exact b1_f (kK_1 (by assumption)) | exact b1_f (kK_2 (by assumption)))⟩, by rw [ht]; exact hP9, va_K.moved hW.alike hK, hD9⟩, hS.F ht⟩) hS.2.2 d_Cutter_closesComment_27
set_option maxHeartbeats 4000000 in
set_option maxRecDepth 100000 in
theorem s_Cutter_passCharacter6 (l : Launch) (dC : Nat → ClassId) (dI : Nat → Nat → Nat) (sz : Nat) (a_t : Nat) (a_lexemes : Nat) (n_at : Nat) (z_lineStart : Int32) (z_lineIsFresh : Int32) (z_wrongPlace : Int32) (z_tooMany : Int32) (y0 : Int32) (b_at : n_at ≤ 240) (b_tooMany : z_tooMany = 0 ∨ z_tooMany = 1) : Met l y_Cutter_passCharacter w_Cutter_passCharacter ({ frames := 0, cells := 0, slots := 0, locals := 0 }) (va_Pc [.ref a_t, .int y0] (fun U => U.heap.size = sz ∧ va_P (dC, dI) vcl [(a_t, .inr (3, [.ref a_lexemes, .int (nI n_at), .int z_lineStart, .int z_lineIsFresh, .int z_wrongPlace, .int z_tooMany]))] U.heap ∧ va_K (dC, dI) vcl [] U ∧ va_D (fun _ => True) [(a_t, .inr (3, [.ref a_lexemes, .int (nI n_at), .int z_lineStart, .int z_lineIsFresh, .int z_wrongPlace, .int z_tooMany]))])) (va_Qv (fun (_ : Unit) => True) (fun _ t => ∃ (w_n_at : Nat) (w_z_lineStart : Int32) (w_z_lineIsFresh : Int32), (w_n_at ≤ 241) ∧ (w_n_at = n_at + 1) ∧ (w_z_lineStart = if y0 = 10 then nI (n_at + 1) else z_lineStart) ∧ (w_z_lineIsFresh = if y0 = 10 then 1 else z_lineIsFresh) ∧ va_P (dC, dI) vcl [(a_t, .inr (3, [.ref a_lexemes, .int (nI w_n_at), .int w_z_lineStart, .int w_z_lineIsFresh, .int z_wrongPlace, .int z_tooMany]))] t.heap ∧ va_K (dC, dI) vcl [] t ∧ va_D (va_A [(a_t, .inr (3, [.ref a_lexemes, .int (nI n_at), .int z_lineStart, .int z_lineIsFresh, .int z_wrongPlace, .int z_tooMany]))] sz) [(a_t, .inr (3, [.ref a_lexemes, .int (nI w_n_at), .int w_z_lineStart, .int w_z_lineIsFresh, .int z_wrongPlace, .int z_tooMany]))]) (va_A [(a_t, .inr (3, [.ref a_lexemes, .int (nI n_at), .int z_lineStart, .int z_lineIsFresh, .int z_wrongPlace, .int z_tooMany]))] sz)) 0 0 (va_A [(a_t, .inr (3, [.ref a_lexemes, .int (nI n_at), .int z_lineStart, .int z_lineIsFresh, .int z_wrongPlace, .int z_tooMany]))] sz) := by
  refine Met.ofW (cc := b_Cutter_passCharacter) (maxL := 2) (ret := none) (by decide) rfl ?_
  intro p e s m args below meth c s₁ B hml hv
  obtain ⟨rfl, hsz, hP, hK, hD0⟩ := hv
  have hx := B.exec
  have hb := B.bytes
  have hr := B.returns
  have hts := atoms_spec (ws := w_Cutter_passCharacter) B.pre
  have hz : ∀ w ∈ wz, w.before _ s = true := fun w h => hts w (List.mem_cons_of_mem _ h)
  have hown : s.vm.findClass R_Cutter = some m.cls := findClass_of_methodNamed B.named
  have hlocks := B.notSynchronized
  subst hsz
  have hD := hD0.self (sz := s.heap.size)
  generalize hAe : va_A [(a_t, .inr (3, [.ref a_lexemes, .int (nI n_at), .int z_lineStart, .int z_lineIsFresh, .int z_wrongPlace, .int z_tooMany]))] s.heap.size = A at hD ⊢
  have hA : ∀ q : Nat, s.heap.size ≤ q → A q := fun q h => by rw [← hAe]; exact Or.inr h
  have hS : va_S A s.heap s.heap [] := va_S.rf
  have hP : va_P (dC, dI) vcl [(a_t, .inr (3, [.ref a_lexemes, .int (nI n_at), .int z_lineStart, .int z_lineIsFresh, .int z_wrongPlace, .int z_tooMany]))] s.heap := hP
  have hl := lv_entry ([.ref a_t, .int y0]) (n := 2) (Nat.le_of_ble_eq_true rfl)
  rw [lg_entry_eq]
  generalize (lg_sl ([.ref a_t, .int y0]) ++ List.replicate (2 - (lg_sl ([.ref a_t, .int y0])).length) Slot.unset).toArray = ls at hl ⊢
  have hl : lv_has ls 2 [(0, .ref a_t), (1, .int y0)] := hl
  refine lv_aload_n hx hb d_Cutter_passCharacter_0 rfl (lv_at hl 0 rfl) ?_
  refine lv_dup hx hb d_Cutter_passCharacter_1 rfl ?_
  refine va_get (D := (dC, dI)) (ci := 3) (v := .int (nI n_at)) (C := R_Cutter) (T := F_Cutter) (N := 6) hx hb hz zu_Cutter hown hK hP 0 rfl rfl 1 (by decide) (hz (.fieldLink R_Cutter 29 "LayoutFront$Cutter" "at" "I") zm_82) (fun _ h9 => h9) rfl d_Cutter_passCharacter_2 ?_
  refine lv_iconst (v := 1) hx hb d_Cutter_passCharacter_5 (by decide) ?_
  refine xr_iadd (v := (nI (n_at + 1))) hx hb d_Cutter_passCharacter_6 (nI_add n_at 1) ?_
  refine va_put (D := (dC, dI)) (ci := 3) (v := .int (nI (n_at + 1))) (ty := .int) (C := R_Cutter) (T := F_Cutter) (N := 6) hx hb hz zu_Cutter t_Cutter t_Cutter_ok n_Cutter hown hK hP hD hS 0 rfl rfl 1 (by decide) (hz (.fieldLink R_Cutter 29 "LayoutFront$Cutter" "at" "I") zm_82) (fun _ h9 => h9) rfl (by decide +kernel) rfl rfl (Nat.le_of_ble_eq_true rfl) d_Cutter_passCharacter_7 (fun H locs hP hD hS => ?_)
  have hP : va_P (dC, dI) vcl [(a_t, .inr (3, [.ref a_lexemes, .int (nI (n_at + 1)), .int z_lineStart, .int z_lineIsFresh, .int z_wrongPlace, .int z_tooMany]))] H := hP
  have hD : va_D A [(a_t, .inr (3, [.ref a_lexemes, .int (nI (n_at + 1)), .int z_lineStart, .int z_lineIsFresh, .int z_wrongPlace, .int z_tooMany]))] := hD
  refine lv_iload_n hx hb d_Cutter_passCharacter_10 rfl (lv_at hl 1 rfl) ?_
  refine lv_bipush (v := 10) hx hb d_Cutter_passCharacter_11 (by decide) ?_
  refine lv_icmp_ne (tgt := 29) hx hb d_Cutter_passCharacter_13 (by decide) (fun h1 => ?_) (fun h1 => ?_)
  · have hP9 := hP.sub (ws' := [(a_t, .inr (3, [.ref a_lexemes, .int (nI (n_at + 1)), .int z_lineStart, .int z_lineIsFresh, .int z_wrongPlace, .int z_tooMany]))]) [0] rfl
    have hD9 := hD.sub (ws' := [(a_t, .inr (3, [.ref a_lexemes, .int (nI (n_at + 1)), .int z_lineStart, .int z_lineIsFresh, .int z_wrongPlace, .int z_tooMany]))]) [0] (by decide) rfl
    exact W.vret hx hb hr (fun t ht hW => ⟨⟨(), rfl, trivial, ((n_at + 1)), z_lineStart, z_lineIsFresh, by first | rfl | exact (if_pos (by assumption)).symm | exact (if_neg (by assumption)).symm | omega, by first | rfl | exact (if_pos (by assumption)).symm | exact (if_neg (by assumption)).symm | omega, by first | rfl | exact (if_pos (by assumption)).symm | exact (if_neg (by assumption)).symm | omega, by first | rfl | exact (if_pos (by assumption)).symm | exact (if_neg (by assumption)).symm | omega, by rw [ht]; exact hP9, va_K.moved hW.alike hK, hD9⟩, hS.F ht⟩) hS.2.2 d_Cutter_passCharacter_29
  · refine lv_aload_n hx hb d_Cutter_passCharacter_16 rfl (lv_at hl 0 rfl) ?_
    refine lv_aload_n hx hb d_Cutter_passCharacter_17 rfl (lv_at hl 0 rfl) ?_
    refine va_get (D := (dC, dI)) (ci := 3) (v := .int (nI (n_at + 1))) (C := R_Cutter) (T := F_Cutter) (N := 6) hx hb hz zu_Cutter hown hK hP 0 rfl rfl 1 (by decide) (hz (.fieldLink R_Cutter 29 "LayoutFront$Cutter" "at" "I") zm_82) (fun _ h9 => h9) rfl d_Cutter_passCharacter_18 ?_
    refine va_put (D := (dC, dI)) (ci := 3) (v := .int (nI (n_at + 1))) (ty := .int) (C := R_Cutter) (T := F_Cutter) (N := 6) hx hb hz zu_Cutter t_Cutter t_Cutter_ok n_Cutter hown hK hP hD hS 0 rfl rfl 2 (by decide) (hz (.fieldLink R_Cutter 32 "LayoutFront$Cutter" "lineStart" "I") zm_83) (fun _ h9 => h9) rfl (by decide +kernel) rfl rfl (Nat.le_of_ble_eq_true rfl) d_Cutter_passCharacter_21 (fun H locs hP hD hS => ?_)
    have hP : va_P (dC, dI) vcl [(a_t, .inr (3, [.ref a_lexemes, .int (nI (n_at + 1)), .int (nI (n_at + 1)), .int z_lineIsFresh, .int z_wrongPlace, .int z_tooMany]))] H := hP
    have hD : va_D A [(a_t, .inr (3, [.ref a_lexemes, .int (nI (n_at + 1)), .int (nI (n_at + 1)), .int z_lineIsFresh, .int z_wrongPlace, .int z_tooMany]))] := hD
    refine lv_aload_n hx hb d_Cutter_passCharacter_24 rfl (lv_at hl 0 rfl) ?_
    refine lv_iconst (v := 1) hx hb d_Cutter_passCharacter_25 (by decide) ?_
    refine va_put (D := (dC, dI)) (ci := 3) (v := .int 1) (ty := .boolean) (C := R_Cutter) (T := F_Cutter) (N := 6) hx hb hz zu_Cutter t_Cutter t_Cutter_ok n_Cutter hown hK hP hD hS 0 rfl rfl 3 (by decide) (hz (.fieldLink R_Cutter 35 "LayoutFront$Cutter" "lineIsFresh" "Z") zm_84) (fun _ h9 => h9) rfl (by decide +kernel) (by decide +kernel) rfl (Nat.le_of_ble_eq_true rfl) d_Cutter_passCharacter_26 (fun H locs hP hD hS => ?_)
    have hP : va_P (dC, dI) vcl [(a_t, .inr (3, [.ref a_lexemes, .int (nI (n_at + 1)), .int (nI (n_at + 1)), .int 1, .int z_wrongPlace, .int z_tooMany]))] H := hP
    have hD : va_D A [(a_t, .inr (3, [.ref a_lexemes, .int (nI (n_at + 1)), .int (nI (n_at + 1)), .int 1, .int z_wrongPlace, .int z_tooMany]))] := hD
    have hP9 := hP.sub (ws' := [(a_t, .inr (3, [.ref a_lexemes, .int (nI (n_at + 1)), .int (nI (n_at + 1)), .int 1, .int z_wrongPlace, .int z_tooMany]))]) [0] rfl
    have hD9 := hD.sub (ws' := [(a_t, .inr (3, [.ref a_lexemes, .int (nI (n_at + 1)), .int (nI (n_at + 1)), .int 1, .int z_wrongPlace, .int z_tooMany]))]) [0] (by decide) rfl
    exact W.vret hx hb hr (fun t ht hW => ⟨⟨(), rfl, trivial, ((n_at + 1)), ((nI (n_at + 1))), 1, by first | rfl | exact (if_pos (by assumption)).symm | exact (if_neg (by assumption)).symm | omega, by first | rfl | exact (if_pos (by assumption)).symm | exact (if_neg (by assumption)).symm | omega, by first | rfl | exact (if_pos (by assumption)).symm | exact (if_neg (by assumption)).symm | omega, by first | rfl | exact (if_pos (by assumption)).symm | exact (if_neg (by assumption)).symm | omega, by rw [ht]; exact hP9, va_K.moved hW.alike hK, hD9⟩, hS.F ht⟩) hS.2.2 d_Cutter_passCharacter_29
set_option maxHeartbeats 4000000 in
set_option maxRecDepth 100000 in
theorem s_Cutter_passComment6 (l : Launch) (dC : Nat → ClassId) (dI : Nat → Nat → Nat) (sz : Nat) (a_t : Nat) (a_lexemes : Nat) (n_at : Nat) (z_lineStart : Int32) (z_lineIsFresh : Int32) (z_wrongPlace : Int32) (z_tooMany : Int32) (a_y0 : Nat) (a_y0_characters : Nat) (f_y0_characters : Nat → Int32) (n_y0_length : Nat) (L : List Lx) (ka_y0_characters : ClassId) (b_at : n_at ≤ 241) (b_tooMany : z_tooMany = 0 ∨ z_tooMany = 1) (c_y0_characters : ∀ j, narrow .char (.int (f_y0_characters j)) = .int (f_y0_characters j)) (b_y0_length : n_y0_length ≤ 240) (hp0 : n_at < n_y0_length) (hp1 : opC (cN f_y0_characters n_y0_length) n_y0_length n_at = true) (hp2 : z_lineStart = nI (lnO (cN f_y0_characters n_y0_length) n_at)) (hp3 : z_lineIsFresh = b01 (ldO L (lnO (cN f_y0_characters n_y0_length) n_at))) (hp4 : hdW L n_at) : Met l y_Cutter_passComment w_Cutter_passComment ({ frames := 2, cells := 0, slots := 0, locals := 42 }) (va_Pc [.ref a_t, .ref a_y0] (fun U => U.heap.size = sz ∧ va_P (dC, dI) vcl [(a_t, .inr (3, [.ref a_lexemes, .int (nI n_at), .int z_lineStart, .int z_lineIsFresh, .int z_wrongPlace, .int z_tooMany])), (a_y0, .inr (10, [.ref a_y0_characters, .int (nI n_y0_length)])), (a_y0_characters, .inl (ka_y0_characters, 240, .inl f_y0_characters))] U.heap ∧ va_K (dC, dI) vcl [(ka_y0_characters, .char)] U ∧ va_D (fun _ => True) [(a_t, .inr (3, [.ref a_lexemes, .int (nI n_at), .int z_lineStart, .int z_lineIsFresh, .int z_wrongPlace, .int z_tooMany])), (a_y0, .inr (10, [.ref a_y0_characters, .int (nI n_y0_length)])), (a_y0_characters, .inl (ka_y0_characters, 240, .inl f_y0_characters))])) (va_Qv (fun (_ : Unit) => True) (fun _ t => ∃ (w_n_at : Nat) (w_z_lineStart : Int32) (w_z_lineIsFresh : Int32) (w_z_wrongPlace : Int32), (w_n_at ≤ 241) ∧ (nsE (cN f_y0_characters n_y0_length) n_y0_length 0 n_at = none → w_z_wrongPlace = nI n_at) ∧ (∀ b, nsE (cN f_y0_characters n_y0_length) n_y0_length 0 n_at = some b → (w_n_at = b ∧ w_z_wrongPlace = z_wrongPlace)) ∧ (w_z_lineStart = nI (lnO (cN f_y0_characters n_y0_length) w_n_at)) ∧ (w_z_lineIsFresh = b01 (ldO L (lnO (cN f_y0_characters n_y0_length) w_n_at))) ∧ (hdW L w_n_at) ∧ (w_n_at ≤ n_y0_length) ∧ (n_at ≤ w_n_at) ∧ va_P (dC, dI) vcl [(a_t, .inr (3, [.ref a_lexemes, .int (nI w_n_at), .int w_z_lineStart, .int w_z_lineIsFresh, .int w_z_wrongPlace, .int z_tooMany])), (a_y0, .inr (10, [.ref a_y0_characters, .int (nI n_y0_length)])), (a_y0_characters, .inl (ka_y0_characters, 240, .inl f_y0_characters))] t.heap ∧ va_K (dC, dI) vcl [(ka_y0_characters, .char)] t ∧ va_D (va_A [(a_t, .inr (3, [.ref a_lexemes, .int (nI n_at), .int z_lineStart, .int z_lineIsFresh, .int z_wrongPlace, .int z_tooMany])), (a_y0, .inr (10, [.ref a_y0_characters, .int (nI n_y0_length)])), (a_y0_characters, .inl (ka_y0_characters, 240, .inl f_y0_characters))] sz) [(a_t, .inr (3, [.ref a_lexemes, .int (nI w_n_at), .int w_z_lineStart, .int w_z_lineIsFresh, .int w_z_wrongPlace, .int z_tooMany])), (a_y0, .inr (10, [.ref a_y0_characters, .int (nI n_y0_length)])), (a_y0_characters, .inl (ka_y0_characters, 240, .inl f_y0_characters))]) (va_A [(a_t, .inr (3, [.ref a_lexemes, .int (nI n_at), .int z_lineStart, .int z_lineIsFresh, .int z_wrongPlace, .int z_tooMany])), (a_y0, .inr (10, [.ref a_y0_characters, .int (nI n_y0_length)])), (a_y0_characters, .inl (ka_y0_characters, 240, .inl f_y0_characters))] sz)) 0 0 (va_A [(a_t, .inr (3, [.ref a_lexemes, .int (nI n_at), .int z_lineStart, .int z_lineIsFresh, .int z_wrongPlace, .int z_tooMany])), (a_y0, .inr (10, [.ref a_y0_characters, .int (nI n_y0_length)])), (a_y0_characters, .inl (ka_y0_characters, 240, .inl f_y0_characters))] sz) := by
  refine Met.ofW (cc := b_Cutter_passComment) (maxL := 5) (ret := none) (by decide) rfl ?_
  intro p e s m args below meth c s₁ B hml hv
  obtain ⟨rfl, hsz, hP, hK, hD0⟩ := hv
  have hx := B.exec
  have hb := B.bytes
  have hr := B.returns
  have hts := atoms_spec (ws := w_Cutter_passComment) B.pre
  have hz : ∀ w ∈ wz, w.before _ s = true := fun w h => hts w (List.mem_cons_of_mem _ h)
  have hown : s.vm.findClass R_Cutter = some m.cls := findClass_of_methodNamed B.named
  have hlocks := B.notSynchronized
  subst hsz
  have hD := hD0.self (sz := s.heap.size)
  generalize hAe : va_A [(a_t, .inr (3, [.ref a_lexemes, .int (nI n_at), .int z_lineStart, .int z_lineIsFresh, .int z_wrongPlace, .int z_tooMany])), (a_y0, .inr (10, [.ref a_y0_characters, .int (nI n_y0_length)])), (a_y0_characters, .inl (ka_y0_characters, 240, .inl f_y0_characters))] s.heap.size = A at hD ⊢
  have hA : ∀ q : Nat, s.heap.size ≤ q → A q := fun q h => by rw [← hAe]; exact Or.inr h
  have hS : va_S A s.heap s.heap [] := va_S.rf
  have hP : va_P (dC, dI) vcl [(a_t, .inr (3, [.ref a_lexemes, .int (nI n_at), .int z_lineStart, .int z_lineIsFresh, .int z_wrongPlace, .int z_tooMany])), (a_y0, .inr (10, [.ref a_y0_characters, .int (nI n_y0_length)])), (a_y0_characters, .inl (ka_y0_characters, 240, .inl f_y0_characters))] s.heap := hP
  have hl := lv_entry ([.ref a_t, .ref a_y0]) (n := 5) (Nat.le_of_ble_eq_true rfl)
  rw [lg_entry_eq]
  generalize (lg_sl ([.ref a_t, .ref a_y0]) ++ List.replicate (5 - (lg_sl ([.ref a_t, .ref a_y0])).length) Slot.unset).toArray = ls at hl ⊢
  have hl : lv_has ls 5 [(0, .ref a_t), (1, .ref a_y0)] := hl
  refine lv_aload_n hx hb d_Cutter_passComment_0 rfl (lv_at hl 0 rfl) ?_
  refine va_get (D := (dC, dI)) (ci := 3) (v := .int (nI n_at)) (C := R_Cutter) (T := F_Cutter) (N := 6) hx hb hz zu_Cutter hown hK hP 0 rfl rfl 1 (by decide) (hz (.fieldLink R_Cutter 29 "LayoutFront$Cutter" "at" "I") zm_82) (fun _ h9 => h9) rfl d_Cutter_passComment_1 ?_
  refine lv_istore_n hx hb d_Cutter_passComment_4 rfl hl (by decide) rfl (fun ls hl => ?_)
  have hl : lv_has ls 5 [(2, .int (nI n_at)), (0, .ref a_t), (1, .ref a_y0)] := hl
  refine lv_iconst (v := 0) hx hb d_Cutter_passComment_5 (by decide) ?_
  refine lv_istore_n hx hb d_Cutter_passComment_6 rfl hl (by decide) rfl (fun ls hl => ?_)
  have hl : lv_has ls 5 [(3, .int 0), (2, .int (nI n_at)), (0, .ref a_t), (1, .ref a_y0)] := hl
  refine lv_iconst (v := 0) hx hb d_Cutter_passComment_7 (by decide) ?_
  refine lv_istore hx hb d_Cutter_passComment_8 hl (by decide) rfl (fun ls hl => ?_)
  have hl : lv_has ls 5 [(4, .int 0), (3, .int 0), (2, .int (nI n_at)), (0, .ref a_t), (1, .ref a_y0)] := hl
  refine xr_loop (α := (Nat) × (Nat) × (Nat) × (Int32) × (Int32)) (fun a => (fun (k4 : Nat) (k3 : Nat) (v_a_t_1 : Nat) (v_a_t_2 : Int32) (v_a_t_3 : Int32) => 240 - k4) a.1 a.2.1 a.2.2.1 a.2.2.2.1 a.2.2.2.2) (fun a H locs ls => (fun (k4 : Nat) (k3 : Nat) (v_a_t_1 : Nat) (v_a_t_2 : Int32) (v_a_t_3 : Int32) => (k4 ≤ 240) ∧ (k3 ≤ 240) ∧ (v_a_t_1 ≤ 241) ∧ (v_a_t_1 ≤ n_y0_length) ∧ (n_at + k4 ≤ v_a_t_1) ∧ (1 ≤ k3 ∨ v_a_t_1 = n_at) ∧ (k3 ≤ v_a_t_1) ∧ (nsE (cN f_y0_characters n_y0_length) n_y0_length 0 n_at = nsE (cN f_y0_characters n_y0_length) n_y0_length k3 v_a_t_1) ∧ (v_a_t_2 = nI (lnO (cN f_y0_characters n_y0_length) v_a_t_1)) ∧ (v_a_t_3 = b01 (ldO L (lnO (cN f_y0_characters n_y0_length) v_a_t_1))) ∧ (hdW L v_a_t_1) ∧ lv_has ls 5 [(4, .int (nI k4)), (3, .int (nI k3)), (2, .int (nI n_at)), (0, .ref a_t), (1, .ref a_y0)] ∧ va_P (dC, dI) vcl [(a_t, .inr (3, [.ref a_lexemes, .int (nI v_a_t_1), .int v_a_t_2, .int v_a_t_3, .int z_wrongPlace, .int z_tooMany])), (a_y0, .inr (10, [.ref a_y0_characters, .int (nI n_y0_length)])), (a_y0_characters, .inl (ka_y0_characters, 240, .inl f_y0_characters))] H ∧ va_D A [(a_t, .inr (3, [.ref a_lexemes, .int (nI v_a_t_1), .int v_a_t_2, .int v_a_t_3, .int z_wrongPlace, .int z_tooMany])), (a_y0, .inr (10, [.ref a_y0_characters, .int (nI n_y0_length)])), (a_y0_characters, .inl (ka_y0_characters, 240, .inl f_y0_characters))] ∧ va_S A s.heap H locs) a.1 a.2.1 a.2.2.1 a.2.2.2.1 a.2.2.2.2) (fun a ih10 H locs ls hI => ?_) (0, 0, n_at, z_lineStart, z_lineIsFresh) _ _ _ ⟨by show 0 ≤ 240; first | omega | assumption | exact Or.inl rfl | exact Or.inr rfl | decide, by show 0 ≤ 240; first | omega | assumption | exact Or.inl rfl | exact Or.inr rfl | decide, by show n_at ≤ 241; first | omega | assumption | exact Or.inl rfl | exact Or.inr rfl | decide, by show n_at ≤ n_y0_length; first | omega | assumption | exact Or.inl rfl | exact Or.inr rfl | decide, by show n_at + 0 ≤ n_at; first | omega | assumption | exact Or.inl rfl | exact Or.inr rfl | decide, by show 1 ≤ 0 ∨ n_at = n_at; exact Or.inr rfl, by show 0 ≤ n_at; first | omega | assumption | exact Or.inl rfl | exact Or.inr rfl | decide, by show nsE (cN f_y0_characters n_y0_length) n_y0_length 0 n_at = nsE (cN f_y0_characters n_y0_length) n_y0_length 0 n_at; rfl, by show z_lineStart = nI (lnO (cN f_y0_characters n_y0_length) n_at); assumption, by show z_lineIsFresh = b01 (ldO L (lnO (cN f_y0_characters n_y0_length) n_at)); assumption, by show hdW L n_at; assumption, hl, hP, hD, hS⟩
  obtain ⟨k4, k3, v_a_t_1, v_a_t_2, v_a_t_3⟩ := a
  obtain ⟨bl0, bl1, bl2, bl3, bl4, bl5, bl6, bl7, bl8, bl9, bl10, hl, hP, hD, hS⟩ := hI
  have bl0 : k4 ≤ 240 := bl0
  have bl1 : k3 ≤ 240 := bl1
  have bl2 : v_a_t_1 ≤ 241 := bl2
  have bl3 : v_a_t_1 ≤ n_y0_length := bl3
  have cA := bl3
  have bl4 : n_at + k4 ≤ v_a_t_1 := bl4
  have cB := bl4
  have bl5 : 1 ≤ k3 ∨ v_a_t_1 = n_at := bl5
  have cC := bl5
  have bl6 : k3 ≤ v_a_t_1 := bl6
  have cD := bl6
  have bl7 : nsE (cN f_y0_characters n_y0_length) n_y0_length 0 n_at = nsE (cN f_y0_characters n_y0_length) n_y0_length k3 v_a_t_1 := bl7
  have cE := bl7
  have bl8 : v_a_t_2 = nI (lnO (cN f_y0_characters n_y0_length) v_a_t_1) := bl8
  have cF := bl8
  have bl9 : v_a_t_3 = b01 (ldO L (lnO (cN f_y0_characters n_y0_length) v_a_t_1)) := bl9
  have cG := bl9
  have bl10 : hdW L v_a_t_1 := bl10
  have cH := bl10
  have hl : lv_has ls 5 [(4, .int (nI k4)), (3, .int (nI k3)), (2, .int (nI n_at)), (0, .ref a_t), (1, .ref a_y0)] := hl
  have hP : va_P (dC, dI) vcl [(a_t, .inr (3, [.ref a_lexemes, .int (nI v_a_t_1), .int v_a_t_2, .int v_a_t_3, .int z_wrongPlace, .int z_tooMany])), (a_y0, .inr (10, [.ref a_y0_characters, .int (nI n_y0_length)])), (a_y0_characters, .inl (ka_y0_characters, 240, .inl f_y0_characters))] H := hP
  have hD : va_D A [(a_t, .inr (3, [.ref a_lexemes, .int (nI v_a_t_1), .int v_a_t_2, .int v_a_t_3, .int z_wrongPlace, .int z_tooMany])), (a_y0, .inr (10, [.ref a_y0_characters, .int (nI n_y0_length)])), (a_y0_characters, .inl (ka_y0_characters, 240, .inl f_y0_characters))] := hD
  refine lv_iload hx hb d_Cutter_passComment_10 (lv_at hl 0 rfl) ?_
  refine lv_sipush (v := 240) hx hb d_Cutter_passComment_12 (by decide) ?_
  refine lv_icmp_ge (tgt := 106) hx hb d_Cutter_passComment_15 (by decide) (fun h1 => ?_) (fun h1 => ?_)
  · have h1 : 240 ≤ k4 := (nI_leI (a := 240) (b := k4) (by omega) (by omega)).mp h1
    refine lv_aload_n hx hb d_Cutter_passComment_106 rfl (lv_at hl 3 rfl) ?_
    refine lv_iload_n hx hb d_Cutter_passComment_107 rfl (lv_at hl 2 rfl) ?_
    refine va_put (D := (dC, dI)) (ci := 3) (v := .int (nI n_at)) (ty := .int) (C := R_Cutter) (T := F_Cutter) (N := 6) hx hb hz zu_Cutter t_Cutter t_Cutter_ok n_Cutter hown hK hP hD hS 0 rfl rfl 4 (by decide) (hz (.fieldLink R_Cutter 18 "LayoutFront$Cutter" "wrongPlace" "I") zm_75) (fun _ h9 => h9) rfl (by decide +kernel) rfl rfl (Nat.le_of_ble_eq_true rfl) d_Cutter_passComment_108 (fun H locs hP hD hS => ?_)
    have hP : va_P (dC, dI) vcl [(a_t, .inr (3, [.ref a_lexemes, .int (nI v_a_t_1), .int v_a_t_2, .int v_a_t_3, .int (nI n_at), .int z_tooMany])), (a_y0, .inr (10, [.ref a_y0_characters, .int (nI n_y0_length)])), (a_y0_characters, .inl (ka_y0_characters, 240, .inl f_y0_characters))] H := hP
    have hD : va_D A [(a_t, .inr (3, [.ref a_lexemes, .int (nI v_a_t_1), .int v_a_t_2, .int v_a_t_3, .int (nI n_at), .int z_tooMany])), (a_y0, .inr (10, [.ref a_y0_characters, .int (nI n_y0_length)])), (a_y0_characters, .inl (ka_y0_characters, 240, .inl f_y0_characters))] := hD
    have hP9 := hP.sub (ws' := [(a_t, .inr (3, [.ref a_lexemes, .int (nI v_a_t_1), .int v_a_t_2, .int v_a_t_3, .int (nI n_at), .int z_tooMany])), (a_y0, .inr (10, [.ref a_y0_characters, .int (nI n_y0_length)])), (a_y0_characters, .inl (ka_y0_characters, 240, .inl f_y0_characters))]) [0, 1, 2] rfl
    have hD9 := hD.sub (ws' := [(a_t, .inr (3, [.ref a_lexemes, .int (nI v_a_t_1), .int v_a_t_2, .int v_a_t_3, .int (nI n_at), .int z_tooMany])), (a_y0, .inr (10, [.ref a_y0_characters, .int (nI n_y0_length)])), (a_y0_characters, .inl (ka_y0_characters, 240, .inl f_y0_characters))]) [0, 1, 2] (by decide) rfl
    exact W.vret hx hb hr (fun t ht hW => ⟨⟨(), rfl, trivial, v_a_t_1, v_a_t_2, v_a_t_3, ((nI n_at)), by first | omega | assumption | exact Or.inl rfl | exact Or.inr rfl | decide, by (intro _; rfl), by (intro b hh; rw [(ns_no (by omega) cE)] at hh; cases hh), by exact cF, by exact cG, by exact cH, by first | omega | assumption | exact Or.inl rfl | exact Or.inr rfl | decide, by first | omega | assumption | exact Or.inl rfl | exact Or.inr rfl | decide, by rw [ht]; exact hP9, va_K.moved hW.alike hK, hD9⟩, hS.F ht⟩) hS.2.2 d_Cutter_passComment_111
  · have h1 : ¬ 240 ≤ k4 := fun q => h1 ((nI_leI (a := 240) (b := k4) (by omega) (by omega)).mpr q)
    refine lv_aload_n hx hb d_Cutter_passComment_18 rfl (lv_at hl 3 rfl) ?_
    refine va_get (D := (dC, dI)) (ci := 3) (v := .int (nI v_a_t_1)) (C := R_Cutter) (T := F_Cutter) (N := 6) hx hb hz zu_Cutter hown hK hP 0 rfl rfl 1 (by decide) (hz (.fieldLink R_Cutter 29 "LayoutFront$Cutter" "at" "I") zm_82) (fun _ h9 => h9) rfl d_Cutter_passComment_19 ?_
    refine lv_aload_n hx hb d_Cutter_passComment_22 rfl (lv_at hl 4 rfl) ?_
    have hPc := hP.sub (ws' := [(a_y0, .inr (10, [.ref a_y0_characters, .int (nI n_y0_length)]))]) [1] rfl
    have hDc := hD.sub (ws' := [(a_y0, .inr (10, [.ref a_y0_characters, .int (nI n_y0_length)]))]) [1] (by decide) rfl
    have hKc := hK.sub (tys' := []) [] rfl
    have hFc := va_free (wc := [(a_y0, .inr (10, [.ref a_y0_characters, .int (nI n_y0_length)]))]) hD hS hA [1] rfl
    refine va_calli (va_runV (As := []) (rest := [.int (nI v_a_t_1)]) ⟨hx, hb, hml, hown, hz⟩ (s_Text_length l dC dI H.size a_y0 a_y0_characters n_y0_length (by first | omega | assumption | exact Or.inl rfl | exact Or.inr rfl | decide)) (cwV 0 hz (zV zm_85 zm_86 zm_87 zm_7 zm_88) rfl rfl rfl (by decide +kernel) ⟨Nat.le_of_ble_eq_true rfl, Nat.le_of_ble_eq_true rfl⟩) ⟨fun a U g mk q => by obtain ⟨q0, q1, qP, qK, qD⟩ := q; exact ⟨q0, q1, qP, va_K.moved (u := U) (U := U.calling g mk a) (Vm.Alike.refl U.vm) qK, qD⟩, va_recv (q := (R_Text, F_Text, 2)) (q0 := 1) (ci := 10) hK hP rfl rfl, fun U hU hW => ⟨rfl, by rw [hU], by rw [hU]; exact hPc, va_K.moved hW.alike hKc, hDc.weaken (fun _ _ _ _ => trivial)⟩⟩ rfl rfl hl.1 rfl (lv_room (Nat.le_of_ble_eq_true rfl)) d_Cutter_passComment_23 ⟨Nat.zero_le _, Nat.zero_le _⟩) hS (fun q _ h => hFc q h) hFc (fun r u t H1 locs ht hvm hw hB hz1 hk1 hS => ?_)
    obtain ⟨hP1, hK1, hD1⟩ := hB
    subst r
    rw [ht] at hP1
    obtain ⟨hP, hD⟩ := va_join (wr := [(a_t, .inr (3, [.ref a_lexemes, .int (nI v_a_t_1), .int v_a_t_2, .int v_a_t_3, .int z_wrongPlace, .int z_tooMany])), (a_y0_characters, .inl (ka_y0_characters, 240, .inl f_y0_characters))]) (w1 := [(a_y0, .inr (10, [.ref a_y0_characters, .int (nI n_y0_length)]))]) hP hD [1] [0, 2] rfl rfl (by decide) (by decide) hk1 hFc hP1 hD1
    generalize H1 = H at hP hS ⊢
    have hP : va_P (dC, dI) vcl [(a_t, .inr (3, [.ref a_lexemes, .int (nI v_a_t_1), .int v_a_t_2, .int v_a_t_3, .int z_wrongPlace, .int z_tooMany])), (a_y0_characters, .inl (ka_y0_characters, 240, .inl f_y0_characters)), (a_y0, .inr (10, [.ref a_y0_characters, .int (nI n_y0_length)]))] H := hP
    have hD : va_D A [(a_t, .inr (3, [.ref a_lexemes, .int (nI v_a_t_1), .int v_a_t_2, .int v_a_t_3, .int z_wrongPlace, .int z_tooMany])), (a_y0_characters, .inl (ka_y0_characters, 240, .inl f_y0_characters)), (a_y0, .inr (10, [.ref a_y0_characters, .int (nI n_y0_length)]))] := hD
    refine lv_icmp_ge (tgt := 106) hx hb d_Cutter_passComment_26 (by decide) (fun h2 => ?_) (fun h2 => ?_)
    · have h2 : n_y0_length ≤ v_a_t_1 := (nI_leI (a := n_y0_length) (b := v_a_t_1) (by omega) (by omega)).mp h2
      refine lv_aload_n hx hb d_Cutter_passComment_106 rfl (lv_at hl 3 rfl) ?_
      refine lv_iload_n hx hb d_Cutter_passComment_107 rfl (lv_at hl 2 rfl) ?_
      refine va_put (D := (dC, dI)) (ci := 3) (v := .int (nI n_at)) (ty := .int) (C := R_Cutter) (T := F_Cutter) (N := 6) hx hb hz zu_Cutter t_Cutter t_Cutter_ok n_Cutter hown hK hP hD hS 0 rfl rfl 4 (by decide) (hz (.fieldLink R_Cutter 18 "LayoutFront$Cutter" "wrongPlace" "I") zm_75) (fun _ h9 => h9) rfl (by decide +kernel) rfl rfl (Nat.le_of_ble_eq_true rfl) d_Cutter_passComment_108 (fun H locs hP hD hS => ?_)
      have hP : va_P (dC, dI) vcl [(a_t, .inr (3, [.ref a_lexemes, .int (nI v_a_t_1), .int v_a_t_2, .int v_a_t_3, .int (nI n_at), .int z_tooMany])), (a_y0_characters, .inl (ka_y0_characters, 240, .inl f_y0_characters)), (a_y0, .inr (10, [.ref a_y0_characters, .int (nI n_y0_length)]))] H := hP
      have hD : va_D A [(a_t, .inr (3, [.ref a_lexemes, .int (nI v_a_t_1), .int v_a_t_2, .int v_a_t_3, .int (nI n_at), .int z_tooMany])), (a_y0_characters, .inl (ka_y0_characters, 240, .inl f_y0_characters)), (a_y0, .inr (10, [.ref a_y0_characters, .int (nI n_y0_length)]))] := hD
      have hP9 := hP.sub (ws' := [(a_t, .inr (3, [.ref a_lexemes, .int (nI v_a_t_1), .int v_a_t_2, .int v_a_t_3, .int (nI n_at), .int z_tooMany])), (a_y0, .inr (10, [.ref a_y0_characters, .int (nI n_y0_length)])), (a_y0_characters, .inl (ka_y0_characters, 240, .inl f_y0_characters))]) [0, 2, 1] rfl
      have hD9 := hD.sub (ws' := [(a_t, .inr (3, [.ref a_lexemes, .int (nI v_a_t_1), .int v_a_t_2, .int v_a_t_3, .int (nI n_at), .int z_tooMany])), (a_y0, .inr (10, [.ref a_y0_characters, .int (nI n_y0_length)])), (a_y0_characters, .inl (ka_y0_characters, 240, .inl f_y0_characters))]) [0, 2, 1] (by decide) rfl
      exact W.vret hx hb hr (fun t ht hW => ⟨⟨(), rfl, trivial, v_a_t_1, v_a_t_2, v_a_t_3, ((nI n_at)), by first | omega | assumption | exact Or.inl rfl | exact Or.inr rfl | decide, by (intro _; rfl), by (intro b hh; rw [(ns_no (by omega) cE)] at hh; cases hh), by exact cF, by exact cG, by exact cH, by first | omega | assumption | exact Or.inl rfl | exact Or.inr rfl | decide, by first | omega | assumption | exact Or.inl rfl | exact Or.inr rfl | decide, by rw [ht]; exact hP9, va_K.moved hW.alike hK, hD9⟩, hS.F ht⟩) hS.2.2 d_Cutter_passComment_111
    · have h2 : ¬ n_y0_length ≤ v_a_t_1 := fun q => h2 ((nI_leI (a := n_y0_length) (b := v_a_t_1) (by omega) (by omega)).mpr q)
      have pL : v_a_t_1 < n_y0_length := (by omega)
      refine lv_aload_n hx hb d_Cutter_passComment_29 rfl (lv_at hl 4 rfl) ?_
      refine lv_aload_n hx hb d_Cutter_passComment_30 rfl (lv_at hl 3 rfl) ?_
      refine va_get (D := (dC, dI)) (ci := 3) (v := .int (nI v_a_t_1)) (C := R_Cutter) (T := F_Cutter) (N := 6) hx hb hz zu_Cutter hown hK hP 0 rfl rfl 1 (by decide) (hz (.fieldLink R_Cutter 29 "LayoutFront$Cutter" "at" "I") zm_82) (fun _ h9 => h9) rfl d_Cutter_passComment_31 ?_
      have hPc := hP.sub (ws' := [(a_y0, .inr (10, [.ref a_y0_characters, .int (nI n_y0_length)])), (a_y0_characters, .inl (ka_y0_characters, 240, .inl f_y0_characters))]) [2, 1] rfl
      have hDc := hD.sub (ws' := [(a_y0, .inr (10, [.ref a_y0_characters, .int (nI n_y0_length)])), (a_y0_characters, .inl (ka_y0_characters, 240, .inl f_y0_characters))]) [2, 1] (by decide) rfl
      have hKc := hK.sub (tys' := [(ka_y0_characters, .char)]) [0] rfl
      have hFc := va_free (wc := [(a_y0, .inr (10, [.ref a_y0_characters, .int (nI n_y0_length)])), (a_y0_characters, .inl (ka_y0_characters, 240, .inl f_y0_characters))]) hD hS hA [2, 1] rfl
      refine va_calli (va_runS (As := [.ref a_y0, .int (nI v_a_t_1)]) (rest := []) ⟨hx, hb, hml, hown, hz⟩ (s_Cutter_opensComment6 l dC dI H.size a_y0 a_y0_characters f_y0_characters n_y0_length v_a_t_1 ka_y0_characters (by first | omega | assumption | exact Or.inl rfl | exact Or.inr rfl | decide) (by first | omega | assumption | exact Or.inl rfl | exact Or.inr rfl | decide) (by first | omega | assumption | exact Or.inl rfl | exact Or.inr rfl | decide)) (cwS 2 hz (zS zm_98 zm_99 zm_92 zm_100) rfl rfl rfl (by decide +kernel) ⟨Nat.le_of_ble_eq_true rfl, Nat.le_of_ble_eq_true rfl⟩) ⟨fun a U g mk q => by obtain ⟨q0, q1, qP, qK, qD⟩ := q; exact ⟨q0, q1, qP, va_K.moved (u := U) (U := U.calling g mk a) (Vm.Alike.refl U.vm) qK, qD⟩, fun U hU hW => ⟨rfl, by rw [hU], by rw [hU]; exact hPc, va_K.moved hW.alike hKc, hDc.weaken (fun _ _ _ _ => trivial)⟩⟩ rfl rfl hl.1 rfl (lv_room (Nat.le_of_ble_eq_true rfl)) d_Cutter_passComment_34 ⟨Nat.zero_le _, Nat.zero_le _⟩) hS (fun q _ h => hFc q h) hFc (fun r u t H1 locs ht hvm hw_r hB hz1 hk1 hS => ?_)
      obtain ⟨hP1, hK1, hD1⟩ := hB
      obtain ⟨hb_r, he_r⟩ := hw_r
      subst r
      rw [ht] at hP1
      obtain ⟨hP, hD⟩ := va_join (wr := [(a_t, .inr (3, [.ref a_lexemes, .int (nI v_a_t_1), .int v_a_t_2, .int v_a_t_3, .int z_wrongPlace, .int z_tooMany]))]) (w1 := [(a_y0, .inr (10, [.ref a_y0_characters, .int (nI n_y0_length)])), (a_y0_characters, .inl (ka_y0_characters, 240, .inl f_y0_characters))]) hP hD [2, 1] [0] rfl rfl (by decide) (by decide) hk1 hFc hP1 hD1
      generalize H1 = H at hP hS ⊢
      have hP : va_P (dC, dI) vcl [(a_t, .inr (3, [.ref a_lexemes, .int (nI v_a_t_1), .int v_a_t_2, .int v_a_t_3, .int z_wrongPlace, .int z_tooMany])), (a_y0, .inr (10, [.ref a_y0_characters, .int (nI n_y0_length)])), (a_y0_characters, .inl (ka_y0_characters, 240, .inl f_y0_characters))] H := hP
      have hD : va_D A [(a_t, .inr (3, [.ref a_lexemes, .int (nI v_a_t_1), .int v_a_t_2, .int v_a_t_3, .int z_wrongPlace, .int z_tooMany])), (a_y0, .inr (10, [.ref a_y0_characters, .int (nI n_y0_length)])), (a_y0_characters, .inl (ka_y0_characters, 240, .inl f_y0_characters))] := hD
      refine lv_if_eq (tgt := 56) hx hb d_Cutter_passComment_37 (by decide) (fun h3 => ?_) (fun h3 => ?_)
      · have po := b01_no h3
        have kp : 1 ≤ k3 := cC.resolve_right (fun e9 => by rw [e9, hp1] at po; cases po)
        refine lv_aload_n hx hb d_Cutter_passComment_56 rfl (lv_at hl 4 rfl) ?_
        refine lv_aload_n hx hb d_Cutter_passComment_57 rfl (lv_at hl 3 rfl) ?_
        refine va_get (D := (dC, dI)) (ci := 3) (v := .int (nI v_a_t_1)) (C := R_Cutter) (T := F_Cutter) (N := 6) hx hb hz zu_Cutter hown hK hP 0 rfl rfl 1 (by decide) (hz (.fieldLink R_Cutter 29 "LayoutFront$Cutter" "at" "I") zm_82) (fun _ h9 => h9) rfl d_Cutter_passComment_58 ?_
        have hPc := hP.sub (ws' := [(a_y0, .inr (10, [.ref a_y0_characters, .int (nI n_y0_length)])), (a_y0_characters, .inl (ka_y0_characters, 240, .inl f_y0_characters))]) [1, 2] rfl
        have hDc := hD.sub (ws' := [(a_y0, .inr (10, [.ref a_y0_characters, .int (nI n_y0_length)])), (a_y0_characters, .inl (ka_y0_characters, 240, .inl f_y0_characters))]) [1, 2] (by decide) rfl
        have hKc := hK.sub (tys' := [(ka_y0_characters, .char)]) [0] rfl
        have hFc := va_free (wc := [(a_y0, .inr (10, [.ref a_y0_characters, .int (nI n_y0_length)])), (a_y0_characters, .inl (ka_y0_characters, 240, .inl f_y0_characters))]) hD hS hA [1, 2] rfl
        refine va_calli (va_runS (As := [.ref a_y0, .int (nI v_a_t_1)]) (rest := []) ⟨hx, hb, hml, hown, hz⟩ (s_Cutter_closesComment6 l dC dI H.size a_y0 a_y0_characters f_y0_characters n_y0_length v_a_t_1 ka_y0_characters (by first | omega | assumption | exact Or.inl rfl | exact Or.inr rfl | decide) (by first | omega | assumption | exact Or.inl rfl | exact Or.inr rfl | decide) (by first | omega | assumption | exact Or.inl rfl | exact Or.inr rfl | decide)) (cwS 2 hz (zS zm_109 zm_110 zm_92 zm_111) rfl rfl rfl (by decide +kernel) ⟨Nat.le_of_ble_eq_true rfl, Nat.le_of_ble_eq_true rfl⟩) ⟨fun a U g mk q => by obtain ⟨q0, q1, qP, qK, qD⟩ := q; exact ⟨q0, q1, qP, va_K.moved (u := U) (U := U.calling g mk a) (Vm.Alike.refl U.vm) qK, qD⟩, fun U hU hW => ⟨rfl, by rw [hU], by rw [hU]; exact hPc, va_K.moved hW.alike hKc, hDc.weaken (fun _ _ _ _ => trivial)⟩⟩ rfl rfl hl.1 rfl (lv_room (Nat.le_of_ble_eq_true rfl)) d_Cutter_passComment_61 ⟨Nat.zero_le _, Nat.zero_le _⟩) hS (fun q _ h => hFc q h) hFc (fun r u t H1 locs ht hvm hw_r hB hz1 hk1 hS => ?_)
        obtain ⟨hP1, hK1, hD1⟩ := hB
        obtain ⟨hb_r, he_r⟩ := hw_r
        subst r
        rw [ht] at hP1
        obtain ⟨hP, hD⟩ := va_join (wr := [(a_t, .inr (3, [.ref a_lexemes, .int (nI v_a_t_1), .int v_a_t_2, .int v_a_t_3, .int z_wrongPlace, .int z_tooMany]))]) (w1 := [(a_y0, .inr (10, [.ref a_y0_characters, .int (nI n_y0_length)])), (a_y0_characters, .inl (ka_y0_characters, 240, .inl f_y0_characters))]) hP hD [1, 2] [0] rfl rfl (by decide) (by decide) hk1 hFc hP1 hD1
        generalize H1 = H at hP hS ⊢
        have hP : va_P (dC, dI) vcl [(a_t, .inr (3, [.ref a_lexemes, .int (nI v_a_t_1), .int v_a_t_2, .int v_a_t_3, .int z_wrongPlace, .int z_tooMany])), (a_y0, .inr (10, [.ref a_y0_characters, .int (nI n_y0_length)])), (a_y0_characters, .inl (ka_y0_characters, 240, .inl f_y0_characters))] H := hP
        have hD : va_D A [(a_t, .inr (3, [.ref a_lexemes, .int (nI v_a_t_1), .int v_a_t_2, .int v_a_t_3, .int z_wrongPlace, .int z_tooMany])), (a_y0, .inr (10, [.ref a_y0_characters, .int (nI n_y0_length)])), (a_y0_characters, .inl (ka_y0_characters, 240, .inl f_y0_characters))] := hD
        refine lv_if_eq (tgt := 83) hx hb d_Cutter_passComment_64 (by decide) (fun h4 => ?_) (fun h4 => ?_)
        · have pc := b01_no h4
          refine lv_aload_n hx hb d_Cutter_passComment_83 rfl (lv_at hl 3 rfl) ?_
          refine lv_aload_n hx hb d_Cutter_passComment_84 rfl (lv_at hl 4 rfl) ?_
          refine lv_aload_n hx hb d_Cutter_passComment_85 rfl (lv_at hl 3 rfl) ?_
          refine va_get (D := (dC, dI)) (ci := 3) (v := .int (nI v_a_t_1)) (C := R_Cutter) (T := F_Cutter) (N := 6) hx hb hz zu_Cutter hown hK hP 0 rfl rfl 1 (by decide) (hz (.fieldLink R_Cutter 29 "LayoutFront$Cutter" "at" "I") zm_82) (fun _ h9 => h9) rfl d_Cutter_passComment_86 ?_
          have hPc := hP.sub (ws' := [(a_y0, .inr (10, [.ref a_y0_characters, .int (nI n_y0_length)])), (a_y0_characters, .inl (ka_y0_characters, 240, .inl f_y0_characters))]) [1, 2] rfl
          have hDc := hD.sub (ws' := [(a_y0, .inr (10, [.ref a_y0_characters, .int (nI n_y0_length)])), (a_y0_characters, .inl (ka_y0_characters, 240, .inl f_y0_characters))]) [1, 2] (by decide) rfl
          have hKc := hK.sub (tys' := [(ka_y0_characters, .char)]) [0] rfl
          have hFc := va_free (wc := [(a_y0, .inr (10, [.ref a_y0_characters, .int (nI n_y0_length)])), (a_y0_characters, .inl (ka_y0_characters, 240, .inl f_y0_characters))]) hD hS hA [1, 2] rfl
          refine va_calli (va_runV (As := [.int (nI v_a_t_1)]) (rest := [.ref a_t]) ⟨hx, hb, hml, hown, hz⟩ (s_Text_at6 l dC dI H.size a_y0 a_y0_characters f_y0_characters n_y0_length v_a_t_1 ka_y0_characters (by first | omega | assumption | exact Or.inl rfl | exact Or.inr rfl | decide) (by first | omega | assumption | exact Or.inl rfl | exact Or.inr rfl | decide) (by first | omega | assumption | exact Or.inl rfl | exact Or.inr rfl | decide)) (cwV 1 hz (zV zm_89 zm_11 zm_12 zm_7 zm_13) rfl rfl rfl (by decide +kernel) ⟨Nat.le_of_ble_eq_true rfl, Nat.le_of_ble_eq_true rfl⟩) ⟨fun a U g mk q => by obtain ⟨q0, q1, qP, qK, qD⟩ := q; exact ⟨q0, q1, qP, va_K.moved (u := U) (U := U.calling g mk a) (Vm.Alike.refl U.vm) qK, qD⟩, va_recv (q := (R_Text, F_Text, 2)) (q0 := 1) (ci := 10) hK hP rfl rfl, fun U hU hW => ⟨rfl, by rw [hU], by rw [hU]; exact hPc, va_K.moved hW.alike hKc, hDc.weaken (fun _ _ _ _ => trivial)⟩⟩ rfl rfl hl.1 rfl (lv_room (Nat.le_of_ble_eq_true rfl)) d_Cutter_passComment_89 ⟨Nat.zero_le _, Nat.zero_le _⟩) hS (fun q _ h => hFc q h) hFc (fun r u t H1 locs ht hvm hw hB hz1 hk1 hS => ?_)
          obtain ⟨hP1, hK1, hD1⟩ := hB
          subst r
          rw [ht] at hP1
          obtain ⟨hP, hD⟩ := va_join (wr := [(a_t, .inr (3, [.ref a_lexemes, .int (nI v_a_t_1), .int v_a_t_2, .int v_a_t_3, .int z_wrongPlace, .int z_tooMany]))]) (w1 := [(a_y0, .inr (10, [.ref a_y0_characters, .int (nI n_y0_length)])), (a_y0_characters, .inl (ka_y0_characters, 240, .inl f_y0_characters))]) hP hD [1, 2] [0] rfl rfl (by decide) (by decide) hk1 hFc hP1 hD1
          generalize H1 = H at hP hS ⊢
          have hP : va_P (dC, dI) vcl [(a_t, .inr (3, [.ref a_lexemes, .int (nI v_a_t_1), .int v_a_t_2, .int v_a_t_3, .int z_wrongPlace, .int z_tooMany])), (a_y0, .inr (10, [.ref a_y0_characters, .int (nI n_y0_length)])), (a_y0_characters, .inl (ka_y0_characters, 240, .inl f_y0_characters))] H := hP
          have hD : va_D A [(a_t, .inr (3, [.ref a_lexemes, .int (nI v_a_t_1), .int v_a_t_2, .int v_a_t_3, .int z_wrongPlace, .int z_tooMany])), (a_y0, .inr (10, [.ref a_y0_characters, .int (nI n_y0_length)])), (a_y0_characters, .inl (ka_y0_characters, 240, .inl f_y0_characters))] := hD
          have hPc := hP.sub (ws' := [(a_t, .inr (3, [.ref a_lexemes, .int (nI v_a_t_1), .int v_a_t_2, .int v_a_t_3, .int z_wrongPlace, .int z_tooMany]))]) [0] rfl
          have hDc := hD.sub (ws' := [(a_t, .inr (3, [.ref a_lexemes, .int (nI v_a_t_1), .int v_a_t_2, .int v_a_t_3, .int z_wrongPlace, .int z_tooMany]))]) [0] (by decide) rfl
          have hKc := hK.sub (tys' := []) [] rfl
          have hFc := va_free (wc := [(a_t, .inr (3, [.ref a_lexemes, .int (nI v_a_t_1), .int v_a_t_2, .int v_a_t_3, .int z_wrongPlace, .int z_tooMany]))]) hD hS hA [0] rfl
          refine va_callv (va_runV (As := [.int (cN f_y0_characters n_y0_length v_a_t_1)]) (rest := []) ⟨hx, hb, hml, hown, hz⟩ (s_Cutter_passCharacter6 l dC dI H.size a_t a_lexemes v_a_t_1 v_a_t_2 v_a_t_3 z_wrongPlace z_tooMany ((cN f_y0_characters n_y0_length v_a_t_1)) (by first | omega | assumption | exact Or.inl rfl | exact Or.inr rfl | decide) (by first | omega | assumption | exact Or.inl rfl | exact Or.inr rfl | decide)) (cwV 1 hz (zV zm_94 zm_95 zm_96 zm_92 zm_97) rfl rfl rfl (by decide +kernel) ⟨Nat.le_of_ble_eq_true rfl, Nat.le_of_ble_eq_true rfl⟩) ⟨fun a U g mk q => by obtain ⟨q0, q1, qP, qK, qD⟩ := q; exact ⟨q0, q1, qP, va_K.moved (u := U) (U := U.calling g mk a) (Vm.Alike.refl U.vm) qK, qD⟩, va_recv (q := (R_Cutter, F_Cutter, 6)) (q0 := 0) (ci := 3) hK hP rfl rfl, fun U hU hW => ⟨rfl, by rw [hU], by rw [hU]; exact hPc, va_K.moved hW.alike hKc, hDc.weaken (fun _ _ _ _ => trivial)⟩⟩ rfl rfl hl.1 rfl (lv_room (Nat.le_of_ble_eq_true rfl)) d_Cutter_passComment_92 ⟨Nat.zero_le _, Nat.zero_le _⟩) hS (fun q _ h => hFc q h) hFc (fun u t H1 locs ht hvm hw hB hz1 hk1 hS => ?_)
          obtain ⟨g5, g6, g7, hb_g5, hq0_92, hq1_92, hq2_92, hP1, hK1, hD1⟩ := hB
          subst g5
          subst g6
          subst g7
          rw [ht] at hP1
          obtain ⟨hP, hD⟩ := va_join (wr := [(a_y0, .inr (10, [.ref a_y0_characters, .int (nI n_y0_length)])), (a_y0_characters, .inl (ka_y0_characters, 240, .inl f_y0_characters))]) (w1 := [(a_t, .inr (3, [.ref a_lexemes, .int (nI (v_a_t_1 + 1)), .int (if ((cN f_y0_characters n_y0_length v_a_t_1)) = 10 then nI (v_a_t_1 + 1) else v_a_t_2), .int (if ((cN f_y0_characters n_y0_length v_a_t_1)) = 10 then 1 else v_a_t_3), .int z_wrongPlace, .int z_tooMany]))]) hP hD [0] [1, 2] rfl rfl (by decide) (by decide) hk1 hFc hP1 hD1
          generalize H1 = H at hP hS ⊢
          have hP : va_P (dC, dI) vcl [(a_y0, .inr (10, [.ref a_y0_characters, .int (nI n_y0_length)])), (a_y0_characters, .inl (ka_y0_characters, 240, .inl f_y0_characters)), (a_t, .inr (3, [.ref a_lexemes, .int (nI (v_a_t_1 + 1)), .int (if ((cN f_y0_characters n_y0_length v_a_t_1)) = 10 then nI (v_a_t_1 + 1) else v_a_t_2), .int (if ((cN f_y0_characters n_y0_length v_a_t_1)) = 10 then 1 else v_a_t_3), .int z_wrongPlace, .int z_tooMany]))] H := hP
          have hD : va_D A [(a_y0, .inr (10, [.ref a_y0_characters, .int (nI n_y0_length)])), (a_y0_characters, .inl (ka_y0_characters, 240, .inl f_y0_characters)), (a_t, .inr (3, [.ref a_lexemes, .int (nI (v_a_t_1 + 1)), .int (if ((cN f_y0_characters n_y0_length v_a_t_1)) = 10 then nI (v_a_t_1 + 1) else v_a_t_2), .int (if ((cN f_y0_characters n_y0_length v_a_t_1)) = 10 then 1 else v_a_t_3), .int z_wrongPlace, .int z_tooMany]))] := hD
          refine lv_iload_n hx hb d_Cutter_passComment_95 rfl (lv_at hl 1 rfl) ?_
          refine lv_if_ne (tgt := 100) hx hb d_Cutter_passComment_96 (by decide) (fun h8 => ?_) (fun h8 => ?_)
          · have h8 : ¬ k3 = 0 := fun q => h8 ((nI_eq (a := k3) (b := 0) (by omega) (by omega)).mpr q)
            refine lv_iinc (k := 0) (v := (nI (k4 + 1))) hx hb d_Cutter_passComment_100 hl rfl (nI_1 k4) (by decide) rfl (fun ls hl => ?_)
            have hl : lv_has ls 5 [(4, .int (nI (k4 + 1))), (3, .int (nI k3)), (2, .int (nI n_at)), (0, .ref a_t), (1, .ref a_y0)] := hl
            refine lv_goto (tgt := 10) hx hb d_Cutter_passComment_103 (by decide) ?_
            have hP9 := hP.sub (ws' := [(a_t, .inr (3, [.ref a_lexemes, .int (nI (v_a_t_1 + 1)), .int (if ((cN f_y0_characters n_y0_length v_a_t_1)) = 10 then nI (v_a_t_1 + 1) else v_a_t_2), .int (if ((cN f_y0_characters n_y0_length v_a_t_1)) = 10 then 1 else v_a_t_3), .int z_wrongPlace, .int z_tooMany])), (a_y0, .inr (10, [.ref a_y0_characters, .int (nI n_y0_length)])), (a_y0_characters, .inl (ka_y0_characters, 240, .inl f_y0_characters))]) [2, 0, 1] rfl
            have hD9 := hD.sub (ws' := [(a_t, .inr (3, [.ref a_lexemes, .int (nI (v_a_t_1 + 1)), .int (if ((cN f_y0_characters n_y0_length v_a_t_1)) = 10 then nI (v_a_t_1 + 1) else v_a_t_2), .int (if ((cN f_y0_characters n_y0_length v_a_t_1)) = 10 then 1 else v_a_t_3), .int z_wrongPlace, .int z_tooMany])), (a_y0, .inr (10, [.ref a_y0_characters, .int (nI n_y0_length)])), (a_y0_characters, .inl (ka_y0_characters, 240, .inl f_y0_characters))]) [2, 0, 1] (by decide) rfl
            exact ih10 ((k4 + 1), k3, (v_a_t_1 + 1), (if ((cN f_y0_characters n_y0_length v_a_t_1)) = 10 then nI (v_a_t_1 + 1) else v_a_t_2), (if ((cN f_y0_characters n_y0_length v_a_t_1)) = 10 then 1 else v_a_t_3)) (by show 240 - ((k4 + 1)) < 240 - k4; omega) _ _ _ ⟨by show ((k4 + 1)) ≤ 240; first | omega | assumption | exact Or.inl rfl | exact Or.inr rfl | decide, by show k3 ≤ 240; first | omega | assumption | exact Or.inl rfl | exact Or.inr rfl | decide, by show ((v_a_t_1 + 1)) ≤ 241; first | omega | assumption | exact Or.inl rfl | exact Or.inr rfl | decide, by show ((v_a_t_1 + 1)) ≤ n_y0_length; first | omega | assumption | exact Or.inl rfl | exact Or.inr rfl | decide, by show n_at + ((k4 + 1)) ≤ ((v_a_t_1 + 1)); first | omega | assumption | exact Or.inl rfl | exact Or.inr rfl | decide, by show 1 ≤ k3 ∨ ((v_a_t_1 + 1)) = n_at; exact Or.inl (by omega), by show k3 ≤ ((v_a_t_1 + 1)); first | omega | assumption | exact Or.inl rfl | exact Or.inr rfl | decide, by show nsE (cN f_y0_characters n_y0_length) n_y0_length 0 n_at = nsE (cN f_y0_characters n_y0_length) n_y0_length k3 ((v_a_t_1 + 1)); exact ns_go pL cE (dp_n (d := k3) po pc) (by omega), by show ((if ((cN f_y0_characters n_y0_length v_a_t_1)) = 10 then nI (v_a_t_1 + 1) else v_a_t_2)) = nI (lnO (cN f_y0_characters n_y0_length) ((v_a_t_1 + 1))); exact ln_ch cF, by show ((if ((cN f_y0_characters n_y0_length v_a_t_1)) = 10 then 1 else v_a_t_3)) = b01 (ldO L (lnO (cN f_y0_characters n_y0_length) ((v_a_t_1 + 1)))); exact fr_ch cG cH, by show hdW L ((v_a_t_1 + 1)); exact cH.mono (by omega), hl, hP9, hD9, hS⟩
          · have h8 : k3 = 0 := (nI_eq (a := k3) (b := 0) (by omega) (by omega)).mp h8
            (exfalso; omega)
        · have pc := b01_yes h4
          have pi := (ln_cl pc).2
          refine lv_iinc (k := 1) (v := (nI (k3 - 1))) hx hb d_Cutter_passComment_67 hl rfl (xr_dec (k := k3) (by omega)) (by decide) rfl (fun ls hl => ?_)
          have hl : lv_has ls 5 [(3, .int (nI (k3 - 1))), (4, .int (nI k4)), (2, .int (nI n_at)), (0, .ref a_t), (1, .ref a_y0)] := hl
          refine lv_aload_n hx hb d_Cutter_passComment_70 rfl (lv_at hl 3 rfl) ?_
          refine lv_dup hx hb d_Cutter_passComment_71 rfl ?_
          refine va_get (D := (dC, dI)) (ci := 3) (v := .int (nI v_a_t_1)) (C := R_Cutter) (T := F_Cutter) (N := 6) hx hb hz zu_Cutter hown hK hP 0 rfl rfl 1 (by decide) (hz (.fieldLink R_Cutter 29 "LayoutFront$Cutter" "at" "I") zm_82) (fun _ h9 => h9) rfl d_Cutter_passComment_72 ?_
          refine lv_iconst (v := 2) hx hb d_Cutter_passComment_75 (by decide) ?_
          refine xr_iadd (v := (nI (v_a_t_1 + 2))) hx hb d_Cutter_passComment_76 (nI_add v_a_t_1 2) ?_
          refine va_put (D := (dC, dI)) (ci := 3) (v := .int (nI (v_a_t_1 + 2))) (ty := .int) (C := R_Cutter) (T := F_Cutter) (N := 6) hx hb hz zu_Cutter t_Cutter t_Cutter_ok n_Cutter hown hK hP hD hS 0 rfl rfl 1 (by decide) (hz (.fieldLink R_Cutter 29 "LayoutFront$Cutter" "at" "I") zm_82) (fun _ h9 => h9) rfl (by decide +kernel) rfl rfl (Nat.le_of_ble_eq_true rfl) d_Cutter_passComment_77 (fun H locs hP hD hS => ?_)
          have hP : va_P (dC, dI) vcl [(a_t, .inr (3, [.ref a_lexemes, .int (nI (v_a_t_1 + 2)), .int v_a_t_2, .int v_a_t_3, .int z_wrongPlace, .int z_tooMany])), (a_y0, .inr (10, [.ref a_y0_characters, .int (nI n_y0_length)])), (a_y0_characters, .inl (ka_y0_characters, 240, .inl f_y0_characters))] H := hP
          have hD : va_D A [(a_t, .inr (3, [.ref a_lexemes, .int (nI (v_a_t_1 + 2)), .int v_a_t_2, .int v_a_t_3, .int z_wrongPlace, .int z_tooMany])), (a_y0, .inr (10, [.ref a_y0_characters, .int (nI n_y0_length)])), (a_y0_characters, .inl (ka_y0_characters, 240, .inl f_y0_characters))] := hD
          refine lv_goto (tgt := 95) hx hb d_Cutter_passComment_80 (by decide) ?_
          refine lv_iload_n hx hb d_Cutter_passComment_95 rfl (lv_at hl 0 rfl) ?_
          refine lv_if_ne (tgt := 100) hx hb d_Cutter_passComment_96 (by decide) (fun h9 => ?_) (fun h9 => ?_)
          · have h9 : ¬ (k3 - 1) = 0 := fun q => h9 ((nI_eq (a := (k3 - 1)) (b := 0) (by omega) (by omega)).mpr q)
            refine lv_iinc (k := 1) (v := (nI (k4 + 1))) hx hb d_Cutter_passComment_100 hl rfl (nI_1 k4) (by decide) rfl (fun ls hl => ?_)
            have hl : lv_has ls 5 [(4, .int (nI (k4 + 1))), (3, .int (nI (k3 - 1))), (2, .int (nI n_at)), (0, .ref a_t), (1, .ref a_y0)] := hl
            refine lv_goto (tgt := 10) hx hb d_Cutter_passComment_103 (by decide) ?_
            have hP9 := hP.sub (ws' := [(a_t, .inr (3, [.ref a_lexemes, .int (nI (v_a_t_1 + 2)), .int v_a_t_2, .int v_a_t_3, .int z_wrongPlace, .int z_tooMany])), (a_y0, .inr (10, [.ref a_y0_characters, .int (nI n_y0_length)])), (a_y0_characters, .inl (ka_y0_characters, 240, .inl f_y0_characters))]) [0, 1, 2] rfl
            have hD9 := hD.sub (ws' := [(a_t, .inr (3, [.ref a_lexemes, .int (nI (v_a_t_1 + 2)), .int v_a_t_2, .int v_a_t_3, .int z_wrongPlace, .int z_tooMany])), (a_y0, .inr (10, [.ref a_y0_characters, .int (nI n_y0_length)])), (a_y0_characters, .inl (ka_y0_characters, 240, .inl f_y0_characters))]) [0, 1, 2] (by decide) rfl
            exact ih10 ((k4 + 1), (k3 - 1), (v_a_t_1 + 2), v_a_t_2, v_a_t_3) (by show 240 - ((k4 + 1)) < 240 - k4; omega) _ _ _ ⟨by show ((k4 + 1)) ≤ 240; first | omega | assumption | exact Or.inl rfl | exact Or.inr rfl | decide, by show ((k3 - 1)) ≤ 240; first | omega | assumption | exact Or.inl rfl | exact Or.inr rfl | decide, by show ((v_a_t_1 + 2)) ≤ 241; first | omega | assumption | exact Or.inl rfl | exact Or.inr rfl | decide, by show ((v_a_t_1 + 2)) ≤ n_y0_length; first | omega | assumption | exact Or.inl rfl | exact Or.inr rfl | decide, by show n_at + ((k4 + 1)) ≤ ((v_a_t_1 + 2)); first | omega | assumption | exact Or.inl rfl | exact Or.inr rfl | decide, by show 1 ≤ ((k3 - 1)) ∨ ((v_a_t_1 + 2)) = n_at; exact Or.inl (by omega), by show ((k3 - 1)) ≤ ((v_a_t_1 + 2)); first | omega | assumption | exact Or.inl rfl | exact Or.inr rfl | decide, by show nsE (cN f_y0_characters n_y0_length) n_y0_length 0 n_at = nsE (cN f_y0_characters n_y0_length) n_y0_length ((k3 - 1)) ((v_a_t_1 + 2)); exact ns_go pL cE (dp_c (d := k3) po pc) (by omega), by show v_a_t_2 = nI (lnO (cN f_y0_characters n_y0_length) ((v_a_t_1 + 2))); rw [(ln_cl pc).1]; exact cF, by show v_a_t_3 = b01 (ldO L (lnO (cN f_y0_characters n_y0_length) ((v_a_t_1 + 2)))); rw [(ln_cl pc).1]; exact cG, by show hdW L ((v_a_t_1 + 2)); exact cH.mono (by omega), hl, hP9, hD9, hS⟩
          · have h9 : (k3 - 1) = 0 := (nI_eq (a := (k3 - 1)) (b := 0) (by omega) (by omega)).mp h9
            have hP9 := hP.sub (ws' := [(a_t, .inr (3, [.ref a_lexemes, .int (nI (v_a_t_1 + 2)), .int v_a_t_2, .int v_a_t_3, .int z_wrongPlace, .int z_tooMany])), (a_y0, .inr (10, [.ref a_y0_characters, .int (nI n_y0_length)])), (a_y0_characters, .inl (ka_y0_characters, 240, .inl f_y0_characters))]) [0, 1, 2] rfl
            have hD9 := hD.sub (ws' := [(a_t, .inr (3, [.ref a_lexemes, .int (nI (v_a_t_1 + 2)), .int v_a_t_2, .int v_a_t_3, .int z_wrongPlace, .int z_tooMany])), (a_y0, .inr (10, [.ref a_y0_characters, .int (nI n_y0_length)])), (a_y0_characters, .inl (ka_y0_characters, 240, .inl f_y0_characters))]) [0, 1, 2] (by decide) rfl
            exact W.vret hx hb hr (fun t ht hW => ⟨⟨(), rfl, trivial, ((v_a_t_1 + 2)), v_a_t_2, v_a_t_3, z_wrongPlace, by first | omega | assumption | exact Or.inl rfl | exact Or.inr rfl | decide, by (intro hh; rw [(ns_end pL cE ⟨(dp_c (d := k3) po pc).1.trans (by omega), (dp_c (d := k3) po pc).2⟩)] at hh; cases hh), by (intro b hh; rw [(ns_end pL cE ⟨(dp_c (d := k3) po pc).1.trans (by omega), (dp_c (d := k3) po pc).2⟩)] at hh; cases hh; exact ⟨rfl, rfl⟩), by exact cF.trans (congrArg nI (ln_cl pc).1.symm), by exact cG.trans (congrArg (fun z => b01 (ldO L z)) (ln_cl pc).1.symm), by exact cH.mono (by omega), by first | omega | assumption | exact Or.inl rfl | exact Or.inr rfl | decide, by first | omega | assumption | exact Or.inl rfl | exact Or.inr rfl | decide, by rw [ht]; exact hP9, va_K.moved hW.alike hK, hD9⟩, hS.F ht⟩) hS.2.2 d_Cutter_passComment_99
      · have po := b01_yes h3
        have pi := (ln_op po).2
        refine lv_iinc (k := 1) (v := (nI (k3 + 1))) hx hb d_Cutter_passComment_40 hl rfl (nI_1 k3) (by decide) rfl (fun ls hl => ?_)
        have hl : lv_has ls 5 [(3, .int (nI (k3 + 1))), (4, .int (nI k4)), (2, .int (nI n_at)), (0, .ref a_t), (1, .ref a_y0)] := hl
        refine lv_aload_n hx hb d_Cutter_passComment_43 rfl (lv_at hl 3 rfl) ?_
        refine lv_dup hx hb d_Cutter_passComment_44 rfl ?_
        refine va_get (D := (dC, dI)) (ci := 3) (v := .int (nI v_a_t_1)) (C := R_Cutter) (T := F_Cutter) (N := 6) hx hb hz zu_Cutter hown hK hP 0 rfl rfl 1 (by decide) (hz (.fieldLink R_Cutter 29 "LayoutFront$Cutter" "at" "I") zm_82) (fun _ h9 => h9) rfl d_Cutter_passComment_45 ?_
        refine lv_iconst (v := 2) hx hb d_Cutter_passComment_48 (by decide) ?_
        refine xr_iadd (v := (nI (v_a_t_1 + 2))) hx hb d_Cutter_passComment_49 (nI_add v_a_t_1 2) ?_
        refine va_put (D := (dC, dI)) (ci := 3) (v := .int (nI (v_a_t_1 + 2))) (ty := .int) (C := R_Cutter) (T := F_Cutter) (N := 6) hx hb hz zu_Cutter t_Cutter t_Cutter_ok n_Cutter hown hK hP hD hS 0 rfl rfl 1 (by decide) (hz (.fieldLink R_Cutter 29 "LayoutFront$Cutter" "at" "I") zm_82) (fun _ h9 => h9) rfl (by decide +kernel) rfl rfl (Nat.le_of_ble_eq_true rfl) d_Cutter_passComment_50 (fun H locs hP hD hS => ?_)
        have hP : va_P (dC, dI) vcl [(a_t, .inr (3, [.ref a_lexemes, .int (nI (v_a_t_1 + 2)), .int v_a_t_2, .int v_a_t_3, .int z_wrongPlace, .int z_tooMany])), (a_y0, .inr (10, [.ref a_y0_characters, .int (nI n_y0_length)])), (a_y0_characters, .inl (ka_y0_characters, 240, .inl f_y0_characters))] H := hP
        have hD : va_D A [(a_t, .inr (3, [.ref a_lexemes, .int (nI (v_a_t_1 + 2)), .int v_a_t_2, .int v_a_t_3, .int z_wrongPlace, .int z_tooMany])), (a_y0, .inr (10, [.ref a_y0_characters, .int (nI n_y0_length)])), (a_y0_characters, .inl (ka_y0_characters, 240, .inl f_y0_characters))] := hD
        refine lv_goto (tgt := 95) hx hb d_Cutter_passComment_53 (by decide) ?_
        refine lv_iload_n hx hb d_Cutter_passComment_95 rfl (lv_at hl 0 rfl) ?_
        refine lv_if_ne (tgt := 100) hx hb d_Cutter_passComment_96 (by decide) (fun h10 => ?_) (fun h10 => ?_)
        · have h10 : ¬ (k3 + 1) = 0 := fun q => h10 ((nI_eq (a := (k3 + 1)) (b := 0) (by omega) (by omega)).mpr q)
          refine lv_iinc (k := 1) (v := (nI (k4 + 1))) hx hb d_Cutter_passComment_100 hl rfl (nI_1 k4) (by decide) rfl (fun ls hl => ?_)
          have hl : lv_has ls 5 [(4, .int (nI (k4 + 1))), (3, .int (nI (k3 + 1))), (2, .int (nI n_at)), (0, .ref a_t), (1, .ref a_y0)] := hl
          refine lv_goto (tgt := 10) hx hb d_Cutter_passComment_103 (by decide) ?_
          have hP9 := hP.sub (ws' := [(a_t, .inr (3, [.ref a_lexemes, .int (nI (v_a_t_1 + 2)), .int v_a_t_2, .int v_a_t_3, .int z_wrongPlace, .int z_tooMany])), (a_y0, .inr (10, [.ref a_y0_characters, .int (nI n_y0_length)])), (a_y0_characters, .inl (ka_y0_characters, 240, .inl f_y0_characters))]) [0, 1, 2] rfl
          have hD9 := hD.sub (ws' := [(a_t, .inr (3, [.ref a_lexemes, .int (nI (v_a_t_1 + 2)), .int v_a_t_2, .int v_a_t_3, .int z_wrongPlace, .int z_tooMany])), (a_y0, .inr (10, [.ref a_y0_characters, .int (nI n_y0_length)])), (a_y0_characters, .inl (ka_y0_characters, 240, .inl f_y0_characters))]) [0, 1, 2] (by decide) rfl
          exact ih10 ((k4 + 1), (k3 + 1), (v_a_t_1 + 2), v_a_t_2, v_a_t_3) (by show 240 - ((k4 + 1)) < 240 - k4; omega) _ _ _ ⟨by show ((k4 + 1)) ≤ 240; first | omega | assumption | exact Or.inl rfl | exact Or.inr rfl | decide, by show ((k3 + 1)) ≤ 240; first | omega | assumption | exact Or.inl rfl | exact Or.inr rfl | decide, by show ((v_a_t_1 + 2)) ≤ 241; first | omega | assumption | exact Or.inl rfl | exact Or.inr rfl | decide, by show ((v_a_t_1 + 2)) ≤ n_y0_length; first | omega | assumption | exact Or.inl rfl | exact Or.inr rfl | decide, by show n_at + ((k4 + 1)) ≤ ((v_a_t_1 + 2)); first | omega | assumption | exact Or.inl rfl | exact Or.inr rfl | decide, by show 1 ≤ ((k3 + 1)) ∨ ((v_a_t_1 + 2)) = n_at; exact Or.inl (by omega), by show ((k3 + 1)) ≤ ((v_a_t_1 + 2)); first | omega | assumption | exact Or.inl rfl | exact Or.inr rfl | decide, by show nsE (cN f_y0_characters n_y0_length) n_y0_length 0 n_at = nsE (cN f_y0_characters n_y0_length) n_y0_length ((k3 + 1)) ((v_a_t_1 + 2)); exact ns_go pL cE (dp_o (d := k3) po) (by omega), by show v_a_t_2 = nI (lnO (cN f_y0_characters n_y0_length) ((v_a_t_1 + 2))); rw [(ln_op po).1]; exact cF, by show v_a_t_3 = b01 (ldO L (lnO (cN f_y0_characters n_y0_length) ((v_a_t_1 + 2)))); rw [(ln_op po).1]; exact cG, by show hdW L ((v_a_t_1 + 2)); exact cH.mono (by omega), hl, hP9, hD9, hS⟩
        · have h10 : (k3 + 1) = 0 := (nI_eq (a := (k3 + 1)) (b := 0) (by omega) (by omega)).mp h10
          (exfalso; omega)
set_option maxHeartbeats 4000000 in
set_option maxRecDepth 100000 in
theorem s_JS_coder6 (l : Launch) (dC : Nat → ClassId) (dI : Nat → Nat → Nat) (sz : Nat) (a_t : Nat) (v_t : Nat) (n_t : Nat) (f_t : Nat → Int32) (bn_t : n_t ≤ 600) : Met l y_JS_coder w_JS_coder ({ frames := 0, cells := 0, slots := 0, locals := 0 }) (va_Pc [.ref a_t] (fun U => U.heap.size = sz ∧ va_P (dC, dI) vcl [] U.heap ∧ va_K (dC, dI) vcl [] U ∧ va_D (fun _ => True) [] ∧ cx_O a_t v_t n_t f_t (va_A [] sz) U U.heap)) (va_Qi (fun (r : Int32) (_ : Unit) => r = 0) (fun _ t => va_P (dC, dI) vcl [] t.heap ∧ va_K (dC, dI) vcl [] t ∧ va_D (va_A [] sz) []) (va_A [] sz)) 0 0 (va_A [] sz) := by
  refine Met.ofW (cc := b_JS_coder) (maxL := 1) (ret := (some (.byte))) (by decide) rfl ?_
  intro p e s m args below meth c s₁ B hml hv
  obtain ⟨rfl, hsz, hP, hK, hD0, hO_a_t⟩ := hv
  have hx := B.exec
  have hb := B.bytes
  have hr := B.returns
  have hts := atoms_spec (ws := w_JS_coder) B.pre
  have hz : ∀ w ∈ wz, w.before _ s = true := fun w h => hts w (List.mem_cons_of_mem _ h)
  have hown : s.vm.findClass R_JS = some m.cls := findClass_of_methodNamed B.named
  have hlocks := B.notSynchronized
  subst hsz
  have hD := hD0.self (sz := s.heap.size)
  generalize hAe : va_A [] s.heap.size = A at hD hO_a_t ⊢
  have hA : ∀ q : Nat, s.heap.size ≤ q → A q := fun q h => by rw [← hAe]; exact Or.inr h
  have hS : va_S A s.heap s.heap [] := va_S.rf
  have hP : va_P (dC, dI) vcl [] s.heap := hP
  have hl := lv_entry ([.ref a_t]) (n := 1) (Nat.le_of_ble_eq_true rfl)
  rw [lg_entry_eq]
  generalize (lg_sl ([.ref a_t]) ++ List.replicate (1 - (lg_sl ([.ref a_t])).length) Slot.unset).toArray = ls at hl ⊢
  have hl : lv_has ls 1 [(0, .ref a_t)] := hl
  refine va_gets hx hb hO_a_t.2.2.2.2 hS hown (hz (.fieldLink R_JS 38 "java/lang/String" "COMPACT_STRINGS" "Z") zm_1008) (fun _ h9 => h9) d_JS_coder_0 ?_
  refine lv_if_eq (tgt := 13) hx hb d_JS_coder_3 (by decide) (fun h => absurd h (by decide +kernel)) (fun _ => ?_)
  refine lv_aload_n hx hb d_JS_coder_6 rfl (lv_at hl 0 rfl) ?_
  refine vk_getf hx hb hO_a_t.2.1 hS hown (hz (.fieldLink R_JS 15 "java/lang/String" "coder" "B") zm_1007) (fun _ h9 => h9) d_JS_coder_7 ?_
  refine lv_goto (tgt := 14) hx hb d_JS_coder_10 (by decide) ?_
  have hP9 := hP.sub (ws' := []) [] rfl
  have hD9 := hD.sub (ws' := []) [] (by decide) rfl
  exact W.zret (v := 0) hx hb hr (by decide +kernel) (fun t ht hW => ⟨⟨0, (), rfl, rfl, by rw [ht]; exact hP9, va_K.moved hW.alike hK, hD9⟩, hS.F ht⟩) hS.2.2 d_JS_coder_14
set_option maxHeartbeats 4000000 in
set_option maxRecDepth 100000 in
theorem s_JS_isLatin16 (l : Launch) (dC : Nat → ClassId) (dI : Nat → Nat → Nat) (sz : Nat) (a_t : Nat) (v_t : Nat) (n_t : Nat) (f_t : Nat → Int32) (bn_t : n_t ≤ 600) : Met l y_JS_isLatin1 w_JS_isLatin1 ({ frames := 0, cells := 0, slots := 0, locals := 0 }) (va_Pc [.ref a_t] (fun U => U.heap.size = sz ∧ va_P (dC, dI) vcl [] U.heap ∧ va_K (dC, dI) vcl [] U ∧ va_D (fun _ => True) [] ∧ cx_O a_t v_t n_t f_t (va_A [] sz) U U.heap)) (va_Qi (fun (r : Int32) (_ : Unit) => (r = 0 ∨ r = 1) ∧ (r = 1)) (fun _ t => va_P (dC, dI) vcl [] t.heap ∧ va_K (dC, dI) vcl [] t ∧ va_D (va_A [] sz) []) (va_A [] sz)) 0 0 (va_A [] sz) := by
  refine Met.ofW (cc := b_JS_isLatin1) (maxL := 1) (ret := (some .boolean)) (by decide) rfl ?_
  intro p e s m args below meth c s₁ B hml hv
  obtain ⟨rfl, hsz, hP, hK, hD0, hO_a_t⟩ := hv
  have hx := B.exec
  have hb := B.bytes
  have hr := B.returns
  have hts := atoms_spec (ws := w_JS_isLatin1) B.pre
  have hz : ∀ w ∈ wz, w.before _ s = true := fun w h => hts w (List.mem_cons_of_mem _ h)
  have hown : s.vm.findClass R_JS = some m.cls := findClass_of_methodNamed B.named
  have hlocks := B.notSynchronized
  subst hsz
  have hD := hD0.self (sz := s.heap.size)
  generalize hAe : va_A [] s.heap.size = A at hD hO_a_t ⊢
  have hA : ∀ q : Nat, s.heap.size ≤ q → A q := fun q h => by rw [← hAe]; exact Or.inr h
  have hS : va_S A s.heap s.heap [] := va_S.rf
  have hP : va_P (dC, dI) vcl [] s.heap := hP
  have hl := lv_entry ([.ref a_t]) (n := 1) (Nat.le_of_ble_eq_true rfl)
  rw [lg_entry_eq]
  generalize (lg_sl ([.ref a_t]) ++ List.replicate (1 - (lg_sl ([.ref a_t])).length) Slot.unset).toArray = ls at hl ⊢
  have hl : lv_has ls 1 [(0, .ref a_t)] := hl
  refine va_gets hx hb hO_a_t.2.2.2.2 hS hown (hz (.fieldLink R_JS 38 "java/lang/String" "COMPACT_STRINGS" "Z") zm_1008) (fun _ h9 => h9) d_JS_isLatin1_0 ?_
  refine lv_if_eq (tgt := 17) hx hb d_JS_isLatin1_3 (by decide) (fun h => absurd h (by decide +kernel)) (fun _ => ?_)
  refine lv_aload_n hx hb d_JS_isLatin1_6 rfl (lv_at hl 0 rfl) ?_
  refine vk_getf hx hb hO_a_t.2.1 hS hown (hz (.fieldLink R_JS 15 "java/lang/String" "coder" "B") zm_1007) (fun _ h9 => h9) d_JS_isLatin1_7 ?_
  refine lv_if_ne (tgt := 17) hx hb d_JS_isLatin1_10 (by decide) (fun h => (h (by decide +kernel)).elim) (fun _ => ?_)
  refine lv_iconst (v := 1) hx hb d_JS_isLatin1_13 (by decide) ?_
  refine lv_goto (tgt := 18) hx hb d_JS_isLatin1_14 (by decide) ?_
  have hP9 := hP.sub (ws' := []) [] rfl
  have hD9 := hD.sub (ws' := []) [] (by decide) rfl
  exact W.zret (v := 1) hx hb hr (by decide +kernel) (fun t ht hW => ⟨⟨1, (), rfl, ⟨(by first | assumption | exact Or.inl rfl | exact Or.inr rfl), rfl⟩, by rw [ht]; exact hP9, va_K.moved hW.alike hK, hD9⟩, hS.F ht⟩) hS.2.2 d_JS_isLatin1_18
set_option maxHeartbeats 4000000 in
set_option maxRecDepth 100000 in
theorem s_JS_length6 (l : Launch) (dC : Nat → ClassId) (dI : Nat → Nat → Nat) (sz : Nat) (a_t : Nat) (v_t : Nat) (n_t : Nat) (f_t : Nat → Int32) (bn_t : n_t ≤ 600) : Met l y_JS_length w_JS_length ({ frames := 1, cells := 0, slots := 0, locals := 20 }) (va_Pc [.ref a_t] (fun U => U.heap.size = sz ∧ va_P (dC, dI) vcl [] U.heap ∧ va_K (dC, dI) vcl [] U ∧ va_D (fun _ => True) [] ∧ cx_O a_t v_t n_t f_t (va_A [] sz) U U.heap)) (va_Qi (fun (r : Int32) (_ : Unit) => r = (nI n_t)) (fun _ t => va_P (dC, dI) vcl [] t.heap ∧ va_K (dC, dI) vcl [] t ∧ va_D (va_A [] sz) []) (va_A [] sz)) 0 0 (va_A [] sz) := by
  refine Met.ofW (cc := b_JS_length) (maxL := 1) (ret := (some .int)) (by decide) rfl ?_
  intro p e s m args below meth c s₁ B hml hv
  obtain ⟨rfl, hsz, hP, hK, hD0, hO_a_t⟩ := hv
  have hx := B.exec
  have hb := B.bytes
  have hr := B.returns
  have hts := atoms_spec (ws := w_JS_length) B.pre
  have hz : ∀ w ∈ wz, w.before _ s = true := fun w h => hts w (List.mem_cons_of_mem _ h)
  have hown : s.vm.findClass R_JS = some m.cls := findClass_of_methodNamed B.named
  have hlocks := B.notSynchronized
  subst hsz
  have hD := hD0.self (sz := s.heap.size)
  generalize hAe : va_A [] s.heap.size = A at hD hO_a_t ⊢
  have hA : ∀ q : Nat, s.heap.size ≤ q → A q := fun q h => by rw [← hAe]; exact Or.inr h
  have hS : va_S A s.heap s.heap [] := va_S.rf
  have hP : va_P (dC, dI) vcl [] s.heap := hP
  have hl := lv_entry ([.ref a_t]) (n := 1) (Nat.le_of_ble_eq_true rfl)
  rw [lg_entry_eq]
  generalize (lg_sl ([.ref a_t]) ++ List.replicate (1 - (lg_sl ([.ref a_t])).length) Slot.unset).toArray = ls at hl ⊢
  have hl : lv_has ls 1 [(0, .ref a_t)] := hl
  refine lv_aload_n hx hb d_JS_length_0 rfl (lv_at hl 0 rfl) ?_
  refine vk_getf hx hb hO_a_t.2.2.1 hS hown (hz (.fieldLink R_JS 9 "java/lang/String" "value" "[B") zm_998) (fun _ h9 => h9) d_JS_length_1 ?_
  have hT_v_t : cx_B v_t n_t f_t A s s.heap := hO_a_t.2.2.2.1
  refine va_tlen (v := (nI n_t)) hx hb hT_v_t hS rfl d_JS_length_4 ?_
  refine lv_aload_n hx hb d_JS_length_5 rfl (lv_at hl 0 rfl) ?_
  have hPc := hP.sub (ws' := []) [] rfl
  have hDc := hD.sub (ws' := []) [] (by decide) rfl
  have hKc := hK.sub (tys' := []) [] rfl
  have hFc := va_free (wc := []) hD hS hA [] rfl
  refine va_calli (va_runV (As := []) (rest := [.int (nI n_t)]) ⟨hx, hb, hml, hown, hz⟩ (s_JS_coder6 l dC dI s.heap.size a_t v_t n_t f_t (by first | omega | assumption | exact Or.inl rfl | exact Or.inr rfl)) (cwV 0 hz (zV zm_1009 zm_1010 zm_1011 zm_167 zm_1012) rfl rfl rfl (by decide +kernel) ⟨Nat.le_of_ble_eq_true rfl, Nat.le_of_ble_eq_true rfl⟩) ⟨fun a U g mk q => by obtain ⟨q0, q1, qP, qK, qD, qx0⟩ := q; exact ⟨q0, q1, qP, va_K.moved (u := U) (U := U.calling g mk a) (Vm.Alike.refl U.vm) qK, qD, cx_O.same (u := U) (U := U.calling g mk a) rfl qx0⟩, cx_recv hO_a_t hS, fun U hU hW => ⟨rfl, by rw [hU], by rw [hU]; exact hPc, va_K.moved hW.alike hKc, hDc.weaken (fun _ _ _ _ => trivial), by rw [hU]; exact cx_O.to hW hS hFc hO_a_t⟩⟩ rfl rfl hl.1 rfl (lv_room (Nat.le_of_ble_eq_true rfl)) d_JS_length_6 ⟨Nat.zero_le _, Nat.zero_le _⟩) hS (fun q _ h => hFc q h) hFc (fun r u t H1 locs ht hvm hw hB hz1 hk1 hS => ?_)
  obtain ⟨hP1, hK1, hD1⟩ := hB
  subst r
  rw [ht] at hP1
  obtain ⟨hP, hD⟩ := va_join (wr := []) (w1 := []) hP hD [] [] rfl rfl (by decide) (by decide) hk1 hFc hP1 hD1
  generalize H1 = H at hP hS ⊢
  have hP : va_P (dC, dI) vcl [] H := hP
  have hD : va_D A [] := hD
  refine lv_ishr hx hb d_JS_length_9 ?_
  rw [sc_shr0 (by omega)]
  have hP9 := hP.sub (ws' := []) [] rfl
  have hD9 := hD.sub (ws' := []) [] (by decide) rfl
  exact W.iret (v := (nI n_t)) hx hb hr (fun t ht hW => ⟨⟨(nI n_t), (), rfl, rfl, by rw [ht]; exact hP9, va_K.moved hW.alike hK, hD9⟩, hS.F ht⟩) hS.2.2 d_JS_length_10
set_option maxHeartbeats 4000000 in
set_option maxRecDepth 100000 in
theorem s_JL_canEncode6 (l : Launch) (dC : Nat → ClassId) (dI : Nat → Nat → Nat) (sz : Nat) (y0 : Int32) : Met l y_JL_canEncode w_JL_canEncode ({ frames := 0, cells := 0, slots := 0, locals := 0 }) (va_Pc [.int y0] (fun U => U.heap.size = sz ∧ va_P (dC, dI) vcl [] U.heap ∧ va_K (dC, dI) vcl [] U ∧ va_D (fun _ => True) [])) (va_Qi (fun (r : Int32) (_ : Unit) => (r = 0 ∨ r = 1) ∧ (r = ceB y0)) (fun _ t => va_P (dC, dI) vcl [] t.heap ∧ va_K (dC, dI) vcl [] t ∧ va_D (va_A [] sz) []) (va_A [] sz)) 0 0 (va_A [] sz) := by
  refine Met.ofW (cc := b_JL_canEncode) (maxL := 1) (ret := (some .boolean)) (by decide) rfl ?_
  intro p e s m args below meth c s₁ B hml hv
  obtain ⟨rfl, hsz, hP, hK, hD0⟩ := hv
  have hx := B.exec
  have hb := B.bytes
  have hr := B.returns
  have hts := atoms_spec (ws := w_JL_canEncode) B.pre
  have hz : ∀ w ∈ wz, w.before _ s = true := fun w h => hts w (List.mem_cons_of_mem _ h)
  have hown : s.vm.findClass R_JL = some m.cls := findClass_of_methodNamed B.named
  have hlocks := B.notSynchronized
  subst hsz
  have hD := hD0.self (sz := s.heap.size)
  generalize hAe : va_A [] s.heap.size = A at hD ⊢
  have hA : ∀ q : Nat, s.heap.size ≤ q → A q := fun q h => by rw [← hAe]; exact Or.inr h
  have hS : va_S A s.heap s.heap [] := va_S.rf
  have hP : va_P (dC, dI) vcl [] s.heap := hP
  have hl := lv_entry ([.int y0]) (n := 1) (Nat.le_of_ble_eq_true rfl)
  rw [lg_entry_eq]
  generalize (lg_sl ([.int y0]) ++ List.replicate (1 - (lg_sl ([.int y0])).length) Slot.unset).toArray = ls at hl ⊢
  have hl : lv_has ls 1 [(0, .int y0)] := hl
  refine lv_iload_n hx hb d_JL_canEncode_0 rfl (lv_at hl 0 rfl) ?_
  refine lv_if_lt (tgt := 15) hx hb d_JL_canEncode_1 (by decide) (fun h1 => ?_) (fun h1 => ?_)
  · refine lv_iconst (v := 0) hx hb d_JL_canEncode_15 (by decide) ?_
    have hP9 := hP.sub (ws' := []) [] rfl
    have hD9 := hD.sub (ws' := []) [] (by decide) rfl
    exact W.zret (v := 0) hx hb hr (by decide +kernel) (fun t ht hW => ⟨⟨0, (), rfl, ⟨(by first | assumption | exact Or.inl rfl | exact Or.inr rfl), (by unfold ceB; simp [*])⟩, by rw [ht]; exact hP9, va_K.moved hW.alike hK, hD9⟩, hS.F ht⟩) hS.2.2 d_JL_canEncode_16
  · refine lv_iload_n hx hb d_JL_canEncode_4 rfl (lv_at hl 0 rfl) ?_
    refine lv_sipush (v := 255) hx hb d_JL_canEncode_5 (by decide) ?_
    refine lv_icmp_gt (tgt := 15) hx hb d_JL_canEncode_8 (by decide) (fun h2 => ?_) (fun h2 => ?_)
    · refine lv_iconst (v := 0) hx hb d_JL_canEncode_15 (by decide) ?_
      have hP9 := hP.sub (ws' := []) [] rfl
      have hD9 := hD.sub (ws' := []) [] (by decide) rfl
      exact W.zret (v := 0) hx hb hr (by decide +kernel) (fun t ht hW => ⟨⟨0, (), rfl, ⟨(by first | assumption | exact Or.inl rfl | exact Or.inr rfl), (by unfold ceB; simp [*])⟩, by rw [ht]; exact hP9, va_K.moved hW.alike hK, hD9⟩, hS.F ht⟩) hS.2.2 d_JL_canEncode_16
    · refine lv_iconst (v := 1) hx hb d_JL_canEncode_11 (by decide) ?_
      refine lv_goto (tgt := 16) hx hb d_JL_canEncode_12 (by decide) ?_
      have hP9 := hP.sub (ws' := []) [] rfl
      have hD9 := hD.sub (ws' := []) [] (by decide) rfl
      exact W.zret (v := 1) hx hb hr (by decide +kernel) (fun t ht hW => ⟨⟨1, (), rfl, ⟨(by first | assumption | exact Or.inl rfl | exact Or.inr rfl), (by unfold ceB; simp [*])⟩, by rw [ht]; exact hP9, va_K.moved hW.alike hK, hD9⟩, hS.F ht⟩) hS.2.2 d_JL_canEncode_16
set_option maxHeartbeats 4000000 in
set_option maxRecDepth 100000 in
theorem s_JL_indexOfChar6 (l : Launch) (dC : Nat → ClassId) (dI : Nat → Nat → Nat) (sz : Nat) (a_y0 : Nat) (n_y0 : Nat) (f_y0 : Nat → Int32) (y1 : Int32) (y2 : Nat) (y3 : Nat) (by0 : n_y0 ≤ 600) (by2 : y2 ≤ 600) (by3 : y3 ≤ 600) (hp0 : y3 ≤ n_y0) (hp1 : y2 ≤ y3) : Met l y_JL_indexOfChar w_JL_indexOfChar ({ frames := 0, cells := 0, slots := 0, locals := 0 }) (va_Pc [.ref a_y0, .int y1, .int (nI y2), .int (nI y3)] (fun U => U.heap.size = sz ∧ va_P (dC, dI) vcl [] U.heap ∧ va_K (dC, dI) vcl [] U ∧ va_D (fun _ => True) [] ∧ cx_B a_y0 n_y0 f_y0 (va_A [] sz) U U.heap)) (va_Qi (fun (r : Int32) (_ : Unit) => r = ixE f_y0 (b8 y1) y3 y2) (fun _ t => va_P (dC, dI) vcl [] t.heap ∧ va_K (dC, dI) vcl [] t ∧ va_D (va_A [] sz) []) (va_A [] sz)) 0 0 (va_A [] sz) := by
  refine Met.ofW (cc := b_JL_indexOfChar) (maxL := 6) (ret := (some .int)) (by decide) rfl ?_
  intro p e s m args below meth c s₁ B hml hv
  obtain ⟨rfl, hsz, hP, hK, hD0, hT_a_y0⟩ := hv
  have hx := B.exec
  have hb := B.bytes
  have hr := B.returns
  have hts := atoms_spec (ws := w_JL_indexOfChar) B.pre
  have hz : ∀ w ∈ wz, w.before _ s = true := fun w h => hts w (List.mem_cons_of_mem _ h)
  have hown : s.vm.findClass R_JL = some m.cls := findClass_of_methodNamed B.named
  have hlocks := B.notSynchronized
  subst hsz
  have hD := hD0.self (sz := s.heap.size)
  generalize hAe : va_A [] s.heap.size = A at hD hT_a_y0 ⊢
  have hA : ∀ q : Nat, s.heap.size ≤ q → A q := fun q h => by rw [← hAe]; exact Or.inr h
  have hS : va_S A s.heap s.heap [] := va_S.rf
  have hP : va_P (dC, dI) vcl [] s.heap := hP
  have hl := lv_entry ([.ref a_y0, .int y1, .int (nI y2), .int (nI y3)]) (n := 6) (Nat.le_of_ble_eq_true rfl)
  rw [lg_entry_eq]
  generalize (lg_sl ([.ref a_y0, .int y1, .int (nI y2), .int (nI y3)]) ++ List.replicate (6 - (lg_sl ([.ref a_y0, .int y1, .int (nI y2), .int (nI y3)])).length) Slot.unset).toArray = ls at hl ⊢
  have hl : lv_has ls 6 [(0, .ref a_y0), (1, .int y1), (2, .int (nI y2)), (3, .int (nI y3))] := hl
  refine lv_iload_n hx hb d_JL_indexOfChar_0 rfl (lv_at hl 1 rfl) ?_
  refine lv_i2b (v := b8 y1) hx hb d_JL_indexOfChar_1 rfl ?_
  refine lv_istore hx hb d_JL_indexOfChar_2 hl (by decide) rfl (fun ls hl => ?_)
  have hl : lv_has ls 6 [(4, .int (b8 y1)), (0, .ref a_y0), (1, .int y1), (2, .int (nI y2)), (3, .int (nI y3))] := hl
  refine lv_iload_n hx hb d_JL_indexOfChar_4 rfl (lv_at hl 3 rfl) ?_
  refine lv_istore hx hb d_JL_indexOfChar_5 hl (by decide) rfl (fun ls hl => ?_)
  have hl : lv_has ls 6 [(5, .int (nI y2)), (4, .int (b8 y1)), (0, .ref a_y0), (1, .int y1), (2, .int (nI y2)), (3, .int (nI y3))] := hl
  refine xr_loop (α := (Nat)) (fun a => (fun (k5 : Nat) => 600 - k5) a) (fun a H locs ls => (fun (k5 : Nat) => (k5 ≤ 600) ∧ (k5 ≤ y3) ∧ (y2 ≤ k5) ∧ (ixE f_y0 (b8 y1) y3 k5 = ixE f_y0 (b8 y1) y3 y2) ∧ lv_has ls 6 [(5, .int (nI k5)), (4, .int (b8 y1)), (0, .ref a_y0), (1, .int y1), (2, .int (nI y2)), (3, .int (nI y3))] ∧ va_P (dC, dI) vcl [] H ∧ va_D A [] ∧ va_S A s.heap H locs) a) (fun a ih7 H locs ls hI => ?_) (y2) _ _ _ ⟨by show y2 ≤ 600; first | omega | assumption | exact Or.inl rfl | exact Or.inr rfl | decide, by show y2 ≤ y3; first | omega | assumption | exact Or.inl rfl | exact Or.inr rfl | decide, by show y2 ≤ y2; first | omega | assumption | exact Or.inl rfl | exact Or.inr rfl | decide, by show ixE f_y0 (b8 y1) y3 y2 = ixE f_y0 (b8 y1) y3 y2; first | rfl | (rw [Nat.sub_self]; rfl), hl, hP, hD, hS⟩
  generalize a = k5 at ih7 hI
  obtain ⟨bl0, bl1, bl2, bl3, hl, hP, hD, hS⟩ := hI
  have bl0 : k5 ≤ 600 := bl0
  have bl1 : k5 ≤ y3 := bl1
  have bl2 : y2 ≤ k5 := bl2
  have bl3 : ixE f_y0 (b8 y1) y3 k5 = ixE f_y0 (b8 y1) y3 y2 := bl3
  have iE := bl3
  have hl : lv_has ls 6 [(5, .int (nI k5)), (4, .int (b8 y1)), (0, .ref a_y0), (1, .int y1), (2, .int (nI y2)), (3, .int (nI y3))] := hl
  have hP : va_P (dC, dI) vcl [] H := hP
  have hD : va_D A [] := hD
  refine lv_iload hx hb d_JL_indexOfChar_7 (lv_at hl 0 rfl) ?_
  refine lv_iload_n hx hb d_JL_indexOfChar_9 rfl (lv_at hl 5 rfl) ?_
  refine lv_icmp_ge (tgt := 31) hx hb d_JL_indexOfChar_10 (by decide) (fun h1 => ?_) (fun h1 => ?_)
  · have h1 : y3 ≤ k5 := (nI_leI (a := y3) (b := k5) (by omega) (by omega)).mp h1
    refine lv_iconst (v := (-1)) hx hb d_JL_indexOfChar_31 (by decide) ?_
    have hP9 := hP.sub (ws' := []) [] rfl
    have hD9 := hD.sub (ws' := []) [] (by decide) rfl
    exact W.iret (v := (-1)) hx hb hr (fun t ht hW => ⟨⟨(-1), (), rfl, (by exact (ix_end (by omega)).symm.trans iE), by rw [ht]; exact hP9, va_K.moved hW.alike hK, hD9⟩, hS.F ht⟩) hS.2.2 d_JL_indexOfChar_32
  · have h1 : ¬ y3 ≤ k5 := fun q => h1 ((nI_leI (a := y3) (b := k5) (by omega) (by omega)).mpr q)
    refine lv_aload_n hx hb d_JL_indexOfChar_13 rfl (lv_at hl 2 rfl) ?_
    refine lv_iload hx hb d_JL_indexOfChar_14 (lv_at hl 0 rfl) ?_
    refine va_tb (v := .int (f_y0 k5)) hx hb hT_a_y0 hS (vp_in_nI (by omega) (by omega)) (congrArg (fun z => Value.int (f_y0 z)) (nI_clamp (by omega))) d_JL_indexOfChar_16 ?_
    refine lv_iload hx hb d_JL_indexOfChar_17 (lv_at hl 1 rfl) ?_
    refine lv_icmp_ne (tgt := 25) hx hb d_JL_indexOfChar_19 (by decide) (fun h3 => ?_) (fun h3 => ?_)
    · have e19 := h3
      refine lv_iinc (k := 0) (v := (nI (k5 + 1))) hx hb d_JL_indexOfChar_25 hl rfl (nI_1 k5) (by decide) rfl (fun ls hl => ?_)
      have hl : lv_has ls 6 [(5, .int (nI (k5 + 1))), (4, .int (b8 y1)), (0, .ref a_y0), (1, .int y1), (2, .int (nI y2)), (3, .int (nI y3))] := hl
      refine lv_goto (tgt := 7) hx hb d_JL_indexOfChar_28 (by decide) ?_
      have hP9 := hP.sub (ws' := []) [] rfl
      have hD9 := hD.sub (ws' := []) [] (by decide) rfl
      exact ih7 ((k5 + 1)) (by show 600 - ((k5 + 1)) < 600 - k5; omega) _ _ _ ⟨by show ((k5 + 1)) ≤ 600; first | omega | assumption | exact Or.inl rfl | exact Or.inr rfl | decide, by show ((k5 + 1)) ≤ y3; first | omega | assumption | exact Or.inl rfl | exact Or.inr rfl | decide, by show y2 ≤ ((k5 + 1)); first | omega | assumption | exact Or.inl rfl | exact Or.inr rfl | decide, by show ixE f_y0 (b8 y1) y3 ((k5 + 1)) = ixE f_y0 (b8 y1) y3 y2; exact (ix_go (by omega) e19).symm.trans iE, hl, hP9, hD9, hS⟩
    · have e19 := h3
      refine lv_iload hx hb d_JL_indexOfChar_22 (lv_at hl 0 rfl) ?_
      have hP9 := hP.sub (ws' := []) [] rfl
      have hD9 := hD.sub (ws' := []) [] (by decide) rfl
      exact W.iret (v := (nI k5)) hx hb hr (fun t ht hW => ⟨⟨(nI k5), (), rfl, (by exact (ix_at (by omega) e19).symm.trans iE), by rw [ht]; exact hP9, va_K.moved hW.alike hK, hD9⟩, hS.F ht⟩) hS.2.2 d_JL_indexOfChar_24
set_option maxHeartbeats 4000000 in
set_option maxRecDepth 100000 in
theorem s_JL_indexOf6 (l : Launch) (dC : Nat → ClassId) (dI : Nat → Nat → Nat) (sz : Nat) (a_y0 : Nat) (n_y0 : Nat) (f_y0 : Nat → Int32) (y1 : Int32) (y2 : Nat) (y3 : Nat) (by0 : n_y0 ≤ 600) (by2 : y2 ≤ 600) (by3 : y3 ≤ 600) : Met l y_JL_indexOf w_JL_indexOf ({ frames := 1, cells := 0, slots := 0, locals := 40 }) (va_Pc [.ref a_y0, .int y1, .int (nI y2), .int (nI y3)] (fun U => U.heap.size = sz ∧ va_P (dC, dI) vcl [] U.heap ∧ va_K (dC, dI) vcl [] U ∧ va_D (fun _ => True) [] ∧ cx_B a_y0 n_y0 f_y0 (va_A [] sz) U U.heap)) (va_Qi (fun (r : Int32) (_ : Unit) => r = ixO f_y0 n_y0 y1 y2 y3) (fun _ t => va_P (dC, dI) vcl [] t.heap ∧ va_K (dC, dI) vcl [] t ∧ va_D (va_A [] sz) []) (va_A [] sz)) 0 0 (va_A [] sz) := by
  refine Met.ofW (cc := b_JL_indexOf) (maxL := 4) (ret := (some .int)) (by decide) rfl ?_
  intro p e s m args below meth c s₁ B hml hv
  obtain ⟨rfl, hsz, hP, hK, hD0, hT_a_y0⟩ := hv
  have hx := B.exec
  have hb := B.bytes
  have hr := B.returns
  have hts := atoms_spec (ws := w_JL_indexOf) B.pre
  have hz : ∀ w ∈ wz, w.before _ s = true := fun w h => hts w (List.mem_cons_of_mem _ h)
  have hown : s.vm.findClass R_JL = some m.cls := findClass_of_methodNamed B.named
  have hlocks := B.notSynchronized
  subst hsz
  have hD := hD0.self (sz := s.heap.size)
  generalize hAe : va_A [] s.heap.size = A at hD hT_a_y0 ⊢
  have hA : ∀ q : Nat, s.heap.size ≤ q → A q := fun q h => by rw [← hAe]; exact Or.inr h
  have hS : va_S A s.heap s.heap [] := va_S.rf
  have hP : va_P (dC, dI) vcl [] s.heap := hP
  have hl := lv_entry ([.ref a_y0, .int y1, .int (nI y2), .int (nI y3)]) (n := 4) (Nat.le_of_ble_eq_true rfl)
  rw [lg_entry_eq]
  generalize (lg_sl ([.ref a_y0, .int y1, .int (nI y2), .int (nI y3)]) ++ List.replicate (4 - (lg_sl ([.ref a_y0, .int y1, .int (nI y2), .int (nI y3)])).length) Slot.unset).toArray = ls at hl ⊢
  have hl : lv_has ls 4 [(0, .ref a_y0), (1, .int y1), (2, .int (nI y2)), (3, .int (nI y3))] := hl
  refine lv_iload_n hx hb d_JL_indexOf_0 rfl (lv_at hl 1 rfl) ?_
  have hPc := hP.sub (ws' := []) [] rfl
  have hDc := hD.sub (ws' := []) [] (by decide) rfl
  have hKc := hK.sub (tys' := []) [] rfl
  have hFc := va_free (wc := []) hD hS hA [] rfl
  refine va_calli (va_runS (As := [.int y1]) (rest := []) ⟨hx, hb, hml, hown, hz⟩ (s_JL_canEncode6 l dC dI s.heap.size y1) (cwS 1 hz (zS zm_1013 zm_1014 zm_1005 zm_1015) rfl rfl rfl (by decide +kernel) ⟨Nat.le_of_ble_eq_true rfl, Nat.le_of_ble_eq_true rfl⟩) ⟨fun a U g mk q => by obtain ⟨q0, q1, qP, qK, qD⟩ := q; exact ⟨q0, q1, qP, va_K.moved (u := U) (U := U.calling g mk a) (Vm.Alike.refl U.vm) qK, qD⟩, fun U hU hW => ⟨rfl, by rw [hU], by rw [hU]; exact hPc, va_K.moved hW.alike hKc, hDc.weaken (fun _ _ _ _ => trivial)⟩⟩ rfl rfl hl.1 rfl (lv_room (Nat.le_of_ble_eq_true rfl)) d_JL_indexOf_1 ⟨Nat.zero_le _, Nat.zero_le _⟩) hS (fun q _ h => hFc q h) hFc (fun r u t H1 locs ht hvm hw_r hB hz1 hk1 hS => ?_)
  obtain ⟨hP1, hK1, hD1⟩ := hB
  obtain ⟨hb_r, he_r⟩ := hw_r
  subst r
  rw [ht] at hP1
  obtain ⟨hP, hD⟩ := va_join (wr := []) (w1 := []) hP hD [] [] rfl rfl (by decide) (by decide) hk1 hFc hP1 hD1
  generalize H1 = H at hP hS ⊢
  have hP : va_P (dC, dI) vcl [] H := hP
  have hD : va_D A [] := hD
  refine lv_if_ne (tgt := 9) hx hb d_JL_indexOf_4 (by decide) (fun h1 => ?_) (fun h1 => ?_)
  · have e4 := h1
    refine lv_iload_n hx hb d_JL_indexOf_9 rfl (lv_at hl 2 rfl) ?_
    refine lv_iconst (v := 0) hx hb d_JL_indexOf_10 (by decide) ?_
    refine xr_max (v := (nI (max y2 0))) hx hb (hml.trans hl.1.symm) hown (hz (.methodLink R_JL 92 Lib.Math.max.name) zm_1020) (hz (.static Lib.Math.max.name) zm_1023) (hz (.initialized "java/lang/Math") zm_1024) (hz (.code Lib.Math.max.name Lib.Math.max.code 2 (some .int)) zm_1025) (Nat.le_of_ble_eq_true rfl) (Nat.le_of_ble_eq_true rfl) (Nat.le_of_ble_eq_true rfl) (Nat.le_of_ble_eq_true rfl) d_JL_indexOf_11 (xr_max0 (by omega)) ?_
    refine lv_istore_n hx hb d_JL_indexOf_14 rfl hl (by decide) rfl (fun ls hl => ?_)
    have hl : lv_has ls 4 [(2, .int (nI (max y2 0))), (0, .ref a_y0), (1, .int y1), (3, .int (nI y3))] := hl
    refine lv_iload_n hx hb d_JL_indexOf_15 rfl (lv_at hl 3 rfl) ?_
    refine lv_aload_n hx hb d_JL_indexOf_16 rfl (lv_at hl 1 rfl) ?_
    refine va_tlen (v := (nI n_y0)) hx hb hT_a_y0 hS rfl d_JL_indexOf_17 ?_
    refine xr_min (v := (nI (min y3 n_y0))) hx hb (hml.trans hl.1.symm) hown (hz (.methodLink R_JL 38 Lib.Math.min.name) zm_1019) (hz (.static Lib.Math.min.name) zm_1021) (hz (.initialized "java/lang/Math") zm_1024) (hz (.code Lib.Math.min.name Lib.Math.min.code 2 (some .int)) zm_1022) (Nat.le_of_ble_eq_true rfl) (Nat.le_of_ble_eq_true rfl) (Nat.le_of_ble_eq_true rfl) (Nat.le_of_ble_eq_true rfl) d_JL_indexOf_18 (xr_minn (by omega) (by omega)) ?_
    refine lv_istore_n hx hb d_JL_indexOf_21 rfl hl (by decide) rfl (fun ls hl => ?_)
    have hl : lv_has ls 4 [(3, .int (nI (min y3 n_y0))), (2, .int (nI (max y2 0))), (0, .ref a_y0), (1, .int y1)] := hl
    refine lv_iload_n hx hb d_JL_indexOf_22 rfl (lv_at hl 1 rfl) ?_
    refine lv_iload_n hx hb d_JL_indexOf_23 rfl (lv_at hl 0 rfl) ?_
    refine lv_icmp_lt (tgt := 29) hx hb d_JL_indexOf_24 (by decide) (fun h3 => ?_) (fun h3 => ?_)
    · have h3 : (max y2 0) < (min y3 n_y0) := (nI_ltI (a := (max y2 0)) (b := (min y3 n_y0)) (by omega) (by omega)).mp h3
      have e24 := h3
      refine lv_aload_n hx hb d_JL_indexOf_29 rfl (lv_at hl 2 rfl) ?_
      refine lv_iload_n hx hb d_JL_indexOf_30 rfl (lv_at hl 3 rfl) ?_
      refine lv_iload_n hx hb d_JL_indexOf_31 rfl (lv_at hl 1 rfl) ?_
      refine lv_iload_n hx hb d_JL_indexOf_32 rfl (lv_at hl 0 rfl) ?_
      have hPc := hP.sub (ws' := []) [] rfl
      have hDc := hD.sub (ws' := []) [] (by decide) rfl
      have hKc := hK.sub (tys' := []) [] rfl
      have hFc := va_free (wc := []) hD hS hA [] rfl
      refine va_calli (va_runS (As := [.ref a_y0, .int y1, .int (nI (max y2 0)), .int (nI (min y3 n_y0))]) (rest := []) ⟨hx, hb, hml, hown, hz⟩ (s_JL_indexOfChar6 l dC dI H.size a_y0 n_y0 f_y0 y1 ((max y2 0)) ((min y3 n_y0)) (by first | omega | assumption | exact Or.inl rfl | exact Or.inr rfl | decide) (by first | omega | assumption | exact Or.inl rfl | exact Or.inr rfl | decide) (by first | omega | assumption | exact Or.inl rfl | exact Or.inr rfl | decide) (by first | omega | assumption | exact Or.inl rfl | exact Or.inr rfl | decide) (by first | omega | assumption | exact Or.inl rfl | exact Or.inr rfl | decide)) (cwS 4 hz (zS zm_1016 zm_1017 zm_1005 zm_1018) rfl rfl rfl (by decide +kernel) ⟨Nat.le_of_ble_eq_true rfl, Nat.le_of_ble_eq_true rfl⟩) ⟨fun a U g mk q => by obtain ⟨q0, q1, qP, qK, qD, qx0⟩ := q; exact ⟨q0, q1, qP, va_K.moved (u := U) (U := U.calling g mk a) (Vm.Alike.refl U.vm) qK, qD, cx_B.same (u := U) (U := U.calling g mk a) rfl qx0⟩, fun U hU hW => ⟨rfl, by rw [hU], by rw [hU]; exact hPc, va_K.moved hW.alike hKc, hDc.weaken (fun _ _ _ _ => trivial), by rw [hU]; exact cx_B.to hW hS hFc hT_a_y0⟩⟩ rfl rfl hl.1 rfl (lv_room (Nat.le_of_ble_eq_true rfl)) d_JL_indexOf_33 ⟨Nat.zero_le _, Nat.zero_le _⟩) hS (fun q _ h => hFc q h) hFc (fun r u t H1 locs ht hvm hw hB hz1 hk1 hS => ?_)
      obtain ⟨hP1, hK1, hD1⟩ := hB
      subst r
      rw [ht] at hP1
      obtain ⟨hP, hD⟩ := va_join (wr := []) (w1 := []) hP hD [] [] rfl rfl (by decide) (by decide) hk1 hFc hP1 hD1
      generalize H1 = H at hP hS ⊢
      have hP : va_P (dC, dI) vcl [] H := hP
      have hD : va_D A [] := hD
      have hP9 := hP.sub (ws' := []) [] rfl
      have hD9 := hD.sub (ws' := []) [] (by decide) rfl
      exact W.iret (v := (ixE f_y0 (b8 y1) ((min y3 n_y0)) ((max y2 0)))) hx hb hr (fun t ht hW => ⟨⟨(ixE f_y0 (b8 y1) ((min y3 n_y0)) ((max y2 0))), (), rfl, (by exact io_1 e4 (by omega)), by rw [ht]; exact hP9, va_K.moved hW.alike hK, hD9⟩, hS.F ht⟩) hS.2.2 d_JL_indexOf_36
    · have h3 : ¬ (max y2 0) < (min y3 n_y0) := fun q => h3 ((nI_ltI (a := (max y2 0)) (b := (min y3 n_y0)) (by omega) (by omega)).mpr q)
      have e24 := h3
      refine lv_iconst (v := (-1)) hx hb d_JL_indexOf_27 (by decide) ?_
      have hP9 := hP.sub (ws' := []) [] rfl
      have hD9 := hD.sub (ws' := []) [] (by decide) rfl
      exact W.iret (v := (-1)) hx hb hr (fun t ht hW => ⟨⟨(-1), (), rfl, (by exact io_2 e4 (by omega)), by rw [ht]; exact hP9, va_K.moved hW.alike hK, hD9⟩, hS.F ht⟩) hS.2.2 d_JL_indexOf_28
  · have e4 := h1
    refine lv_iconst (v := (-1)) hx hb d_JL_indexOf_7 (by decide) ?_
    have hP9 := hP.sub (ws' := []) [] rfl
    have hD9 := hD.sub (ws' := []) [] (by decide) rfl
    exact W.iret (v := (-1)) hx hb hr (fun t ht hW => ⟨⟨(-1), (), rfl, (by exact io_0 e4), by rw [ht]; exact hP9, va_K.moved hW.alike hK, hD9⟩, hS.F ht⟩) hS.2.2 d_JL_indexOf_8
set_option maxHeartbeats 4000000 in
set_option maxRecDepth 100000 in
theorem s_JS_indexOf16 (l : Launch) (dC : Nat → ClassId) (dI : Nat → Nat → Nat) (sz : Nat) (a_t : Nat) (v_t : Nat) (n_t : Nat) (f_t : Nat → Int32) (y0 : Int32) (bn_t : n_t ≤ 600) : Met l y_JS_indexOf1 w_JS_indexOf1 ({ frames := 2, cells := 0, slots := 0, locals := 63 }) (va_Pc [.ref a_t, .int y0, .int 0] (fun U => U.heap.size = sz ∧ va_P (dC, dI) vcl [] U.heap ∧ va_K (dC, dI) vcl [] U ∧ va_D (fun _ => True) [] ∧ cx_O a_t v_t n_t f_t (va_A [] sz) U U.heap)) (va_Qi (fun (r : Int32) (_ : Unit) => r = ixO f_t n_t y0 0 n_t) (fun _ t => va_P (dC, dI) vcl [] t.heap ∧ va_K (dC, dI) vcl [] t ∧ va_D (va_A [] sz) []) (va_A [] sz)) 0 0 (va_A [] sz) := by
  refine Met.ofW (cc := b_JS_indexOf1) (maxL := 3) (ret := (some .int)) (by decide) rfl ?_
  intro p e s m args below meth c s₁ B hml hv
  obtain ⟨rfl, hsz, hP, hK, hD0, hO_a_t⟩ := hv
  have hx := B.exec
  have hb := B.bytes
  have hr := B.returns
  have hts := atoms_spec (ws := w_JS_indexOf1) B.pre
  have hz : ∀ w ∈ wz, w.before _ s = true := fun w h => hts w (List.mem_cons_of_mem _ h)
  have hown : s.vm.findClass R_JS = some m.cls := findClass_of_methodNamed B.named
  have hlocks := B.notSynchronized
  subst hsz
  have hD := hD0.self (sz := s.heap.size)
  generalize hAe : va_A [] s.heap.size = A at hD hO_a_t ⊢
  have hA : ∀ q : Nat, s.heap.size ≤ q → A q := fun q h => by rw [← hAe]; exact Or.inr h
  have hS : va_S A s.heap s.heap [] := va_S.rf
  have hP : va_P (dC, dI) vcl [] s.heap := hP
  have hl := lv_entry ([.ref a_t, .int y0, .int 0]) (n := 3) (Nat.le_of_ble_eq_true rfl)
  rw [lg_entry_eq]
  generalize (lg_sl ([.ref a_t, .int y0, .int 0]) ++ List.replicate (3 - (lg_sl ([.ref a_t, .int y0, .int 0])).length) Slot.unset).toArray = ls at hl ⊢
  have hl : lv_has ls 3 [(0, .ref a_t), (1, .int y0), (2, .int 0)] := hl
  refine lv_aload_n hx hb d_JS_indexOf1_0 rfl (lv_at hl 0 rfl) ?_
  have hPc := hP.sub (ws' := []) [] rfl
  have hDc := hD.sub (ws' := []) [] (by decide) rfl
  have hKc := hK.sub (tys' := []) [] rfl
  have hFc := va_free (wc := []) hD hS hA [] rfl
  refine va_calli (va_runV (As := []) (rest := []) ⟨hx, hb, hml, hown, hz⟩ (s_JS_isLatin16 l dC dI s.heap.size a_t v_t n_t f_t (by first | omega | assumption | exact Or.inl rfl | exact Or.inr rfl)) (cwV 0 hz (zV zm_994 zm_995 zm_996 zm_167 zm_997) rfl rfl rfl (by decide +kernel) ⟨Nat.le_of_ble_eq_true rfl, Nat.le_of_ble_eq_true rfl⟩) ⟨fun a U g mk q => by obtain ⟨q0, q1, qP, qK, qD, qx0⟩ := q; exact ⟨q0, q1, qP, va_K.moved (u := U) (U := U.calling g mk a) (Vm.Alike.refl U.vm) qK, qD, cx_O.same (u := U) (U := U.calling g mk a) rfl qx0⟩, cx_recv hO_a_t hS, fun U hU hW => ⟨rfl, by rw [hU], by rw [hU]; exact hPc, va_K.moved hW.alike hKc, hDc.weaken (fun _ _ _ _ => trivial), by rw [hU]; exact cx_O.to hW hS hFc hO_a_t⟩⟩ rfl rfl hl.1 rfl (lv_room (Nat.le_of_ble_eq_true rfl)) d_JS_indexOf1_1 ⟨Nat.zero_le _, Nat.zero_le _⟩) hS (fun q _ h => hFc q h) hFc (fun r u t H1 locs ht hvm hw_r hB hz1 hk1 hS => ?_)
  obtain ⟨hP1, hK1, hD1⟩ := hB
  obtain ⟨hb_r, he_r⟩ := hw_r
  subst r
  rw [ht] at hP1
  obtain ⟨hP, hD⟩ := va_join (wr := []) (w1 := []) hP hD [] [] rfl rfl (by decide) (by decide) hk1 hFc hP1 hD1
  generalize H1 = H at hP hS ⊢
  have hP : va_P (dC, dI) vcl [] H := hP
  have hD : va_D A [] := hD
  refine lv_if_eq (tgt := 23) hx hb d_JS_indexOf1_4 (by decide) (fun h => absurd h (by decide +kernel)) (fun _ => ?_)
  refine lv_aload_n hx hb d_JS_indexOf1_7 rfl (lv_at hl 0 rfl) ?_
  refine vk_getf hx hb hO_a_t.2.2.1 hS hown (hz (.fieldLink R_JS 9 "java/lang/String" "value" "[B") zm_998) (fun _ h9 => h9) d_JS_indexOf1_8 ?_
  have hT_v_t : cx_B v_t n_t f_t A s s.heap := hO_a_t.2.2.2.1
  refine lv_iload_n hx hb d_JS_indexOf1_11 rfl (lv_at hl 1 rfl) ?_
  refine lv_iload_n hx hb d_JS_indexOf1_12 rfl (lv_at hl 2 rfl) ?_
  refine lv_aload_n hx hb d_JS_indexOf1_13 rfl (lv_at hl 0 rfl) ?_
  have hPc := hP.sub (ws' := []) [] rfl
  have hDc := hD.sub (ws' := []) [] (by decide) rfl
  have hKc := hK.sub (tys' := []) [] rfl
  have hFc := va_free (wc := []) hD hS hA [] rfl
  refine va_calli (va_runV (As := []) (rest := [.int 0, .int y0, .ref v_t]) ⟨hx, hb, hml, hown, hz⟩ (s_JS_length6 l dC dI H.size a_t v_t n_t f_t (by first | omega | assumption | exact Or.inl rfl | exact Or.inr rfl)) (cwV 0 hz (zV zm_999 zm_1000 zm_1001 zm_167 zm_1002) rfl rfl rfl (by decide +kernel) ⟨Nat.le_of_ble_eq_true rfl, Nat.le_of_ble_eq_true rfl⟩) ⟨fun a U g mk q => by obtain ⟨q0, q1, qP, qK, qD, qx0⟩ := q; exact ⟨q0, q1, qP, va_K.moved (u := U) (U := U.calling g mk a) (Vm.Alike.refl U.vm) qK, qD, cx_O.same (u := U) (U := U.calling g mk a) rfl qx0⟩, cx_recv hO_a_t hS, fun U hU hW => ⟨rfl, by rw [hU], by rw [hU]; exact hPc, va_K.moved hW.alike hKc, hDc.weaken (fun _ _ _ _ => trivial), by rw [hU]; exact cx_O.to hW hS hFc hO_a_t⟩⟩ rfl rfl hl.1 rfl (lv_room (Nat.le_of_ble_eq_true rfl)) d_JS_indexOf1_14 ⟨Nat.zero_le _, Nat.zero_le _⟩) hS (fun q _ h => hFc q h) hFc (fun r u t H1 locs ht hvm hw hB hz1 hk1 hS => ?_)
  obtain ⟨hP1, hK1, hD1⟩ := hB
  subst r
  rw [ht] at hP1
  obtain ⟨hP, hD⟩ := va_join (wr := []) (w1 := []) hP hD [] [] rfl rfl (by decide) (by decide) hk1 hFc hP1 hD1
  generalize H1 = H at hP hS ⊢
  have hP : va_P (dC, dI) vcl [] H := hP
  have hD : va_D A [] := hD
  have hPc := hP.sub (ws' := []) [] rfl
  have hDc := hD.sub (ws' := []) [] (by decide) rfl
  have hKc := hK.sub (tys' := []) [] rfl
  have hFc := va_free (wc := []) hD hS hA [] rfl
  refine va_calli (va_runS (As := [.ref v_t, .int y0, .int 0, .int (nI n_t)]) (rest := []) ⟨hx, hb, hml, hown, hz⟩ (s_JL_indexOf6 l dC dI H.size v_t n_t f_t y0 0 n_t (by first | omega | assumption | exact Or.inl rfl | exact Or.inr rfl) (by first | omega | assumption | exact Or.inl rfl | exact Or.inr rfl) (by first | omega | assumption | exact Or.inl rfl | exact Or.inr rfl)) (va_cwS 4 hz (zT zm_1003 zm_1004 zm_1005 zm_1006) rfl rfl rfl (by decide +kernel) ⟨Nat.le_of_ble_eq_true rfl, Nat.le_of_ble_eq_true rfl⟩) ⟨fun a U g mk q => by obtain ⟨q0, q1, qP, qK, qD, qx0⟩ := q; exact ⟨q0, q1, qP, va_K.moved (u := U) (U := U.calling g mk a) (Vm.Alike.refl U.vm) qK, qD, cx_B.same (u := U) (U := U.calling g mk a) rfl qx0⟩, fun U hU hW => ⟨rfl, by rw [hU], by rw [hU]; exact hPc, va_K.moved hW.alike hKc, hDc.weaken (fun _ _ _ _ => trivial), by rw [hU]; exact cx_B.to hW hS hFc hT_v_t⟩⟩ rfl rfl hl.1 rfl (lv_room (Nat.le_of_ble_eq_true rfl)) d_JS_indexOf1_17 ⟨Nat.zero_le _, Nat.zero_le _⟩) hS (fun q _ h => hFc q h) hFc (fun r u t H1 locs ht hvm hw hB hz1 hk1 hS => ?_)
  obtain ⟨hP1, hK1, hD1⟩ := hB
  subst r
  rw [ht] at hP1
  obtain ⟨hP, hD⟩ := va_join (wr := []) (w1 := []) hP hD [] [] rfl rfl (by decide) (by decide) hk1 hFc hP1 hD1
  generalize H1 = H at hP hS ⊢
  have hP : va_P (dC, dI) vcl [] H := hP
  have hD : va_D A [] := hD
  refine lv_goto (tgt := 36) hx hb d_JS_indexOf1_20 (by decide) ?_
  have hP9 := hP.sub (ws' := []) [] rfl
  have hD9 := hD.sub (ws' := []) [] (by decide) rfl
  exact W.iret (v := (ixO f_t n_t y0 0 n_t)) hx hb hr (fun t ht hW => ⟨⟨(ixO f_t n_t y0 0 n_t), (), rfl, (by rfl), by rw [ht]; exact hP9, va_K.moved hW.alike hK, hD9⟩, hS.F ht⟩) hS.2.2 d_JS_indexOf1_36
set_option maxHeartbeats 4000000 in
set_option maxRecDepth 100000 in
theorem s_JS_indexOf06 (l : Launch) (dC : Nat → ClassId) (dI : Nat → Nat → Nat) (sz : Nat) (a_t : Nat) (v_t : Nat) (n_t : Nat) (f_t : Nat → Int32) (y0 : Int32) (bn_t : n_t ≤ 600) : Met l y_JS_indexOf0 w_JS_indexOf0 ({ frames := 3, cells := 0, slots := 0, locals := 85 }) (va_Pc [.ref a_t, .int y0] (fun U => U.heap.size = sz ∧ va_P (dC, dI) vcl [] U.heap ∧ va_K (dC, dI) vcl [] U ∧ va_D (fun _ => True) [] ∧ cx_O a_t v_t n_t f_t (va_A [] sz) U U.heap)) (va_Qi (fun (r : Int32) (_ : Unit) => r = ixO f_t n_t y0 0 n_t) (fun _ t => va_P (dC, dI) vcl [] t.heap ∧ va_K (dC, dI) vcl [] t ∧ va_D (va_A [] sz) []) (va_A [] sz)) 0 0 (va_A [] sz) := by
  refine Met.ofW (cc := b_JS_indexOf0) (maxL := 2) (ret := (some .int)) (by decide) rfl ?_
  intro p e s m args below meth c s₁ B hml hv
  obtain ⟨rfl, hsz, hP, hK, hD0, hO_a_t⟩ := hv
  have hx := B.exec
  have hb := B.bytes
  have hr := B.returns
  have hts := atoms_spec (ws := w_JS_indexOf0) B.pre
  have hz : ∀ w ∈ wz, w.before _ s = true := fun w h => hts w (List.mem_cons_of_mem _ h)
  have hown : s.vm.findClass R_JS = some m.cls := findClass_of_methodNamed B.named
  have hlocks := B.notSynchronized
  subst hsz
  have hD := hD0.self (sz := s.heap.size)
  generalize hAe : va_A [] s.heap.size = A at hD hO_a_t ⊢
  have hA : ∀ q : Nat, s.heap.size ≤ q → A q := fun q h => by rw [← hAe]; exact Or.inr h
  have hS : va_S A s.heap s.heap [] := va_S.rf
  have hP : va_P (dC, dI) vcl [] s.heap := hP
  have hl := lv_entry ([.ref a_t, .int y0]) (n := 2) (Nat.le_of_ble_eq_true rfl)
  rw [lg_entry_eq]
  generalize (lg_sl ([.ref a_t, .int y0]) ++ List.replicate (2 - (lg_sl ([.ref a_t, .int y0])).length) Slot.unset).toArray = ls at hl ⊢
  have hl : lv_has ls 2 [(0, .ref a_t), (1, .int y0)] := hl
  refine lv_aload_n hx hb d_JS_indexOf0_0 rfl (lv_at hl 0 rfl) ?_
  refine lv_iload_n hx hb d_JS_indexOf0_1 rfl (lv_at hl 1 rfl) ?_
  refine lv_iconst (v := 0) hx hb d_JS_indexOf0_2 (by decide) ?_
  have hPc := hP.sub (ws' := []) [] rfl
  have hDc := hD.sub (ws' := []) [] (by decide) rfl
  have hKc := hK.sub (tys' := []) [] rfl
  have hFc := va_free (wc := []) hD hS hA [] rfl
  refine va_calli (va_runV (As := [.int y0, .int 0]) (rest := []) ⟨hx, hb, hml, hown, hz⟩ (s_JS_indexOf16 l dC dI s.heap.size a_t v_t n_t f_t y0 (by first | omega | assumption | exact Or.inl rfl | exact Or.inr rfl)) (cwV 2 hz (zV zm_990 zm_991 zm_992 zm_167 zm_993) rfl rfl rfl (by decide +kernel) ⟨Nat.le_of_ble_eq_true rfl, Nat.le_of_ble_eq_true rfl⟩) ⟨fun a U g mk q => by obtain ⟨q0, q1, qP, qK, qD, qx0⟩ := q; exact ⟨q0, q1, qP, va_K.moved (u := U) (U := U.calling g mk a) (Vm.Alike.refl U.vm) qK, qD, cx_O.same (u := U) (U := U.calling g mk a) rfl qx0⟩, cx_recv hO_a_t hS, fun U hU hW => ⟨rfl, by rw [hU], by rw [hU]; exact hPc, va_K.moved hW.alike hKc, hDc.weaken (fun _ _ _ _ => trivial), by rw [hU]; exact cx_O.to hW hS hFc hO_a_t⟩⟩ rfl rfl hl.1 rfl (lv_room (Nat.le_of_ble_eq_true rfl)) d_JS_indexOf0_3 ⟨Nat.zero_le _, Nat.zero_le _⟩) hS (fun q _ h => hFc q h) hFc (fun r u t H1 locs ht hvm hw hB hz1 hk1 hS => ?_)
  obtain ⟨hP1, hK1, hD1⟩ := hB
  subst r
  rw [ht] at hP1
  obtain ⟨hP, hD⟩ := va_join (wr := []) (w1 := []) hP hD [] [] rfl rfl (by decide) (by decide) hk1 hFc hP1 hD1
  generalize H1 = H at hP hS ⊢
  have hP : va_P (dC, dI) vcl [] H := hP
  have hD : va_D A [] := hD
  have hP9 := hP.sub (ws' := []) [] rfl
  have hD9 := hD.sub (ws' := []) [] (by decide) rfl
  exact W.iret (v := (ixO f_t n_t y0 0 n_t)) hx hb hr (fun t ht hW => ⟨⟨(ixO f_t n_t y0 0 n_t), (), rfl, (by rfl), by rw [ht]; exact hP9, va_K.moved hW.alike hK, hD9⟩, hS.F ht⟩) hS.2.2 d_JS_indexOf0_6
set_option maxHeartbeats 4000000 in
set_option maxRecDepth 100000 in
theorem s_Cutter_isOperatorPart6 (l : Launch) (dC : Nat → ClassId) (dI : Nat → Nat → Nat) (sz : Nat) (y0 : Int32) : Met l y_Cutter_isOperatorPart w_Cutter_isOperatorPart ({ frames := 4, cells := 0, slots := 0, locals := 106 }) (va_Pc [.int y0] (fun U => U.heap.size = sz ∧ va_P (dC, dI) vcl [] U.heap ∧ va_K (dC, dI) vcl [] U ∧ va_D (fun _ => True) [] ∧ cx_E (va_A [] sz) U U.heap)) (va_Qi (fun (r : Int32) (_ : Unit) => (r = 0 ∨ r = 1) ∧ (r = op_ y0)) (fun _ t => va_P (dC, dI) vcl [] t.heap ∧ va_K (dC, dI) vcl [] t ∧ va_D (va_A [] sz) []) (va_A [] sz)) 0 0 (va_A [] sz) := by
  refine Met.ofW (cc := b_Cutter_isOperatorPart) (maxL := 1) (ret := (some .boolean)) (by decide) rfl ?_
  intro p e s m args below meth c s₁ B hml hv
  obtain ⟨rfl, hsz, hP, hK, hD0, hE⟩ := hv
  have hx := B.exec
  have hb := B.bytes
  have hr := B.returns
  have hts := atoms_spec (ws := w_Cutter_isOperatorPart) B.pre
  have hz : ∀ w ∈ wz, w.before _ s = true := fun w h => hts w (List.mem_cons_of_mem _ h)
  have hown : s.vm.findClass R_Cutter = some m.cls := findClass_of_methodNamed B.named
  have hlocks := B.notSynchronized
  subst hsz
  have hD := hD0.self (sz := s.heap.size)
  generalize hAe : va_A [] s.heap.size = A at hD hE ⊢
  have hA : ∀ q : Nat, s.heap.size ≤ q → A q := fun q h => by rw [← hAe]; exact Or.inr h
  have hS : va_S A s.heap s.heap [] := va_S.rf
  have hP : va_P (dC, dI) vcl [] s.heap := hP
  have hl := lv_entry ([.int y0]) (n := 1) (Nat.le_of_ble_eq_true rfl)
  rw [lg_entry_eq]
  generalize (lg_sl ([.int y0]) ++ List.replicate (1 - (lg_sl ([.int y0])).length) Slot.unset).toArray = ls at hl ⊢
  have hl : lv_has ls 1 [(0, .int y0)] := hl
  obtain ⟨q122, v_q122, hR_q122, hO_q122⟩ := hE.str122
  refine va_ldcS hx hb hown hR_q122 d_Cutter_isOperatorPart_0 ?_
  refine lv_iload_n hx hb d_Cutter_isOperatorPart_2 rfl (lv_at hl 0 rfl) ?_
  have hPc := hP.sub (ws' := []) [] rfl
  have hDc := hD.sub (ws' := []) [] (by decide) rfl
  have hKc := hK.sub (tys' := []) [] rfl
  have hFc := va_free (wc := []) hD hS hA [] rfl
  refine va_calli (va_runV (As := [.int y0]) (rest := []) ⟨hx, hb, hml, hown, hz⟩ (s_JS_indexOf06 l dC dI s.heap.size q122 v_q122 20 bt1 y0 (by first | omega | assumption | exact Or.inl rfl | exact Or.inr rfl | decide)) (cwV 1 hz (zV zm_164 zm_165 zm_166 zm_167 zm_168) rfl rfl rfl (by decide +kernel) ⟨Nat.le_of_ble_eq_true rfl, Nat.le_of_ble_eq_true rfl⟩) ⟨fun a U g mk q => by obtain ⟨q0, q1, qP, qK, qD, qx0⟩ := q; exact ⟨q0, q1, qP, va_K.moved (u := U) (U := U.calling g mk a) (Vm.Alike.refl U.vm) qK, qD, cx_O.same (u := U) (U := U.calling g mk a) rfl qx0⟩, cx_recv hO_q122 hS, fun U hU hW => ⟨rfl, by rw [hU], by rw [hU]; exact hPc, va_K.moved hW.alike hKc, hDc.weaken (fun _ _ _ _ => trivial), by rw [hU]; exact cx_O.to hW hS hFc hO_q122⟩⟩ rfl rfl hl.1 rfl (lv_room (Nat.le_of_ble_eq_true rfl)) d_Cutter_isOperatorPart_3 ⟨Nat.zero_le _, Nat.zero_le _⟩) hS (fun q _ h => hFc q h) hFc (fun r u t H1 locs ht hvm hw hB hz1 hk1 hS => ?_)
  obtain ⟨hP1, hK1, hD1⟩ := hB
  subst r
  rw [ht] at hP1
  obtain ⟨hP, hD⟩ := va_join (wr := []) (w1 := []) hP hD [] [] rfl rfl (by decide) (by decide) hk1 hFc hP1 hD1
  generalize H1 = H at hP hS ⊢
  have hP : va_P (dC, dI) vcl [] H := hP
  have hD : va_D A [] := hD
  refine lv_if_lt (tgt := 13) hx hb d_Cutter_isOperatorPart_6 (by decide) (fun h1 => ?_) (fun h1 => ?_)
  · have e6 := h1
    refine lv_iconst (v := 0) hx hb d_Cutter_isOperatorPart_13 (by decide) ?_
    have hP9 := hP.sub (ws' := []) [] rfl
    have hD9 := hD.sub (ws' := []) [] (by decide) rfl
    exact W.zret (v := 0) hx hb hr (by decide +kernel) (fun t ht hW => ⟨⟨0, (), rfl, ⟨(by first | assumption | exact Or.inl rfl | exact Or.inr rfl), (by exact op_n0 e6)⟩, by rw [ht]; exact hP9, va_K.moved hW.alike hK, hD9⟩, hS.F ht⟩) hS.2.2 d_Cutter_isOperatorPart_14
  · have e6 := h1
    refine lv_iconst (v := 1) hx hb d_Cutter_isOperatorPart_9 (by decide) ?_
    refine lv_goto (tgt := 14) hx hb d_Cutter_isOperatorPart_10 (by decide) ?_
    have hP9 := hP.sub (ws' := []) [] rfl
    have hD9 := hD.sub (ws' := []) [] (by decide) rfl
    exact W.zret (v := 1) hx hb hr (by decide +kernel) (fun t ht hW => ⟨⟨1, (), rfl, ⟨(by first | assumption | exact Or.inl rfl | exact Or.inr rfl), (by exact op_n1 e6)⟩, by rw [ht]; exact hP9, va_K.moved hW.alike hK, hD9⟩, hS.F ht⟩) hS.2.2 d_Cutter_isOperatorPart_14
set_option maxHeartbeats 4000000 in
set_option maxRecDepth 100000 in
theorem s_Cutter_isSign6 (l : Launch) (dC : Nat → ClassId) (dI : Nat → Nat → Nat) (sz : Nat) (y0 : Int32) : Met l y_Cutter_isSign w_Cutter_isSign ({ frames := 4, cells := 0, slots := 0, locals := 106 }) (va_Pc [.int y0] (fun U => U.heap.size = sz ∧ va_P (dC, dI) vcl [] U.heap ∧ va_K (dC, dI) vcl [] U ∧ va_D (fun _ => True) [] ∧ cx_E (va_A [] sz) U U.heap)) (va_Qi (fun (r : Int32) (_ : Unit) => (r = 0 ∨ r = 1) ∧ (r = sg_ y0)) (fun _ t => va_P (dC, dI) vcl [] t.heap ∧ va_K (dC, dI) vcl [] t ∧ va_D (va_A [] sz) []) (va_A [] sz)) 0 0 (va_A [] sz) := by
  refine Met.ofW (cc := b_Cutter_isSign) (maxL := 1) (ret := (some .boolean)) (by decide) rfl ?_
  intro p e s m args below meth c s₁ B hml hv
  obtain ⟨rfl, hsz, hP, hK, hD0, hE⟩ := hv
  have hx := B.exec
  have hb := B.bytes
  have hr := B.returns
  have hts := atoms_spec (ws := w_Cutter_isSign) B.pre
  have hz : ∀ w ∈ wz, w.before _ s = true := fun w h => hts w (List.mem_cons_of_mem _ h)
  have hown : s.vm.findClass R_Cutter = some m.cls := findClass_of_methodNamed B.named
  have hlocks := B.notSynchronized
  subst hsz
  have hD := hD0.self (sz := s.heap.size)
  generalize hAe : va_A [] s.heap.size = A at hD hE ⊢
  have hA : ∀ q : Nat, s.heap.size ≤ q → A q := fun q h => by rw [← hAe]; exact Or.inr h
  have hS : va_S A s.heap s.heap [] := va_S.rf
  have hP : va_P (dC, dI) vcl [] s.heap := hP
  have hl := lv_entry ([.int y0]) (n := 1) (Nat.le_of_ble_eq_true rfl)
  rw [lg_entry_eq]
  generalize (lg_sl ([.int y0]) ++ List.replicate (1 - (lg_sl ([.int y0])).length) Slot.unset).toArray = ls at hl ⊢
  have hl : lv_has ls 1 [(0, .int y0)] := hl
  obtain ⟨q129, v_q129, hR_q129, hO_q129⟩ := hE.str129
  refine va_ldcS hx hb hown hR_q129 d_Cutter_isSign_0 ?_
  refine lv_iload_n hx hb d_Cutter_isSign_2 rfl (lv_at hl 0 rfl) ?_
  have hPc := hP.sub (ws' := []) [] rfl
  have hDc := hD.sub (ws' := []) [] (by decide) rfl
  have hKc := hK.sub (tys' := []) [] rfl
  have hFc := va_free (wc := []) hD hS hA [] rfl
  refine va_calli (va_runV (As := [.int y0]) (rest := []) ⟨hx, hb, hml, hown, hz⟩ (s_JS_indexOf06 l dC dI s.heap.size q129 v_q129 9 bt2 y0 (by first | omega | assumption | exact Or.inl rfl | exact Or.inr rfl | decide)) (cwV 1 hz (zV zm_164 zm_165 zm_166 zm_167 zm_168) rfl rfl rfl (by decide +kernel) ⟨Nat.le_of_ble_eq_true rfl, Nat.le_of_ble_eq_true rfl⟩) ⟨fun a U g mk q => by obtain ⟨q0, q1, qP, qK, qD, qx0⟩ := q; exact ⟨q0, q1, qP, va_K.moved (u := U) (U := U.calling g mk a) (Vm.Alike.refl U.vm) qK, qD, cx_O.same (u := U) (U := U.calling g mk a) rfl qx0⟩, cx_recv hO_q129 hS, fun U hU hW => ⟨rfl, by rw [hU], by rw [hU]; exact hPc, va_K.moved hW.alike hKc, hDc.weaken (fun _ _ _ _ => trivial), by rw [hU]; exact cx_O.to hW hS hFc hO_q129⟩⟩ rfl rfl hl.1 rfl (lv_room (Nat.le_of_ble_eq_true rfl)) d_Cutter_isSign_3 ⟨Nat.zero_le _, Nat.zero_le _⟩) hS (fun q _ h => hFc q h) hFc (fun r u t H1 locs ht hvm hw hB hz1 hk1 hS => ?_)
  obtain ⟨hP1, hK1, hD1⟩ := hB
  subst r
  rw [ht] at hP1
  obtain ⟨hP, hD⟩ := va_join (wr := []) (w1 := []) hP hD [] [] rfl rfl (by decide) (by decide) hk1 hFc hP1 hD1
  generalize H1 = H at hP hS ⊢
  have hP : va_P (dC, dI) vcl [] H := hP
  have hD : va_D A [] := hD
  refine lv_if_lt (tgt := 13) hx hb d_Cutter_isSign_6 (by decide) (fun h1 => ?_) (fun h1 => ?_)
  · have e6 := h1
    refine lv_iconst (v := 0) hx hb d_Cutter_isSign_13 (by decide) ?_
    have hP9 := hP.sub (ws' := []) [] rfl
    have hD9 := hD.sub (ws' := []) [] (by decide) rfl
    exact W.zret (v := 0) hx hb hr (by decide +kernel) (fun t ht hW => ⟨⟨0, (), rfl, ⟨(by first | assumption | exact Or.inl rfl | exact Or.inr rfl), (by exact sg_n0 e6)⟩, by rw [ht]; exact hP9, va_K.moved hW.alike hK, hD9⟩, hS.F ht⟩) hS.2.2 d_Cutter_isSign_14
  · have e6 := h1
    refine lv_iconst (v := 1) hx hb d_Cutter_isSign_9 (by decide) ?_
    refine lv_goto (tgt := 14) hx hb d_Cutter_isSign_10 (by decide) ?_
    have hP9 := hP.sub (ws' := []) [] rfl
    have hD9 := hD.sub (ws' := []) [] (by decide) rfl
    exact W.zret (v := 1) hx hb hr (by decide +kernel) (fun t ht hW => ⟨⟨1, (), rfl, ⟨(by first | assumption | exact Or.inl rfl | exact Or.inr rfl), (by exact sg_n1 e6)⟩, by rw [ht]; exact hP9, va_K.moved hW.alike hK, hD9⟩, hS.F ht⟩) hS.2.2 d_Cutter_isSign_14
set_option maxHeartbeats 4000000 in
set_option maxRecDepth 100000 in
theorem s_Cutter_kindBegunBy6 (l : Launch) (dC : Nat → ClassId) (dI : Nat → Nat → Nat) (sz : Nat) (y0 : Int32) : Met l y_Cutter_kindBegunBy w_Cutter_kindBegunBy ({ frames := 5, cells := 0, slots := 0, locals := 126 }) (va_Pc [.int y0] (fun U => U.heap.size = sz ∧ va_P (dC, dI) vcl [] U.heap ∧ va_K (dC, dI) vcl [] U ∧ va_D (fun _ => True) [] ∧ cx_E (va_A [] sz) U U.heap)) (va_Qi (fun (r : Int32) (_ : Unit) => r = kdO y0) (fun _ t => va_P (dC, dI) vcl [] t.heap ∧ va_K (dC, dI) vcl [] t ∧ va_D (va_A [] sz) []) (va_A [] sz)) 0 0 (va_A [] sz) := by
  refine Met.ofW (cc := b_Cutter_kindBegunBy) (maxL := 1) (ret := (some .int)) (by decide) rfl ?_
  intro p e s m args below meth c s₁ B hml hv
  obtain ⟨rfl, hsz, hP, hK, hD0, hE⟩ := hv
  have hx := B.exec
  have hb := B.bytes
  have hr := B.returns
  have hts := atoms_spec (ws := w_Cutter_kindBegunBy) B.pre
  have hz : ∀ w ∈ wz, w.before _ s = true := fun w h => hts w (List.mem_cons_of_mem _ h)
  have hown : s.vm.findClass R_Cutter = some m.cls := findClass_of_methodNamed B.named
  have hlocks := B.notSynchronized
  subst hsz
  have hD := hD0.self (sz := s.heap.size)
  generalize hAe : va_A [] s.heap.size = A at hD hE ⊢
  have hA : ∀ q : Nat, s.heap.size ≤ q → A q := fun q h => by rw [← hAe]; exact Or.inr h
  have hS : va_S A s.heap s.heap [] := va_S.rf
  have hP : va_P (dC, dI) vcl [] s.heap := hP
  have hl := lv_entry ([.int y0]) (n := 1) (Nat.le_of_ble_eq_true rfl)
  rw [lg_entry_eq]
  generalize (lg_sl ([.int y0]) ++ List.replicate (1 - (lg_sl ([.int y0])).length) Slot.unset).toArray = ls at hl ⊢
  have hl : lv_has ls 1 [(0, .int y0)] := hl
  refine lv_iload_n hx hb d_Cutter_kindBegunBy_0 rfl (lv_at hl 0 rfl) ?_
  have hPc := hP.sub (ws' := []) [] rfl
  have hDc := hD.sub (ws' := []) [] (by decide) rfl
  have hKc := hK.sub (tys' := []) [] rfl
  have hFc := va_free (wc := []) hD hS hA [] rfl
  refine va_calli (va_runS (As := [.int y0]) (rest := []) ⟨hx, hb, hml, hown, hz⟩ (s_Cutter_isLetter6 l dC dI s.heap.size y0) (cwS 1 hz (zS zm_149 zm_150 zm_92 zm_151) rfl rfl rfl (by decide +kernel) ⟨Nat.le_of_ble_eq_true rfl, Nat.le_of_ble_eq_true rfl⟩) ⟨fun a U g mk q => by obtain ⟨q0, q1, qP, qK, qD⟩ := q; exact ⟨q0, q1, qP, va_K.moved (u := U) (U := U.calling g mk a) (Vm.Alike.refl U.vm) qK, qD⟩, fun U hU hW => ⟨rfl, by rw [hU], by rw [hU]; exact hPc, va_K.moved hW.alike hKc, hDc.weaken (fun _ _ _ _ => trivial)⟩⟩ rfl rfl hl.1 rfl (lv_room (Nat.le_of_ble_eq_true rfl)) d_Cutter_kindBegunBy_1 ⟨Nat.zero_le _, Nat.zero_le _⟩) hS (fun q _ h => hFc q h) hFc (fun r u t H1 locs ht hvm hw_r hB hz1 hk1 hS => ?_)
  obtain ⟨hP1, hK1, hD1⟩ := hB
  obtain ⟨hb_r, he_r⟩ := hw_r
  subst r
  rw [ht] at hP1
  obtain ⟨hP, hD⟩ := va_join (wr := []) (w1 := []) hP hD [] [] rfl rfl (by decide) (by decide) hk1 hFc hP1 hD1
  generalize H1 = H at hP hS ⊢
  have hP : va_P (dC, dI) vcl [] H := hP
  have hD : va_D A [] := hD
  refine lv_if_eq (tgt := 9) hx hb d_Cutter_kindBegunBy_4 (by decide) (fun h1 => ?_) (fun h1 => ?_)
  · have e4 := h1
    refine lv_iload_n hx hb d_Cutter_kindBegunBy_9 rfl (lv_at hl 0 rfl) ?_
    have hPc := hP.sub (ws' := []) [] rfl
    have hDc := hD.sub (ws' := []) [] (by decide) rfl
    have hKc := hK.sub (tys' := []) [] rfl
    have hFc := va_free (wc := []) hD hS hA [] rfl
    refine va_calli (va_runS (As := [.int y0]) (rest := []) ⟨hx, hb, hml, hown, hz⟩ (s_Cutter_isDigit6 l dC dI H.size y0) (cwS 1 hz (zS zm_152 zm_153 zm_92 zm_154) rfl rfl rfl (by decide +kernel) ⟨Nat.le_of_ble_eq_true rfl, Nat.le_of_ble_eq_true rfl⟩) ⟨fun a U g mk q => by obtain ⟨q0, q1, qP, qK, qD⟩ := q; exact ⟨q0, q1, qP, va_K.moved (u := U) (U := U.calling g mk a) (Vm.Alike.refl U.vm) qK, qD⟩, fun U hU hW => ⟨rfl, by rw [hU], by rw [hU]; exact hPc, va_K.moved hW.alike hKc, hDc.weaken (fun _ _ _ _ => trivial)⟩⟩ rfl rfl hl.1 rfl (lv_room (Nat.le_of_ble_eq_true rfl)) d_Cutter_kindBegunBy_10 ⟨Nat.zero_le _, Nat.zero_le _⟩) hS (fun q _ h => hFc q h) hFc (fun r u t H1 locs ht hvm hw_r hB hz1 hk1 hS => ?_)
    obtain ⟨hP1, hK1, hD1⟩ := hB
    obtain ⟨hb_r, he_r⟩ := hw_r
    subst r
    rw [ht] at hP1
    obtain ⟨hP, hD⟩ := va_join (wr := []) (w1 := []) hP hD [] [] rfl rfl (by decide) (by decide) hk1 hFc hP1 hD1
    generalize H1 = H at hP hS ⊢
    have hP : va_P (dC, dI) vcl [] H := hP
    have hD : va_D A [] := hD
    refine lv_if_eq (tgt := 18) hx hb d_Cutter_kindBegunBy_13 (by decide) (fun h2 => ?_) (fun h2 => ?_)
    · have e13 := h2
      refine lv_iload_n hx hb d_Cutter_kindBegunBy_18 rfl (lv_at hl 0 rfl) ?_
      have hPc := hP.sub (ws' := []) [] rfl
      have hDc := hD.sub (ws' := []) [] (by decide) rfl
      have hKc := hK.sub (tys' := []) [] rfl
      have hFc := va_free (wc := []) hD hS hA [] rfl
      refine va_calli (va_runS (As := [.int y0]) (rest := []) ⟨hx, hb, hml, hown, hz⟩ (s_Cutter_isOperatorPart6 l dC dI H.size y0) (cwS 1 hz (zS zm_155 zm_156 zm_92 zm_157) rfl rfl rfl (by decide +kernel) ⟨Nat.le_of_ble_eq_true rfl, Nat.le_of_ble_eq_true rfl⟩) ⟨fun a U g mk q => by obtain ⟨q0, q1, qP, qK, qD, qx0⟩ := q; exact ⟨q0, q1, qP, va_K.moved (u := U) (U := U.calling g mk a) (Vm.Alike.refl U.vm) qK, qD, cx_E.same (u := U) (U := U.calling g mk a) rfl qx0⟩, fun U hU hW => ⟨rfl, by rw [hU], by rw [hU]; exact hPc, va_K.moved hW.alike hKc, hDc.weaken (fun _ _ _ _ => trivial), by rw [hU]; exact cx_E.to hW hS hFc hE⟩⟩ rfl rfl hl.1 rfl (lv_room (Nat.le_of_ble_eq_true rfl)) d_Cutter_kindBegunBy_19 ⟨Nat.zero_le _, Nat.zero_le _⟩) hS (fun q _ h => hFc q h) hFc (fun r u t H1 locs ht hvm hw_r hB hz1 hk1 hS => ?_)
      obtain ⟨hP1, hK1, hD1⟩ := hB
      obtain ⟨hb_r, he_r⟩ := hw_r
      subst r
      rw [ht] at hP1
      obtain ⟨hP, hD⟩ := va_join (wr := []) (w1 := []) hP hD [] [] rfl rfl (by decide) (by decide) hk1 hFc hP1 hD1
      generalize H1 = H at hP hS ⊢
      have hP : va_P (dC, dI) vcl [] H := hP
      have hD : va_D A [] := hD
      refine lv_if_eq (tgt := 27) hx hb d_Cutter_kindBegunBy_22 (by decide) (fun h3 => ?_) (fun h3 => ?_)
      · have e22 := h3
        refine lv_iload_n hx hb d_Cutter_kindBegunBy_27 rfl (lv_at hl 0 rfl) ?_
        have hPc := hP.sub (ws' := []) [] rfl
        have hDc := hD.sub (ws' := []) [] (by decide) rfl
        have hKc := hK.sub (tys' := []) [] rfl
        have hFc := va_free (wc := []) hD hS hA [] rfl
        refine va_calli (va_runS (As := [.int y0]) (rest := []) ⟨hx, hb, hml, hown, hz⟩ (s_Cutter_isSign6 l dC dI H.size y0) (cwS 1 hz (zS zm_158 zm_159 zm_92 zm_160) rfl rfl rfl (by decide +kernel) ⟨Nat.le_of_ble_eq_true rfl, Nat.le_of_ble_eq_true rfl⟩) ⟨fun a U g mk q => by obtain ⟨q0, q1, qP, qK, qD, qx0⟩ := q; exact ⟨q0, q1, qP, va_K.moved (u := U) (U := U.calling g mk a) (Vm.Alike.refl U.vm) qK, qD, cx_E.same (u := U) (U := U.calling g mk a) rfl qx0⟩, fun U hU hW => ⟨rfl, by rw [hU], by rw [hU]; exact hPc, va_K.moved hW.alike hKc, hDc.weaken (fun _ _ _ _ => trivial), by rw [hU]; exact cx_E.to hW hS hFc hE⟩⟩ rfl rfl hl.1 rfl (lv_room (Nat.le_of_ble_eq_true rfl)) d_Cutter_kindBegunBy_28 ⟨Nat.zero_le _, Nat.zero_le _⟩) hS (fun q _ h => hFc q h) hFc (fun r u t H1 locs ht hvm hw_r hB hz1 hk1 hS => ?_)
        obtain ⟨hP1, hK1, hD1⟩ := hB
        obtain ⟨hb_r, he_r⟩ := hw_r
        subst r
        rw [ht] at hP1
        obtain ⟨hP, hD⟩ := va_join (wr := []) (w1 := []) hP hD [] [] rfl rfl (by decide) (by decide) hk1 hFc hP1 hD1
        generalize H1 = H at hP hS ⊢
        have hP : va_P (dC, dI) vcl [] H := hP
        have hD : va_D A [] := hD
        refine lv_if_eq (tgt := 38) hx hb d_Cutter_kindBegunBy_31 (by decide) (fun h4 => ?_) (fun h4 => ?_)
        · have e31 := h4
          refine lv_iconst (v := (-1)) hx hb d_Cutter_kindBegunBy_38 (by decide) ?_
          have hP9 := hP.sub (ws' := []) [] rfl
          have hD9 := hD.sub (ws' := []) [] (by decide) rfl
          exact W.iret (v := (-1)) hx hb hr (fun t ht hW => ⟨⟨(-1), (), rfl, (by exact (kd_n e4 e13 e22 e31).symm), by rw [ht]; exact hP9, va_K.moved hW.alike hK, hD9⟩, hS.F ht⟩) hS.2.2 d_Cutter_kindBegunBy_39
        · have e31 := h4
          refine lv_iconst (v := 3) hx hb d_Cutter_kindBegunBy_34 (by decide) ?_
          refine lv_goto (tgt := 39) hx hb d_Cutter_kindBegunBy_35 (by decide) ?_
          have hP9 := hP.sub (ws' := []) [] rfl
          have hD9 := hD.sub (ws' := []) [] (by decide) rfl
          exact W.iret (v := 3) hx hb hr (fun t ht hW => ⟨⟨3, (), rfl, (by exact (kd_3 e4 e13 e22 e31).symm), by rw [ht]; exact hP9, va_K.moved hW.alike hK, hD9⟩, hS.F ht⟩) hS.2.2 d_Cutter_kindBegunBy_39
      · have e22 := h3
        refine lv_iconst (v := 2) hx hb d_Cutter_kindBegunBy_25 (by decide) ?_
        have hP9 := hP.sub (ws' := []) [] rfl
        have hD9 := hD.sub (ws' := []) [] (by decide) rfl
        exact W.iret (v := 2) hx hb hr (fun t ht hW => ⟨⟨2, (), rfl, (by exact (kd_2 e4 e13 e22).symm), by rw [ht]; exact hP9, va_K.moved hW.alike hK, hD9⟩, hS.F ht⟩) hS.2.2 d_Cutter_kindBegunBy_26
    · have e13 := h2
      refine lv_iconst (v := 1) hx hb d_Cutter_kindBegunBy_16 (by decide) ?_
      have hP9 := hP.sub (ws' := []) [] rfl
      have hD9 := hD.sub (ws' := []) [] (by decide) rfl
      exact W.iret (v := 1) hx hb hr (fun t ht hW => ⟨⟨1, (), rfl, (by exact (kd_1 e4 e13).symm), by rw [ht]; exact hP9, va_K.moved hW.alike hK, hD9⟩, hS.F ht⟩) hS.2.2 d_Cutter_kindBegunBy_17
  · have e4 := h1
    refine lv_iconst (v := 0) hx hb d_Cutter_kindBegunBy_7 (by decide) ?_
    have hP9 := hP.sub (ws' := []) [] rfl
    have hD9 := hD.sub (ws' := []) [] (by decide) rfl
    exact W.iret (v := 0) hx hb hr (fun t ht hW => ⟨⟨0, (), rfl, (by exact (kd_0 e4).symm), by rw [ht]; exact hP9, va_K.moved hW.alike hK, hD9⟩, hS.F ht⟩) hS.2.2 d_Cutter_kindBegunBy_8
set_option maxHeartbeats 4000000 in
set_option maxRecDepth 100000 in
theorem s_Cutter_longest6 (l : Launch) (dC : Nat → ClassId) (dI : Nat → Nat → Nat) (sz : Nat) (y0 : Int32) : Met l y_Cutter_longest w_Cutter_longest ({ frames := 0, cells := 0, slots := 0, locals := 0 }) (va_Pc [.int y0] (fun U => U.heap.size = sz ∧ va_P (dC, dI) vcl [] U.heap ∧ va_K (dC, dI) vcl [] U ∧ va_D (fun _ => True) [])) (va_Qi (fun (r : Int32) (_ : Unit) => ∃ j, (j = lngO y0) ∧ r = nI j) (fun _ t => va_P (dC, dI) vcl [] t.heap ∧ va_K (dC, dI) vcl [] t ∧ va_D (va_A [] sz) []) (va_A [] sz)) 0 0 (va_A [] sz) := by
  refine Met.ofW (cc := b_Cutter_longest) (maxL := 1) (ret := (some .int)) (by decide) rfl ?_
  intro p e s m args below meth c s₁ B hml hv
  obtain ⟨rfl, hsz, hP, hK, hD0⟩ := hv
  have hx := B.exec
  have hb := B.bytes
  have hr := B.returns
  have hts := atoms_spec (ws := w_Cutter_longest) B.pre
  have hz : ∀ w ∈ wz, w.before _ s = true := fun w h => hts w (List.mem_cons_of_mem _ h)
  have hown : s.vm.findClass R_Cutter = some m.cls := findClass_of_methodNamed B.named
  have hlocks := B.notSynchronized
  subst hsz
  have hD := hD0.self (sz := s.heap.size)
  generalize hAe : va_A [] s.heap.size = A at hD ⊢
  have hA : ∀ q : Nat, s.heap.size ≤ q → A q := fun q h => by rw [← hAe]; exact Or.inr h
  have hS : va_S A s.heap s.heap [] := va_S.rf
  have hP : va_P (dC, dI) vcl [] s.heap := hP
  have hl := lv_entry ([.int y0]) (n := 1) (Nat.le_of_ble_eq_true rfl)
  rw [lg_entry_eq]
  generalize (lg_sl ([.int y0]) ++ List.replicate (1 - (lg_sl ([.int y0])).length) Slot.unset).toArray = ls at hl ⊢
  have hl : lv_has ls 1 [(0, .int y0)] := hl
  refine lv_iload_n hx hb d_Cutter_longest_0 rfl (lv_at hl 0 rfl) ?_
  refine lv_iconst (v := 1) hx hb d_Cutter_longest_1 (by decide) ?_
  refine lv_icmp_ne (tgt := 10) hx hb d_Cutter_longest_2 (by decide) (fun h1 => ?_) (fun h1 => ?_)
  · refine lv_bipush (v := 7) hx hb d_Cutter_longest_10 (by decide) ?_
    have hP9 := hP.sub (ws' := []) [] rfl
    have hD9 := hD.sub (ws' := []) [] (by decide) rfl
    exact W.iret (v := 7) hx hb hr (fun t ht hW => ⟨⟨7, (), rfl, ⟨7, by first | exact (lg_1 (by assumption)).symm | exact (lg_7 (by assumption)).symm, rfl⟩, by rw [ht]; exact hP9, va_K.moved hW.alike hK, hD9⟩, hS.F ht⟩) hS.2.2 d_Cutter_longest_12
  · refine lv_bipush (v := 9) hx hb d_Cutter_longest_5 (by decide) ?_
    refine lv_goto (tgt := 12) hx hb d_Cutter_longest_7 (by decide) ?_
    have hP9 := hP.sub (ws' := []) [] rfl
    have hD9 := hD.sub (ws' := []) [] (by decide) rfl
    exact W.iret (v := 9) hx hb hr (fun t ht hW => ⟨⟨9, (), rfl, ⟨9, by first | exact (lg_1 (by assumption)).symm | exact (lg_7 (by assumption)).symm, rfl⟩, by rw [ht]; exact hP9, va_K.moved hW.alike hK, hD9⟩, hS.F ht⟩) hS.2.2 d_Cutter_longest_12
set_option maxHeartbeats 4000000 in
set_option maxRecDepth 100000 in
theorem s_Cutter_goesOn6 (l : Launch) (dC : Nat → ClassId) (dI : Nat → Nat → Nat) (sz : Nat) (y0 : Int32) (y1 : Int32) : Met l y_Cutter_goesOn w_Cutter_goesOn ({ frames := 5, cells := 0, slots := 0, locals := 126 }) (va_Pc [.int y0, .int y1] (fun U => U.heap.size = sz ∧ va_P (dC, dI) vcl [] U.heap ∧ va_K (dC, dI) vcl [] U ∧ va_D (fun _ => True) [] ∧ cx_E (va_A [] sz) U U.heap)) (va_Qi (fun (r : Int32) (_ : Unit) => (r = 0 ∨ r = 1) ∧ (r = gnO y0 y1)) (fun _ t => va_P (dC, dI) vcl [] t.heap ∧ va_K (dC, dI) vcl [] t ∧ va_D (va_A [] sz) []) (va_A [] sz)) 0 0 (va_A [] sz) := by
  refine Met.ofW (cc := b_Cutter_goesOn) (maxL := 2) (ret := (some .boolean)) (by decide) rfl ?_
  intro p e s m args below meth c s₁ B hml hv
  obtain ⟨rfl, hsz, hP, hK, hD0, hE⟩ := hv
  have hx := B.exec
  have hb := B.bytes
  have hr := B.returns
  have hts := atoms_spec (ws := w_Cutter_goesOn) B.pre
  have hz : ∀ w ∈ wz, w.before _ s = true := fun w h => hts w (List.mem_cons_of_mem _ h)
  have hown : s.vm.findClass R_Cutter = some m.cls := findClass_of_methodNamed B.named
  have hlocks := B.notSynchronized
  subst hsz
  have hD := hD0.self (sz := s.heap.size)
  generalize hAe : va_A [] s.heap.size = A at hD hE ⊢
  have hA : ∀ q : Nat, s.heap.size ≤ q → A q := fun q h => by rw [← hAe]; exact Or.inr h
  have hS : va_S A s.heap s.heap [] := va_S.rf
  have hP : va_P (dC, dI) vcl [] s.heap := hP
  have hl := lv_entry ([.int y0, .int y1]) (n := 2) (Nat.le_of_ble_eq_true rfl)
  rw [lg_entry_eq]
  generalize (lg_sl ([.int y0, .int y1]) ++ List.replicate (2 - (lg_sl ([.int y0, .int y1])).length) Slot.unset).toArray = ls at hl ⊢
  have hl : lv_has ls 2 [(0, .int y0), (1, .int y1)] := hl
  refine lv_iload_n hx hb d_Cutter_goesOn_0 rfl (lv_at hl 0 rfl) ?_
  rcases Classical.em (y0 = (0 : Int32)) with h1 | h1_0
  · refine lv_tableIn (tgt := 28) (off := 27) hx hb d_Cutter_goesOn_1 (by rw [h1]; decide +kernel) (by rw [h1]; decide +kernel) (by rw [h1]; decide +kernel) (by decide) ?_
    refine lv_iload_n hx hb d_Cutter_goesOn_28 rfl (lv_at hl 1 rfl) ?_
    have hPc := hP.sub (ws' := []) [] rfl
    have hDc := hD.sub (ws' := []) [] (by decide) rfl
    have hKc := hK.sub (tys' := []) [] rfl
    have hFc := va_free (wc := []) hD hS hA [] rfl
    refine va_calli (va_runS (As := [.int y1]) (rest := []) ⟨hx, hb, hml, hown, hz⟩ (s_Cutter_isLetter6 l dC dI s.heap.size y1) (cwS 1 hz (zS zm_149 zm_150 zm_92 zm_151) rfl rfl rfl (by decide +kernel) ⟨Nat.le_of_ble_eq_true rfl, Nat.le_of_ble_eq_true rfl⟩) ⟨fun a U g mk q => by obtain ⟨q0, q1, qP, qK, qD⟩ := q; exact ⟨q0, q1, qP, va_K.moved (u := U) (U := U.calling g mk a) (Vm.Alike.refl U.vm) qK, qD⟩, fun U hU hW => ⟨rfl, by rw [hU], by rw [hU]; exact hPc, va_K.moved hW.alike hKc, hDc.weaken (fun _ _ _ _ => trivial)⟩⟩ rfl rfl hl.1 rfl (lv_room (Nat.le_of_ble_eq_true rfl)) d_Cutter_goesOn_29 ⟨Nat.zero_le _, Nat.zero_le _⟩) hS (fun q _ h => hFc q h) hFc (fun r u t H1 locs ht hvm hw_r hB hz1 hk1 hS => ?_)
    obtain ⟨hP1, hK1, hD1⟩ := hB
    obtain ⟨hb_r, he_r⟩ := hw_r
    subst r
    rw [ht] at hP1
    obtain ⟨hP, hD⟩ := va_join (wr := []) (w1 := []) hP hD [] [] rfl rfl (by decide) (by decide) hk1 hFc hP1 hD1
    generalize H1 = H at hP hS ⊢
    have hP : va_P (dC, dI) vcl [] H := hP
    have hD : va_D A [] := hD
    refine lv_if_ne (tgt := 48) hx hb d_Cutter_goesOn_32 (by decide) (fun h2 => ?_) (fun h2 => ?_)
    · refine lv_iconst (v := 1) hx hb d_Cutter_goesOn_48 (by decide) ?_
      refine lv_goto (tgt := 53) hx hb d_Cutter_goesOn_49 (by decide) ?_
      have hP9 := hP.sub (ws' := []) [] rfl
      have hD9 := hD.sub (ws' := []) [] (by decide) rfl
      exact W.zret (v := 1) hx hb hr (by decide +kernel) (fun t ht hW => ⟨⟨1, (), rfl, ⟨(by first | assumption | exact Or.inl rfl | exact Or.inr rfl), (by first | exact gn_d (by assumption) (by assumption) (by assumption) | exact gn_0a (by assumption) (by assumption) | exact gn_0b (by assumption) (by assumption) | exact gn_0c (by assumption) (by assumption) | exact gn_0n (by assumption) (by assumption) (by assumption) (by assumption) | exact gn_1 (by assumption) (by assumption) | exact gn_2 (by assumption) (by assumption))⟩, by rw [ht]; exact hP9, va_K.moved hW.alike hK, hD9⟩, hS.F ht⟩) hS.2.2 d_Cutter_goesOn_53
    · refine lv_iload_n hx hb d_Cutter_goesOn_35 rfl (lv_at hl 1 rfl) ?_
      have hPc := hP.sub (ws' := []) [] rfl
      have hDc := hD.sub (ws' := []) [] (by decide) rfl
      have hKc := hK.sub (tys' := []) [] rfl
      have hFc := va_free (wc := []) hD hS hA [] rfl
      refine va_calli (va_runS (As := [.int y1]) (rest := []) ⟨hx, hb, hml, hown, hz⟩ (s_Cutter_isDigit6 l dC dI H.size y1) (cwS 1 hz (zS zm_152 zm_153 zm_92 zm_154) rfl rfl rfl (by decide +kernel) ⟨Nat.le_of_ble_eq_true rfl, Nat.le_of_ble_eq_true rfl⟩) ⟨fun a U g mk q => by obtain ⟨q0, q1, qP, qK, qD⟩ := q; exact ⟨q0, q1, qP, va_K.moved (u := U) (U := U.calling g mk a) (Vm.Alike.refl U.vm) qK, qD⟩, fun U hU hW => ⟨rfl, by rw [hU], by rw [hU]; exact hPc, va_K.moved hW.alike hKc, hDc.weaken (fun _ _ _ _ => trivial)⟩⟩ rfl rfl hl.1 rfl (lv_room (Nat.le_of_ble_eq_true rfl)) d_Cutter_goesOn_36 ⟨Nat.zero_le _, Nat.zero_le _⟩) hS (fun q _ h => hFc q h) hFc (fun r u t H1 locs ht hvm hw_r hB hz1 hk1 hS => ?_)
      obtain ⟨hP1, hK1, hD1⟩ := hB
      obtain ⟨hb_r, he_r⟩ := hw_r
      subst r
      rw [ht] at hP1
      obtain ⟨hP, hD⟩ := va_join (wr := []) (w1 := []) hP hD [] [] rfl rfl (by decide) (by decide) hk1 hFc hP1 hD1
      generalize H1 = H at hP hS ⊢
      have hP : va_P (dC, dI) vcl [] H := hP
      have hD : va_D A [] := hD
      refine lv_if_ne (tgt := 48) hx hb d_Cutter_goesOn_39 (by decide) (fun h3 => ?_) (fun h3 => ?_)
      · refine lv_iconst (v := 1) hx hb d_Cutter_goesOn_48 (by decide) ?_
        refine lv_goto (tgt := 53) hx hb d_Cutter_goesOn_49 (by decide) ?_
        have hP9 := hP.sub (ws' := []) [] rfl
        have hD9 := hD.sub (ws' := []) [] (by decide) rfl
        exact W.zret (v := 1) hx hb hr (by decide +kernel) (fun t ht hW => ⟨⟨1, (), rfl, ⟨(by first | assumption | exact Or.inl rfl | exact Or.inr rfl), (by first | exact gn_d (by assumption) (by assumption) (by assumption) | exact gn_0a (by assumption) (by assumption) | exact gn_0b (by assumption) (by assumption) | exact gn_0c (by assumption) (by assumption) | exact gn_0n (by assumption) (by assumption) (by assumption) (by assumption) | exact gn_1 (by assumption) (by assumption) | exact gn_2 (by assumption) (by assumption))⟩, by rw [ht]; exact hP9, va_K.moved hW.alike hK, hD9⟩, hS.F ht⟩) hS.2.2 d_Cutter_goesOn_53
      · refine lv_iload_n hx hb d_Cutter_goesOn_42 rfl (lv_at hl 1 rfl) ?_
        refine lv_bipush (v := 39) hx hb d_Cutter_goesOn_43 (by decide) ?_
        refine lv_icmp_ne (tgt := 52) hx hb d_Cutter_goesOn_45 (by decide) (fun h4 => ?_) (fun h4 => ?_)
        · refine lv_iconst (v := 0) hx hb d_Cutter_goesOn_52 (by decide) ?_
          have hP9 := hP.sub (ws' := []) [] rfl
          have hD9 := hD.sub (ws' := []) [] (by decide) rfl
          exact W.zret (v := 0) hx hb hr (by decide +kernel) (fun t ht hW => ⟨⟨0, (), rfl, ⟨(by first | assumption | exact Or.inl rfl | exact Or.inr rfl), (by first | exact gn_d (by assumption) (by assumption) (by assumption) | exact gn_0a (by assumption) (by assumption) | exact gn_0b (by assumption) (by assumption) | exact gn_0c (by assumption) (by assumption) | exact gn_0n (by assumption) (by assumption) (by assumption) (by assumption) | exact gn_1 (by assumption) (by assumption) | exact gn_2 (by assumption) (by assumption))⟩, by rw [ht]; exact hP9, va_K.moved hW.alike hK, hD9⟩, hS.F ht⟩) hS.2.2 d_Cutter_goesOn_53
        · refine lv_iconst (v := 1) hx hb d_Cutter_goesOn_48 (by decide) ?_
          refine lv_goto (tgt := 53) hx hb d_Cutter_goesOn_49 (by decide) ?_
          have hP9 := hP.sub (ws' := []) [] rfl
          have hD9 := hD.sub (ws' := []) [] (by decide) rfl
          exact W.zret (v := 1) hx hb hr (by decide +kernel) (fun t ht hW => ⟨⟨1, (), rfl, ⟨(by first | assumption | exact Or.inl rfl | exact Or.inr rfl), (by first | exact gn_d (by assumption) (by assumption) (by assumption) | exact gn_0a (by assumption) (by assumption) | exact gn_0b (by assumption) (by assumption) | exact gn_0c (by assumption) (by assumption) | exact gn_0n (by assumption) (by assumption) (by assumption) (by assumption) | exact gn_1 (by assumption) (by assumption) | exact gn_2 (by assumption) (by assumption))⟩, by rw [ht]; exact hP9, va_K.moved hW.alike hK, hD9⟩, hS.F ht⟩) hS.2.2 d_Cutter_goesOn_53
  rcases Classical.em (y0 = (1 : Int32)) with h1 | h1_1
  · refine lv_tableIn (tgt := 54) (off := 53) hx hb d_Cutter_goesOn_1 (by rw [h1]; decide +kernel) (by rw [h1]; decide +kernel) (by rw [h1]; decide +kernel) (by decide) ?_
    refine lv_iload_n hx hb d_Cutter_goesOn_54 rfl (lv_at hl 1 rfl) ?_
    have hPc := hP.sub (ws' := []) [] rfl
    have hDc := hD.sub (ws' := []) [] (by decide) rfl
    have hKc := hK.sub (tys' := []) [] rfl
    have hFc := va_free (wc := []) hD hS hA [] rfl
    refine va_calli (va_runS (As := [.int y1]) (rest := []) ⟨hx, hb, hml, hown, hz⟩ (s_Cutter_isDigit6 l dC dI s.heap.size y1) (cwS 1 hz (zS zm_152 zm_153 zm_92 zm_154) rfl rfl rfl (by decide +kernel) ⟨Nat.le_of_ble_eq_true rfl, Nat.le_of_ble_eq_true rfl⟩) ⟨fun a U g mk q => by obtain ⟨q0, q1, qP, qK, qD⟩ := q; exact ⟨q0, q1, qP, va_K.moved (u := U) (U := U.calling g mk a) (Vm.Alike.refl U.vm) qK, qD⟩, fun U hU hW => ⟨rfl, by rw [hU], by rw [hU]; exact hPc, va_K.moved hW.alike hKc, hDc.weaken (fun _ _ _ _ => trivial)⟩⟩ rfl rfl hl.1 rfl (lv_room (Nat.le_of_ble_eq_true rfl)) d_Cutter_goesOn_55 ⟨Nat.zero_le _, Nat.zero_le _⟩) hS (fun q _ h => hFc q h) hFc (fun r u t H1 locs ht hvm hw_r hB hz1 hk1 hS => ?_)
    obtain ⟨hP1, hK1, hD1⟩ := hB
    obtain ⟨hb_r, he_r⟩ := hw_r
    subst r
    rw [ht] at hP1
    obtain ⟨hP, hD⟩ := va_join (wr := []) (w1 := []) hP hD [] [] rfl rfl (by decide) (by decide) hk1 hFc hP1 hD1
    generalize H1 = H at hP hS ⊢
    have hP : va_P (dC, dI) vcl [] H := hP
    have hD : va_D A [] := hD
    have hP9 := hP.sub (ws' := []) [] rfl
    have hD9 := hD.sub (ws' := []) [] (by decide) rfl
    exact W.zret (v := (wi y1 48 57)) hx hb hr (xr_nb (by first | assumption | exact Or.inl rfl | exact Or.inr rfl)) (fun t ht hW => ⟨⟨(wi y1 48 57), (), rfl, ⟨(by first | assumption | exact Or.inl rfl | exact Or.inr rfl), (by first | exact gn_d (by assumption) (by assumption) (by assumption) | exact gn_0a (by assumption) (by assumption) | exact gn_0b (by assumption) (by assumption) | exact gn_0c (by assumption) (by assumption) | exact gn_0n (by assumption) (by assumption) (by assumption) (by assumption) | exact gn_1 (by assumption) (by assumption) | exact gn_2 (by assumption) (by assumption))⟩, by rw [ht]; exact hP9, va_K.moved hW.alike hK, hD9⟩, hS.F ht⟩) hS.2.2 d_Cutter_goesOn_58
  rcases Classical.em (y0 = (2 : Int32)) with h1 | h1_2
  · refine lv_tableIn (tgt := 59) (off := 58) hx hb d_Cutter_goesOn_1 (by rw [h1]; decide +kernel) (by rw [h1]; decide +kernel) (by rw [h1]; decide +kernel) (by decide) ?_
    refine lv_iload_n hx hb d_Cutter_goesOn_59 rfl (lv_at hl 1 rfl) ?_
    have hPc := hP.sub (ws' := []) [] rfl
    have hDc := hD.sub (ws' := []) [] (by decide) rfl
    have hKc := hK.sub (tys' := []) [] rfl
    have hFc := va_free (wc := []) hD hS hA [] rfl
    refine va_calli (va_runS (As := [.int y1]) (rest := []) ⟨hx, hb, hml, hown, hz⟩ (s_Cutter_isOperatorPart6 l dC dI s.heap.size y1) (cwS 1 hz (zS zm_155 zm_156 zm_92 zm_157) rfl rfl rfl (by decide +kernel) ⟨Nat.le_of_ble_eq_true rfl, Nat.le_of_ble_eq_true rfl⟩) ⟨fun a U g mk q => by obtain ⟨q0, q1, qP, qK, qD, qx0⟩ := q; exact ⟨q0, q1, qP, va_K.moved (u := U) (U := U.calling g mk a) (Vm.Alike.refl U.vm) qK, qD, cx_E.same (u := U) (U := U.calling g mk a) rfl qx0⟩, fun U hU hW => ⟨rfl, by rw [hU], by rw [hU]; exact hPc, va_K.moved hW.alike hKc, hDc.weaken (fun _ _ _ _ => trivial), by rw [hU]; exact cx_E.to hW hS hFc hE⟩⟩ rfl rfl hl.1 rfl (lv_room (Nat.le_of_ble_eq_true rfl)) d_Cutter_goesOn_60 ⟨Nat.zero_le _, Nat.zero_le _⟩) hS (fun q _ h => hFc q h) hFc (fun r u t H1 locs ht hvm hw_r hB hz1 hk1 hS => ?_)
    obtain ⟨hP1, hK1, hD1⟩ := hB
    obtain ⟨hb_r, he_r⟩ := hw_r
    subst r
    rw [ht] at hP1
    obtain ⟨hP, hD⟩ := va_join (wr := []) (w1 := []) hP hD [] [] rfl rfl (by decide) (by decide) hk1 hFc hP1 hD1
    generalize H1 = H at hP hS ⊢
    have hP : va_P (dC, dI) vcl [] H := hP
    have hD : va_D A [] := hD
    have hP9 := hP.sub (ws' := []) [] rfl
    have hD9 := hD.sub (ws' := []) [] (by decide) rfl
    exact W.zret (v := (op_ y1)) hx hb hr (xr_nb (by first | assumption | exact Or.inl rfl | exact Or.inr rfl)) (fun t ht hW => ⟨⟨(op_ y1), (), rfl, ⟨(by first | assumption | exact Or.inl rfl | exact Or.inr rfl), (by first | exact gn_d (by assumption) (by assumption) (by assumption) | exact gn_0a (by assumption) (by assumption) | exact gn_0b (by assumption) (by assumption) | exact gn_0c (by assumption) (by assumption) | exact gn_0n (by assumption) (by assumption) (by assumption) (by assumption) | exact gn_1 (by assumption) (by assumption) | exact gn_2 (by assumption) (by assumption))⟩, by rw [ht]; exact hP9, va_K.moved hW.alike hK, hD9⟩, hS.F ht⟩) hS.2.2 d_Cutter_goesOn_63
  have h1_0 := lv_neT (a := 0) h1_0 (by decide)
  have h1_1 := lv_neT (a := 1) h1_1 (by decide)
  have h1_2 := lv_neT (a := 2) h1_2 (by decide)
  refine lv_tableOut (tgt := 64) hx hb d_Cutter_goesOn_1 (by omega) (by decide) ?_
  refine lv_iconst (v := 0) hx hb d_Cutter_goesOn_64 (by decide) ?_
  have hP9 := hP.sub (ws' := []) [] rfl
  have hD9 := hD.sub (ws' := []) [] (by decide) rfl
  exact W.zret (v := 0) hx hb hr (by decide +kernel) (fun t ht hW => ⟨⟨0, (), rfl, ⟨(by first | assumption | exact Or.inl rfl | exact Or.inr rfl), (by first | exact gn_d (by assumption) (by assumption) (by assumption) | exact gn_0a (by assumption) (by assumption) | exact gn_0b (by assumption) (by assumption) | exact gn_0c (by assumption) (by assumption) | exact gn_0n (by assumption) (by assumption) (by assumption) (by assumption) | exact gn_1 (by assumption) (by assumption) | exact gn_2 (by assumption) (by assumption))⟩, by rw [ht]; exact hP9, va_K.moved hW.alike hK, hD9⟩, hS.F ht⟩) hS.2.2 d_Cutter_goesOn_65
set_option maxHeartbeats 4000000 in
set_option maxRecDepth 100000 in
theorem s_Cutter_lexemeEnd6 (l : Launch) (dC : Nat → ClassId) (dI : Nat → Nat → Nat) (sz : Nat) (a_t : Nat) (a_lexemes : Nat) (n_at : Nat) (z_lineStart : Int32) (z_lineIsFresh : Int32) (z_wrongPlace : Int32) (z_tooMany : Int32) (a_y0 : Nat) (a_y0_characters : Nat) (f_y0_characters : Nat → Int32) (n_y0_length : Nat) (y1 : Int32) (ka_y0_characters : ClassId) (b_at : n_at ≤ 241) (b_tooMany : z_tooMany = 0 ∨ z_tooMany = 1) (c_y0_characters : ∀ j, narrow .char (.int (f_y0_characters j)) = .int (f_y0_characters j)) (b_y0_length : n_y0_length ≤ 240) (hp0 : n_at < n_y0_length) : Met l y_Cutter_lexemeEnd w_Cutter_lexemeEnd ({ frames := 6, cells := 0, slots := 0, locals := 147 }) (va_Pc [.ref a_t, .ref a_y0, .int y1] (fun U => U.heap.size = sz ∧ va_P (dC, dI) vcl [(a_t, .inr (3, [.ref a_lexemes, .int (nI n_at), .int z_lineStart, .int z_lineIsFresh, .int z_wrongPlace, .int z_tooMany])), (a_y0, .inr (10, [.ref a_y0_characters, .int (nI n_y0_length)])), (a_y0_characters, .inl (ka_y0_characters, 240, .inl f_y0_characters))] U.heap ∧ va_K (dC, dI) vcl [(ka_y0_characters, .char)] U ∧ va_D (fun _ => True) [(a_t, .inr (3, [.ref a_lexemes, .int (nI n_at), .int z_lineStart, .int z_lineIsFresh, .int z_wrongPlace, .int z_tooMany])), (a_y0, .inr (10, [.ref a_y0_characters, .int (nI n_y0_length)])), (a_y0_characters, .inl (ka_y0_characters, 240, .inl f_y0_characters))] ∧ cx_E (va_A [(a_t, .inr (3, [.ref a_lexemes, .int (nI n_at), .int z_lineStart, .int z_lineIsFresh, .int z_wrongPlace, .int z_tooMany])), (a_y0, .inr (10, [.ref a_y0_characters, .int (nI n_y0_length)])), (a_y0_characters, .inl (ka_y0_characters, 240, .inl f_y0_characters))] sz) U U.heap)) (va_Qi (fun (r : Int32) (_ : Unit) => ∃ j, (j = enO (cN f_y0_characters n_y0_length) n_y0_length y1 n_at) ∧ r = nI j) (fun _ t => va_P (dC, dI) vcl [(a_t, .inr (3, [.ref a_lexemes, .int (nI n_at), .int z_lineStart, .int z_lineIsFresh, .int z_wrongPlace, .int z_tooMany])), (a_y0, .inr (10, [.ref a_y0_characters, .int (nI n_y0_length)])), (a_y0_characters, .inl (ka_y0_characters, 240, .inl f_y0_characters))] t.heap ∧ va_K (dC, dI) vcl [(ka_y0_characters, .char)] t ∧ va_D (va_A [(a_t, .inr (3, [.ref a_lexemes, .int (nI n_at), .int z_lineStart, .int z_lineIsFresh, .int z_wrongPlace, .int z_tooMany])), (a_y0, .inr (10, [.ref a_y0_characters, .int (nI n_y0_length)])), (a_y0_characters, .inl (ka_y0_characters, 240, .inl f_y0_characters))] sz) [(a_t, .inr (3, [.ref a_lexemes, .int (nI n_at), .int z_lineStart, .int z_lineIsFresh, .int z_wrongPlace, .int z_tooMany])), (a_y0, .inr (10, [.ref a_y0_characters, .int (nI n_y0_length)])), (a_y0_characters, .inl (ka_y0_characters, 240, .inl f_y0_characters))]) (va_A [(a_t, .inr (3, [.ref a_lexemes, .int (nI n_at), .int z_lineStart, .int z_lineIsFresh, .int z_wrongPlace, .int z_tooMany])), (a_y0, .inr (10, [.ref a_y0_characters, .int (nI n_y0_length)])), (a_y0_characters, .inl (ka_y0_characters, 240, .inl f_y0_characters))] sz)) 0 0 (va_A [(a_t, .inr (3, [.ref a_lexemes, .int (nI n_at), .int z_lineStart, .int z_lineIsFresh, .int z_wrongPlace, .int z_tooMany])), (a_y0, .inr (10, [.ref a_y0_characters, .int (nI n_y0_length)])), (a_y0_characters, .inl (ka_y0_characters, 240, .inl f_y0_characters))] sz) := by
  refine Met.ofW (cc := b_Cutter_lexemeEnd) (maxL := 4) (ret := (some .int)) (by decide) rfl ?_
  intro p e s m args below meth c s₁ B hml hv
  obtain ⟨rfl, hsz, hP, hK, hD0, hE⟩ := hv
  have hx := B.exec
  have hb := B.bytes
  have hr := B.returns
  have hts := atoms_spec (ws := w_Cutter_lexemeEnd) B.pre
  have hz : ∀ w ∈ wz, w.before _ s = true := fun w h => hts w (List.mem_cons_of_mem _ h)
  have hown : s.vm.findClass R_Cutter = some m.cls := findClass_of_methodNamed B.named
  have hlocks := B.notSynchronized
  subst hsz
  have hD := hD0.self (sz := s.heap.size)
  generalize hAe : va_A [(a_t, .inr (3, [.ref a_lexemes, .int (nI n_at), .int z_lineStart, .int z_lineIsFresh, .int z_wrongPlace, .int z_tooMany])), (a_y0, .inr (10, [.ref a_y0_characters, .int (nI n_y0_length)])), (a_y0_characters, .inl (ka_y0_characters, 240, .inl f_y0_characters))] s.heap.size = A at hD hE ⊢
  have hA : ∀ q : Nat, s.heap.size ≤ q → A q := fun q h => by rw [← hAe]; exact Or.inr h
  have hS : va_S A s.heap s.heap [] := va_S.rf
  have hP : va_P (dC, dI) vcl [(a_t, .inr (3, [.ref a_lexemes, .int (nI n_at), .int z_lineStart, .int z_lineIsFresh, .int z_wrongPlace, .int z_tooMany])), (a_y0, .inr (10, [.ref a_y0_characters, .int (nI n_y0_length)])), (a_y0_characters, .inl (ka_y0_characters, 240, .inl f_y0_characters))] s.heap := hP
  have hl := lv_entry ([.ref a_t, .ref a_y0, .int y1]) (n := 4) (Nat.le_of_ble_eq_true rfl)
  rw [lg_entry_eq]
  generalize (lg_sl ([.ref a_t, .ref a_y0, .int y1]) ++ List.replicate (4 - (lg_sl ([.ref a_t, .ref a_y0, .int y1])).length) Slot.unset).toArray = ls at hl ⊢
  have hl : lv_has ls 4 [(0, .ref a_t), (1, .ref a_y0), (2, .int y1)] := hl
  refine lv_aload_n hx hb d_Cutter_lexemeEnd_0 rfl (lv_at hl 0 rfl) ?_
  refine va_get (D := (dC, dI)) (ci := 3) (v := .int (nI n_at)) (C := R_Cutter) (T := F_Cutter) (N := 6) hx hb hz zu_Cutter hown hK hP 0 rfl rfl 1 (by decide) (hz (.fieldLink R_Cutter 29 "LayoutFront$Cutter" "at" "I") zm_82) (fun _ h9 => h9) rfl d_Cutter_lexemeEnd_1 ?_
  refine lv_iconst (v := 1) hx hb d_Cutter_lexemeEnd_4 (by decide) ?_
  refine xr_iadd (v := (nI (n_at + 1))) hx hb d_Cutter_lexemeEnd_5 (nI_add n_at 1) ?_
  refine lv_istore_n hx hb d_Cutter_lexemeEnd_6 rfl hl (by decide) rfl (fun ls hl => ?_)
  have hl : lv_has ls 4 [(3, .int (nI (n_at + 1))), (0, .ref a_t), (1, .ref a_y0), (2, .int y1)] := hl
  refine xr_loop (α := (Nat)) (fun a => (fun (k3 : Nat) => 242 - k3) a) (fun a H locs ls => (fun (k3 : Nat) => (k3 ≤ 241) ∧ (k3 ≤ n_y0_length) ∧ (n_at + 1 ≤ k3) ∧ (enR (cN f_y0_characters n_y0_length) n_y0_length y1 k3 = enR (cN f_y0_characters n_y0_length) n_y0_length y1 (n_at + 1)) ∧ lv_has ls 4 [(3, .int (nI k3)), (0, .ref a_t), (1, .ref a_y0), (2, .int y1)] ∧ va_P (dC, dI) vcl [(a_t, .inr (3, [.ref a_lexemes, .int (nI n_at), .int z_lineStart, .int z_lineIsFresh, .int z_wrongPlace, .int z_tooMany])), (a_y0, .inr (10, [.ref a_y0_characters, .int (nI n_y0_length)])), (a_y0_characters, .inl (ka_y0_characters, 240, .inl f_y0_characters))] H ∧ va_D A [(a_t, .inr (3, [.ref a_lexemes, .int (nI n_at), .int z_lineStart, .int z_lineIsFresh, .int z_wrongPlace, .int z_tooMany])), (a_y0, .inr (10, [.ref a_y0_characters, .int (nI n_y0_length)])), (a_y0_characters, .inl (ka_y0_characters, 240, .inl f_y0_characters))] ∧ va_S A s.heap H locs) a) (fun a ih7 H locs ls hI => ?_) ((n_at + 1)) _ _ _ ⟨by show ((n_at + 1)) ≤ 241; first | omega | assumption | exact Or.inl rfl | exact Or.inr rfl | decide, by show ((n_at + 1)) ≤ n_y0_length; first | omega | assumption | exact Or.inl rfl | exact Or.inr rfl | decide, by show n_at + 1 ≤ ((n_at + 1)); first | omega | assumption | exact Or.inl rfl | exact Or.inr rfl | decide, by show enR (cN f_y0_characters n_y0_length) n_y0_length y1 ((n_at + 1)) = enR (cN f_y0_characters n_y0_length) n_y0_length y1 (n_at + 1); first | rfl | (rw [Nat.sub_self]; rfl), hl, hP, hD, hS⟩
  generalize a = k3 at ih7 hI
  obtain ⟨bl0, bl1, bl2, bl3, hl, hP, hD, hS⟩ := hI
  have bl0 : k3 ≤ 241 := bl0
  have bl1 : k3 ≤ n_y0_length := bl1
  have bl2 : n_at + 1 ≤ k3 := bl2
  have bl3 : enR (cN f_y0_characters n_y0_length) n_y0_length y1 k3 = enR (cN f_y0_characters n_y0_length) n_y0_length y1 (n_at + 1) := bl3
  have iE := bl3
  have hl : lv_has ls 4 [(3, .int (nI k3)), (0, .ref a_t), (1, .ref a_y0), (2, .int y1)] := hl
  have hP : va_P (dC, dI) vcl [(a_t, .inr (3, [.ref a_lexemes, .int (nI n_at), .int z_lineStart, .int z_lineIsFresh, .int z_wrongPlace, .int z_tooMany])), (a_y0, .inr (10, [.ref a_y0_characters, .int (nI n_y0_length)])), (a_y0_characters, .inl (ka_y0_characters, 240, .inl f_y0_characters))] H := hP
  have hD : va_D A [(a_t, .inr (3, [.ref a_lexemes, .int (nI n_at), .int z_lineStart, .int z_lineIsFresh, .int z_wrongPlace, .int z_tooMany])), (a_y0, .inr (10, [.ref a_y0_characters, .int (nI n_y0_length)])), (a_y0_characters, .inl (ka_y0_characters, 240, .inl f_y0_characters))] := hD
  refine lv_iload_n hx hb d_Cutter_lexemeEnd_7 rfl (lv_at hl 0 rfl) ?_
  refine lv_aload_n hx hb d_Cutter_lexemeEnd_8 rfl (lv_at hl 2 rfl) ?_
  have hPc := hP.sub (ws' := [(a_y0, .inr (10, [.ref a_y0_characters, .int (nI n_y0_length)]))]) [1] rfl
  have hDc := hD.sub (ws' := [(a_y0, .inr (10, [.ref a_y0_characters, .int (nI n_y0_length)]))]) [1] (by decide) rfl
  have hKc := hK.sub (tys' := []) [] rfl
  have hFc := va_free (wc := [(a_y0, .inr (10, [.ref a_y0_characters, .int (nI n_y0_length)]))]) hD hS hA [1] rfl
  refine va_calli (va_runV (As := []) (rest := [.int (nI k3)]) ⟨hx, hb, hml, hown, hz⟩ (s_Text_length l dC dI H.size a_y0 a_y0_characters n_y0_length (by first | omega | assumption | exact Or.inl rfl | exact Or.inr rfl)) (cwV 0 hz (zV zm_85 zm_86 zm_87 zm_7 zm_88) rfl rfl rfl (by decide +kernel) ⟨Nat.le_of_ble_eq_true rfl, Nat.le_of_ble_eq_true rfl⟩) ⟨fun a U g mk q => by obtain ⟨q0, q1, qP, qK, qD⟩ := q; exact ⟨q0, q1, qP, va_K.moved (u := U) (U := U.calling g mk a) (Vm.Alike.refl U.vm) qK, qD⟩, va_recv (q := (R_Text, F_Text, 2)) (q0 := 1) (ci := 10) hK hP rfl rfl, fun U hU hW => ⟨rfl, by rw [hU], by rw [hU]; exact hPc, va_K.moved hW.alike hKc, hDc.weaken (fun _ _ _ _ => trivial)⟩⟩ rfl rfl hl.1 rfl (lv_room (Nat.le_of_ble_eq_true rfl)) d_Cutter_lexemeEnd_9 ⟨Nat.zero_le _, Nat.zero_le _⟩) hS (fun q _ h => hFc q h) hFc (fun r u t H1 locs ht hvm hw hB hz1 hk1 hS => ?_)
  obtain ⟨hP1, hK1, hD1⟩ := hB
  subst r
  rw [ht] at hP1
  obtain ⟨hP, hD⟩ := va_join (wr := [(a_t, .inr (3, [.ref a_lexemes, .int (nI n_at), .int z_lineStart, .int z_lineIsFresh, .int z_wrongPlace, .int z_tooMany])), (a_y0_characters, .inl (ka_y0_characters, 240, .inl f_y0_characters))]) (w1 := [(a_y0, .inr (10, [.ref a_y0_characters, .int (nI n_y0_length)]))]) hP hD [1] [0, 2] rfl rfl (by decide) (by decide) hk1 hFc hP1 hD1
  generalize H1 = H at hP hS ⊢
  have hP : va_P (dC, dI) vcl [(a_t, .inr (3, [.ref a_lexemes, .int (nI n_at), .int z_lineStart, .int z_lineIsFresh, .int z_wrongPlace, .int z_tooMany])), (a_y0_characters, .inl (ka_y0_characters, 240, .inl f_y0_characters)), (a_y0, .inr (10, [.ref a_y0_characters, .int (nI n_y0_length)]))] H := hP
  have hD : va_D A [(a_t, .inr (3, [.ref a_lexemes, .int (nI n_at), .int z_lineStart, .int z_lineIsFresh, .int z_wrongPlace, .int z_tooMany])), (a_y0_characters, .inl (ka_y0_characters, 240, .inl f_y0_characters)), (a_y0, .inr (10, [.ref a_y0_characters, .int (nI n_y0_length)]))] := hD
  refine lv_icmp_ge (tgt := 35) hx hb d_Cutter_lexemeEnd_12 (by decide) (fun h1 => ?_) (fun h1 => ?_)
  · have h1 : n_y0_length ≤ k3 := (nI_leI (a := n_y0_length) (b := k3) (by omega) (by omega)).mp h1
    refine lv_aload_n hx hb d_Cutter_lexemeEnd_35 rfl (lv_at hl 2 rfl) ?_
    have hPc := hP.sub (ws' := [(a_y0, .inr (10, [.ref a_y0_characters, .int (nI n_y0_length)]))]) [2] rfl
    have hDc := hD.sub (ws' := [(a_y0, .inr (10, [.ref a_y0_characters, .int (nI n_y0_length)]))]) [2] (by decide) rfl
    have hKc := hK.sub (tys' := []) [] rfl
    have hFc := va_free (wc := [(a_y0, .inr (10, [.ref a_y0_characters, .int (nI n_y0_length)]))]) hD hS hA [2] rfl
    refine va_calli (va_runV (As := []) (rest := []) ⟨hx, hb, hml, hown, hz⟩ (s_Text_length l dC dI H.size a_y0 a_y0_characters n_y0_length (by first | omega | assumption | exact Or.inl rfl | exact Or.inr rfl)) (cwV 0 hz (zV zm_85 zm_86 zm_87 zm_7 zm_88) rfl rfl rfl (by decide +kernel) ⟨Nat.le_of_ble_eq_true rfl, Nat.le_of_ble_eq_true rfl⟩) ⟨fun a U g mk q => by obtain ⟨q0, q1, qP, qK, qD⟩ := q; exact ⟨q0, q1, qP, va_K.moved (u := U) (U := U.calling g mk a) (Vm.Alike.refl U.vm) qK, qD⟩, va_recv (q := (R_Text, F_Text, 2)) (q0 := 2) (ci := 10) hK hP rfl rfl, fun U hU hW => ⟨rfl, by rw [hU], by rw [hU]; exact hPc, va_K.moved hW.alike hKc, hDc.weaken (fun _ _ _ _ => trivial)⟩⟩ rfl rfl hl.1 rfl (lv_room (Nat.le_of_ble_eq_true rfl)) d_Cutter_lexemeEnd_36 ⟨Nat.zero_le _, Nat.zero_le _⟩) hS (fun q _ h => hFc q h) hFc (fun r u t H1 locs ht hvm hw hB hz1 hk1 hS => ?_)
    obtain ⟨hP1, hK1, hD1⟩ := hB
    subst r
    rw [ht] at hP1
    obtain ⟨hP, hD⟩ := va_join (wr := [(a_t, .inr (3, [.ref a_lexemes, .int (nI n_at), .int z_lineStart, .int z_lineIsFresh, .int z_wrongPlace, .int z_tooMany])), (a_y0_characters, .inl (ka_y0_characters, 240, .inl f_y0_characters))]) (w1 := [(a_y0, .inr (10, [.ref a_y0_characters, .int (nI n_y0_length)]))]) hP hD [2] [0, 1] rfl rfl (by decide) (by decide) hk1 hFc hP1 hD1
    generalize H1 = H at hP hS ⊢
    have hP : va_P (dC, dI) vcl [(a_t, .inr (3, [.ref a_lexemes, .int (nI n_at), .int z_lineStart, .int z_lineIsFresh, .int z_wrongPlace, .int z_tooMany])), (a_y0_characters, .inl (ka_y0_characters, 240, .inl f_y0_characters)), (a_y0, .inr (10, [.ref a_y0_characters, .int (nI n_y0_length)]))] H := hP
    have hD : va_D A [(a_t, .inr (3, [.ref a_lexemes, .int (nI n_at), .int z_lineStart, .int z_lineIsFresh, .int z_wrongPlace, .int z_tooMany])), (a_y0_characters, .inl (ka_y0_characters, 240, .inl f_y0_characters)), (a_y0, .inr (10, [.ref a_y0_characters, .int (nI n_y0_length)]))] := hD
    have hP9 := hP.sub (ws' := [(a_t, .inr (3, [.ref a_lexemes, .int (nI n_at), .int z_lineStart, .int z_lineIsFresh, .int z_wrongPlace, .int z_tooMany])), (a_y0, .inr (10, [.ref a_y0_characters, .int (nI n_y0_length)])), (a_y0_characters, .inl (ka_y0_characters, 240, .inl f_y0_characters))]) [0, 2, 1] rfl
    have hD9 := hD.sub (ws' := [(a_t, .inr (3, [.ref a_lexemes, .int (nI n_at), .int z_lineStart, .int z_lineIsFresh, .int z_wrongPlace, .int z_tooMany])), (a_y0, .inr (10, [.ref a_y0_characters, .int (nI n_y0_length)])), (a_y0_characters, .inl (ka_y0_characters, 240, .inl f_y0_characters))]) [0, 2, 1] (by decide) rfl
    exact W.iret (v := (nI n_y0_length)) hx hb hr (fun t ht hW => ⟨⟨(nI n_y0_length), (), rfl, ⟨n_y0_length, by first | exact (enR_stop e24).symm.trans iE | exact (enR_end (by omega) (by omega)).symm.trans iE, rfl⟩, by rw [ht]; exact hP9, va_K.moved hW.alike hK, hD9⟩, hS.F ht⟩) hS.2.2 d_Cutter_lexemeEnd_39
  · have h1 : ¬ n_y0_length ≤ k3 := fun q => h1 ((nI_leI (a := n_y0_length) (b := k3) (by omega) (by omega)).mpr q)
    refine lv_iload_n hx hb d_Cutter_lexemeEnd_15 rfl (lv_at hl 3 rfl) ?_
    refine lv_aload_n hx hb d_Cutter_lexemeEnd_16 rfl (lv_at hl 2 rfl) ?_
    refine lv_iload_n hx hb d_Cutter_lexemeEnd_17 rfl (lv_at hl 0 rfl) ?_
    have hPc := hP.sub (ws' := [(a_y0, .inr (10, [.ref a_y0_characters, .int (nI n_y0_length)])), (a_y0_characters, .inl (ka_y0_characters, 240, .inl f_y0_characters))]) [2, 1] rfl
    have hDc := hD.sub (ws' := [(a_y0, .inr (10, [.ref a_y0_characters, .int (nI n_y0_length)])), (a_y0_characters, .inl (ka_y0_characters, 240, .inl f_y0_characters))]) [2, 1] (by decide) rfl
    have hKc := hK.sub (tys' := [(ka_y0_characters, .char)]) [0] rfl
    have hFc := va_free (wc := [(a_y0, .inr (10, [.ref a_y0_characters, .int (nI n_y0_length)])), (a_y0_characters, .inl (ka_y0_characters, 240, .inl f_y0_characters))]) hD hS hA [2, 1] rfl
    refine va_calli (va_runV (As := [.int (nI k3)]) (rest := [.int y1]) ⟨hx, hb, hml, hown, hz⟩ (s_Text_at6 l dC dI H.size a_y0 a_y0_characters f_y0_characters n_y0_length k3 ka_y0_characters (by first | omega | assumption | exact Or.inl rfl | exact Or.inr rfl) (by first | omega | assumption | exact Or.inl rfl | exact Or.inr rfl) (by first | omega | assumption | exact Or.inl rfl | exact Or.inr rfl)) (cwV 1 hz (zV zm_89 zm_11 zm_12 zm_7 zm_13) rfl rfl rfl (by decide +kernel) ⟨Nat.le_of_ble_eq_true rfl, Nat.le_of_ble_eq_true rfl⟩) ⟨fun a U g mk q => by obtain ⟨q0, q1, qP, qK, qD⟩ := q; exact ⟨q0, q1, qP, va_K.moved (u := U) (U := U.calling g mk a) (Vm.Alike.refl U.vm) qK, qD⟩, va_recv (q := (R_Text, F_Text, 2)) (q0 := 2) (ci := 10) hK hP rfl rfl, fun U hU hW => ⟨rfl, by rw [hU], by rw [hU]; exact hPc, va_K.moved hW.alike hKc, hDc.weaken (fun _ _ _ _ => trivial)⟩⟩ rfl rfl hl.1 rfl (lv_room (Nat.le_of_ble_eq_true rfl)) d_Cutter_lexemeEnd_18 ⟨Nat.zero_le _, Nat.zero_le _⟩) hS (fun q _ h => hFc q h) hFc (fun r u t H1 locs ht hvm hw hB hz1 hk1 hS => ?_)
    obtain ⟨hP1, hK1, hD1⟩ := hB
    subst r
    rw [ht] at hP1
    obtain ⟨hP, hD⟩ := va_join (wr := [(a_t, .inr (3, [.ref a_lexemes, .int (nI n_at), .int z_lineStart, .int z_lineIsFresh, .int z_wrongPlace, .int z_tooMany]))]) (w1 := [(a_y0, .inr (10, [.ref a_y0_characters, .int (nI n_y0_length)])), (a_y0_characters, .inl (ka_y0_characters, 240, .inl f_y0_characters))]) hP hD [2, 1] [0] rfl rfl (by decide) (by decide) hk1 hFc hP1 hD1
    generalize H1 = H at hP hS ⊢
    have hP : va_P (dC, dI) vcl [(a_t, .inr (3, [.ref a_lexemes, .int (nI n_at), .int z_lineStart, .int z_lineIsFresh, .int z_wrongPlace, .int z_tooMany])), (a_y0, .inr (10, [.ref a_y0_characters, .int (nI n_y0_length)])), (a_y0_characters, .inl (ka_y0_characters, 240, .inl f_y0_characters))] H := hP
    have hD : va_D A [(a_t, .inr (3, [.ref a_lexemes, .int (nI n_at), .int z_lineStart, .int z_lineIsFresh, .int z_wrongPlace, .int z_tooMany])), (a_y0, .inr (10, [.ref a_y0_characters, .int (nI n_y0_length)])), (a_y0_characters, .inl (ka_y0_characters, 240, .inl f_y0_characters))] := hD
    have hPc := hP.sub (ws' := []) [] rfl
    have hDc := hD.sub (ws' := []) [] (by decide) rfl
    have hKc := hK.sub (tys' := []) [] rfl
    have hFc := va_free (wc := []) hD hS hA [] rfl
    refine va_calli (va_runS (As := [.int y1, .int (cN f_y0_characters n_y0_length k3)]) (rest := []) ⟨hx, hb, hml, hown, hz⟩ (s_Cutter_goesOn6 l dC dI H.size y1 ((cN f_y0_characters n_y0_length k3))) (cwS 2 hz (zS zm_161 zm_162 zm_92 zm_163) rfl rfl rfl (by decide +kernel) ⟨Nat.le_of_ble_eq_true rfl, Nat.le_of_ble_eq_true rfl⟩) ⟨fun a U g mk q => by obtain ⟨q0, q1, qP, qK, qD, qx0⟩ := q; exact ⟨q0, q1, qP, va_K.moved (u := U) (U := U.calling g mk a) (Vm.Alike.refl U.vm) qK, qD, cx_E.same (u := U) (U := U.calling g mk a) rfl qx0⟩, fun U hU hW => ⟨rfl, by rw [hU], by rw [hU]; exact hPc, va_K.moved hW.alike hKc, hDc.weaken (fun _ _ _ _ => trivial), by rw [hU]; exact cx_E.to hW hS hFc hE⟩⟩ rfl rfl hl.1 rfl (lv_room (Nat.le_of_ble_eq_true rfl)) d_Cutter_lexemeEnd_21 ⟨Nat.zero_le _, Nat.zero_le _⟩) hS (fun q _ h => hFc q h) hFc (fun r u t H1 locs ht hvm hw_r hB hz1 hk1 hS => ?_)
    obtain ⟨hP1, hK1, hD1⟩ := hB
    obtain ⟨hb_r, he_r⟩ := hw_r
    subst r
    rw [ht] at hP1
    obtain ⟨hP, hD⟩ := va_join (wr := [(a_t, .inr (3, [.ref a_lexemes, .int (nI n_at), .int z_lineStart, .int z_lineIsFresh, .int z_wrongPlace, .int z_tooMany])), (a_y0, .inr (10, [.ref a_y0_characters, .int (nI n_y0_length)])), (a_y0_characters, .inl (ka_y0_characters, 240, .inl f_y0_characters))]) (w1 := []) hP hD [] [0, 1, 2] rfl rfl (by decide) (by decide) hk1 hFc hP1 hD1
    generalize H1 = H at hP hS ⊢
    have hP : va_P (dC, dI) vcl [(a_t, .inr (3, [.ref a_lexemes, .int (nI n_at), .int z_lineStart, .int z_lineIsFresh, .int z_wrongPlace, .int z_tooMany])), (a_y0, .inr (10, [.ref a_y0_characters, .int (nI n_y0_length)])), (a_y0_characters, .inl (ka_y0_characters, 240, .inl f_y0_characters))] H := hP
    have hD : va_D A [(a_t, .inr (3, [.ref a_lexemes, .int (nI n_at), .int z_lineStart, .int z_lineIsFresh, .int z_wrongPlace, .int z_tooMany])), (a_y0, .inr (10, [.ref a_y0_characters, .int (nI n_y0_length)])), (a_y0_characters, .inl (ka_y0_characters, 240, .inl f_y0_characters))] := hD
    refine lv_if_ne (tgt := 29) hx hb d_Cutter_lexemeEnd_24 (by decide) (fun h2 => ?_) (fun h2 => ?_)
    · have e24 := h2
      refine lv_iinc (k := 0) (v := (nI (k3 + 1))) hx hb d_Cutter_lexemeEnd_29 hl rfl (nI_1 k3) (by decide) rfl (fun ls hl => ?_)
      have hl : lv_has ls 4 [(3, .int (nI (k3 + 1))), (0, .ref a_t), (1, .ref a_y0), (2, .int y1)] := hl
      refine lv_goto (tgt := 7) hx hb d_Cutter_lexemeEnd_32 (by decide) ?_
      have hP9 := hP.sub (ws' := [(a_t, .inr (3, [.ref a_lexemes, .int (nI n_at), .int z_lineStart, .int z_lineIsFresh, .int z_wrongPlace, .int z_tooMany])), (a_y0, .inr (10, [.ref a_y0_characters, .int (nI n_y0_length)])), (a_y0_characters, .inl (ka_y0_characters, 240, .inl f_y0_characters))]) [0, 1, 2] rfl
      have hD9 := hD.sub (ws' := [(a_t, .inr (3, [.ref a_lexemes, .int (nI n_at), .int z_lineStart, .int z_lineIsFresh, .int z_wrongPlace, .int z_tooMany])), (a_y0, .inr (10, [.ref a_y0_characters, .int (nI n_y0_length)])), (a_y0_characters, .inl (ka_y0_characters, 240, .inl f_y0_characters))]) [0, 1, 2] (by decide) rfl
      exact ih7 ((k3 + 1)) (by show 242 - ((k3 + 1)) < 242 - k3; omega) _ _ _ ⟨by show ((k3 + 1)) ≤ 241; first | omega | assumption | exact Or.inl rfl | exact Or.inr rfl | decide, by show ((k3 + 1)) ≤ n_y0_length; first | omega | assumption | exact Or.inl rfl | exact Or.inr rfl | decide, by show n_at + 1 ≤ ((k3 + 1)); first | omega | assumption | exact Or.inl rfl | exact Or.inr rfl | decide, by show enR (cN f_y0_characters n_y0_length) n_y0_length y1 ((k3 + 1)) = enR (cN f_y0_characters n_y0_length) n_y0_length y1 (n_at + 1); exact (enR_go (by omega) e24).symm.trans iE, hl, hP9, hD9, hS⟩
    · have e24 := h2
      refine lv_iload_n hx hb d_Cutter_lexemeEnd_27 rfl (lv_at hl 0 rfl) ?_
      have hP9 := hP.sub (ws' := [(a_t, .inr (3, [.ref a_lexemes, .int (nI n_at), .int z_lineStart, .int z_lineIsFresh, .int z_wrongPlace, .int z_tooMany])), (a_y0, .inr (10, [.ref a_y0_characters, .int (nI n_y0_length)])), (a_y0_characters, .inl (ka_y0_characters, 240, .inl f_y0_characters))]) [0, 1, 2] rfl
      have hD9 := hD.sub (ws' := [(a_t, .inr (3, [.ref a_lexemes, .int (nI n_at), .int z_lineStart, .int z_lineIsFresh, .int z_wrongPlace, .int z_tooMany])), (a_y0, .inr (10, [.ref a_y0_characters, .int (nI n_y0_length)])), (a_y0_characters, .inl (ka_y0_characters, 240, .inl f_y0_characters))]) [0, 1, 2] (by decide) rfl
      exact W.iret (v := (nI k3)) hx hb hr (fun t ht hW => ⟨⟨(nI k3), (), rfl, ⟨k3, by first | exact (enR_stop e24).symm.trans iE | exact (enR_end (by omega) (by omega)).symm.trans iE, rfl⟩, by rw [ht]; exact hP9, va_K.moved hW.alike hK, hD9⟩, hS.F ht⟩) hS.2.2 d_Cutter_lexemeEnd_28
set_option maxHeartbeats 4000000 in
set_option maxRecDepth 100000 in
theorem s_Cutter_isDashes6 (l : Launch) (dC : Nat → ClassId) (dI : Nat → Nat → Nat) (sz : Nat) (a_t : Nat) (a_lexemes : Nat) (n_at : Nat) (z_lineStart : Int32) (z_lineIsFresh : Int32) (z_wrongPlace : Int32) (z_tooMany : Int32) (a_y0 : Nat) (a_y0_characters : Nat) (f_y0_characters : Nat → Int32) (n_y0_length : Nat) (y1 : Nat) (ka_y0_characters : ClassId) (b_at : n_at ≤ 241) (b_tooMany : z_tooMany = 0 ∨ z_tooMany = 1) (c_y0_characters : ∀ j, narrow .char (.int (f_y0_characters j)) = .int (f_y0_characters j)) (b_y0_length : n_y0_length ≤ 240) (by1 : y1 ≤ 240) (hp0 : n_at ≤ y1) (hp1 : y1 ≤ n_y0_length) : Met l y_Cutter_isDashes w_Cutter_isDashes ({ frames := 1, cells := 0, slots := 0, locals := 21 }) (va_Pc [.ref a_t, .ref a_y0, .int (nI y1)] (fun U => U.heap.size = sz ∧ va_P (dC, dI) vcl [(a_t, .inr (3, [.ref a_lexemes, .int (nI n_at), .int z_lineStart, .int z_lineIsFresh, .int z_wrongPlace, .int z_tooMany])), (a_y0, .inr (10, [.ref a_y0_characters, .int (nI n_y0_length)])), (a_y0_characters, .inl (ka_y0_characters, 240, .inl f_y0_characters))] U.heap ∧ va_K (dC, dI) vcl [(ka_y0_characters, .char)] U ∧ va_D (fun _ => True) [(a_t, .inr (3, [.ref a_lexemes, .int (nI n_at), .int z_lineStart, .int z_lineIsFresh, .int z_wrongPlace, .int z_tooMany])), (a_y0, .inr (10, [.ref a_y0_characters, .int (nI n_y0_length)])), (a_y0_characters, .inl (ka_y0_characters, 240, .inl f_y0_characters))])) (va_Qi (fun (r : Int32) (_ : Unit) => (r = 0 ∨ r = 1) ∧ (r = b01 (dshO (cN f_y0_characters n_y0_length) n_at y1))) (fun _ t => va_P (dC, dI) vcl [(a_t, .inr (3, [.ref a_lexemes, .int (nI n_at), .int z_lineStart, .int z_lineIsFresh, .int z_wrongPlace, .int z_tooMany])), (a_y0, .inr (10, [.ref a_y0_characters, .int (nI n_y0_length)])), (a_y0_characters, .inl (ka_y0_characters, 240, .inl f_y0_characters))] t.heap ∧ va_K (dC, dI) vcl [(ka_y0_characters, .char)] t ∧ va_D (va_A [(a_t, .inr (3, [.ref a_lexemes, .int (nI n_at), .int z_lineStart, .int z_lineIsFresh, .int z_wrongPlace, .int z_tooMany])), (a_y0, .inr (10, [.ref a_y0_characters, .int (nI n_y0_length)])), (a_y0_characters, .inl (ka_y0_characters, 240, .inl f_y0_characters))] sz) [(a_t, .inr (3, [.ref a_lexemes, .int (nI n_at), .int z_lineStart, .int z_lineIsFresh, .int z_wrongPlace, .int z_tooMany])), (a_y0, .inr (10, [.ref a_y0_characters, .int (nI n_y0_length)])), (a_y0_characters, .inl (ka_y0_characters, 240, .inl f_y0_characters))]) (va_A [(a_t, .inr (3, [.ref a_lexemes, .int (nI n_at), .int z_lineStart, .int z_lineIsFresh, .int z_wrongPlace, .int z_tooMany])), (a_y0, .inr (10, [.ref a_y0_characters, .int (nI n_y0_length)])), (a_y0_characters, .inl (ka_y0_characters, 240, .inl f_y0_characters))] sz)) 0 0 (va_A [(a_t, .inr (3, [.ref a_lexemes, .int (nI n_at), .int z_lineStart, .int z_lineIsFresh, .int z_wrongPlace, .int z_tooMany])), (a_y0, .inr (10, [.ref a_y0_characters, .int (nI n_y0_length)])), (a_y0_characters, .inl (ka_y0_characters, 240, .inl f_y0_characters))] sz) := by
  refine Met.ofW (cc := b_Cutter_isDashes) (maxL := 4) (ret := (some .boolean)) (by decide) rfl ?_
  intro p e s m args below meth c s₁ B hml hv
  obtain ⟨rfl, hsz, hP, hK, hD0⟩ := hv
  have hx := B.exec
  have hb := B.bytes
  have hr := B.returns
  have hts := atoms_spec (ws := w_Cutter_isDashes) B.pre
  have hz : ∀ w ∈ wz, w.before _ s = true := fun w h => hts w (List.mem_cons_of_mem _ h)
  have hown : s.vm.findClass R_Cutter = some m.cls := findClass_of_methodNamed B.named
  have hlocks := B.notSynchronized
  subst hsz
  have hD := hD0.self (sz := s.heap.size)
  generalize hAe : va_A [(a_t, .inr (3, [.ref a_lexemes, .int (nI n_at), .int z_lineStart, .int z_lineIsFresh, .int z_wrongPlace, .int z_tooMany])), (a_y0, .inr (10, [.ref a_y0_characters, .int (nI n_y0_length)])), (a_y0_characters, .inl (ka_y0_characters, 240, .inl f_y0_characters))] s.heap.size = A at hD ⊢
  have hA : ∀ q : Nat, s.heap.size ≤ q → A q := fun q h => by rw [← hAe]; exact Or.inr h
  have hS : va_S A s.heap s.heap [] := va_S.rf
  have hP : va_P (dC, dI) vcl [(a_t, .inr (3, [.ref a_lexemes, .int (nI n_at), .int z_lineStart, .int z_lineIsFresh, .int z_wrongPlace, .int z_tooMany])), (a_y0, .inr (10, [.ref a_y0_characters, .int (nI n_y0_length)])), (a_y0_characters, .inl (ka_y0_characters, 240, .inl f_y0_characters))] s.heap := hP
  have hl := lv_entry ([.ref a_t, .ref a_y0, .int (nI y1)]) (n := 4) (Nat.le_of_ble_eq_true rfl)
  rw [lg_entry_eq]
  generalize (lg_sl ([.ref a_t, .ref a_y0, .int (nI y1)]) ++ List.replicate (4 - (lg_sl ([.ref a_t, .ref a_y0, .int (nI y1)])).length) Slot.unset).toArray = ls at hl ⊢
  have hl : lv_has ls 4 [(0, .ref a_t), (1, .ref a_y0), (2, .int (nI y1))] := hl
  refine lv_aload_n hx hb d_Cutter_isDashes_0 rfl (lv_at hl 0 rfl) ?_
  refine va_get (D := (dC, dI)) (ci := 3) (v := .int (nI n_at)) (C := R_Cutter) (T := F_Cutter) (N := 6) hx hb hz zu_Cutter hown hK hP 0 rfl rfl 1 (by decide) (hz (.fieldLink R_Cutter 29 "LayoutFront$Cutter" "at" "I") zm_82) (fun _ h9 => h9) rfl d_Cutter_isDashes_1 ?_
  refine lv_istore_n hx hb d_Cutter_isDashes_4 rfl hl (by decide) rfl (fun ls hl => ?_)
  have hl : lv_has ls 4 [(3, .int (nI n_at)), (0, .ref a_t), (1, .ref a_y0), (2, .int (nI y1))] := hl
  refine xr_loop (α := (Nat)) (fun a => (fun (k3 : Nat) => 241 - k3) a) (fun a H locs ls => (fun (k3 : Nat) => (k3 ≤ 241) ∧ (n_at ≤ k3) ∧ (k3 ≤ y1) ∧ (alB (cN f_y0_characters n_y0_length) 45 n_at (k3 - n_at) = true) ∧ lv_has ls 4 [(3, .int (nI k3)), (0, .ref a_t), (1, .ref a_y0), (2, .int (nI y1))] ∧ va_P (dC, dI) vcl [(a_t, .inr (3, [.ref a_lexemes, .int (nI n_at), .int z_lineStart, .int z_lineIsFresh, .int z_wrongPlace, .int z_tooMany])), (a_y0, .inr (10, [.ref a_y0_characters, .int (nI n_y0_length)])), (a_y0_characters, .inl (ka_y0_characters, 240, .inl f_y0_characters))] H ∧ va_D A [(a_t, .inr (3, [.ref a_lexemes, .int (nI n_at), .int z_lineStart, .int z_lineIsFresh, .int z_wrongPlace, .int z_tooMany])), (a_y0, .inr (10, [.ref a_y0_characters, .int (nI n_y0_length)])), (a_y0_characters, .inl (ka_y0_characters, 240, .inl f_y0_characters))] ∧ va_S A s.heap H locs) a) (fun a ih5 H locs ls hI => ?_) (n_at) _ _ _ ⟨by show n_at ≤ 241; first | omega | assumption | exact Or.inl rfl | exact Or.inr rfl | decide, by show n_at ≤ n_at; first | omega | assumption | exact Or.inl rfl | exact Or.inr rfl | decide, by show n_at ≤ y1; first | omega | assumption | exact Or.inl rfl | exact Or.inr rfl | decide, by show alB (cN f_y0_characters n_y0_length) 45 n_at (n_at - n_at) = true; first | rfl | (rw [Nat.sub_self]; rfl), hl, hP, hD, hS⟩
  generalize a = k3 at ih5 hI
  obtain ⟨bl0, bl1, bl2, bl3, hl, hP, hD, hS⟩ := hI
  have bl0 : k3 ≤ 241 := bl0
  have bl1 : n_at ≤ k3 := bl1
  have bl2 : k3 ≤ y1 := bl2
  have bl3 : alB (cN f_y0_characters n_y0_length) 45 n_at (k3 - n_at) = true := bl3
  have iE := bl3
  have hl : lv_has ls 4 [(3, .int (nI k3)), (0, .ref a_t), (1, .ref a_y0), (2, .int (nI y1))] := hl
  have hP : va_P (dC, dI) vcl [(a_t, .inr (3, [.ref a_lexemes, .int (nI n_at), .int z_lineStart, .int z_lineIsFresh, .int z_wrongPlace, .int z_tooMany])), (a_y0, .inr (10, [.ref a_y0_characters, .int (nI n_y0_length)])), (a_y0_characters, .inl (ka_y0_characters, 240, .inl f_y0_characters))] H := hP
  have hD : va_D A [(a_t, .inr (3, [.ref a_lexemes, .int (nI n_at), .int z_lineStart, .int z_lineIsFresh, .int z_wrongPlace, .int z_tooMany])), (a_y0, .inr (10, [.ref a_y0_characters, .int (nI n_y0_length)])), (a_y0_characters, .inl (ka_y0_characters, 240, .inl f_y0_characters))] := hD
  refine lv_iload_n hx hb d_Cutter_isDashes_5 rfl (lv_at hl 0 rfl) ?_
  refine lv_iload_n hx hb d_Cutter_isDashes_6 rfl (lv_at hl 3 rfl) ?_
  refine lv_icmp_ge (tgt := 28) hx hb d_Cutter_isDashes_7 (by decide) (fun h1 => ?_) (fun h1 => ?_)
  · have h1 : y1 ≤ k3 := (nI_leI (a := y1) (b := k3) (by omega) (by omega)).mp h1
    refine lv_iload_n hx hb d_Cutter_isDashes_28 rfl (lv_at hl 3 rfl) ?_
    refine lv_aload_n hx hb d_Cutter_isDashes_29 rfl (lv_at hl 1 rfl) ?_
    refine va_get (D := (dC, dI)) (ci := 3) (v := .int (nI n_at)) (C := R_Cutter) (T := F_Cutter) (N := 6) hx hb hz zu_Cutter hown hK hP 0 rfl rfl 1 (by decide) (hz (.fieldLink R_Cutter 29 "LayoutFront$Cutter" "at" "I") zm_82) (fun _ h9 => h9) rfl d_Cutter_isDashes_30 ?_
    refine xr_isub (v := (nI (y1 - n_at))) hx hb d_Cutter_isDashes_33 (pk_sub (a := y1) (b := n_at) (by omega)) ?_
    refine lv_iconst (v := 2) hx hb d_Cutter_isDashes_34 (by decide) ?_
    refine lv_icmp_lt (tgt := 42) hx hb d_Cutter_isDashes_35 (by decide) (fun h2 => ?_) (fun h2 => ?_)
    · have h2 : (y1 - n_at) < 2 := (nI_ltI (a := (y1 - n_at)) (b := 2) (by omega) (by omega)).mp h2
      have e35 := h2
      refine lv_iconst (v := 0) hx hb d_Cutter_isDashes_42 (by decide) ?_
      have hP9 := hP.sub (ws' := [(a_t, .inr (3, [.ref a_lexemes, .int (nI n_at), .int z_lineStart, .int z_lineIsFresh, .int z_wrongPlace, .int z_tooMany])), (a_y0, .inr (10, [.ref a_y0_characters, .int (nI n_y0_length)])), (a_y0_characters, .inl (ka_y0_characters, 240, .inl f_y0_characters))]) [0, 1, 2] rfl
      have hD9 := hD.sub (ws' := [(a_t, .inr (3, [.ref a_lexemes, .int (nI n_at), .int z_lineStart, .int z_lineIsFresh, .int z_wrongPlace, .int z_tooMany])), (a_y0, .inr (10, [.ref a_y0_characters, .int (nI n_y0_length)])), (a_y0_characters, .inl (ka_y0_characters, 240, .inl f_y0_characters))]) [0, 1, 2] (by decide) rfl
      exact W.zret (v := 0) hx hb hr (by decide +kernel) (fun t ht hW => ⟨⟨0, (), rfl, ⟨(by first | assumption | exact Or.inl rfl | exact Or.inr rfl), (by exact dw_2 (by omega))⟩, by rw [ht]; exact hP9, va_K.moved hW.alike hK, hD9⟩, hS.F ht⟩) hS.2.2 d_Cutter_isDashes_43
    · have h2 : ¬ (y1 - n_at) < 2 := fun q => h2 ((nI_ltI (a := (y1 - n_at)) (b := 2) (by omega) (by omega)).mpr q)
      have e35 := h2
      refine lv_iconst (v := 1) hx hb d_Cutter_isDashes_38 (by decide) ?_
      refine lv_goto (tgt := 43) hx hb d_Cutter_isDashes_39 (by decide) ?_
      have hP9 := hP.sub (ws' := [(a_t, .inr (3, [.ref a_lexemes, .int (nI n_at), .int z_lineStart, .int z_lineIsFresh, .int z_wrongPlace, .int z_tooMany])), (a_y0, .inr (10, [.ref a_y0_characters, .int (nI n_y0_length)])), (a_y0_characters, .inl (ka_y0_characters, 240, .inl f_y0_characters))]) [0, 1, 2] rfl
      have hD9 := hD.sub (ws' := [(a_t, .inr (3, [.ref a_lexemes, .int (nI n_at), .int z_lineStart, .int z_lineIsFresh, .int z_wrongPlace, .int z_tooMany])), (a_y0, .inr (10, [.ref a_y0_characters, .int (nI n_y0_length)])), (a_y0_characters, .inl (ka_y0_characters, 240, .inl f_y0_characters))]) [0, 1, 2] (by decide) rfl
      exact W.zret (v := 1) hx hb hr (by decide +kernel) (fun t ht hW => ⟨⟨1, (), rfl, ⟨(by first | assumption | exact Or.inl rfl | exact Or.inr rfl), (by exact dw_1 (b := k3) (by omega) iE (by omega))⟩, by rw [ht]; exact hP9, va_K.moved hW.alike hK, hD9⟩, hS.F ht⟩) hS.2.2 d_Cutter_isDashes_43
  · have h1 : ¬ y1 ≤ k3 := fun q => h1 ((nI_leI (a := y1) (b := k3) (by omega) (by omega)).mpr q)
    refine lv_aload_n hx hb d_Cutter_isDashes_10 rfl (lv_at hl 2 rfl) ?_
    refine lv_iload_n hx hb d_Cutter_isDashes_11 rfl (lv_at hl 0 rfl) ?_
    have hPc := hP.sub (ws' := [(a_y0, .inr (10, [.ref a_y0_characters, .int (nI n_y0_length)])), (a_y0_characters, .inl (ka_y0_characters, 240, .inl f_y0_characters))]) [1, 2] rfl
    have hDc := hD.sub (ws' := [(a_y0, .inr (10, [.ref a_y0_characters, .int (nI n_y0_length)])), (a_y0_characters, .inl (ka_y0_characters, 240, .inl f_y0_characters))]) [1, 2] (by decide) rfl
    have hKc := hK.sub (tys' := [(ka_y0_characters, .char)]) [0] rfl
    have hFc := va_free (wc := [(a_y0, .inr (10, [.ref a_y0_characters, .int (nI n_y0_length)])), (a_y0_characters, .inl (ka_y0_characters, 240, .inl f_y0_characters))]) hD hS hA [1, 2] rfl
    refine va_calli (va_runV (As := [.int (nI k3)]) (rest := []) ⟨hx, hb, hml, hown, hz⟩ (s_Text_at6 l dC dI H.size a_y0 a_y0_characters f_y0_characters n_y0_length k3 ka_y0_characters (by first | omega | assumption | exact Or.inl rfl | exact Or.inr rfl) (by first | omega | assumption | exact Or.inl rfl | exact Or.inr rfl) (by first | omega | assumption | exact Or.inl rfl | exact Or.inr rfl)) (cwV 1 hz (zV zm_89 zm_11 zm_12 zm_7 zm_13) rfl rfl rfl (by decide +kernel) ⟨Nat.le_of_ble_eq_true rfl, Nat.le_of_ble_eq_true rfl⟩) ⟨fun a U g mk q => by obtain ⟨q0, q1, qP, qK, qD⟩ := q; exact ⟨q0, q1, qP, va_K.moved (u := U) (U := U.calling g mk a) (Vm.Alike.refl U.vm) qK, qD⟩, va_recv (q := (R_Text, F_Text, 2)) (q0 := 1) (ci := 10) hK hP rfl rfl, fun U hU hW => ⟨rfl, by rw [hU], by rw [hU]; exact hPc, va_K.moved hW.alike hKc, hDc.weaken (fun _ _ _ _ => trivial)⟩⟩ rfl rfl hl.1 rfl (lv_room (Nat.le_of_ble_eq_true rfl)) d_Cutter_isDashes_12 ⟨Nat.zero_le _, Nat.zero_le _⟩) hS (fun q _ h => hFc q h) hFc (fun r u t H1 locs ht hvm hw hB hz1 hk1 hS => ?_)
    obtain ⟨hP1, hK1, hD1⟩ := hB
    subst r
    rw [ht] at hP1
    obtain ⟨hP, hD⟩ := va_join (wr := [(a_t, .inr (3, [.ref a_lexemes, .int (nI n_at), .int z_lineStart, .int z_lineIsFresh, .int z_wrongPlace, .int z_tooMany]))]) (w1 := [(a_y0, .inr (10, [.ref a_y0_characters, .int (nI n_y0_length)])), (a_y0_characters, .inl (ka_y0_characters, 240, .inl f_y0_characters))]) hP hD [1, 2] [0] rfl rfl (by decide) (by decide) hk1 hFc hP1 hD1
    generalize H1 = H at hP hS ⊢
    have hP : va_P (dC, dI) vcl [(a_t, .inr (3, [.ref a_lexemes, .int (nI n_at), .int z_lineStart, .int z_lineIsFresh, .int z_wrongPlace, .int z_tooMany])), (a_y0, .inr (10, [.ref a_y0_characters, .int (nI n_y0_length)])), (a_y0_characters, .inl (ka_y0_characters, 240, .inl f_y0_characters))] H := hP
    have hD : va_D A [(a_t, .inr (3, [.ref a_lexemes, .int (nI n_at), .int z_lineStart, .int z_lineIsFresh, .int z_wrongPlace, .int z_tooMany])), (a_y0, .inr (10, [.ref a_y0_characters, .int (nI n_y0_length)])), (a_y0_characters, .inl (ka_y0_characters, 240, .inl f_y0_characters))] := hD
    refine lv_bipush (v := 45) hx hb d_Cutter_isDashes_15 (by decide) ?_
    refine lv_icmp_eq (tgt := 22) hx hb d_Cutter_isDashes_17 (by decide) (fun h3 => ?_) (fun h3 => ?_)
    · have e17 := h3
      refine lv_iinc (k := 0) (v := (nI (k3 + 1))) hx hb d_Cutter_isDashes_22 hl rfl (nI_1 k3) (by decide) rfl (fun ls hl => ?_)
      have hl : lv_has ls 4 [(3, .int (nI (k3 + 1))), (0, .ref a_t), (1, .ref a_y0), (2, .int (nI y1))] := hl
      refine lv_goto (tgt := 5) hx hb d_Cutter_isDashes_25 (by decide) ?_
      have hP9 := hP.sub (ws' := [(a_t, .inr (3, [.ref a_lexemes, .int (nI n_at), .int z_lineStart, .int z_lineIsFresh, .int z_wrongPlace, .int z_tooMany])), (a_y0, .inr (10, [.ref a_y0_characters, .int (nI n_y0_length)])), (a_y0_characters, .inl (ka_y0_characters, 240, .inl f_y0_characters))]) [0, 1, 2] rfl
      have hD9 := hD.sub (ws' := [(a_t, .inr (3, [.ref a_lexemes, .int (nI n_at), .int z_lineStart, .int z_lineIsFresh, .int z_wrongPlace, .int z_tooMany])), (a_y0, .inr (10, [.ref a_y0_characters, .int (nI n_y0_length)])), (a_y0_characters, .inl (ka_y0_characters, 240, .inl f_y0_characters))]) [0, 1, 2] (by decide) rfl
      exact ih5 ((k3 + 1)) (by show 241 - ((k3 + 1)) < 241 - k3; omega) _ _ _ ⟨by show ((k3 + 1)) ≤ 241; first | omega | assumption | exact Or.inl rfl | exact Or.inr rfl | decide, by show n_at ≤ ((k3 + 1)); first | omega | assumption | exact Or.inl rfl | exact Or.inr rfl | decide, by show ((k3 + 1)) ≤ y1; first | omega | assumption | exact Or.inl rfl | exact Or.inr rfl | decide, by show alB (cN f_y0_characters n_y0_length) 45 n_at (((k3 + 1)) - n_at) = true; exact dw_s (by omega) iE e17, hl, hP9, hD9, hS⟩
    · have e17 := h3
      refine lv_iconst (v := 0) hx hb d_Cutter_isDashes_20 (by decide) ?_
      have hP9 := hP.sub (ws' := [(a_t, .inr (3, [.ref a_lexemes, .int (nI n_at), .int z_lineStart, .int z_lineIsFresh, .int z_wrongPlace, .int z_tooMany])), (a_y0, .inr (10, [.ref a_y0_characters, .int (nI n_y0_length)])), (a_y0_characters, .inl (ka_y0_characters, 240, .inl f_y0_characters))]) [0, 1, 2] rfl
      have hD9 := hD.sub (ws' := [(a_t, .inr (3, [.ref a_lexemes, .int (nI n_at), .int z_lineStart, .int z_lineIsFresh, .int z_wrongPlace, .int z_tooMany])), (a_y0, .inr (10, [.ref a_y0_characters, .int (nI n_y0_length)])), (a_y0_characters, .inl (ka_y0_characters, 240, .inl f_y0_characters))]) [0, 1, 2] (by decide) rfl
      exact W.zret (v := 0) hx hb hr (by decide +kernel) (fun t ht hW => ⟨⟨0, (), rfl, ⟨(by first | assumption | exact Or.inl rfl | exact Or.inr rfl), (by exact dw_0 (by omega) (by omega) e17)⟩, by rw [ht]; exact hP9, va_K.moved hW.alike hK, hD9⟩, hS.F ht⟩) hS.2.2 d_Cutter_isDashes_21
set_option maxHeartbeats 4000000 in
set_option maxRecDepth 100000 in
theorem s_Cutter_lineEnd6 (l : Launch) (dC : Nat → ClassId) (dI : Nat → Nat → Nat) (sz : Nat) (a_y0 : Nat) (a_y0_characters : Nat) (f_y0_characters : Nat → Int32) (n_y0_length : Nat) (y1 : Nat) (ka_y0_characters : ClassId) (c_y0_characters : ∀ j, narrow .char (.int (f_y0_characters j)) = .int (f_y0_characters j)) (b_y0_length : n_y0_length ≤ 240) (by1 : y1 ≤ 240) (hp0 : y1 ≤ n_y0_length) : Met l y_Cutter_lineEnd w_Cutter_lineEnd ({ frames := 1, cells := 0, slots := 0, locals := 21 }) (va_Pc [.ref a_y0, .int (nI y1)] (fun U => U.heap.size = sz ∧ va_P (dC, dI) vcl [(a_y0, .inr (10, [.ref a_y0_characters, .int (nI n_y0_length)])), (a_y0_characters, .inl (ka_y0_characters, 240, .inl f_y0_characters))] U.heap ∧ va_K (dC, dI) vcl [(ka_y0_characters, .char)] U ∧ va_D (fun _ => True) [(a_y0, .inr (10, [.ref a_y0_characters, .int (nI n_y0_length)])), (a_y0_characters, .inl (ka_y0_characters, 240, .inl f_y0_characters))])) (va_Qi (fun (r : Int32) (_ : Unit) => ∃ j, (j = scE (fun x => !(x == 10)) (cN f_y0_characters n_y0_length) n_y0_length y1) ∧ r = nI j) (fun _ t => va_P (dC, dI) vcl [(a_y0, .inr (10, [.ref a_y0_characters, .int (nI n_y0_length)])), (a_y0_characters, .inl (ka_y0_characters, 240, .inl f_y0_characters))] t.heap ∧ va_K (dC, dI) vcl [(ka_y0_characters, .char)] t ∧ va_D (va_A [(a_y0, .inr (10, [.ref a_y0_characters, .int (nI n_y0_length)])), (a_y0_characters, .inl (ka_y0_characters, 240, .inl f_y0_characters))] sz) [(a_y0, .inr (10, [.ref a_y0_characters, .int (nI n_y0_length)])), (a_y0_characters, .inl (ka_y0_characters, 240, .inl f_y0_characters))]) (va_A [(a_y0, .inr (10, [.ref a_y0_characters, .int (nI n_y0_length)])), (a_y0_characters, .inl (ka_y0_characters, 240, .inl f_y0_characters))] sz)) 0 0 (va_A [(a_y0, .inr (10, [.ref a_y0_characters, .int (nI n_y0_length)])), (a_y0_characters, .inl (ka_y0_characters, 240, .inl f_y0_characters))] sz) := by
  refine Met.ofW (cc := b_Cutter_lineEnd) (maxL := 3) (ret := (some .int)) (by decide) rfl ?_
  intro p e s m args below meth c s₁ B hml hv
  obtain ⟨rfl, hsz, hP, hK, hD0⟩ := hv
  have hx := B.exec
  have hb := B.bytes
  have hr := B.returns
  have hts := atoms_spec (ws := w_Cutter_lineEnd) B.pre
  have hz : ∀ w ∈ wz, w.before _ s = true := fun w h => hts w (List.mem_cons_of_mem _ h)
  have hown : s.vm.findClass R_Cutter = some m.cls := findClass_of_methodNamed B.named
  have hlocks := B.notSynchronized
  subst hsz
  have hD := hD0.self (sz := s.heap.size)
  generalize hAe : va_A [(a_y0, .inr (10, [.ref a_y0_characters, .int (nI n_y0_length)])), (a_y0_characters, .inl (ka_y0_characters, 240, .inl f_y0_characters))] s.heap.size = A at hD ⊢
  have hA : ∀ q : Nat, s.heap.size ≤ q → A q := fun q h => by rw [← hAe]; exact Or.inr h
  have hS : va_S A s.heap s.heap [] := va_S.rf
  have hP : va_P (dC, dI) vcl [(a_y0, .inr (10, [.ref a_y0_characters, .int (nI n_y0_length)])), (a_y0_characters, .inl (ka_y0_characters, 240, .inl f_y0_characters))] s.heap := hP
  have hl := lv_entry ([.ref a_y0, .int (nI y1)]) (n := 3) (Nat.le_of_ble_eq_true rfl)
  rw [lg_entry_eq]
  generalize (lg_sl ([.ref a_y0, .int (nI y1)]) ++ List.replicate (3 - (lg_sl ([.ref a_y0, .int (nI y1)])).length) Slot.unset).toArray = ls at hl ⊢
  have hl : lv_has ls 3 [(0, .ref a_y0), (1, .int (nI y1))] := hl
  refine lv_iload_n hx hb d_Cutter_lineEnd_0 rfl (lv_at hl 1 rfl) ?_
  refine lv_istore_n hx hb d_Cutter_lineEnd_1 rfl hl (by decide) rfl (fun ls hl => ?_)
  have hl : lv_has ls 3 [(2, .int (nI y1)), (0, .ref a_y0), (1, .int (nI y1))] := hl
  refine xr_loop (α := (Nat)) (fun a => (fun (k2 : Nat) => 240 - k2) a) (fun a H locs ls => (fun (k2 : Nat) => (k2 ≤ 240) ∧ (k2 ≤ n_y0_length) ∧ (y1 ≤ k2) ∧ (scE (fun x => !(x == 10)) (cN f_y0_characters n_y0_length) n_y0_length k2 = scE (fun x => !(x == 10)) (cN f_y0_characters n_y0_length) n_y0_length y1) ∧ lv_has ls 3 [(2, .int (nI k2)), (0, .ref a_y0), (1, .int (nI y1))] ∧ va_P (dC, dI) vcl [(a_y0, .inr (10, [.ref a_y0_characters, .int (nI n_y0_length)])), (a_y0_characters, .inl (ka_y0_characters, 240, .inl f_y0_characters))] H ∧ va_D A [(a_y0, .inr (10, [.ref a_y0_characters, .int (nI n_y0_length)])), (a_y0_characters, .inl (ka_y0_characters, 240, .inl f_y0_characters))] ∧ va_S A s.heap H locs) a) (fun a ih2 H locs ls hI => ?_) (y1) _ _ _ ⟨by show y1 ≤ 240; first | omega | assumption | exact Or.inl rfl | exact Or.inr rfl | decide, by show y1 ≤ n_y0_length; first | omega | assumption | exact Or.inl rfl | exact Or.inr rfl | decide, by show y1 ≤ y1; first | omega | assumption | exact Or.inl rfl | exact Or.inr rfl | decide, by show scE (fun x => !(x == 10)) (cN f_y0_characters n_y0_length) n_y0_length y1 = scE (fun x => !(x == 10)) (cN f_y0_characters n_y0_length) n_y0_length y1; first | rfl | (rw [Nat.sub_self]; rfl), hl, hP, hD, hS⟩
  generalize a = k2 at ih2 hI
  obtain ⟨bl0, bl1, bl2, bl3, hl, hP, hD, hS⟩ := hI
  have bl0 : k2 ≤ 240 := bl0
  have bl1 : k2 ≤ n_y0_length := bl1
  have bl2 : y1 ≤ k2 := bl2
  have bl3 : scE (fun x => !(x == 10)) (cN f_y0_characters n_y0_length) n_y0_length k2 = scE (fun x => !(x == 10)) (cN f_y0_characters n_y0_length) n_y0_length y1 := bl3
  have iE := bl3
  have hl : lv_has ls 3 [(2, .int (nI k2)), (0, .ref a_y0), (1, .int (nI y1))] := hl
  have hP : va_P (dC, dI) vcl [(a_y0, .inr (10, [.ref a_y0_characters, .int (nI n_y0_length)])), (a_y0_characters, .inl (ka_y0_characters, 240, .inl f_y0_characters))] H := hP
  have hD : va_D A [(a_y0, .inr (10, [.ref a_y0_characters, .int (nI n_y0_length)])), (a_y0_characters, .inl (ka_y0_characters, 240, .inl f_y0_characters))] := hD
  refine lv_iload_n hx hb d_Cutter_lineEnd_2 rfl (lv_at hl 0 rfl) ?_
  refine lv_aload_n hx hb d_Cutter_lineEnd_3 rfl (lv_at hl 1 rfl) ?_
  have hPc := hP.sub (ws' := [(a_y0, .inr (10, [.ref a_y0_characters, .int (nI n_y0_length)]))]) [0] rfl
  have hDc := hD.sub (ws' := [(a_y0, .inr (10, [.ref a_y0_characters, .int (nI n_y0_length)]))]) [0] (by decide) rfl
  have hKc := hK.sub (tys' := []) [] rfl
  have hFc := va_free (wc := [(a_y0, .inr (10, [.ref a_y0_characters, .int (nI n_y0_length)]))]) hD hS hA [0] rfl
  refine va_calli (va_runV (As := []) (rest := [.int (nI k2)]) ⟨hx, hb, hml, hown, hz⟩ (s_Text_length l dC dI H.size a_y0 a_y0_characters n_y0_length (by first | omega | assumption | exact Or.inl rfl | exact Or.inr rfl)) (cwV 0 hz (zV zm_85 zm_86 zm_87 zm_7 zm_88) rfl rfl rfl (by decide +kernel) ⟨Nat.le_of_ble_eq_true rfl, Nat.le_of_ble_eq_true rfl⟩) ⟨fun a U g mk q => by obtain ⟨q0, q1, qP, qK, qD⟩ := q; exact ⟨q0, q1, qP, va_K.moved (u := U) (U := U.calling g mk a) (Vm.Alike.refl U.vm) qK, qD⟩, va_recv (q := (R_Text, F_Text, 2)) (q0 := 0) (ci := 10) hK hP rfl rfl, fun U hU hW => ⟨rfl, by rw [hU], by rw [hU]; exact hPc, va_K.moved hW.alike hKc, hDc.weaken (fun _ _ _ _ => trivial)⟩⟩ rfl rfl hl.1 rfl (lv_room (Nat.le_of_ble_eq_true rfl)) d_Cutter_lineEnd_4 ⟨Nat.zero_le _, Nat.zero_le _⟩) hS (fun q _ h => hFc q h) hFc (fun r u t H1 locs ht hvm hw hB hz1 hk1 hS => ?_)
  obtain ⟨hP1, hK1, hD1⟩ := hB
  subst r
  rw [ht] at hP1
  obtain ⟨hP, hD⟩ := va_join (wr := [(a_y0_characters, .inl (ka_y0_characters, 240, .inl f_y0_characters))]) (w1 := [(a_y0, .inr (10, [.ref a_y0_characters, .int (nI n_y0_length)]))]) hP hD [0] [1] rfl rfl (by decide) (by decide) hk1 hFc hP1 hD1
  generalize H1 = H at hP hS ⊢
  have hP : va_P (dC, dI) vcl [(a_y0_characters, .inl (ka_y0_characters, 240, .inl f_y0_characters)), (a_y0, .inr (10, [.ref a_y0_characters, .int (nI n_y0_length)]))] H := hP
  have hD : va_D A [(a_y0_characters, .inl (ka_y0_characters, 240, .inl f_y0_characters)), (a_y0, .inr (10, [.ref a_y0_characters, .int (nI n_y0_length)]))] := hD
  refine lv_icmp_ge (tgt := 28) hx hb d_Cutter_lineEnd_7 (by decide) (fun h1 => ?_) (fun h1 => ?_)
  · have h1 : n_y0_length ≤ k2 := (nI_leI (a := n_y0_length) (b := k2) (by omega) (by omega)).mp h1
    refine lv_aload_n hx hb d_Cutter_lineEnd_28 rfl (lv_at hl 1 rfl) ?_
    have hPc := hP.sub (ws' := [(a_y0, .inr (10, [.ref a_y0_characters, .int (nI n_y0_length)]))]) [1] rfl
    have hDc := hD.sub (ws' := [(a_y0, .inr (10, [.ref a_y0_characters, .int (nI n_y0_length)]))]) [1] (by decide) rfl
    have hKc := hK.sub (tys' := []) [] rfl
    have hFc := va_free (wc := [(a_y0, .inr (10, [.ref a_y0_characters, .int (nI n_y0_length)]))]) hD hS hA [1] rfl
    refine va_calli (va_runV (As := []) (rest := []) ⟨hx, hb, hml, hown, hz⟩ (s_Text_length l dC dI H.size a_y0 a_y0_characters n_y0_length (by first | omega | assumption | exact Or.inl rfl | exact Or.inr rfl)) (cwV 0 hz (zV zm_85 zm_86 zm_87 zm_7 zm_88) rfl rfl rfl (by decide +kernel) ⟨Nat.le_of_ble_eq_true rfl, Nat.le_of_ble_eq_true rfl⟩) ⟨fun a U g mk q => by obtain ⟨q0, q1, qP, qK, qD⟩ := q; exact ⟨q0, q1, qP, va_K.moved (u := U) (U := U.calling g mk a) (Vm.Alike.refl U.vm) qK, qD⟩, va_recv (q := (R_Text, F_Text, 2)) (q0 := 1) (ci := 10) hK hP rfl rfl, fun U hU hW => ⟨rfl, by rw [hU], by rw [hU]; exact hPc, va_K.moved hW.alike hKc, hDc.weaken (fun _ _ _ _ => trivial)⟩⟩ rfl rfl hl.1 rfl (lv_room (Nat.le_of_ble_eq_true rfl)) d_Cutter_lineEnd_29 ⟨Nat.zero_le _, Nat.zero_le _⟩) hS (fun q _ h => hFc q h) hFc (fun r u t H1 locs ht hvm hw hB hz1 hk1 hS => ?_)
    obtain ⟨hP1, hK1, hD1⟩ := hB
    subst r
    rw [ht] at hP1
    obtain ⟨hP, hD⟩ := va_join (wr := [(a_y0_characters, .inl (ka_y0_characters, 240, .inl f_y0_characters))]) (w1 := [(a_y0, .inr (10, [.ref a_y0_characters, .int (nI n_y0_length)]))]) hP hD [1] [0] rfl rfl (by decide) (by decide) hk1 hFc hP1 hD1
    generalize H1 = H at hP hS ⊢
    have hP : va_P (dC, dI) vcl [(a_y0_characters, .inl (ka_y0_characters, 240, .inl f_y0_characters)), (a_y0, .inr (10, [.ref a_y0_characters, .int (nI n_y0_length)]))] H := hP
    have hD : va_D A [(a_y0_characters, .inl (ka_y0_characters, 240, .inl f_y0_characters)), (a_y0, .inr (10, [.ref a_y0_characters, .int (nI n_y0_length)]))] := hD
    have hP9 := hP.sub (ws' := [(a_y0, .inr (10, [.ref a_y0_characters, .int (nI n_y0_length)])), (a_y0_characters, .inl (ka_y0_characters, 240, .inl f_y0_characters))]) [1, 0] rfl
    have hD9 := hD.sub (ws' := [(a_y0, .inr (10, [.ref a_y0_characters, .int (nI n_y0_length)])), (a_y0_characters, .inl (ka_y0_characters, 240, .inl f_y0_characters))]) [1, 0] (by decide) rfl
    exact W.iret (v := (nI n_y0_length)) hx hb hr (fun t ht hW => ⟨⟨(nI n_y0_length), (), rfl, ⟨n_y0_length, by first | exact (scE_stop (Or.inr (by rw [e17]; decide))).symm.trans iE | exact (show n_y0_length = k2 by omega).trans ((scE_stop (Or.inl (by omega))).symm.trans iE), rfl⟩, by rw [ht]; exact hP9, va_K.moved hW.alike hK, hD9⟩, hS.F ht⟩) hS.2.2 d_Cutter_lineEnd_32
  · have h1 : ¬ n_y0_length ≤ k2 := fun q => h1 ((nI_leI (a := n_y0_length) (b := k2) (by omega) (by omega)).mpr q)
    refine lv_aload_n hx hb d_Cutter_lineEnd_10 rfl (lv_at hl 1 rfl) ?_
    refine lv_iload_n hx hb d_Cutter_lineEnd_11 rfl (lv_at hl 0 rfl) ?_
    have hPc := hP.sub (ws' := [(a_y0, .inr (10, [.ref a_y0_characters, .int (nI n_y0_length)])), (a_y0_characters, .inl (ka_y0_characters, 240, .inl f_y0_characters))]) [1, 0] rfl
    have hDc := hD.sub (ws' := [(a_y0, .inr (10, [.ref a_y0_characters, .int (nI n_y0_length)])), (a_y0_characters, .inl (ka_y0_characters, 240, .inl f_y0_characters))]) [1, 0] (by decide) rfl
    have hKc := hK.sub (tys' := [(ka_y0_characters, .char)]) [0] rfl
    have hFc := va_free (wc := [(a_y0, .inr (10, [.ref a_y0_characters, .int (nI n_y0_length)])), (a_y0_characters, .inl (ka_y0_characters, 240, .inl f_y0_characters))]) hD hS hA [1, 0] rfl
    refine va_calli (va_runV (As := [.int (nI k2)]) (rest := []) ⟨hx, hb, hml, hown, hz⟩ (s_Text_at6 l dC dI H.size a_y0 a_y0_characters f_y0_characters n_y0_length k2 ka_y0_characters (by first | omega | assumption | exact Or.inl rfl | exact Or.inr rfl) (by first | omega | assumption | exact Or.inl rfl | exact Or.inr rfl) (by first | omega | assumption | exact Or.inl rfl | exact Or.inr rfl)) (cwV 1 hz (zV zm_89 zm_11 zm_12 zm_7 zm_13) rfl rfl rfl (by decide +kernel) ⟨Nat.le_of_ble_eq_true rfl, Nat.le_of_ble_eq_true rfl⟩) ⟨fun a U g mk q => by obtain ⟨q0, q1, qP, qK, qD⟩ := q; exact ⟨q0, q1, qP, va_K.moved (u := U) (U := U.calling g mk a) (Vm.Alike.refl U.vm) qK, qD⟩, va_recv (q := (R_Text, F_Text, 2)) (q0 := 1) (ci := 10) hK hP rfl rfl, fun U hU hW => ⟨rfl, by rw [hU], by rw [hU]; exact hPc, va_K.moved hW.alike hKc, hDc.weaken (fun _ _ _ _ => trivial)⟩⟩ rfl rfl hl.1 rfl (lv_room (Nat.le_of_ble_eq_true rfl)) d_Cutter_lineEnd_12 ⟨Nat.zero_le _, Nat.zero_le _⟩) hS (fun q _ h => hFc q h) hFc (fun r u t H1 locs ht hvm hw hB hz1 hk1 hS => ?_)
    obtain ⟨hP1, hK1, hD1⟩ := hB
    subst r
    rw [ht] at hP1
    obtain ⟨hP, hD⟩ := va_join (wr := []) (w1 := [(a_y0, .inr (10, [.ref a_y0_characters, .int (nI n_y0_length)])), (a_y0_characters, .inl (ka_y0_characters, 240, .inl f_y0_characters))]) hP hD [1, 0] [] rfl rfl (by decide) (by decide) hk1 hFc hP1 hD1
    generalize H1 = H at hP hS ⊢
    have hP : va_P (dC, dI) vcl [(a_y0, .inr (10, [.ref a_y0_characters, .int (nI n_y0_length)])), (a_y0_characters, .inl (ka_y0_characters, 240, .inl f_y0_characters))] H := hP
    have hD : va_D A [(a_y0, .inr (10, [.ref a_y0_characters, .int (nI n_y0_length)])), (a_y0_characters, .inl (ka_y0_characters, 240, .inl f_y0_characters))] := hD
    refine lv_bipush (v := 10) hx hb d_Cutter_lineEnd_15 (by decide) ?_
    refine lv_icmp_ne (tgt := 22) hx hb d_Cutter_lineEnd_17 (by decide) (fun h2 => ?_) (fun h2 => ?_)
    · have e17 := h2
      refine lv_iinc (k := 0) (v := (nI (k2 + 1))) hx hb d_Cutter_lineEnd_22 hl rfl (nI_1 k2) (by decide) rfl (fun ls hl => ?_)
      have hl : lv_has ls 3 [(2, .int (nI (k2 + 1))), (0, .ref a_y0), (1, .int (nI y1))] := hl
      refine lv_goto (tgt := 2) hx hb d_Cutter_lineEnd_25 (by decide) ?_
      have hP9 := hP.sub (ws' := [(a_y0, .inr (10, [.ref a_y0_characters, .int (nI n_y0_length)])), (a_y0_characters, .inl (ka_y0_characters, 240, .inl f_y0_characters))]) [0, 1] rfl
      have hD9 := hD.sub (ws' := [(a_y0, .inr (10, [.ref a_y0_characters, .int (nI n_y0_length)])), (a_y0_characters, .inl (ka_y0_characters, 240, .inl f_y0_characters))]) [0, 1] (by decide) rfl
      exact ih2 ((k2 + 1)) (by show 240 - ((k2 + 1)) < 240 - k2; omega) _ _ _ ⟨by show ((k2 + 1)) ≤ 240; first | omega | assumption | exact Or.inl rfl | exact Or.inr rfl | decide, by show ((k2 + 1)) ≤ n_y0_length; first | omega | assumption | exact Or.inl rfl | exact Or.inr rfl | decide, by show y1 ≤ ((k2 + 1)); first | omega | assumption | exact Or.inl rfl | exact Or.inr rfl | decide, by show scE (fun x => !(x == 10)) (cN f_y0_characters n_y0_length) n_y0_length ((k2 + 1)) = scE (fun x => !(x == 10)) (cN f_y0_characters n_y0_length) n_y0_length y1; exact (scE_go (by omega) (by simpa using e17)).symm.trans iE, hl, hP9, hD9, hS⟩
    · have e17 := h2
      refine lv_iload_n hx hb d_Cutter_lineEnd_20 rfl (lv_at hl 0 rfl) ?_
      have hP9 := hP.sub (ws' := [(a_y0, .inr (10, [.ref a_y0_characters, .int (nI n_y0_length)])), (a_y0_characters, .inl (ka_y0_characters, 240, .inl f_y0_characters))]) [0, 1] rfl
      have hD9 := hD.sub (ws' := [(a_y0, .inr (10, [.ref a_y0_characters, .int (nI n_y0_length)])), (a_y0_characters, .inl (ka_y0_characters, 240, .inl f_y0_characters))]) [0, 1] (by decide) rfl
      exact W.iret (v := (nI k2)) hx hb hr (fun t ht hW => ⟨⟨(nI k2), (), rfl, ⟨k2, by first | exact (scE_stop (Or.inr (by rw [e17]; decide))).symm.trans iE | exact (show n_y0_length = k2 by omega).trans ((scE_stop (Or.inl (by omega))).symm.trans iE), rfl⟩, by rw [ht]; exact hP9, va_K.moved hW.alike hK, hD9⟩, hS.F ht⟩) hS.2.2 d_Cutter_lineEnd_21
set_option maxHeartbeats 4000000 in
set_option maxRecDepth 100000 in
theorem s_Text_packed6 (l : Launch) (dC : Nat → ClassId) (dI : Nat → Nat → Nat) (sz : Nat) (a_t : Nat) (a_characters : Nat) (f_characters : Nat → Int32) (n_length : Nat) (y0 : Nat) (y1 : Nat) (ka_characters : ClassId) (c_characters : ∀ j, narrow .char (.int (f_characters j)) = .int (f_characters j)) (b_length : n_length ≤ 240) (by0 : y0 ≤ 241) (by1 : y1 ≤ 240) (hp0 : y0 ≤ y1) (hp1 : y1 - y0 ≤ 8) : Met l y_Text_packed w_Text_packed ({ frames := 1, cells := 0, slots := 0, locals := 21 }) (va_Pc [.ref a_t, .int (nI y0), .int (nI y1)] (fun U => U.heap.size = sz ∧ va_P (dC, dI) vcl [(a_t, .inr (10, [.ref a_characters, .int (nI n_length)])), (a_characters, .inl (ka_characters, 240, .inl f_characters))] U.heap ∧ va_K (dC, dI) vcl [(ka_characters, .char)] U ∧ va_D (fun _ => True) [(a_t, .inr (10, [.ref a_characters, .int (nI n_length)])), (a_characters, .inl (ka_characters, 240, .inl f_characters))])) (va_Ql (fun (r : Int64) (_ : Unit) => r = pkL (cN f_characters n_length) y0 (y1 - y0)) (fun _ t => va_P (dC, dI) vcl [(a_t, .inr (10, [.ref a_characters, .int (nI n_length)])), (a_characters, .inl (ka_characters, 240, .inl f_characters))] t.heap ∧ va_K (dC, dI) vcl [(ka_characters, .char)] t ∧ va_D (va_A [(a_t, .inr (10, [.ref a_characters, .int (nI n_length)])), (a_characters, .inl (ka_characters, 240, .inl f_characters))] sz) [(a_t, .inr (10, [.ref a_characters, .int (nI n_length)])), (a_characters, .inl (ka_characters, 240, .inl f_characters))]) (va_A [(a_t, .inr (10, [.ref a_characters, .int (nI n_length)])), (a_characters, .inl (ka_characters, 240, .inl f_characters))] sz)) 0 0 (va_A [(a_t, .inr (10, [.ref a_characters, .int (nI n_length)])), (a_characters, .inl (ka_characters, 240, .inl f_characters))] sz) := by
  refine Met.ofW (cc := b_Text_packed) (maxL := 6) (ret := (some .long)) (by decide) rfl ?_
  intro p e s m args below meth c s₁ B hml hv
  obtain ⟨rfl, hsz, hP, hK, hD0⟩ := hv
  have hx := B.exec
  have hb := B.bytes
  have hr := B.returns
  have hts := atoms_spec (ws := w_Text_packed) B.pre
  have hz : ∀ w ∈ wz, w.before _ s = true := fun w h => hts w (List.mem_cons_of_mem _ h)
  have hown : s.vm.findClass R_Text = some m.cls := findClass_of_methodNamed B.named
  have hlocks := B.notSynchronized
  subst hsz
  have hD := hD0.self (sz := s.heap.size)
  generalize hAe : va_A [(a_t, .inr (10, [.ref a_characters, .int (nI n_length)])), (a_characters, .inl (ka_characters, 240, .inl f_characters))] s.heap.size = A at hD ⊢
  have hA : ∀ q : Nat, s.heap.size ≤ q → A q := fun q h => by rw [← hAe]; exact Or.inr h
  have hS : va_S A s.heap s.heap [] := va_S.rf
  have hP : va_P (dC, dI) vcl [(a_t, .inr (10, [.ref a_characters, .int (nI n_length)])), (a_characters, .inl (ka_characters, 240, .inl f_characters))] s.heap := hP
  have hl := lv_entry ([.ref a_t, .int (nI y0), .int (nI y1)]) (n := 6) (Nat.le_of_ble_eq_true rfl)
  rw [lg_entry_eq]
  generalize (lg_sl ([.ref a_t, .int (nI y0), .int (nI y1)]) ++ List.replicate (6 - (lg_sl ([.ref a_t, .int (nI y0), .int (nI y1)])).length) Slot.unset).toArray = ls at hl ⊢
  have hl : lv_has ls 6 [(0, .ref a_t), (1, .int (nI y0)), (2, .int (nI y1))] := hl
  refine lv_lconst (v := 0) hx hb d_Text_packed_0 (by decide) ?_
  refine lv_lstore_n hx hb d_Text_packed_1 rfl hl (by decide) rfl (fun ls hl => ?_)
  have hl : lv_has ls 6 [(3, .long 0), (0, .ref a_t), (1, .int (nI y0)), (2, .int (nI y1))] := hl
  refine lv_iload_n hx hb d_Text_packed_2 rfl (lv_at hl 3 rfl) ?_
  refine lv_iconst (v := 1) hx hb d_Text_packed_3 (by decide) ?_
  refine xr_isub (v := (nI y1 - 1)) hx hb d_Text_packed_4 rfl ?_
  refine lv_istore hx hb d_Text_packed_5 hl (by decide) rfl (fun ls hl => ?_)
  have hl : lv_has ls 6 [(5, .int (nI y1 - 1)), (3, .long 0), (0, .ref a_t), (1, .int (nI y0)), (2, .int (nI y1))] := hl
  refine xr_loop (α := (Nat) × (Int64)) (fun a => (fun (k5 : Nat) (k3 : Int64) => k5) a.1 a.2) (fun a H locs ls => (fun (k5 : Nat) (k3 : Int64) => (k5 ≤ 240) ∧ (y0 ≤ k5) ∧ (k5 ≤ y1) ∧ (k3 = hnL (cN f_characters n_length) k5 (y1 - k5)) ∧ lv_has ls 6 [(5, .int (nI k5 - 1)), (3, .long k3), (0, .ref a_t), (1, .int (nI y0)), (2, .int (nI y1))] ∧ va_P (dC, dI) vcl [(a_t, .inr (10, [.ref a_characters, .int (nI n_length)])), (a_characters, .inl (ka_characters, 240, .inl f_characters))] H ∧ va_D A [(a_t, .inr (10, [.ref a_characters, .int (nI n_length)])), (a_characters, .inl (ka_characters, 240, .inl f_characters))] ∧ va_S A s.heap H locs) a.1 a.2) (fun a ih7 H locs ls hI => ?_) (y1, 0) _ _ _ ⟨by show y1 ≤ 240; first | omega | assumption | exact Or.inl rfl | exact Or.inr rfl | decide, by show y0 ≤ y1; first | omega | assumption | exact Or.inl rfl | exact Or.inr rfl | decide, by show y1 ≤ y1; first | omega | assumption | exact Or.inl rfl | exact Or.inr rfl | decide, by show 0 = hnL (cN f_characters n_length) y1 (y1 - y1); first | rfl | (rw [Nat.sub_self]; rfl), hl, hP, hD, hS⟩
  obtain ⟨k5, k3⟩ := a
  obtain ⟨bl0, bl1, bl2, bl3, hl, hP, hD, hS⟩ := hI
  have bl0 : k5 ≤ 240 := bl0
  have bl1 : y0 ≤ k5 := bl1
  have bl2 : k5 ≤ y1 := bl2
  have bl3 : k3 = hnL (cN f_characters n_length) k5 (y1 - k5) := bl3
  have iE := bl3
  have hl : lv_has ls 6 [(5, .int (nI k5 - 1)), (3, .long k3), (0, .ref a_t), (1, .int (nI y0)), (2, .int (nI y1))] := hl
  have hP : va_P (dC, dI) vcl [(a_t, .inr (10, [.ref a_characters, .int (nI n_length)])), (a_characters, .inl (ka_characters, 240, .inl f_characters))] H := hP
  have hD : va_D A [(a_t, .inr (10, [.ref a_characters, .int (nI n_length)])), (a_characters, .inl (ka_characters, 240, .inl f_characters))] := hD
  refine lv_iload hx hb d_Text_packed_7 (lv_at hl 0 rfl) ?_
  refine lv_iload_n hx hb d_Text_packed_9 rfl (lv_at hl 3 rfl) ?_
  refine lv_icmp_lt (tgt := 32) hx hb d_Text_packed_10 (by decide) (fun h1 => ?_) (fun h1 => ?_)
  · have h1 : k5 ≤ y0 := (xr_pred_ltn (by omega) (by omega)).mp h1
    refine lv_lload_n hx hb d_Text_packed_32 rfl (lv_at hl 1 rfl) ?_
    have hP9 := hP.sub (ws' := [(a_t, .inr (10, [.ref a_characters, .int (nI n_length)])), (a_characters, .inl (ka_characters, 240, .inl f_characters))]) [0, 1] rfl
    have hD9 := hD.sub (ws' := [(a_t, .inr (10, [.ref a_characters, .int (nI n_length)])), (a_characters, .inl (ka_characters, 240, .inl f_characters))]) [0, 1] (by decide) rfl
    exact W.lret (v := k3) hx hb hr (fun t ht hW => ⟨⟨k3, (), rfl, (by have e9 : k5 = y0 := (by omega); rw [e9] at iE; exact iE.trans (hn_pk _ _ (by omega))), by rw [ht]; exact hP9, va_K.moved hW.alike hK, hD9⟩, hS.F ht⟩) hS.2.2 d_Text_packed_33
  · have h1 : ¬ k5 ≤ y0 := fun q => h1 ((xr_pred_ltn (by omega) (by omega)).mpr q)
    have e_h1 : nI k5 - 1 = nI (k5 - 1) := pk_sub (a := k5) (b := 1) (by omega)
    have hl : lv_has ls 6 [(5, .int (nI (k5 - 1))), (3, .long k3), (0, .ref a_t), (1, .int (nI y0)), (2, .int (nI y1))] := Eq.mp (congrArg (lv_has ls 6) (by rw [e_h1])) hl
    refine lv_lload_n hx hb d_Text_packed_13 rfl (lv_at hl 1 rfl) ?_
    refine lv_bipush (v := 8) hx hb d_Text_packed_14 (by decide) ?_
    refine lv_lshl (v := (k3 <<< ((8 : Int32).toInt64 &&& 63))) hx hb d_Text_packed_16 rfl ?_
    refine lv_aload_n hx hb d_Text_packed_17 rfl (lv_at hl 2 rfl) ?_
    refine lv_iload hx hb d_Text_packed_18 (lv_at hl 0 rfl) ?_
    have hPc := hP.sub (ws' := [(a_t, .inr (10, [.ref a_characters, .int (nI n_length)])), (a_characters, .inl (ka_characters, 240, .inl f_characters))]) [0, 1] rfl
    have hDc := hD.sub (ws' := [(a_t, .inr (10, [.ref a_characters, .int (nI n_length)])), (a_characters, .inl (ka_characters, 240, .inl f_characters))]) [0, 1] (by decide) rfl
    have hKc := hK.sub (tys' := [(ka_characters, .char)]) [0] rfl
    have hFc := va_free (wc := [(a_t, .inr (10, [.ref a_characters, .int (nI n_length)])), (a_characters, .inl (ka_characters, 240, .inl f_characters))]) hD hS hA [0, 1] rfl
    refine va_calli (va_runV (As := [.int (nI (k5 - 1))]) (rest := [.long (k3 <<< ((8 : Int32).toInt64 &&& 63))]) ⟨hx, hb, hml, hown, hz⟩ (s_Text_at6 l dC dI H.size a_t a_characters f_characters n_length ((k5 - 1)) ka_characters (by first | omega | assumption | exact Or.inl rfl | exact Or.inr rfl) (by first | omega | assumption | exact Or.inl rfl | exact Or.inr rfl) (by first | omega | assumption | exact Or.inl rfl | exact Or.inr rfl)) (cwV 1 hz (zV zm_10 zm_11 zm_12 zm_7 zm_13) rfl rfl rfl (by decide +kernel) ⟨Nat.le_of_ble_eq_true rfl, Nat.le_of_ble_eq_true rfl⟩) ⟨fun a U g mk q => by obtain ⟨q0, q1, qP, qK, qD⟩ := q; exact ⟨q0, q1, qP, va_K.moved (u := U) (U := U.calling g mk a) (Vm.Alike.refl U.vm) qK, qD⟩, va_recv (q := (R_Text, F_Text, 2)) (q0 := 0) (ci := 10) hK hP rfl rfl, fun U hU hW => ⟨rfl, by rw [hU], by rw [hU]; exact hPc, va_K.moved hW.alike hKc, hDc.weaken (fun _ _ _ _ => trivial)⟩⟩ rfl rfl hl.1 rfl (lv_room (Nat.le_of_ble_eq_true rfl)) d_Text_packed_20 ⟨Nat.zero_le _, Nat.zero_le _⟩) hS (fun q _ h => hFc q h) hFc (fun r u t H1 locs ht hvm hw hB hz1 hk1 hS => ?_)
    obtain ⟨hP1, hK1, hD1⟩ := hB
    subst r
    rw [ht] at hP1
    obtain ⟨hP, hD⟩ := va_join (wr := []) (w1 := [(a_t, .inr (10, [.ref a_characters, .int (nI n_length)])), (a_characters, .inl (ka_characters, 240, .inl f_characters))]) hP hD [0, 1] [] rfl rfl (by decide) (by decide) hk1 hFc hP1 hD1
    generalize H1 = H at hP hS ⊢
    have hP : va_P (dC, dI) vcl [(a_t, .inr (10, [.ref a_characters, .int (nI n_length)])), (a_characters, .inl (ka_characters, 240, .inl f_characters))] H := hP
    have hD : va_D A [(a_t, .inr (10, [.ref a_characters, .int (nI n_length)])), (a_characters, .inl (ka_characters, 240, .inl f_characters))] := hD
    refine lv_i2l (v := (cN f_characters n_length ((k5 - 1))).toInt64) hx hb d_Text_packed_23 rfl ?_
    refine xo_lor (v := ((k3 <<< ((8 : Int32).toInt64 &&& 63)) ||| ((cN f_characters n_length) (k5 - 1)).toInt64)) hx hb d_Text_packed_24 rfl ?_
    refine lv_lstore_n hx hb d_Text_packed_25 rfl hl (by decide) rfl (fun ls hl => ?_)
    have hl : lv_has ls 6 [(3, .long ((k3 <<< ((8 : Int32).toInt64 &&& 63)) ||| ((cN f_characters n_length) (k5 - 1)).toInt64)), (5, .int (nI (k5 - 1))), (0, .ref a_t), (1, .int (nI y0)), (2, .int (nI y1))] := hl
    refine lv_iinc (k := 1) (v := (nI (k5 - 1) - 1)) hx hb d_Text_packed_26 hl rfl (xr_dec2 _) (by decide) rfl (fun ls hl => ?_)
    have hl : lv_has ls 6 [(5, .int (nI (k5 - 1) - 1)), (3, .long ((k3 <<< ((8 : Int32).toInt64 &&& 63)) ||| ((cN f_characters n_length) (k5 - 1)).toInt64)), (0, .ref a_t), (1, .int (nI y0)), (2, .int (nI y1))] := hl
    refine lv_goto (tgt := 7) hx hb d_Text_packed_29 (by decide) ?_
    have hP9 := hP.sub (ws' := [(a_t, .inr (10, [.ref a_characters, .int (nI n_length)])), (a_characters, .inl (ka_characters, 240, .inl f_characters))]) [0, 1] rfl
    have hD9 := hD.sub (ws' := [(a_t, .inr (10, [.ref a_characters, .int (nI n_length)])), (a_characters, .inl (ka_characters, 240, .inl f_characters))]) [0, 1] (by decide) rfl
    exact ih7 ((k5 - 1), ((k3 <<< ((8 : Int32).toInt64 &&& 63)) ||| ((cN f_characters n_length) (k5 - 1)).toInt64)) (by show ((k5 - 1)) < k5; omega) _ _ _ ⟨by show ((k5 - 1)) ≤ 240; first | omega | assumption | exact Or.inl rfl | exact Or.inr rfl | decide, by show y0 ≤ ((k5 - 1)); first | omega | assumption | exact Or.inl rfl | exact Or.inr rfl | decide, by show ((k5 - 1)) ≤ y1; first | omega | assumption | exact Or.inl rfl | exact Or.inr rfl | decide, by show (((k3 <<< ((8 : Int32).toInt64 &&& 63)) ||| ((cN f_characters n_length) (k5 - 1)).toInt64)) = hnL (cN f_characters n_length) ((k5 - 1)) (y1 - ((k5 - 1))); exact hn_s (by omega) iE (by omega), hl, hP9, hD9, hS⟩
set_option maxHeartbeats 4000000 in
set_option maxRecDepth 100000 in
theorem s_Text_number6 (l : Launch) (dC : Nat → ClassId) (dI : Nat → Nat → Nat) (sz : Nat) (a_t : Nat) (a_characters : Nat) (f_characters : Nat → Int32) (n_length : Nat) (y0 : Nat) (y1 : Nat) (ka_characters : ClassId) (c_characters : ∀ j, narrow .char (.int (f_characters j)) = .int (f_characters j)) (b_length : n_length ≤ 240) (by0 : y0 ≤ 241) (by1 : y1 ≤ 240) (hp0 : y0 ≤ y1) (hp1 : ∀ j, y0 ≤ j → j < y1 → ¬ wi ((cN f_characters n_length) j) 48 57 = 0) : Met l y_Text_number w_Text_number ({ frames := 1, cells := 0, slots := 0, locals := 21 }) (va_Pc [.ref a_t, .int (nI y0), .int (nI y1)] (fun U => U.heap.size = sz ∧ va_P (dC, dI) vcl [(a_t, .inr (10, [.ref a_characters, .int (nI n_length)])), (a_characters, .inl (ka_characters, 240, .inl f_characters))] U.heap ∧ va_K (dC, dI) vcl [(ka_characters, .char)] U ∧ va_D (fun _ => True) [(a_t, .inr (10, [.ref a_characters, .int (nI n_length)])), (a_characters, .inl (ka_characters, 240, .inl f_characters))])) (va_Ql (fun (r : Int64) (_ : Unit) => r = nmL (cN f_characters n_length) y0 (y1 - y0)) (fun _ t => va_P (dC, dI) vcl [(a_t, .inr (10, [.ref a_characters, .int (nI n_length)])), (a_characters, .inl (ka_characters, 240, .inl f_characters))] t.heap ∧ va_K (dC, dI) vcl [(ka_characters, .char)] t ∧ va_D (va_A [(a_t, .inr (10, [.ref a_characters, .int (nI n_length)])), (a_characters, .inl (ka_characters, 240, .inl f_characters))] sz) [(a_t, .inr (10, [.ref a_characters, .int (nI n_length)])), (a_characters, .inl (ka_characters, 240, .inl f_characters))]) (va_A [(a_t, .inr (10, [.ref a_characters, .int (nI n_length)])), (a_characters, .inl (ka_characters, 240, .inl f_characters))] sz)) 0 0 (va_A [(a_t, .inr (10, [.ref a_characters, .int (nI n_length)])), (a_characters, .inl (ka_characters, 240, .inl f_characters))] sz) := by
  refine Met.ofW (cc := b_Text_number) (maxL := 6) (ret := (some .long)) (by decide) rfl ?_
  intro p e s m args below meth c s₁ B hml hv
  obtain ⟨rfl, hsz, hP, hK, hD0⟩ := hv
  have hx := B.exec
  have hb := B.bytes
  have hr := B.returns
  have hts := atoms_spec (ws := w_Text_number) B.pre
  have hz : ∀ w ∈ wz, w.before _ s = true := fun w h => hts w (List.mem_cons_of_mem _ h)
  have hown : s.vm.findClass R_Text = some m.cls := findClass_of_methodNamed B.named
  have hlocks := B.notSynchronized
  subst hsz
  have hD := hD0.self (sz := s.heap.size)
  generalize hAe : va_A [(a_t, .inr (10, [.ref a_characters, .int (nI n_length)])), (a_characters, .inl (ka_characters, 240, .inl f_characters))] s.heap.size = A at hD ⊢
  have hA : ∀ q : Nat, s.heap.size ≤ q → A q := fun q h => by rw [← hAe]; exact Or.inr h
  have hS : va_S A s.heap s.heap [] := va_S.rf
  have hP : va_P (dC, dI) vcl [(a_t, .inr (10, [.ref a_characters, .int (nI n_length)])), (a_characters, .inl (ka_characters, 240, .inl f_characters))] s.heap := hP
  have hl := lv_entry ([.ref a_t, .int (nI y0), .int (nI y1)]) (n := 6) (Nat.le_of_ble_eq_true rfl)
  rw [lg_entry_eq]
  generalize (lg_sl ([.ref a_t, .int (nI y0), .int (nI y1)]) ++ List.replicate (6 - (lg_sl ([.ref a_t, .int (nI y0), .int (nI y1)])).length) Slot.unset).toArray = ls at hl ⊢
  have hl : lv_has ls 6 [(0, .ref a_t), (1, .int (nI y0)), (2, .int (nI y1))] := hl
  refine lv_lconst (v := 0) hx hb d_Text_number_0 (by decide) ?_
  refine lv_lstore_n hx hb d_Text_number_1 rfl hl (by decide) rfl (fun ls hl => ?_)
  have hl : lv_has ls 6 [(3, .long 0), (0, .ref a_t), (1, .int (nI y0)), (2, .int (nI y1))] := hl
  refine lv_iload_n hx hb d_Text_number_2 rfl (lv_at hl 2 rfl) ?_
  refine lv_istore hx hb d_Text_number_3 hl (by decide) rfl (fun ls hl => ?_)
  have hl : lv_has ls 6 [(5, .int (nI y0)), (3, .long 0), (0, .ref a_t), (1, .int (nI y0)), (2, .int (nI y1))] := hl
  refine xr_loop (α := (Nat) × (Int64)) (fun a => (fun (k5 : Nat) (k3 : Int64) => 241 - k5) a.1 a.2) (fun a H locs ls => (fun (k5 : Nat) (k3 : Int64) => (k5 ≤ 241) ∧ (y0 ≤ k5) ∧ (k5 ≤ y1) ∧ (k3 = nmL (cN f_characters n_length) y0 (k5 - y0)) ∧ lv_has ls 6 [(5, .int (nI k5)), (3, .long k3), (0, .ref a_t), (1, .int (nI y0)), (2, .int (nI y1))] ∧ va_P (dC, dI) vcl [(a_t, .inr (10, [.ref a_characters, .int (nI n_length)])), (a_characters, .inl (ka_characters, 240, .inl f_characters))] H ∧ va_D A [(a_t, .inr (10, [.ref a_characters, .int (nI n_length)])), (a_characters, .inl (ka_characters, 240, .inl f_characters))] ∧ va_S A s.heap H locs) a.1 a.2) (fun a ih5 H locs ls hI => ?_) (y0, 0) _ _ _ ⟨by show y0 ≤ 241; first | omega | assumption | exact Or.inl rfl | exact Or.inr rfl | decide, by show y0 ≤ y0; first | omega | assumption | exact Or.inl rfl | exact Or.inr rfl | decide, by show y0 ≤ y1; first | omega | assumption | exact Or.inl rfl | exact Or.inr rfl | decide, by show 0 = nmL (cN f_characters n_length) y0 (y0 - y0); first | rfl | (rw [Nat.sub_self]; rfl), hl, hP, hD, hS⟩
  obtain ⟨k5, k3⟩ := a
  obtain ⟨bl0, bl1, bl2, bl3, hl, hP, hD, hS⟩ := hI
  have bl0 : k5 ≤ 241 := bl0
  have bl1 : y0 ≤ k5 := bl1
  have bl2 : k5 ≤ y1 := bl2
  have bl3 : k3 = nmL (cN f_characters n_length) y0 (k5 - y0) := bl3
  have iE := bl3
  have hl : lv_has ls 6 [(5, .int (nI k5)), (3, .long k3), (0, .ref a_t), (1, .int (nI y0)), (2, .int (nI y1))] := hl
  have hP : va_P (dC, dI) vcl [(a_t, .inr (10, [.ref a_characters, .int (nI n_length)])), (a_characters, .inl (ka_characters, 240, .inl f_characters))] H := hP
  have hD : va_D A [(a_t, .inr (10, [.ref a_characters, .int (nI n_length)])), (a_characters, .inl (ka_characters, 240, .inl f_characters))] := hD
  refine lv_iload hx hb d_Text_number_5 (lv_at hl 0 rfl) ?_
  refine lv_iload_n hx hb d_Text_number_7 rfl (lv_at hl 4 rfl) ?_
  refine lv_icmp_ge (tgt := 34) hx hb d_Text_number_8 (by decide) (fun h1 => ?_) (fun h1 => ?_)
  · have h1 : y1 ≤ k5 := (nI_leI (a := y1) (b := k5) (by omega) (by omega)).mp h1
    refine lv_lload_n hx hb d_Text_number_34 rfl (lv_at hl 1 rfl) ?_
    have hP9 := hP.sub (ws' := [(a_t, .inr (10, [.ref a_characters, .int (nI n_length)])), (a_characters, .inl (ka_characters, 240, .inl f_characters))]) [0, 1] rfl
    have hD9 := hD.sub (ws' := [(a_t, .inr (10, [.ref a_characters, .int (nI n_length)])), (a_characters, .inl (ka_characters, 240, .inl f_characters))]) [0, 1] (by decide) rfl
    exact W.lret (v := k3) hx hb hr (fun t ht hW => ⟨⟨k3, (), rfl, (by have e9 : k5 = y1 := (by omega); rw [e9] at iE; exact iE), by rw [ht]; exact hP9, va_K.moved hW.alike hK, hD9⟩, hS.F ht⟩) hS.2.2 d_Text_number_35
  · have h1 : ¬ y1 ≤ k5 := fun q => h1 ((nI_leI (a := y1) (b := k5) (by omega) (by omega)).mpr q)
    refine lv_lload_n hx hb d_Text_number_11 rfl (lv_at hl 1 rfl) ?_
    refine lv_ldc2 (v := 10) hx hb hown (hz (.constantLong R_Text 27 10) zm_14) d_Text_number_12 ?_
    refine lv_lmul hx hb d_Text_number_15 ?_
    refine lv_aload_n hx hb d_Text_number_16 rfl (lv_at hl 2 rfl) ?_
    refine lv_iload hx hb d_Text_number_17 (lv_at hl 0 rfl) ?_
    have hPc := hP.sub (ws' := [(a_t, .inr (10, [.ref a_characters, .int (nI n_length)])), (a_characters, .inl (ka_characters, 240, .inl f_characters))]) [0, 1] rfl
    have hDc := hD.sub (ws' := [(a_t, .inr (10, [.ref a_characters, .int (nI n_length)])), (a_characters, .inl (ka_characters, 240, .inl f_characters))]) [0, 1] (by decide) rfl
    have hKc := hK.sub (tys' := [(ka_characters, .char)]) [0] rfl
    have hFc := va_free (wc := [(a_t, .inr (10, [.ref a_characters, .int (nI n_length)])), (a_characters, .inl (ka_characters, 240, .inl f_characters))]) hD hS hA [0, 1] rfl
    refine va_calli (va_runV (As := [.int (nI k5)]) (rest := [.long (k3 * 10)]) ⟨hx, hb, hml, hown, hz⟩ (s_Text_at6 l dC dI H.size a_t a_characters f_characters n_length k5 ka_characters (by first | omega | assumption | exact Or.inl rfl | exact Or.inr rfl) (by first | omega | assumption | exact Or.inl rfl | exact Or.inr rfl) (by first | omega | assumption | exact Or.inl rfl | exact Or.inr rfl)) (cwV 1 hz (zV zm_10 zm_11 zm_12 zm_7 zm_13) rfl rfl rfl (by decide +kernel) ⟨Nat.le_of_ble_eq_true rfl, Nat.le_of_ble_eq_true rfl⟩) ⟨fun a U g mk q => by obtain ⟨q0, q1, qP, qK, qD⟩ := q; exact ⟨q0, q1, qP, va_K.moved (u := U) (U := U.calling g mk a) (Vm.Alike.refl U.vm) qK, qD⟩, va_recv (q := (R_Text, F_Text, 2)) (q0 := 0) (ci := 10) hK hP rfl rfl, fun U hU hW => ⟨rfl, by rw [hU], by rw [hU]; exact hPc, va_K.moved hW.alike hKc, hDc.weaken (fun _ _ _ _ => trivial)⟩⟩ rfl rfl hl.1 rfl (lv_room (Nat.le_of_ble_eq_true rfl)) d_Text_number_19 ⟨Nat.zero_le _, Nat.zero_le _⟩) hS (fun q _ h => hFc q h) hFc (fun r u t H1 locs ht hvm hw hB hz1 hk1 hS => ?_)
    obtain ⟨hP1, hK1, hD1⟩ := hB
    subst r
    rw [ht] at hP1
    obtain ⟨hP, hD⟩ := va_join (wr := []) (w1 := [(a_t, .inr (10, [.ref a_characters, .int (nI n_length)])), (a_characters, .inl (ka_characters, 240, .inl f_characters))]) hP hD [0, 1] [] rfl rfl (by decide) (by decide) hk1 hFc hP1 hD1
    generalize H1 = H at hP hS ⊢
    have hP : va_P (dC, dI) vcl [(a_t, .inr (10, [.ref a_characters, .int (nI n_length)])), (a_characters, .inl (ka_characters, 240, .inl f_characters))] H := hP
    have hD : va_D A [(a_t, .inr (10, [.ref a_characters, .int (nI n_length)])), (a_characters, .inl (ka_characters, 240, .inl f_characters))] := hD
    refine lv_bipush (v := 48) hx hb d_Text_number_22 (by decide) ?_
    refine xr_isub (v := ((cN f_characters n_length k5) - 48)) hx hb d_Text_number_24 rfl ?_
    refine lv_i2l (v := ((cN f_characters n_length k5) - 48).toInt64) hx hb d_Text_number_25 rfl ?_
    refine lv_ladd hx hb d_Text_number_26 ?_
    refine lv_lstore_n hx hb d_Text_number_27 rfl hl (by decide) rfl (fun ls hl => ?_)
    have hl : lv_has ls 6 [(3, .long ((k3 * 10) + (((cN f_characters n_length) k5) - 48).toInt64)), (5, .int (nI k5)), (0, .ref a_t), (1, .int (nI y0)), (2, .int (nI y1))] := hl
    refine lv_iinc (k := 1) (v := (nI (k5 + 1))) hx hb d_Text_number_28 hl rfl (nI_1 k5) (by decide) rfl (fun ls hl => ?_)
    have hl : lv_has ls 6 [(5, .int (nI (k5 + 1))), (3, .long ((k3 * 10) + (((cN f_characters n_length) k5) - 48).toInt64)), (0, .ref a_t), (1, .int (nI y0)), (2, .int (nI y1))] := hl
    refine lv_goto (tgt := 5) hx hb d_Text_number_31 (by decide) ?_
    have hP9 := hP.sub (ws' := [(a_t, .inr (10, [.ref a_characters, .int (nI n_length)])), (a_characters, .inl (ka_characters, 240, .inl f_characters))]) [0, 1] rfl
    have hD9 := hD.sub (ws' := [(a_t, .inr (10, [.ref a_characters, .int (nI n_length)])), (a_characters, .inl (ka_characters, 240, .inl f_characters))]) [0, 1] (by decide) rfl
    exact ih5 ((k5 + 1), ((k3 * 10) + (((cN f_characters n_length) k5) - 48).toInt64)) (by show 241 - ((k5 + 1)) < 241 - k5; omega) _ _ _ ⟨by show ((k5 + 1)) ≤ 241; first | omega | assumption | exact Or.inl rfl | exact Or.inr rfl | decide, by show y0 ≤ ((k5 + 1)); first | omega | assumption | exact Or.inl rfl | exact Or.inr rfl | decide, by show ((k5 + 1)) ≤ y1; first | omega | assumption | exact Or.inl rfl | exact Or.inr rfl | decide, by show (((k3 * 10) + (((cN f_characters n_length) k5) - 48).toInt64)) = nmL (cN f_characters n_length) y0 (((k5 + 1)) - y0); exact nm_s (by omega) iE (hp1 _ (by omega) (by omega)), hl, hP9, hD9, hS⟩
/-! the class's lexer, its steps -/
section CUT
variable {c : Nat → Int32} {n a b e sz : Nat} {k wp zp ls fr zs zf : Int32} {R L S : List Lx} {RP : List Lx → Prop} {X : Option Nat × List Lx}
def stQ (r : Nat ⊕ (Nat × List Lx)) (c : Nat → Int32) (RP : List Lx → Prop) (L : List Lx) (wp zp : Int32) (b : Nat) (ls fr : Int32) (sz : Nat) : Prop :=
  match r with
  | .inl p => wp = nI p ∧ RP L ∧ sz = L.length
  | .inr (b', S) => wp = zp ∧ b = b' ∧ RP S ∧ sz = S.length ∧ ls = nI (lnO c b') ∧ fr = b01 (ldO S (lnO c b')) ∧ hdW S b'
def nxS (r : Nat ⊕ (Nat × List Lx)) (L : List Lx) : List Lx := match r with | .inl _ => L | .inr (_, S) => S
def wpO (x : Option Nat × List Lx) : Int32 := match x.1 with | none => -1 | some p => nI p
theorem pkO_1 (h : k = 1) : nmL c a (e - a) = pkO c k a e := by unfold pkO; rw [if_pos h]
theorem pkO_n (h : ¬ k = 1) : pkL c a (e - a) = pkO c k a e := by unfold pkO; rw [if_neg h]
theorem tk_fin {kd : Nat → Int32} {vl : Nat → Int64} {wh col ld : Nat → Int32} {v : Int64} (h : Rp kd vl wh col ld L) (hn : n = L.length) (hz : zs = nI (lnO c a)) (hf : zf = b01 (ldO L (lnO c a))) (hv : v = pkO c k a e) (ha : a ≤ 240) : Rp (upd kd n k) (vp_updL vl n v) (upd wh n (nI a)) (upd col n (nI a - zs + 1)) (upd ld n zf) (lxO k (pkO c k a e) c a L :: L) := by
  rw [col_e hz (lnO_le c a)]
  exact Rp_fin h hn rfl rfl rfl rfl rfl hf hv ha
theorem rn_10 (h : k = 0 ∨ k = 1 ∨ k = 2) : rnB k 10 = false := by
  rcases h with e | e | e <;> rw [e] <;> decide +kernel
theorem en_ln (h : a < n) (hb : ¬ c a = 10) : lnO c (enO c n k a) = lnO c a := by
  refine lnO_run _ (by have := enO_in (c := c) (k := k) h; omega) (fun i h1 h2 => ?_)
  by_cases q : i = a
  · rw [q]; exact hb
  · unfold enO at h2
    by_cases z : k = 0 ∨ k = 1 ∨ k = 2
    · rw [if_pos z] at h2
      have t := (scE_in (P := rnB k) (c := c) (n := n) _ (a + 1) rfl (by omega)).2.2 i (by omega) h2
      intro w
      rw [w, rn_10 z] at t; cases t
    · rw [if_neg z] at h2; omega
theorem ds_ln (h : a ≤ e) (he : e ≤ n) (d : dshO c a e = true) : lnO c (scE (fun x => !(x == 10)) c n e) = lnO c a := by
  have t := scE_in (P := fun x => !(x == 10)) (c := c) (n := n) _ e rfl he
  refine lnO_run _ (by omega) (fun i h1 h2 => ?_)
  by_cases q : i < e
  · unfold dshO at d
    rw [Bool.and_eq_true] at d
    have g := al_at (c := c) (a := a) (e - a) d.2 (i - a) (by omega)
    rw [show a + (i - a) = i by omega] at g
    rw [g]; decide
  · have g := t.2.2 i (by omega) h2
    simpa using g
theorem st_d2 (h : ¬ (c a = 32 ∨ c a = 10)) (o : opC c n a = false) (q : kdO (c a) = 2) (d : dshO c a (enO c n 2 a) = true) : stp c n a R = .inr (scE (fun x => !(x == 10)) c n (enO c n 2 a), R) := by
  unfold stp; rw [if_neg h, if_neg (by rw [o]; decide), if_pos ⟨q, d⟩]
theorem st_x (h : ¬ (c a = 32 ∨ c a = 10)) (o : opC c n a = false) (nd : ¬ (kdO (c a) = 2 ∧ dshO c a (enO c n 2 a) = true)) (w : kdO (c a) = -1 ∨ lngO (kdO (c a)) < enO c n (kdO (c a)) a - a ∨ R.length = 90) : stp c n a R = .inl a := by
  unfold stp; rw [if_neg h, if_neg (by rw [o]; decide), if_neg nd, if_pos w]
theorem st_t (h : ¬ (c a = 32 ∨ c a = 10)) (o : opC c n a = false) (nd : ¬ (kdO (c a) = 2 ∧ dshO c a (enO c n 2 a) = true)) (w : ¬ (kdO (c a) = -1 ∨ lngO (kdO (c a)) < enO c n (kdO (c a)) a - a ∨ R.length = 90)) : stp c n a R = .inr (enO c n (kdO (c a)) a, lxO (kdO (c a)) (pkO c (kdO (c a)) a (enO c n (kdO (c a)) a)) c a R :: R) := by
  unfold stp; rw [if_neg h, if_neg (by rw [o]; decide), if_neg nd, if_neg w]
theorem stp_inl {p : Nat} (e : stp c n a R = .inl p) : p = a := by
  unfold stp at e
  split at e
  · cases e
  · split at e
    · cases hn : nsE c n 0 a with
      | none => rw [hn] at e; cases e; rfl
      | some z => rw [hn] at e; cases e
    · split at e
      · cases e
      · split at e
        · cases e; rfl
        · cases e
/-- what cutLexeme leaves: a comment, a wrong place, a lexeme -/
theorem cl_d (h : a < n) (hb : ¬ (c a = 32 ∨ c a = 10)) (o : opC c n a = false) (q : kdO (c a) = 2) (he : e = enO c n (kdO (c a)) a) (d : dshO c a e = true) (hR : RP R) (hs : sz = R.length) (hl : ls = nI (lnO c a)) (hf : fr = b01 (ldO R (lnO c a))) (hw : hdW R a) (hb' : b = scE (fun x => !(x == 10)) c n e) : stQ (stp c n a R) c RP R zp zp b ls fr sz := by
  rw [q] at he
  rw [he] at d
  have en := enO_in (c := c) (k := 2) h
  rw [st_d2 hb o q d]
  have t := scE_in (P := fun x => !(x == 10)) (c := c) (n := n) _ _ rfl en.2
  have g := ds_ln (Nat.le_of_lt en.1) en.2 d
  rw [he] at hb'
  exact ⟨rfl, hb', hR, hs, by rw [g]; exact hl, by rw [g]; exact hf, hw.mono (by omega)⟩
theorem cl_x (hb : ¬ (c a = 32 ∨ c a = 10)) (o : opC c n a = false) (nd : ¬ (kdO (c a) = 2 ∧ dshO c a (enO c n 2 a) = true)) (w : kdO (c a) = -1 ∨ lngO (kdO (c a)) < enO c n (kdO (c a)) a - a ∨ R.length = 90) (hR : RP R) (hs : sz = R.length) : stQ (stp c n a R) c RP R (nI a) zp b ls fr sz := by
  rw [st_x hb o nd w]
  exact ⟨rfl, hR, hs⟩
theorem cl_t (h : a < n) (hb : ¬ (c a = 32 ∨ c a = 10)) (o : opC c n a = false) (nd : ¬ (kdO (c a) = 2 ∧ dshO c a (enO c n 2 a) = true)) (w : ¬ (kdO (c a) = -1 ∨ lngO (kdO (c a)) < enO c n (kdO (c a)) a - a ∨ R.length = 90)) (he : e = enO c n (kdO (c a)) a) (hR : RP (lxO (kdO (c a)) (pkO c (kdO (c a)) a e) c a R :: R)) (hs : sz = R.length + 1) (hl : ls = nI (lnO c a)) : stQ (stp c n a R) c RP R zp zp e ls 0 sz := by
  rw [st_t hb o nd w]
  have en := enO_in (c := c) (k := kdO (c a)) h
  have g := en_ln (k := kdO (c a)) h (fun z => hb (Or.inr z))
  rw [he] at hR ⊢
  refine ⟨rfl, rfl, hR, hs, by rw [g]; exact hl, ?_, fun x hx => ?_⟩
  · rw [g]
    show (0 : Int32) = b01 (decide (lxW (lxO _ _ c a R) < lnO c a))
    rw [decide_eq_false (show ¬ lxW (lxO (kdO (c a)) (pkO c (kdO (c a)) a (enO c n (kdO (c a)) a)) c a R) < lnO c a from Nat.not_lt.mpr (lnO_le c a))]; rfl
  · cases hx; exact en.1
theorem nd_1 (h : ¬ kdO (c a) = 2) : ¬ (kdO (c a) = 2 ∧ dshO c a (enO c n 2 a) = true) := fun z => h z.1
theorem nd_2 (he : e = enO c n (kdO (c a)) a) (d : dshO c a e = false) : ¬ (kdO (c a) = 2 ∧ dshO c a (enO c n 2 a) = true) := fun z => by
  rw [z.1] at he
  rw [he, z.2] at d; cases d
/-- a blank, and a comment -/
theorem bl_q (h : c a = 32 ∨ c a = 10) (hR : RP R) (hs : sz = R.length) (hl : zs = nI (lnO c a)) (hf : zf = b01 (ldO R (lnO c a))) (hw : hdW R a) : stQ (stp c n a R) c RP R zp zp (a + 1) (if c a = 10 then nI (a + 1) else zs) (if c a = 10 then 1 else zf) sz := by
  rw [st_b h]
  exact ⟨rfl, rfl, hR, hs, ln_ch hl, fr_ch hf hw, hw.mono (Nat.le_succ _)⟩
theorem cm_q (hb : ¬ (c a = 32 ∨ c a = 10)) (o : opC c n a = true) (hR : RP R) (hs : sz = R.length) (q0 : nsE c n 0 a = none → wp = nI a) (q1 : ∀ b', nsE c n 0 a = some b' → (b = b' ∧ wp = zp)) (hl : ls = nI (lnO c b)) (hf : fr = b01 (ldO R (lnO c b))) (hw : hdW R b) : stQ (stp c n a R) c RP R wp zp b ls fr sz := by
  cases hn : nsE c n 0 a with
  | none => rw [st_cn hb o hn]; exact ⟨q0 hn, hR, hs⟩
  | some z =>
    rw [st_cs hb o hn]
    obtain ⟨e1, e2⟩ := q1 z hn
    subst e1
    exact ⟨e2, rfl, hR, hs, hl, hf, hw⟩
theorem nI_n1 {p : Nat} (h : p ≤ 600) : ¬ nI p = (-1 : Int32) := by
  intro e
  have h1 := congrArg Int32.toInt e
  rw [nI_toInt (by omega), show (-1 : Int32).toInt = -1 by decide] at h1
  omega
theorem cu_step {j : Nat} (h : a < n) (hn : n ≤ 240) (hX : X = cuE c n a L) (hz : zp = -1) (q : stQ (stp c n a L) c RP L wp zp b ls fr sz) (hk : j ≤ a) :
    RP (nxS (stp c n a L) L) ∧ sz = (nxS (stp c n a L) L).length ∧ (wp = -1 → (X = cuE c n b (nxS (stp c n a L) L) ∧ ls = nI (lnO c b) ∧ fr = b01 (ldO (nxS (stp c n a L) L) (lnO c b)) ∧ hdW (nxS (stp c n a L) L) b ∧ j + 1 ≤ b)) ∧ (¬ wp = -1 → ∃ p, p ≤ 240 ∧ X = (some p, nxS (stp c n a L) L) ∧ wp = nI p) := by
  cases hs : stp c n a L with
  | inl p =>
    rw [hs] at q
    obtain ⟨q1, q2, q3⟩ := q
    have hp := stp_inl hs
    refine ⟨q2, q3, fun z => absurd (q1.symm.trans z) (nI_n1 (by omega)), fun _ => ⟨p, by omega, hX.trans (cuE_stop h hs), q1⟩⟩
  | inr x =>
    obtain ⟨b', S⟩ := x
    rw [hs] at q
    obtain ⟨q1, q2, q3, q4, q5, q6, q7⟩ := q
    have hin := stp_in h hs
    subst q2
    exact ⟨q3, q4, fun _ => ⟨hX.trans (cuE_go h hs), q5, q6, q7, by omega⟩, fun z => absurd (q1.trans hz) z⟩
theorem b01_any {b : Bool} : b01 b = 0 ∨ b01 b = 1 := by
  cases b
  · exact Or.inl rfl
  · exact Or.inr rfl
theorem cu_fin {j : Nat} (hG : wp = -1 → (X = cuE c n a L ∧ ls = nI (lnO c a) ∧ fr = b01 (ldO L (lnO c a)) ∧ hdW L a ∧ j ≤ a)) (hW : ¬ wp = -1 → ∃ p, p ≤ 240 ∧ X = (some p, L) ∧ wp = nI p) (h : wp = -1 → j ≤ a → n ≤ a) : wp = wpO X ∧ L = X.2 := by
  by_cases z : wp = -1
  · obtain ⟨e1, -, -, -, e5⟩ := hG z
    rw [e1, cuE_end (Nat.not_lt.mpr (h z e5))]
    exact ⟨z, rfl⟩
  · obtain ⟨p, -, e1, e2⟩ := hW z
    rw [e1]
    exact ⟨e2, rfl⟩
end CUT
theorem kd_dig {x : Int32} (h : kdO x = 1) : ¬ wi x 48 57 = 0 := by
  intro z
  unfold kdO at h
  by_cases a : lt_ x = 0
  · rw [if_neg (fun w => w a), if_neg (fun w => w z)] at h
    by_cases b : op_ x = 0
    · rw [if_neg (fun w => w b)] at h
      by_cases d : sg_ x = 0
      · rw [if_neg (fun w => w d)] at h; exact absurd h (by decide)
      · rw [if_pos d] at h; exact absurd h (by decide)
    · rw [if_pos b] at h; exact absurd h (by decide)
  · rw [if_pos a] at h; exact absurd h (by decide)
theorem en_dig {c : Nat → Int32} {n a j : Nat} (h : a < n) (hk : kdO (c a) = 1) (hj : j < enO c n (kdO (c a)) a) (ha : a ≤ j) : ¬ wi (c j) 48 57 = 0 := by
  rw [hk] at hj
  by_cases q : j = a
  · rw [q]; exact kd_dig hk
  · unfold enO at hj
    rw [if_pos (Or.inr (Or.inl rfl))] at hj
    have t := (scE_in (P := rnB 1) (c := c) (n := n) _ (a + 1) rfl (by omega)).2.2 j (by omega) hj
    exact of_decide_eq_true t
theorem lng_le (k : Int32) : lngO k ≤ 9 := by
  unfold lngO; split <;> omega
theorem en_7 {k : Int32} {x : Nat} (hk : ¬ k = 1) (h : x ≤ lngO k) : x ≤ 8 := by
  rw [lg_7 hk] at h; omega
set_option maxHeartbeats 4000000 in
set_option maxRecDepth 100000 in
theorem s_Tokens_add6 (l : Launch) (dC : Nat → ClassId) (dI : Nat → Nat → Nat) (sz : Nat) (cap : Nat) (a_t : Nat) (a_kinds : Nat) (f_kinds : Nat → Int32) (a_values : Nat) (f_values : Nat → Int64) (n_size : Nat) (y0 : Int32) (y1 : Int64) (ka_kinds : ClassId) (ka_values : ClassId) (bcap : cap ≤ 600) (b_size : n_size ≤ cap) (hp0 : n_size < cap) : Met l y_Tokens_add w_Tokens_add ({ frames := 0, cells := 0, slots := 0, locals := 0 }) (va_Pc [.ref a_t, .int y0, .long y1] (fun U => U.heap.size = sz ∧ va_P (dC, dI) vcl [(a_t, .inr (11, [.ref a_kinds, .ref a_values, .int (nI n_size)])), (a_kinds, .inl (ka_kinds, cap, .inl f_kinds)), (a_values, .inl (ka_values, cap, .inr (.inl f_values)))] U.heap ∧ va_K (dC, dI) vcl [(ka_kinds, .int), (ka_values, .long)] U ∧ va_D (fun _ => True) [(a_t, .inr (11, [.ref a_kinds, .ref a_values, .int (nI n_size)])), (a_kinds, .inl (ka_kinds, cap, .inl f_kinds)), (a_values, .inl (ka_values, cap, .inr (.inl f_values)))])) (va_Qv (fun (_ : Unit) => True) (fun _ t => ∃ (w_n_size : Nat) (w_f_kinds : Nat → Int32) (w_f_values : Nat → Int64), (w_n_size ≤ cap) ∧ (w_n_size = n_size + 1) ∧ (w_f_kinds = upd f_kinds n_size y0) ∧ (w_f_values = vp_updL f_values n_size y1) ∧ va_P (dC, dI) vcl [(a_t, .inr (11, [.ref a_kinds, .ref a_values, .int (nI w_n_size)])), (a_kinds, .inl (ka_kinds, cap, .inl w_f_kinds)), (a_values, .inl (ka_values, cap, .inr (.inl w_f_values)))] t.heap ∧ va_K (dC, dI) vcl [(ka_kinds, .int), (ka_values, .long)] t ∧ va_D (va_A [(a_t, .inr (11, [.ref a_kinds, .ref a_values, .int (nI n_size)])), (a_kinds, .inl (ka_kinds, cap, .inl f_kinds)), (a_values, .inl (ka_values, cap, .inr (.inl f_values)))] sz) [(a_t, .inr (11, [.ref a_kinds, .ref a_values, .int (nI w_n_size)])), (a_kinds, .inl (ka_kinds, cap, .inl w_f_kinds)), (a_values, .inl (ka_values, cap, .inr (.inl w_f_values)))]) (va_A [(a_t, .inr (11, [.ref a_kinds, .ref a_values, .int (nI n_size)])), (a_kinds, .inl (ka_kinds, cap, .inl f_kinds)), (a_values, .inl (ka_values, cap, .inr (.inl f_values)))] sz)) 0 0 (va_A [(a_t, .inr (11, [.ref a_kinds, .ref a_values, .int (nI n_size)])), (a_kinds, .inl (ka_kinds, cap, .inl f_kinds)), (a_values, .inl (ka_values, cap, .inr (.inl f_values)))] sz) := by
  refine Met.ofW (cc := b_Tokens_add) (maxL := 4) (ret := none) (by decide) rfl ?_
  intro p e s m args below meth c s₁ B hml hv
  obtain ⟨rfl, hsz, hP, hK, hD0⟩ := hv
  have hx := B.exec
  have hb := B.bytes
  have hr := B.returns
  have hts := atoms_spec (ws := w_Tokens_add) B.pre
  have hz : ∀ w ∈ wz, w.before _ s = true := fun w h => hts w (List.mem_cons_of_mem _ h)
  have hown : s.vm.findClass R_Tokens = some m.cls := findClass_of_methodNamed B.named
  have hlocks := B.notSynchronized
  subst hsz
  have hD := hD0.self (sz := s.heap.size)
  generalize hAe : va_A [(a_t, .inr (11, [.ref a_kinds, .ref a_values, .int (nI n_size)])), (a_kinds, .inl (ka_kinds, cap, .inl f_kinds)), (a_values, .inl (ka_values, cap, .inr (.inl f_values)))] s.heap.size = A at hD ⊢
  have hA : ∀ q : Nat, s.heap.size ≤ q → A q := fun q h => by rw [← hAe]; exact Or.inr h
  have hS : va_S A s.heap s.heap [] := va_S.rf
  have hP : va_P (dC, dI) vcl [(a_t, .inr (11, [.ref a_kinds, .ref a_values, .int (nI n_size)])), (a_kinds, .inl (ka_kinds, cap, .inl f_kinds)), (a_values, .inl (ka_values, cap, .inr (.inl f_values)))] s.heap := hP
  have hl := lv_entry ([.ref a_t, .int y0, .long y1]) (n := 4) (Nat.le_of_ble_eq_true rfl)
  rw [lg_entry_eq]
  generalize (lg_sl ([.ref a_t, .int y0, .long y1]) ++ List.replicate (4 - (lg_sl ([.ref a_t, .int y0, .long y1])).length) Slot.unset).toArray = ls at hl ⊢
  have hl : lv_has ls 4 [(0, .ref a_t), (1, .int y0), (2, .long y1)] := hl
  refine lv_aload_n hx hb d_Tokens_add_0 rfl (lv_at hl 0 rfl) ?_
  refine va_get (D := (dC, dI)) (ci := 11) (v := .int (nI n_size)) (C := R_Tokens) (T := F_Tokens) (N := 3) hx hb hz zu_Tokens hown hK hP 0 rfl rfl 2 (by decide) (hz (.fieldLink R_Tokens 19 "LayoutFront$Tokens" "size" "I") zm_31) (fun _ h9 => h9) rfl d_Tokens_add_1 ?_
  refine lv_aload_n hx hb d_Tokens_add_4 rfl (lv_at hl 0 rfl) ?_
  refine va_get (D := (dC, dI)) (ci := 11) (v := .ref a_kinds) (C := R_Tokens) (T := F_Tokens) (N := 3) hx hb hz zu_Tokens hown hK hP 0 rfl rfl 0 (by decide) (hz (.fieldLink R_Tokens 9 "LayoutFront$Tokens" "kinds" "[I") zm_28) (fun _ h9 => h9) rfl d_Tokens_add_5 ?_
  refine va_alen (v := (nI cap)) hx hb hK hP 1 0 rfl rfl rfl d_Tokens_add_8 ?_
  refine lv_icmp_ge (tgt := 42) hx hb d_Tokens_add_9 (by decide) (fun h1 => ?_) (fun h1 => ?_)
  · have h1 : cap ≤ n_size := (nI_leI (a := cap) (b := n_size) (by omega) (by omega)).mp h1
    (exfalso; omega)
  · have h1 : ¬ cap ≤ n_size := fun q => h1 ((nI_leI (a := cap) (b := n_size) (by omega) (by omega)).mpr q)
    refine lv_aload_n hx hb d_Tokens_add_12 rfl (lv_at hl 0 rfl) ?_
    refine va_get (D := (dC, dI)) (ci := 11) (v := .ref a_kinds) (C := R_Tokens) (T := F_Tokens) (N := 3) hx hb hz zu_Tokens hown hK hP 0 rfl rfl 0 (by decide) (hz (.fieldLink R_Tokens 9 "LayoutFront$Tokens" "kinds" "[I") zm_28) (fun _ h9 => h9) rfl d_Tokens_add_13 ?_
    refine lv_aload_n hx hb d_Tokens_add_16 rfl (lv_at hl 0 rfl) ?_
    refine va_get (D := (dC, dI)) (ci := 11) (v := .int (nI n_size)) (C := R_Tokens) (T := F_Tokens) (N := 3) hx hb hz zu_Tokens hown hK hP 0 rfl rfl 2 (by decide) (hz (.fieldLink R_Tokens 19 "LayoutFront$Tokens" "size" "I") zm_31) (fun _ h9 => h9) rfl d_Tokens_add_17 ?_
    refine lv_iload_n hx hb d_Tokens_add_20 rfl (lv_at hl 1 rfl) ?_
    refine va_iast hx hb hK hP hD hS 1 0 rfl rfl (vp_in_nI (by omega) (by omega)) d_Tokens_add_21 (fun H locs hP hD hS => ?_)
    rw [show ((nI n_size) : Int32).toNatClampNeg = n_size from nI_clamp (by omega)] at hP hD
    have hP : va_P (dC, dI) vcl [(a_t, .inr (11, [.ref a_kinds, .ref a_values, .int (nI n_size)])), (a_kinds, .inl (ka_kinds, cap, .inl (upd f_kinds n_size y0))), (a_values, .inl (ka_values, cap, .inr (.inl f_values)))] H := hP
    have hD : va_D A [(a_t, .inr (11, [.ref a_kinds, .ref a_values, .int (nI n_size)])), (a_kinds, .inl (ka_kinds, cap, .inl (upd f_kinds n_size y0))), (a_values, .inl (ka_values, cap, .inr (.inl f_values)))] := hD
    refine lv_aload_n hx hb d_Tokens_add_22 rfl (lv_at hl 0 rfl) ?_
    refine va_get (D := (dC, dI)) (ci := 11) (v := .ref a_values) (C := R_Tokens) (T := F_Tokens) (N := 3) hx hb hz zu_Tokens hown hK hP 0 rfl rfl 1 (by decide) (hz (.fieldLink R_Tokens 15 "LayoutFront$Tokens" "values" "[J") zm_29) (fun _ h9 => h9) rfl d_Tokens_add_23 ?_
    refine lv_aload_n hx hb d_Tokens_add_26 rfl (lv_at hl 0 rfl) ?_
    refine va_get (D := (dC, dI)) (ci := 11) (v := .int (nI n_size)) (C := R_Tokens) (T := F_Tokens) (N := 3) hx hb hz zu_Tokens hown hK hP 0 rfl rfl 2 (by decide) (hz (.fieldLink R_Tokens 19 "LayoutFront$Tokens" "size" "I") zm_31) (fun _ h9 => h9) rfl d_Tokens_add_27 ?_
    refine lv_lload_n hx hb d_Tokens_add_30 rfl (lv_at hl 2 rfl) ?_
    refine va_last hx hb hK hP hD hS 2 1 rfl rfl (vp_in_nI (by omega) (by omega)) d_Tokens_add_31 (fun H locs hP hD hS => ?_)
    rw [show ((nI n_size) : Int32).toNatClampNeg = n_size from nI_clamp (by omega)] at hP hD
    have hP : va_P (dC, dI) vcl [(a_t, .inr (11, [.ref a_kinds, .ref a_values, .int (nI n_size)])), (a_kinds, .inl (ka_kinds, cap, .inl (upd f_kinds n_size y0))), (a_values, .inl (ka_values, cap, .inr (.inl (vp_updL f_values n_size y1))))] H := hP
    have hD : va_D A [(a_t, .inr (11, [.ref a_kinds, .ref a_values, .int (nI n_size)])), (a_kinds, .inl (ka_kinds, cap, .inl (upd f_kinds n_size y0))), (a_values, .inl (ka_values, cap, .inr (.inl (vp_updL f_values n_size y1))))] := hD
    refine lv_aload_n hx hb d_Tokens_add_32 rfl (lv_at hl 0 rfl) ?_
    refine lv_dup hx hb d_Tokens_add_33 rfl ?_
    refine va_get (D := (dC, dI)) (ci := 11) (v := .int (nI n_size)) (C := R_Tokens) (T := F_Tokens) (N := 3) hx hb hz zu_Tokens hown hK hP 0 rfl rfl 2 (by decide) (hz (.fieldLink R_Tokens 19 "LayoutFront$Tokens" "size" "I") zm_31) (fun _ h9 => h9) rfl d_Tokens_add_34 ?_
    refine lv_iconst (v := 1) hx hb d_Tokens_add_37 (by decide) ?_
    refine xr_iadd (v := (nI (n_size + 1))) hx hb d_Tokens_add_38 (nI_add n_size 1) ?_
    refine va_put (D := (dC, dI)) (ci := 11) (v := .int (nI (n_size + 1))) (ty := .int) (C := R_Tokens) (T := F_Tokens) (N := 3) hx hb hz zu_Tokens t_Tokens t_Tokens_ok n_Tokens hown hK hP hD hS 0 rfl rfl 2 (by decide) (hz (.fieldLink R_Tokens 19 "LayoutFront$Tokens" "size" "I") zm_31) (fun _ h9 => h9) rfl (by decide +kernel) rfl rfl (Nat.le_of_ble_eq_true rfl) d_Tokens_add_39 (fun H locs hP hD hS => ?_)
    have hP : va_P (dC, dI) vcl [(a_t, .inr (11, [.ref a_kinds, .ref a_values, .int (nI (n_size + 1))])), (a_kinds, .inl (ka_kinds, cap, .inl (upd f_kinds n_size y0))), (a_values, .inl (ka_values, cap, .inr (.inl (vp_updL f_values n_size y1))))] H := hP
    have hD : va_D A [(a_t, .inr (11, [.ref a_kinds, .ref a_values, .int (nI (n_size + 1))])), (a_kinds, .inl (ka_kinds, cap, .inl (upd f_kinds n_size y0))), (a_values, .inl (ka_values, cap, .inr (.inl (vp_updL f_values n_size y1))))] := hD
    have hP9 := hP.sub (ws' := [(a_t, .inr (11, [.ref a_kinds, .ref a_values, .int (nI (n_size + 1))])), (a_kinds, .inl (ka_kinds, cap, .inl (upd f_kinds n_size y0))), (a_values, .inl (ka_values, cap, .inr (.inl (vp_updL f_values n_size y1))))]) [0, 1, 2] rfl
    have hD9 := hD.sub (ws' := [(a_t, .inr (11, [.ref a_kinds, .ref a_values, .int (nI (n_size + 1))])), (a_kinds, .inl (ka_kinds, cap, .inl (upd f_kinds n_size y0))), (a_values, .inl (ka_values, cap, .inr (.inl (vp_updL f_values n_size y1))))]) [0, 1, 2] (by decide) rfl
    exact W.vret hx hb hr (fun t ht hW => ⟨⟨(), rfl, trivial, ((n_size + 1)), ((upd f_kinds n_size y0)), ((vp_updL f_values n_size y1)), by first | rfl | omega, by first | rfl | omega, by first | rfl | omega, by first | rfl | omega, by rw [ht]; exact hP9, va_K.moved hW.alike hK, hD9⟩, hS.F ht⟩) hS.2.2 d_Tokens_add_42
set_option maxHeartbeats 4000000 in
set_option maxRecDepth 100000 in
theorem s_Tokens_clear6 (l : Launch) (dC : Nat → ClassId) (dI : Nat → Nat → Nat) (sz : Nat) (cap : Nat) (a_t : Nat) (a_kinds : Nat) (a_values : Nat) (n_size : Nat) (bcap : cap ≤ 600) (b_size : n_size ≤ cap) : Met l y_Tokens_clear w_Tokens_clear ({ frames := 0, cells := 0, slots := 0, locals := 0 }) (va_Pc [.ref a_t] (fun U => U.heap.size = sz ∧ va_P (dC, dI) vcl [(a_t, .inr (11, [.ref a_kinds, .ref a_values, .int (nI n_size)]))] U.heap ∧ va_K (dC, dI) vcl [] U ∧ va_D (fun _ => True) [(a_t, .inr (11, [.ref a_kinds, .ref a_values, .int (nI n_size)]))])) (va_Qv (fun (_ : Unit) => True) (fun _ t => ∃ (w_n_size : Nat), (w_n_size ≤ cap) ∧ (w_n_size = 0) ∧ va_P (dC, dI) vcl [(a_t, .inr (11, [.ref a_kinds, .ref a_values, .int (nI w_n_size)]))] t.heap ∧ va_K (dC, dI) vcl [] t ∧ va_D (va_A [(a_t, .inr (11, [.ref a_kinds, .ref a_values, .int (nI n_size)]))] sz) [(a_t, .inr (11, [.ref a_kinds, .ref a_values, .int (nI w_n_size)]))]) (va_A [(a_t, .inr (11, [.ref a_kinds, .ref a_values, .int (nI n_size)]))] sz)) 0 0 (va_A [(a_t, .inr (11, [.ref a_kinds, .ref a_values, .int (nI n_size)]))] sz) := by
  refine Met.ofW (cc := b_Tokens_clear) (maxL := 1) (ret := none) (by decide) rfl ?_
  intro p e s m args below meth c s₁ B hml hv
  obtain ⟨rfl, hsz, hP, hK, hD0⟩ := hv
  have hx := B.exec
  have hb := B.bytes
  have hr := B.returns
  have hts := atoms_spec (ws := w_Tokens_clear) B.pre
  have hz : ∀ w ∈ wz, w.before _ s = true := fun w h => hts w (List.mem_cons_of_mem _ h)
  have hown : s.vm.findClass R_Tokens = some m.cls := findClass_of_methodNamed B.named
  have hlocks := B.notSynchronized
  subst hsz
  have hD := hD0.self (sz := s.heap.size)
  generalize hAe : va_A [(a_t, .inr (11, [.ref a_kinds, .ref a_values, .int (nI n_size)]))] s.heap.size = A at hD ⊢
  have hA : ∀ q : Nat, s.heap.size ≤ q → A q := fun q h => by rw [← hAe]; exact Or.inr h
  have hS : va_S A s.heap s.heap [] := va_S.rf
  have hP : va_P (dC, dI) vcl [(a_t, .inr (11, [.ref a_kinds, .ref a_values, .int (nI n_size)]))] s.heap := hP
  have hl := lv_entry ([.ref a_t]) (n := 1) (Nat.le_of_ble_eq_true rfl)
  rw [lg_entry_eq]
  generalize (lg_sl ([.ref a_t]) ++ List.replicate (1 - (lg_sl ([.ref a_t])).length) Slot.unset).toArray = ls at hl ⊢
  have hl : lv_has ls 1 [(0, .ref a_t)] := hl
  refine lv_aload_n hx hb d_Tokens_clear_0 rfl (lv_at hl 0 rfl) ?_
  refine lv_iconst (v := 0) hx hb d_Tokens_clear_1 (by decide) ?_
  refine va_put (D := (dC, dI)) (ci := 11) (v := .int 0) (ty := .int) (C := R_Tokens) (T := F_Tokens) (N := 3) hx hb hz zu_Tokens t_Tokens t_Tokens_ok n_Tokens hown hK hP hD hS 0 rfl rfl 2 (by decide) (hz (.fieldLink R_Tokens 19 "LayoutFront$Tokens" "size" "I") zm_31) (fun _ h9 => h9) rfl (by decide +kernel) (by decide +kernel) rfl (Nat.le_of_ble_eq_true rfl) d_Tokens_clear_2 (fun H locs hP hD hS => ?_)
  have hP : va_P (dC, dI) vcl [(a_t, .inr (11, [.ref a_kinds, .ref a_values, .int 0]))] H := hP
  have hD : va_D A [(a_t, .inr (11, [.ref a_kinds, .ref a_values, .int 0]))] := hD
  have hP9 := hP.sub (ws' := [(a_t, .inr (11, [.ref a_kinds, .ref a_values, .int 0]))]) [0] rfl
  have hD9 := hD.sub (ws' := [(a_t, .inr (11, [.ref a_kinds, .ref a_values, .int 0]))]) [0] (by decide) rfl
  exact W.vret hx hb hr (fun t ht hW => ⟨⟨(), rfl, trivial, 0, by first | rfl | omega, by first | rfl | omega, by rw [ht]; exact hP9, va_K.moved hW.alike hK, hD9⟩, hS.F ht⟩) hS.2.2 d_Tokens_clear_5
set_option maxHeartbeats 4000000 in
set_option maxRecDepth 100000 in
theorem s_Lexemes_add6 (l : Launch) (dC : Nat → ClassId) (dI : Nat → Nat → Nat) (sz : Nat) (a_t : Nat) (a_tokens : Nat) (a_tokens_kinds : Nat) (f_tokens_kinds : Nat → Int32) (a_tokens_values : Nat) (f_tokens_values : Nat → Int64) (n_tokens_size : Nat) (a_places : Nat) (f_places : Nat → Int32) (a_columns : Nat) (f_columns : Nat → Int32) (a_lineFirsts : Nat) (f_lineFirsts : Nat → Int32) (y0 : Int32) (y1 : Int64) (y2 : Int32) (y3 : Int32) (y4 : Int32) (ka_tokens_kinds : ClassId) (ka_tokens_values : ClassId) (ka_places : ClassId) (ka_columns : ClassId) (ka_lineFirsts : ClassId) (b_tokens_size : n_tokens_size ≤ 90) (hp0 : n_tokens_size < 90) (hp1 : y4 = 0 ∨ y4 = 1) : Met l y_Lexemes_add w_Lexemes_add ({ frames := 1, cells := 0, slots := 0, locals := 23 }) (va_Pc [.ref a_t, .int y0, .long y1, .int y2, .int y3, .int y4] (fun U => U.heap.size = sz ∧ va_P (dC, dI) vcl [(a_t, .inr (5, [.ref a_tokens, .ref a_places, .ref a_columns, .ref a_lineFirsts])), (a_tokens, .inr (11, [.ref a_tokens_kinds, .ref a_tokens_values, .int (nI n_tokens_size)])), (a_tokens_kinds, .inl (ka_tokens_kinds, 90, .inl f_tokens_kinds)), (a_tokens_values, .inl (ka_tokens_values, 90, .inr (.inl f_tokens_values))), (a_places, .inl (ka_places, 90, .inl f_places)), (a_columns, .inl (ka_columns, 90, .inl f_columns)), (a_lineFirsts, .inl (ka_lineFirsts, 90, .inl f_lineFirsts))] U.heap ∧ va_K (dC, dI) vcl [(ka_tokens_kinds, .int), (ka_tokens_values, .long), (ka_places, .int), (ka_columns, .int), (ka_lineFirsts, .boolean)] U ∧ va_D (fun _ => True) [(a_t, .inr (5, [.ref a_tokens, .ref a_places, .ref a_columns, .ref a_lineFirsts])), (a_tokens, .inr (11, [.ref a_tokens_kinds, .ref a_tokens_values, .int (nI n_tokens_size)])), (a_tokens_kinds, .inl (ka_tokens_kinds, 90, .inl f_tokens_kinds)), (a_tokens_values, .inl (ka_tokens_values, 90, .inr (.inl f_tokens_values))), (a_places, .inl (ka_places, 90, .inl f_places)), (a_columns, .inl (ka_columns, 90, .inl f_columns)), (a_lineFirsts, .inl (ka_lineFirsts, 90, .inl f_lineFirsts))])) (va_Qv (fun (_ : Unit) => True) (fun _ t => ∃ (w_n_tokens_size : Nat) (w_f_tokens_kinds : Nat → Int32) (w_f_tokens_values : Nat → Int64) (w_f_places : Nat → Int32) (w_f_columns : Nat → Int32) (w_f_lineFirsts : Nat → Int32), (w_n_tokens_size ≤ 90) ∧ (w_n_tokens_size = n_tokens_size + 1) ∧ (w_f_tokens_kinds = upd f_tokens_kinds n_tokens_size y0) ∧ (w_f_tokens_values = vp_updL f_tokens_values n_tokens_size y1) ∧ (w_f_places = upd f_places n_tokens_size y2) ∧ (w_f_columns = upd f_columns n_tokens_size y3) ∧ (w_f_lineFirsts = upd f_lineFirsts n_tokens_size y4) ∧ va_P (dC, dI) vcl [(a_t, .inr (5, [.ref a_tokens, .ref a_places, .ref a_columns, .ref a_lineFirsts])), (a_tokens, .inr (11, [.ref a_tokens_kinds, .ref a_tokens_values, .int (nI w_n_tokens_size)])), (a_tokens_kinds, .inl (ka_tokens_kinds, 90, .inl w_f_tokens_kinds)), (a_tokens_values, .inl (ka_tokens_values, 90, .inr (.inl w_f_tokens_values))), (a_places, .inl (ka_places, 90, .inl w_f_places)), (a_columns, .inl (ka_columns, 90, .inl w_f_columns)), (a_lineFirsts, .inl (ka_lineFirsts, 90, .inl w_f_lineFirsts))] t.heap ∧ va_K (dC, dI) vcl [(ka_tokens_kinds, .int), (ka_tokens_values, .long), (ka_places, .int), (ka_columns, .int), (ka_lineFirsts, .boolean)] t ∧ va_D (va_A [(a_t, .inr (5, [.ref a_tokens, .ref a_places, .ref a_columns, .ref a_lineFirsts])), (a_tokens, .inr (11, [.ref a_tokens_kinds, .ref a_tokens_values, .int (nI n_tokens_size)])), (a_tokens_kinds, .inl (ka_tokens_kinds, 90, .inl f_tokens_kinds)), (a_tokens_values, .inl (ka_tokens_values, 90, .inr (.inl f_tokens_values))), (a_places, .inl (ka_places, 90, .inl f_places)), (a_columns, .inl (ka_columns, 90, .inl f_columns)), (a_lineFirsts, .inl (ka_lineFirsts, 90, .inl f_lineFirsts))] sz) [(a_t, .inr (5, [.ref a_tokens, .ref a_places, .ref a_columns, .ref a_lineFirsts])), (a_tokens, .inr (11, [.ref a_tokens_kinds, .ref a_tokens_values, .int (nI w_n_tokens_size)])), (a_tokens_kinds, .inl (ka_tokens_kinds, 90, .inl w_f_tokens_kinds)), (a_tokens_values, .inl (ka_tokens_values, 90, .inr (.inl w_f_tokens_values))), (a_places, .inl (ka_places, 90, .inl w_f_places)), (a_columns, .inl (ka_columns, 90, .inl w_f_columns)), (a_lineFirsts, .inl (ka_lineFirsts, 90, .inl w_f_lineFirsts))]) (va_A [(a_t, .inr (5, [.ref a_tokens, .ref a_places, .ref a_columns, .ref a_lineFirsts])), (a_tokens, .inr (11, [.ref a_tokens_kinds, .ref a_tokens_values, .int (nI n_tokens_size)])), (a_tokens_kinds, .inl (ka_tokens_kinds, 90, .inl f_tokens_kinds)), (a_tokens_values, .inl (ka_tokens_values, 90, .inr (.inl f_tokens_values))), (a_places, .inl (ka_places, 90, .inl f_places)), (a_columns, .inl (ka_columns, 90, .inl f_columns)), (a_lineFirsts, .inl (ka_lineFirsts, 90, .inl f_lineFirsts))] sz)) 0 0 (va_A [(a_t, .inr (5, [.ref a_tokens, .ref a_places, .ref a_columns, .ref a_lineFirsts])), (a_tokens, .inr (11, [.ref a_tokens_kinds, .ref a_tokens_values, .int (nI n_tokens_size)])), (a_tokens_kinds, .inl (ka_tokens_kinds, 90, .inl f_tokens_kinds)), (a_tokens_values, .inl (ka_tokens_values, 90, .inr (.inl f_tokens_values))), (a_places, .inl (ka_places, 90, .inl f_places)), (a_columns, .inl (ka_columns, 90, .inl f_columns)), (a_lineFirsts, .inl (ka_lineFirsts, 90, .inl f_lineFirsts))] sz) := by
  refine Met.ofW (cc := b_Lexemes_add) (maxL := 8) (ret := none) (by decide) rfl ?_
  intro p e s m args below meth c s₁ B hml hv
  obtain ⟨rfl, hsz, hP, hK, hD0⟩ := hv
  have hx := B.exec
  have hb := B.bytes
  have hr := B.returns
  have hts := atoms_spec (ws := w_Lexemes_add) B.pre
  have hz : ∀ w ∈ wz, w.before _ s = true := fun w h => hts w (List.mem_cons_of_mem _ h)
  have hown : s.vm.findClass R_Lexemes = some m.cls := findClass_of_methodNamed B.named
  have hlocks := B.notSynchronized
  subst hsz
  have hD := hD0.self (sz := s.heap.size)
  generalize hAe : va_A [(a_t, .inr (5, [.ref a_tokens, .ref a_places, .ref a_columns, .ref a_lineFirsts])), (a_tokens, .inr (11, [.ref a_tokens_kinds, .ref a_tokens_values, .int (nI n_tokens_size)])), (a_tokens_kinds, .inl (ka_tokens_kinds, 90, .inl f_tokens_kinds)), (a_tokens_values, .inl (ka_tokens_values, 90, .inr (.inl f_tokens_values))), (a_places, .inl (ka_places, 90, .inl f_places)), (a_columns, .inl (ka_columns, 90, .inl f_columns)), (a_lineFirsts, .inl (ka_lineFirsts, 90, .inl f_lineFirsts))] s.heap.size = A at hD ⊢
  have hA : ∀ q : Nat, s.heap.size ≤ q → A q := fun q h => by rw [← hAe]; exact Or.inr h
  have hS : va_S A s.heap s.heap [] := va_S.rf
  have hP : va_P (dC, dI) vcl [(a_t, .inr (5, [.ref a_tokens, .ref a_places, .ref a_columns, .ref a_lineFirsts])), (a_tokens, .inr (11, [.ref a_tokens_kinds, .ref a_tokens_values, .int (nI n_tokens_size)])), (a_tokens_kinds, .inl (ka_tokens_kinds, 90, .inl f_tokens_kinds)), (a_tokens_values, .inl (ka_tokens_values, 90, .inr (.inl f_tokens_values))), (a_places, .inl (ka_places, 90, .inl f_places)), (a_columns, .inl (ka_columns, 90, .inl f_columns)), (a_lineFirsts, .inl (ka_lineFirsts, 90, .inl f_lineFirsts))] s.heap := hP
  have hl := lv_entry ([.ref a_t, .int y0, .long y1, .int y2, .int y3, .int y4]) (n := 8) (Nat.le_of_ble_eq_true rfl)
  rw [lg_entry_eq]
  generalize (lg_sl ([.ref a_t, .int y0, .long y1, .int y2, .int y3, .int y4]) ++ List.replicate (8 - (lg_sl ([.ref a_t, .int y0, .long y1, .int y2, .int y3, .int y4])).length) Slot.unset).toArray = ls at hl ⊢
  have hl : lv_has ls 8 [(0, .ref a_t), (1, .int y0), (2, .long y1), (4, .int y2), (5, .int y3), (6, .int y4)] := hl
  refine lv_aload_n hx hb d_Lexemes_add_0 rfl (lv_at hl 0 rfl) ?_
  refine va_get (D := (dC, dI)) (ci := 5) (v := .ref a_tokens) (C := R_Lexemes) (T := F_Lexemes) (N := 4) hx hb hz zu_Lexemes hown hK hP 0 rfl rfl 0 (by decide) (hz (.fieldLink R_Lexemes 14 "LayoutFront$Lexemes" "tokens" "LLayoutFront$Tokens;") zm_53) (fun _ h9 => h9) rfl d_Lexemes_add_1 ?_
  have hPc := hP.sub (ws' := [(a_tokens, .inr (11, [.ref a_tokens_kinds, .ref a_tokens_values, .int (nI n_tokens_size)]))]) [1] rfl
  have hDc := hD.sub (ws' := [(a_tokens, .inr (11, [.ref a_tokens_kinds, .ref a_tokens_values, .int (nI n_tokens_size)]))]) [1] (by decide) rfl
  have hKc := hK.sub (tys' := []) [] rfl
  have hFc := va_free (wc := [(a_tokens, .inr (11, [.ref a_tokens_kinds, .ref a_tokens_values, .int (nI n_tokens_size)]))]) hD hS hA [1] rfl
  refine va_calli (va_runV (As := []) (rest := []) ⟨hx, hb, hml, hown, hz⟩ (s_Tokens_size l dC dI s.heap.size a_tokens a_tokens_kinds a_tokens_values n_tokens_size) (cwV 0 hz (zV zm_63 zm_64 zm_65 zm_35 zm_66) rfl rfl rfl (by decide +kernel) ⟨Nat.le_of_ble_eq_true rfl, Nat.le_of_ble_eq_true rfl⟩) ⟨fun a U g mk q => by obtain ⟨q0, q1, qP, qK, qD⟩ := q; exact ⟨q0, q1, qP, va_K.moved (u := U) (U := U.calling g mk a) (Vm.Alike.refl U.vm) qK, qD⟩, va_recv (q := (R_Tokens, F_Tokens, 3)) (q0 := 1) (ci := 11) hK hP rfl rfl, fun U hU hW => ⟨rfl, by rw [hU], by rw [hU]; exact hPc, va_K.moved hW.alike hKc, hDc.weaken (fun _ _ _ _ => trivial)⟩⟩ rfl rfl hl.1 rfl (lv_room (Nat.le_of_ble_eq_true rfl)) d_Lexemes_add_4 ⟨Nat.zero_le _, Nat.zero_le _⟩) hS (fun q _ h => hFc q h) hFc (fun r u t H1 locs ht hvm hw hB hz1 hk1 hS => ?_)
  obtain ⟨hP1, hK1, hD1⟩ := hB
  subst r
  rw [ht] at hP1
  obtain ⟨hP, hD⟩ := va_join (wr := [(a_t, .inr (5, [.ref a_tokens, .ref a_places, .ref a_columns, .ref a_lineFirsts])), (a_tokens_kinds, .inl (ka_tokens_kinds, 90, .inl f_tokens_kinds)), (a_tokens_values, .inl (ka_tokens_values, 90, .inr (.inl f_tokens_values))), (a_places, .inl (ka_places, 90, .inl f_places)), (a_columns, .inl (ka_columns, 90, .inl f_columns)), (a_lineFirsts, .inl (ka_lineFirsts, 90, .inl f_lineFirsts))]) (w1 := [(a_tokens, .inr (11, [.ref a_tokens_kinds, .ref a_tokens_values, .int (nI n_tokens_size)]))]) hP hD [1] [0, 2, 3, 4, 5, 6] rfl rfl (by decide) (by decide) hk1 hFc hP1 hD1
  generalize H1 = H at hP hS ⊢
  have hP : va_P (dC, dI) vcl [(a_t, .inr (5, [.ref a_tokens, .ref a_places, .ref a_columns, .ref a_lineFirsts])), (a_tokens_kinds, .inl (ka_tokens_kinds, 90, .inl f_tokens_kinds)), (a_tokens_values, .inl (ka_tokens_values, 90, .inr (.inl f_tokens_values))), (a_places, .inl (ka_places, 90, .inl f_places)), (a_columns, .inl (ka_columns, 90, .inl f_columns)), (a_lineFirsts, .inl (ka_lineFirsts, 90, .inl f_lineFirsts)), (a_tokens, .inr (11, [.ref a_tokens_kinds, .ref a_tokens_values, .int (nI n_tokens_size)]))] H := hP
  have hD : va_D A [(a_t, .inr (5, [.ref a_tokens, .ref a_places, .ref a_columns, .ref a_lineFirsts])), (a_tokens_kinds, .inl (ka_tokens_kinds, 90, .inl f_tokens_kinds)), (a_tokens_values, .inl (ka_tokens_values, 90, .inr (.inl f_tokens_values))), (a_places, .inl (ka_places, 90, .inl f_places)), (a_columns, .inl (ka_columns, 90, .inl f_columns)), (a_lineFirsts, .inl (ka_lineFirsts, 90, .inl f_lineFirsts)), (a_tokens, .inr (11, [.ref a_tokens_kinds, .ref a_tokens_values, .int (nI n_tokens_size)]))] := hD
  refine lv_istore hx hb d_Lexemes_add_7 hl (by decide) rfl (fun ls hl => ?_)
  have hl : lv_has ls 8 [(7, .int (nI n_tokens_size)), (0, .ref a_t), (1, .int y0), (2, .long y1), (4, .int y2), (5, .int y3), (6, .int y4)] := hl
  refine lv_iload hx hb d_Lexemes_add_9 (lv_at hl 0 rfl) ?_
  refine lv_bipush (v := 90) hx hb d_Lexemes_add_11 (by decide) ?_
  refine lv_icmp_ge (tgt := 52) hx hb d_Lexemes_add_13 (by decide) (fun h1 => ?_) (fun h1 => ?_)
  · have h1 : 90 ≤ n_tokens_size := (nI_leI (a := 90) (b := n_tokens_size) (by omega) (by omega)).mp h1
    (exfalso; omega)
  · have h1 : ¬ 90 ≤ n_tokens_size := fun q => h1 ((nI_leI (a := 90) (b := n_tokens_size) (by omega) (by omega)).mpr q)
    refine lv_aload_n hx hb d_Lexemes_add_16 rfl (lv_at hl 1 rfl) ?_
    refine va_get (D := (dC, dI)) (ci := 5) (v := .ref a_places) (C := R_Lexemes) (T := F_Lexemes) (N := 4) hx hb hz zu_Lexemes hown hK hP 0 rfl rfl 1 (by decide) (hz (.fieldLink R_Lexemes 20 "LayoutFront$Lexemes" "places" "[I") zm_54) (fun _ h9 => h9) rfl d_Lexemes_add_17 ?_
    refine lv_iload hx hb d_Lexemes_add_20 (lv_at hl 0 rfl) ?_
    refine lv_iload hx hb d_Lexemes_add_22 (lv_at hl 4 rfl) ?_
    refine va_iast hx hb hK hP hD hS 3 2 rfl rfl (vp_in_nI (by omega) (by omega)) d_Lexemes_add_24 (fun H locs hP hD hS => ?_)
    rw [show ((nI n_tokens_size) : Int32).toNatClampNeg = n_tokens_size from nI_clamp (by omega)] at hP hD
    have hP : va_P (dC, dI) vcl [(a_t, .inr (5, [.ref a_tokens, .ref a_places, .ref a_columns, .ref a_lineFirsts])), (a_tokens_kinds, .inl (ka_tokens_kinds, 90, .inl f_tokens_kinds)), (a_tokens_values, .inl (ka_tokens_values, 90, .inr (.inl f_tokens_values))), (a_places, .inl (ka_places, 90, .inl (upd f_places n_tokens_size y2))), (a_columns, .inl (ka_columns, 90, .inl f_columns)), (a_lineFirsts, .inl (ka_lineFirsts, 90, .inl f_lineFirsts)), (a_tokens, .inr (11, [.ref a_tokens_kinds, .ref a_tokens_values, .int (nI n_tokens_size)]))] H := hP
    have hD : va_D A [(a_t, .inr (5, [.ref a_tokens, .ref a_places, .ref a_columns, .ref a_lineFirsts])), (a_tokens_kinds, .inl (ka_tokens_kinds, 90, .inl f_tokens_kinds)), (a_tokens_values, .inl (ka_tokens_values, 90, .inr (.inl f_tokens_values))), (a_places, .inl (ka_places, 90, .inl (upd f_places n_tokens_size y2))), (a_columns, .inl (ka_columns, 90, .inl f_columns)), (a_lineFirsts, .inl (ka_lineFirsts, 90, .inl f_lineFirsts)), (a_tokens, .inr (11, [.ref a_tokens_kinds, .ref a_tokens_values, .int (nI n_tokens_size)]))] := hD
    refine lv_aload_n hx hb d_Lexemes_add_25 rfl (lv_at hl 1 rfl) ?_
    refine va_get (D := (dC, dI)) (ci := 5) (v := .ref a_columns) (C := R_Lexemes) (T := F_Lexemes) (N := 4) hx hb hz zu_Lexemes hown hK hP 0 rfl rfl 2 (by decide) (hz (.fieldLink R_Lexemes 24 "LayoutFront$Lexemes" "columns" "[I") zm_55) (fun _ h9 => h9) rfl d_Lexemes_add_26 ?_
    refine lv_iload hx hb d_Lexemes_add_29 (lv_at hl 0 rfl) ?_
    refine lv_iload hx hb d_Lexemes_add_31 (lv_at hl 5 rfl) ?_
    refine va_iast hx hb hK hP hD hS 4 3 rfl rfl (vp_in_nI (by omega) (by omega)) d_Lexemes_add_33 (fun H locs hP hD hS => ?_)
    rw [show ((nI n_tokens_size) : Int32).toNatClampNeg = n_tokens_size from nI_clamp (by omega)] at hP hD
    have hP : va_P (dC, dI) vcl [(a_t, .inr (5, [.ref a_tokens, .ref a_places, .ref a_columns, .ref a_lineFirsts])), (a_tokens_kinds, .inl (ka_tokens_kinds, 90, .inl f_tokens_kinds)), (a_tokens_values, .inl (ka_tokens_values, 90, .inr (.inl f_tokens_values))), (a_places, .inl (ka_places, 90, .inl (upd f_places n_tokens_size y2))), (a_columns, .inl (ka_columns, 90, .inl (upd f_columns n_tokens_size y3))), (a_lineFirsts, .inl (ka_lineFirsts, 90, .inl f_lineFirsts)), (a_tokens, .inr (11, [.ref a_tokens_kinds, .ref a_tokens_values, .int (nI n_tokens_size)]))] H := hP
    have hD : va_D A [(a_t, .inr (5, [.ref a_tokens, .ref a_places, .ref a_columns, .ref a_lineFirsts])), (a_tokens_kinds, .inl (ka_tokens_kinds, 90, .inl f_tokens_kinds)), (a_tokens_values, .inl (ka_tokens_values, 90, .inr (.inl f_tokens_values))), (a_places, .inl (ka_places, 90, .inl (upd f_places n_tokens_size y2))), (a_columns, .inl (ka_columns, 90, .inl (upd f_columns n_tokens_size y3))), (a_lineFirsts, .inl (ka_lineFirsts, 90, .inl f_lineFirsts)), (a_tokens, .inr (11, [.ref a_tokens_kinds, .ref a_tokens_values, .int (nI n_tokens_size)]))] := hD
    refine lv_aload_n hx hb d_Lexemes_add_34 rfl (lv_at hl 1 rfl) ?_
    refine va_get (D := (dC, dI)) (ci := 5) (v := .ref a_lineFirsts) (C := R_Lexemes) (T := F_Lexemes) (N := 4) hx hb hz zu_Lexemes hown hK hP 0 rfl rfl 3 (by decide) (hz (.fieldLink R_Lexemes 27 "LayoutFront$Lexemes" "lineFirsts" "[Z") zm_57) (fun _ h9 => h9) rfl d_Lexemes_add_35 ?_
    refine lv_iload hx hb d_Lexemes_add_38 (lv_at hl 0 rfl) ?_
    refine lv_iload hx hb d_Lexemes_add_40 (lv_at hl 6 rfl) ?_
    refine va_zast hx hb hK hP hD hS 5 4 rfl rfl (vp_in_nI (by omega) (by omega)) d_Lexemes_add_42 (fun H locs hP hD hS => ?_)
    rw [show ((nI n_tokens_size) : Int32).toNatClampNeg = n_tokens_size from nI_clamp (by omega)] at hP hD
    rw [show vp_nar .boolean y4 = y4 from by exact nar01 (by assumption)] at hP hD
    have hP : va_P (dC, dI) vcl [(a_t, .inr (5, [.ref a_tokens, .ref a_places, .ref a_columns, .ref a_lineFirsts])), (a_tokens_kinds, .inl (ka_tokens_kinds, 90, .inl f_tokens_kinds)), (a_tokens_values, .inl (ka_tokens_values, 90, .inr (.inl f_tokens_values))), (a_places, .inl (ka_places, 90, .inl (upd f_places n_tokens_size y2))), (a_columns, .inl (ka_columns, 90, .inl (upd f_columns n_tokens_size y3))), (a_lineFirsts, .inl (ka_lineFirsts, 90, .inl (upd f_lineFirsts n_tokens_size y4))), (a_tokens, .inr (11, [.ref a_tokens_kinds, .ref a_tokens_values, .int (nI n_tokens_size)]))] H := hP
    have hD : va_D A [(a_t, .inr (5, [.ref a_tokens, .ref a_places, .ref a_columns, .ref a_lineFirsts])), (a_tokens_kinds, .inl (ka_tokens_kinds, 90, .inl f_tokens_kinds)), (a_tokens_values, .inl (ka_tokens_values, 90, .inr (.inl f_tokens_values))), (a_places, .inl (ka_places, 90, .inl (upd f_places n_tokens_size y2))), (a_columns, .inl (ka_columns, 90, .inl (upd f_columns n_tokens_size y3))), (a_lineFirsts, .inl (ka_lineFirsts, 90, .inl (upd f_lineFirsts n_tokens_size y4))), (a_tokens, .inr (11, [.ref a_tokens_kinds, .ref a_tokens_values, .int (nI n_tokens_size)]))] := hD
    refine lv_aload_n hx hb d_Lexemes_add_43 rfl (lv_at hl 1 rfl) ?_
    refine va_get (D := (dC, dI)) (ci := 5) (v := .ref a_tokens) (C := R_Lexemes) (T := F_Lexemes) (N := 4) hx hb hz zu_Lexemes hown hK hP 0 rfl rfl 0 (by decide) (hz (.fieldLink R_Lexemes 14 "LayoutFront$Lexemes" "tokens" "LLayoutFront$Tokens;") zm_53) (fun _ h9 => h9) rfl d_Lexemes_add_44 ?_
    refine lv_iload_n hx hb d_Lexemes_add_47 rfl (lv_at hl 2 rfl) ?_
    refine lv_lload_n hx hb d_Lexemes_add_48 rfl (lv_at hl 3 rfl) ?_
    have hPc := hP.sub (ws' := [(a_tokens, .inr (11, [.ref a_tokens_kinds, .ref a_tokens_values, .int (nI n_tokens_size)])), (a_tokens_kinds, .inl (ka_tokens_kinds, 90, .inl f_tokens_kinds)), (a_tokens_values, .inl (ka_tokens_values, 90, .inr (.inl f_tokens_values)))]) [6, 1, 2] rfl
    have hDc := hD.sub (ws' := [(a_tokens, .inr (11, [.ref a_tokens_kinds, .ref a_tokens_values, .int (nI n_tokens_size)])), (a_tokens_kinds, .inl (ka_tokens_kinds, 90, .inl f_tokens_kinds)), (a_tokens_values, .inl (ka_tokens_values, 90, .inr (.inl f_tokens_values)))]) [6, 1, 2] (by decide) rfl
    have hKc := hK.sub (tys' := [(ka_tokens_kinds, .int), (ka_tokens_values, .long)]) [0, 1] rfl
    have hFc := va_free (wc := [(a_tokens, .inr (11, [.ref a_tokens_kinds, .ref a_tokens_values, .int (nI n_tokens_size)])), (a_tokens_kinds, .inl (ka_tokens_kinds, 90, .inl f_tokens_kinds)), (a_tokens_values, .inl (ka_tokens_values, 90, .inr (.inl f_tokens_values)))]) hD hS hA [6, 1, 2] rfl
    refine va_callv (va_runV (As := [.int y0, .long y1]) (rest := []) ⟨hx, hb, hml, hown, hz⟩ (s_Tokens_add6 l dC dI H.size 90 a_tokens a_tokens_kinds f_tokens_kinds a_tokens_values f_tokens_values n_tokens_size y0 y1 ka_tokens_kinds ka_tokens_values (by first | rfl | omega | assumption) (by first | rfl | omega | assumption) (by first | rfl | omega | assumption)) (cwV 2 hz (zV zm_67 zm_33 zm_34 zm_35 zm_36) rfl rfl rfl (by decide +kernel) ⟨Nat.le_of_ble_eq_true rfl, Nat.le_of_ble_eq_true rfl⟩) ⟨fun a U g mk q => by obtain ⟨q0, q1, qP, qK, qD⟩ := q; exact ⟨q0, q1, qP, va_K.moved (u := U) (U := U.calling g mk a) (Vm.Alike.refl U.vm) qK, qD⟩, va_recv (q := (R_Tokens, F_Tokens, 3)) (q0 := 6) (ci := 11) hK hP rfl rfl, fun U hU hW => ⟨rfl, by rw [hU], by rw [hU]; exact hPc, va_K.moved hW.alike hKc, hDc.weaken (fun _ _ _ _ => trivial)⟩⟩ rfl rfl hl.1 rfl (lv_room (Nat.le_of_ble_eq_true rfl)) d_Lexemes_add_49 ⟨Nat.zero_le _, Nat.zero_le _⟩) hS (fun q _ h => hFc q h) hFc (fun u t H1 locs ht hvm hw hB hz1 hk1 hS => ?_)
    obtain ⟨g5, g6, g7, hb_g5, hq0_49, hq1_49, hq2_49, hP1, hK1, hD1⟩ := hB
    subst g5
    subst g6
    subst g7
    rw [ht] at hP1
    obtain ⟨hP, hD⟩ := va_join (wr := [(a_t, .inr (5, [.ref a_tokens, .ref a_places, .ref a_columns, .ref a_lineFirsts])), (a_places, .inl (ka_places, 90, .inl (upd f_places n_tokens_size y2))), (a_columns, .inl (ka_columns, 90, .inl (upd f_columns n_tokens_size y3))), (a_lineFirsts, .inl (ka_lineFirsts, 90, .inl (upd f_lineFirsts n_tokens_size y4)))]) (w1 := [(a_tokens, .inr (11, [.ref a_tokens_kinds, .ref a_tokens_values, .int (nI (n_tokens_size + 1))])), (a_tokens_kinds, .inl (ka_tokens_kinds, 90, .inl (upd f_tokens_kinds n_tokens_size y0))), (a_tokens_values, .inl (ka_tokens_values, 90, .inr (.inl (vp_updL f_tokens_values n_tokens_size y1))))]) hP hD [6, 1, 2] [0, 3, 4, 5] rfl rfl (by decide) (by decide) hk1 hFc hP1 hD1
    generalize H1 = H at hP hS ⊢
    have hP : va_P (dC, dI) vcl [(a_t, .inr (5, [.ref a_tokens, .ref a_places, .ref a_columns, .ref a_lineFirsts])), (a_places, .inl (ka_places, 90, .inl (upd f_places n_tokens_size y2))), (a_columns, .inl (ka_columns, 90, .inl (upd f_columns n_tokens_size y3))), (a_lineFirsts, .inl (ka_lineFirsts, 90, .inl (upd f_lineFirsts n_tokens_size y4))), (a_tokens, .inr (11, [.ref a_tokens_kinds, .ref a_tokens_values, .int (nI (n_tokens_size + 1))])), (a_tokens_kinds, .inl (ka_tokens_kinds, 90, .inl (upd f_tokens_kinds n_tokens_size y0))), (a_tokens_values, .inl (ka_tokens_values, 90, .inr (.inl (vp_updL f_tokens_values n_tokens_size y1))))] H := hP
    have hD : va_D A [(a_t, .inr (5, [.ref a_tokens, .ref a_places, .ref a_columns, .ref a_lineFirsts])), (a_places, .inl (ka_places, 90, .inl (upd f_places n_tokens_size y2))), (a_columns, .inl (ka_columns, 90, .inl (upd f_columns n_tokens_size y3))), (a_lineFirsts, .inl (ka_lineFirsts, 90, .inl (upd f_lineFirsts n_tokens_size y4))), (a_tokens, .inr (11, [.ref a_tokens_kinds, .ref a_tokens_values, .int (nI (n_tokens_size + 1))])), (a_tokens_kinds, .inl (ka_tokens_kinds, 90, .inl (upd f_tokens_kinds n_tokens_size y0))), (a_tokens_values, .inl (ka_tokens_values, 90, .inr (.inl (vp_updL f_tokens_values n_tokens_size y1))))] := hD
    have hP9 := hP.sub (ws' := [(a_t, .inr (5, [.ref a_tokens, .ref a_places, .ref a_columns, .ref a_lineFirsts])), (a_tokens, .inr (11, [.ref a_tokens_kinds, .ref a_tokens_values, .int (nI (n_tokens_size + 1))])), (a_tokens_kinds, .inl (ka_tokens_kinds, 90, .inl (upd f_tokens_kinds n_tokens_size y0))), (a_tokens_values, .inl (ka_tokens_values, 90, .inr (.inl (vp_updL f_tokens_values n_tokens_size y1)))), (a_places, .inl (ka_places, 90, .inl (upd f_places n_tokens_size y2))), (a_columns, .inl (ka_columns, 90, .inl (upd f_columns n_tokens_size y3))), (a_lineFirsts, .inl (ka_lineFirsts, 90, .inl (upd f_lineFirsts n_tokens_size y4)))]) [0, 4, 5, 6, 1, 2, 3] rfl
    have hD9 := hD.sub (ws' := [(a_t, .inr (5, [.ref a_tokens, .ref a_places, .ref a_columns, .ref a_lineFirsts])), (a_tokens, .inr (11, [.ref a_tokens_kinds, .ref a_tokens_values, .int (nI (n_tokens_size + 1))])), (a_tokens_kinds, .inl (ka_tokens_kinds, 90, .inl (upd f_tokens_kinds n_tokens_size y0))), (a_tokens_values, .inl (ka_tokens_values, 90, .inr (.inl (vp_updL f_tokens_values n_tokens_size y1)))), (a_places, .inl (ka_places, 90, .inl (upd f_places n_tokens_size y2))), (a_columns, .inl (ka_columns, 90, .inl (upd f_columns n_tokens_size y3))), (a_lineFirsts, .inl (ka_lineFirsts, 90, .inl (upd f_lineFirsts n_tokens_size y4)))]) [0, 4, 5, 6, 1, 2, 3] (by decide) rfl
    exact W.vret hx hb hr (fun t ht hW => ⟨⟨(), rfl, trivial, ((n_tokens_size + 1)), ((upd f_tokens_kinds n_tokens_size y0)), ((vp_updL f_tokens_values n_tokens_size y1)), ((upd f_places n_tokens_size y2)), ((upd f_columns n_tokens_size y3)), ((upd f_lineFirsts n_tokens_size y4)), by first | rfl | omega | assumption, by first | rfl | omega | assumption, by first | rfl | omega | assumption, by first | rfl | omega | assumption, by first | rfl | omega | assumption, by first | rfl | omega | assumption, by first | rfl | omega | assumption, by rw [ht]; exact hP9, va_K.moved hW.alike hK, hD9⟩, hS.F ht⟩) hS.2.2 d_Lexemes_add_52
set_option maxHeartbeats 4000000 in
set_option maxRecDepth 100000 in
theorem s_Lexemes_clear6 (l : Launch) (dC : Nat → ClassId) (dI : Nat → Nat → Nat) (sz : Nat) (a_t : Nat) (a_tokens : Nat) (a_tokens_kinds : Nat) (a_tokens_values : Nat) (n_tokens_size : Nat) (a_places : Nat) (a_columns : Nat) (a_lineFirsts : Nat) (b_tokens_size : n_tokens_size ≤ 90) : Met l y_Lexemes_clear w_Lexemes_clear ({ frames := 1, cells := 0, slots := 0, locals := 20 }) (va_Pc [.ref a_t] (fun U => U.heap.size = sz ∧ va_P (dC, dI) vcl [(a_t, .inr (5, [.ref a_tokens, .ref a_places, .ref a_columns, .ref a_lineFirsts])), (a_tokens, .inr (11, [.ref a_tokens_kinds, .ref a_tokens_values, .int (nI n_tokens_size)]))] U.heap ∧ va_K (dC, dI) vcl [] U ∧ va_D (fun _ => True) [(a_t, .inr (5, [.ref a_tokens, .ref a_places, .ref a_columns, .ref a_lineFirsts])), (a_tokens, .inr (11, [.ref a_tokens_kinds, .ref a_tokens_values, .int (nI n_tokens_size)]))])) (va_Qv (fun (_ : Unit) => True) (fun _ t => ∃ (w_n_tokens_size : Nat), (w_n_tokens_size ≤ 90) ∧ (w_n_tokens_size = 0) ∧ va_P (dC, dI) vcl [(a_t, .inr (5, [.ref a_tokens, .ref a_places, .ref a_columns, .ref a_lineFirsts])), (a_tokens, .inr (11, [.ref a_tokens_kinds, .ref a_tokens_values, .int (nI w_n_tokens_size)]))] t.heap ∧ va_K (dC, dI) vcl [] t ∧ va_D (va_A [(a_t, .inr (5, [.ref a_tokens, .ref a_places, .ref a_columns, .ref a_lineFirsts])), (a_tokens, .inr (11, [.ref a_tokens_kinds, .ref a_tokens_values, .int (nI n_tokens_size)]))] sz) [(a_t, .inr (5, [.ref a_tokens, .ref a_places, .ref a_columns, .ref a_lineFirsts])), (a_tokens, .inr (11, [.ref a_tokens_kinds, .ref a_tokens_values, .int (nI w_n_tokens_size)]))]) (va_A [(a_t, .inr (5, [.ref a_tokens, .ref a_places, .ref a_columns, .ref a_lineFirsts])), (a_tokens, .inr (11, [.ref a_tokens_kinds, .ref a_tokens_values, .int (nI n_tokens_size)]))] sz)) 0 0 (va_A [(a_t, .inr (5, [.ref a_tokens, .ref a_places, .ref a_columns, .ref a_lineFirsts])), (a_tokens, .inr (11, [.ref a_tokens_kinds, .ref a_tokens_values, .int (nI n_tokens_size)]))] sz) := by
  refine Met.ofW (cc := b_Lexemes_clear) (maxL := 1) (ret := none) (by decide) rfl ?_
  intro p e s m args below meth c s₁ B hml hv
  obtain ⟨rfl, hsz, hP, hK, hD0⟩ := hv
  have hx := B.exec
  have hb := B.bytes
  have hr := B.returns
  have hts := atoms_spec (ws := w_Lexemes_clear) B.pre
  have hz : ∀ w ∈ wz, w.before _ s = true := fun w h => hts w (List.mem_cons_of_mem _ h)
  have hown : s.vm.findClass R_Lexemes = some m.cls := findClass_of_methodNamed B.named
  have hlocks := B.notSynchronized
  subst hsz
  have hD := hD0.self (sz := s.heap.size)
  generalize hAe : va_A [(a_t, .inr (5, [.ref a_tokens, .ref a_places, .ref a_columns, .ref a_lineFirsts])), (a_tokens, .inr (11, [.ref a_tokens_kinds, .ref a_tokens_values, .int (nI n_tokens_size)]))] s.heap.size = A at hD ⊢
  have hA : ∀ q : Nat, s.heap.size ≤ q → A q := fun q h => by rw [← hAe]; exact Or.inr h
  have hS : va_S A s.heap s.heap [] := va_S.rf
  have hP : va_P (dC, dI) vcl [(a_t, .inr (5, [.ref a_tokens, .ref a_places, .ref a_columns, .ref a_lineFirsts])), (a_tokens, .inr (11, [.ref a_tokens_kinds, .ref a_tokens_values, .int (nI n_tokens_size)]))] s.heap := hP
  have hl := lv_entry ([.ref a_t]) (n := 1) (Nat.le_of_ble_eq_true rfl)
  rw [lg_entry_eq]
  generalize (lg_sl ([.ref a_t]) ++ List.replicate (1 - (lg_sl ([.ref a_t])).length) Slot.unset).toArray = ls at hl ⊢
  have hl : lv_has ls 1 [(0, .ref a_t)] := hl
  refine lv_aload_n hx hb d_Lexemes_clear_0 rfl (lv_at hl 0 rfl) ?_
  refine va_get (D := (dC, dI)) (ci := 5) (v := .ref a_tokens) (C := R_Lexemes) (T := F_Lexemes) (N := 4) hx hb hz zu_Lexemes hown hK hP 0 rfl rfl 0 (by decide) (hz (.fieldLink R_Lexemes 14 "LayoutFront$Lexemes" "tokens" "LLayoutFront$Tokens;") zm_53) (fun _ h9 => h9) rfl d_Lexemes_clear_1 ?_
  have hPc := hP.sub (ws' := [(a_tokens, .inr (11, [.ref a_tokens_kinds, .ref a_tokens_values, .int (nI n_tokens_size)]))]) [1] rfl
  have hDc := hD.sub (ws' := [(a_tokens, .inr (11, [.ref a_tokens_kinds, .ref a_tokens_values, .int (nI n_tokens_size)]))]) [1] (by decide) rfl
  have hKc := hK.sub (tys' := []) [] rfl
  have hFc := va_free (wc := [(a_tokens, .inr (11, [.ref a_tokens_kinds, .ref a_tokens_values, .int (nI n_tokens_size)]))]) hD hS hA [1] rfl
  refine va_callv (va_runV (As := []) (rest := []) ⟨hx, hb, hml, hown, hz⟩ (s_Tokens_clear6 l dC dI s.heap.size 90 a_tokens a_tokens_kinds a_tokens_values n_tokens_size (by first | rfl | omega) (by first | rfl | omega)) (cwV 0 hz (zV zm_59 zm_60 zm_61 zm_35 zm_62) rfl rfl rfl (by decide +kernel) ⟨Nat.le_of_ble_eq_true rfl, Nat.le_of_ble_eq_true rfl⟩) ⟨fun a U g mk q => by obtain ⟨q0, q1, qP, qK, qD⟩ := q; exact ⟨q0, q1, qP, va_K.moved (u := U) (U := U.calling g mk a) (Vm.Alike.refl U.vm) qK, qD⟩, va_recv (q := (R_Tokens, F_Tokens, 3)) (q0 := 1) (ci := 11) hK hP rfl rfl, fun U hU hW => ⟨rfl, by rw [hU], by rw [hU]; exact hPc, va_K.moved hW.alike hKc, hDc.weaken (fun _ _ _ _ => trivial)⟩⟩ rfl rfl hl.1 rfl (lv_room (Nat.le_of_ble_eq_true rfl)) d_Lexemes_clear_4 ⟨Nat.zero_le _, Nat.zero_le _⟩) hS (fun q _ h => hFc q h) hFc (fun u t H1 locs ht hvm hw hB hz1 hk1 hS => ?_)
  obtain ⟨g1, hb_g1, hq0_4, hP1, hK1, hD1⟩ := hB
  subst g1
  rw [ht] at hP1
  obtain ⟨hP, hD⟩ := va_join (wr := [(a_t, .inr (5, [.ref a_tokens, .ref a_places, .ref a_columns, .ref a_lineFirsts]))]) (w1 := [(a_tokens, .inr (11, [.ref a_tokens_kinds, .ref a_tokens_values, .int (nI (0))]))]) hP hD [1] [0] rfl rfl (by decide) (by decide) hk1 hFc hP1 hD1
  generalize H1 = H at hP hS ⊢
  have hP : va_P (dC, dI) vcl [(a_t, .inr (5, [.ref a_tokens, .ref a_places, .ref a_columns, .ref a_lineFirsts])), (a_tokens, .inr (11, [.ref a_tokens_kinds, .ref a_tokens_values, .int (nI (0))]))] H := hP
  have hD : va_D A [(a_t, .inr (5, [.ref a_tokens, .ref a_places, .ref a_columns, .ref a_lineFirsts])), (a_tokens, .inr (11, [.ref a_tokens_kinds, .ref a_tokens_values, .int (nI (0))]))] := hD
  have hP9 := hP.sub (ws' := [(a_t, .inr (5, [.ref a_tokens, .ref a_places, .ref a_columns, .ref a_lineFirsts])), (a_tokens, .inr (11, [.ref a_tokens_kinds, .ref a_tokens_values, .int (nI (0))]))]) [0, 1] rfl
  have hD9 := hD.sub (ws' := [(a_t, .inr (5, [.ref a_tokens, .ref a_places, .ref a_columns, .ref a_lineFirsts])), (a_tokens, .inr (11, [.ref a_tokens_kinds, .ref a_tokens_values, .int (nI (0))]))]) [0, 1] (by decide) rfl
  exact W.vret hx hb hr (fun t ht hW => ⟨⟨(), rfl, trivial, ((0)), by first | rfl | omega, by first | rfl | omega, by rw [ht]; exact hP9, va_K.moved hW.alike hK, hD9⟩, hS.F ht⟩) hS.2.2 d_Lexemes_clear_7
set_option maxHeartbeats 4000000 in
set_option maxRecDepth 100000 in
theorem s_Lexemes_isFull6 (l : Launch) (dC : Nat → ClassId) (dI : Nat → Nat → Nat) (sz : Nat) (a_t : Nat) (a_tokens : Nat) (a_tokens_kinds : Nat) (a_tokens_values : Nat) (n_tokens_size : Nat) (a_places : Nat) (a_columns : Nat) (a_lineFirsts : Nat) (b_tokens_size : n_tokens_size ≤ 90) : Met l y_Lexemes_isFull w_Lexemes_isFull ({ frames := 1, cells := 0, slots := 0, locals := 20 }) (va_Pc [.ref a_t] (fun U => U.heap.size = sz ∧ va_P (dC, dI) vcl [(a_t, .inr (5, [.ref a_tokens, .ref a_places, .ref a_columns, .ref a_lineFirsts])), (a_tokens, .inr (11, [.ref a_tokens_kinds, .ref a_tokens_values, .int (nI n_tokens_size)]))] U.heap ∧ va_K (dC, dI) vcl [] U ∧ va_D (fun _ => True) [(a_t, .inr (5, [.ref a_tokens, .ref a_places, .ref a_columns, .ref a_lineFirsts])), (a_tokens, .inr (11, [.ref a_tokens_kinds, .ref a_tokens_values, .int (nI n_tokens_size)]))])) (va_Qi (fun (r : Int32) (_ : Unit) => (r = 0 ∨ r = 1) ∧ (r = b01 (decide (90 ≤ n_tokens_size)))) (fun _ t => va_P (dC, dI) vcl [(a_t, .inr (5, [.ref a_tokens, .ref a_places, .ref a_columns, .ref a_lineFirsts])), (a_tokens, .inr (11, [.ref a_tokens_kinds, .ref a_tokens_values, .int (nI n_tokens_size)]))] t.heap ∧ va_K (dC, dI) vcl [] t ∧ va_D (va_A [(a_t, .inr (5, [.ref a_tokens, .ref a_places, .ref a_columns, .ref a_lineFirsts])), (a_tokens, .inr (11, [.ref a_tokens_kinds, .ref a_tokens_values, .int (nI n_tokens_size)]))] sz) [(a_t, .inr (5, [.ref a_tokens, .ref a_places, .ref a_columns, .ref a_lineFirsts])), (a_tokens, .inr (11, [.ref a_tokens_kinds, .ref a_tokens_values, .int (nI n_tokens_size)]))]) (va_A [(a_t, .inr (5, [.ref a_tokens, .ref a_places, .ref a_columns, .ref a_lineFirsts])), (a_tokens, .inr (11, [.ref a_tokens_kinds, .ref a_tokens_values, .int (nI n_tokens_size)]))] sz)) 0 0 (va_A [(a_t, .inr (5, [.ref a_tokens, .ref a_places, .ref a_columns, .ref a_lineFirsts])), (a_tokens, .inr (11, [.ref a_tokens_kinds, .ref a_tokens_values, .int (nI n_tokens_size)]))] sz) := by
  refine Met.ofW (cc := b_Lexemes_isFull) (maxL := 1) (ret := (some .boolean)) (by decide) rfl ?_
  intro p e s m args below meth c s₁ B hml hv
  obtain ⟨rfl, hsz, hP, hK, hD0⟩ := hv
  have hx := B.exec
  have hb := B.bytes
  have hr := B.returns
  have hts := atoms_spec (ws := w_Lexemes_isFull) B.pre
  have hz : ∀ w ∈ wz, w.before _ s = true := fun w h => hts w (List.mem_cons_of_mem _ h)
  have hown : s.vm.findClass R_Lexemes = some m.cls := findClass_of_methodNamed B.named
  have hlocks := B.notSynchronized
  subst hsz
  have hD := hD0.self (sz := s.heap.size)
  generalize hAe : va_A [(a_t, .inr (5, [.ref a_tokens, .ref a_places, .ref a_columns, .ref a_lineFirsts])), (a_tokens, .inr (11, [.ref a_tokens_kinds, .ref a_tokens_values, .int (nI n_tokens_size)]))] s.heap.size = A at hD ⊢
  have hA : ∀ q : Nat, s.heap.size ≤ q → A q := fun q h => by rw [← hAe]; exact Or.inr h
  have hS : va_S A s.heap s.heap [] := va_S.rf
  have hP : va_P (dC, dI) vcl [(a_t, .inr (5, [.ref a_tokens, .ref a_places, .ref a_columns, .ref a_lineFirsts])), (a_tokens, .inr (11, [.ref a_tokens_kinds, .ref a_tokens_values, .int (nI n_tokens_size)]))] s.heap := hP
  have hl := lv_entry ([.ref a_t]) (n := 1) (Nat.le_of_ble_eq_true rfl)
  rw [lg_entry_eq]
  generalize (lg_sl ([.ref a_t]) ++ List.replicate (1 - (lg_sl ([.ref a_t])).length) Slot.unset).toArray = ls at hl ⊢
  have hl : lv_has ls 1 [(0, .ref a_t)] := hl
  refine lv_aload_n hx hb d_Lexemes_isFull_0 rfl (lv_at hl 0 rfl) ?_
  refine va_get (D := (dC, dI)) (ci := 5) (v := .ref a_tokens) (C := R_Lexemes) (T := F_Lexemes) (N := 4) hx hb hz zu_Lexemes hown hK hP 0 rfl rfl 0 (by decide) (hz (.fieldLink R_Lexemes 14 "LayoutFront$Lexemes" "tokens" "LLayoutFront$Tokens;") zm_53) (fun _ h9 => h9) rfl d_Lexemes_isFull_1 ?_
  have hPc := hP.sub (ws' := [(a_tokens, .inr (11, [.ref a_tokens_kinds, .ref a_tokens_values, .int (nI n_tokens_size)]))]) [1] rfl
  have hDc := hD.sub (ws' := [(a_tokens, .inr (11, [.ref a_tokens_kinds, .ref a_tokens_values, .int (nI n_tokens_size)]))]) [1] (by decide) rfl
  have hKc := hK.sub (tys' := []) [] rfl
  have hFc := va_free (wc := [(a_tokens, .inr (11, [.ref a_tokens_kinds, .ref a_tokens_values, .int (nI n_tokens_size)]))]) hD hS hA [1] rfl
  refine va_calli (va_runV (As := []) (rest := []) ⟨hx, hb, hml, hown, hz⟩ (s_Tokens_size l dC dI s.heap.size a_tokens a_tokens_kinds a_tokens_values n_tokens_size) (cwV 0 hz (zV zm_63 zm_64 zm_65 zm_35 zm_66) rfl rfl rfl (by decide +kernel) ⟨Nat.le_of_ble_eq_true rfl, Nat.le_of_ble_eq_true rfl⟩) ⟨fun a U g mk q => by obtain ⟨q0, q1, qP, qK, qD⟩ := q; exact ⟨q0, q1, qP, va_K.moved (u := U) (U := U.calling g mk a) (Vm.Alike.refl U.vm) qK, qD⟩, va_recv (q := (R_Tokens, F_Tokens, 3)) (q0 := 1) (ci := 11) hK hP rfl rfl, fun U hU hW => ⟨rfl, by rw [hU], by rw [hU]; exact hPc, va_K.moved hW.alike hKc, hDc.weaken (fun _ _ _ _ => trivial)⟩⟩ rfl rfl hl.1 rfl (lv_room (Nat.le_of_ble_eq_true rfl)) d_Lexemes_isFull_4 ⟨Nat.zero_le _, Nat.zero_le _⟩) hS (fun q _ h => hFc q h) hFc (fun r u t H1 locs ht hvm hw hB hz1 hk1 hS => ?_)
  obtain ⟨hP1, hK1, hD1⟩ := hB
  subst r
  rw [ht] at hP1
  obtain ⟨hP, hD⟩ := va_join (wr := [(a_t, .inr (5, [.ref a_tokens, .ref a_places, .ref a_columns, .ref a_lineFirsts]))]) (w1 := [(a_tokens, .inr (11, [.ref a_tokens_kinds, .ref a_tokens_values, .int (nI n_tokens_size)]))]) hP hD [1] [0] rfl rfl (by decide) (by decide) hk1 hFc hP1 hD1
  generalize H1 = H at hP hS ⊢
  have hP : va_P (dC, dI) vcl [(a_t, .inr (5, [.ref a_tokens, .ref a_places, .ref a_columns, .ref a_lineFirsts])), (a_tokens, .inr (11, [.ref a_tokens_kinds, .ref a_tokens_values, .int (nI n_tokens_size)]))] H := hP
  have hD : va_D A [(a_t, .inr (5, [.ref a_tokens, .ref a_places, .ref a_columns, .ref a_lineFirsts])), (a_tokens, .inr (11, [.ref a_tokens_kinds, .ref a_tokens_values, .int (nI n_tokens_size)]))] := hD
  refine lv_bipush (v := 90) hx hb d_Lexemes_isFull_7 (by decide) ?_
  refine lv_icmp_lt (tgt := 16) hx hb d_Lexemes_isFull_9 (by decide) (fun h1 => ?_) (fun h1 => ?_)
  · have h1 : n_tokens_size < 90 := (nI_ltI (a := n_tokens_size) (b := 90) (by omega) (by omega)).mp h1
    refine lv_iconst (v := 0) hx hb d_Lexemes_isFull_16 (by decide) ?_
    have hP9 := hP.sub (ws' := [(a_t, .inr (5, [.ref a_tokens, .ref a_places, .ref a_columns, .ref a_lineFirsts])), (a_tokens, .inr (11, [.ref a_tokens_kinds, .ref a_tokens_values, .int (nI n_tokens_size)]))]) [0, 1] rfl
    have hD9 := hD.sub (ws' := [(a_t, .inr (5, [.ref a_tokens, .ref a_places, .ref a_columns, .ref a_lineFirsts])), (a_tokens, .inr (11, [.ref a_tokens_kinds, .ref a_tokens_values, .int (nI n_tokens_size)]))]) [0, 1] (by decide) rfl
    exact W.zret (v := 0) hx hb hr (by decide +kernel) (fun t ht hW => ⟨⟨0, (), rfl, ⟨(by first | assumption | exact Or.inl rfl | exact Or.inr rfl), (by first | (rw [decide_eq_true (show 90 ≤ n_tokens_size by omega)]; rfl) | (rw [decide_eq_false (show ¬ 90 ≤ n_tokens_size by omega)]; rfl))⟩, by rw [ht]; exact hP9, va_K.moved hW.alike hK, hD9⟩, hS.F ht⟩) hS.2.2 d_Lexemes_isFull_17
  · have h1 : ¬ n_tokens_size < 90 := fun q => h1 ((nI_ltI (a := n_tokens_size) (b := 90) (by omega) (by omega)).mpr q)
    refine lv_iconst (v := 1) hx hb d_Lexemes_isFull_12 (by decide) ?_
    refine lv_goto (tgt := 17) hx hb d_Lexemes_isFull_13 (by decide) ?_
    have hP9 := hP.sub (ws' := [(a_t, .inr (5, [.ref a_tokens, .ref a_places, .ref a_columns, .ref a_lineFirsts])), (a_tokens, .inr (11, [.ref a_tokens_kinds, .ref a_tokens_values, .int (nI n_tokens_size)]))]) [0, 1] rfl
    have hD9 := hD.sub (ws' := [(a_t, .inr (5, [.ref a_tokens, .ref a_places, .ref a_columns, .ref a_lineFirsts])), (a_tokens, .inr (11, [.ref a_tokens_kinds, .ref a_tokens_values, .int (nI n_tokens_size)]))]) [0, 1] (by decide) rfl
    exact W.zret (v := 1) hx hb hr (by decide +kernel) (fun t ht hW => ⟨⟨1, (), rfl, ⟨(by first | assumption | exact Or.inl rfl | exact Or.inr rfl), (by first | (rw [decide_eq_true (show 90 ≤ n_tokens_size by omega)]; rfl) | (rw [decide_eq_false (show ¬ 90 ≤ n_tokens_size by omega)]; rfl))⟩, by rw [ht]; exact hP9, va_K.moved hW.alike hK, hD9⟩, hS.F ht⟩) hS.2.2 d_Lexemes_isFull_17
set_option maxHeartbeats 4000000 in
set_option maxRecDepth 100000 in
theorem s_Cutter_take6 (l : Launch) (dC : Nat → ClassId) (dI : Nat → Nat → Nat) (sz : Nat) (a_t : Nat) (a_lexemes : Nat) (a_lexemes_tokens : Nat) (a_lexemes_tokens_kinds : Nat) (f_lexemes_tokens_kinds : Nat → Int32) (a_lexemes_tokens_values : Nat) (f_lexemes_tokens_values : Nat → Int64) (n_lexemes_tokens_size : Nat) (a_lexemes_places : Nat) (f_lexemes_places : Nat → Int32) (a_lexemes_columns : Nat) (f_lexemes_columns : Nat → Int32) (a_lexemes_lineFirsts : Nat) (f_lexemes_lineFirsts : Nat → Int32) (n_at : Nat) (z_lineStart : Int32) (z_lineIsFresh : Int32) (z_wrongPlace : Int32) (z_tooMany : Int32) (a_y0 : Nat) (a_y0_characters : Nat) (f_y0_characters : Nat → Int32) (n_y0_length : Nat) (y1 : Int32) (y2 : Nat) (L : List Lx) (ka_lexemes_tokens_kinds : ClassId) (ka_lexemes_tokens_values : ClassId) (ka_lexemes_places : ClassId) (ka_lexemes_columns : ClassId) (ka_lexemes_lineFirsts : ClassId) (ka_y0_characters : ClassId) (b_lexemes_tokens_size : n_lexemes_tokens_size ≤ 90) (b_at : n_at ≤ 241) (b_tooMany : z_tooMany = 0 ∨ z_tooMany = 1) (c_y0_characters : ∀ j, narrow .char (.int (f_y0_characters j)) = .int (f_y0_characters j)) (b_y0_length : n_y0_length ≤ 240) (by2 : y2 ≤ 240) (hp0 : n_at < y2) (hp1 : y2 ≤ n_y0_length) (hp2 : y2 - n_at ≤ 9) (hp3 : ¬ y1 = 1 → y2 - n_at ≤ 8) (hp4 : y1 = 1 → ∀ j, n_at ≤ j → j < y2 → ¬ wi ((cN f_y0_characters n_y0_length) j) 48 57 = 0) (hp5 : Rp f_lexemes_tokens_kinds f_lexemes_tokens_values f_lexemes_places f_lexemes_columns f_lexemes_lineFirsts L) (hp6 : n_lexemes_tokens_size = L.length) (hp7 : L.length < 90) (hp8 : z_lineStart = nI (lnO (cN f_y0_characters n_y0_length) n_at)) (hp9 : z_lineIsFresh = b01 (ldO L (lnO (cN f_y0_characters n_y0_length) n_at))) : Met l y_Cutter_take w_Cutter_take ({ frames := 2, cells := 0, slots := 0, locals := 50 }) (va_Pc [.ref a_t, .ref a_y0, .int y1, .int (nI y2)] (fun U => U.heap.size = sz ∧ va_P (dC, dI) vcl [(a_t, .inr (3, [.ref a_lexemes, .int (nI n_at), .int z_lineStart, .int z_lineIsFresh, .int z_wrongPlace, .int z_tooMany])), (a_lexemes, .inr (5, [.ref a_lexemes_tokens, .ref a_lexemes_places, .ref a_lexemes_columns, .ref a_lexemes_lineFirsts])), (a_lexemes_tokens, .inr (11, [.ref a_lexemes_tokens_kinds, .ref a_lexemes_tokens_values, .int (nI n_lexemes_tokens_size)])), (a_lexemes_tokens_kinds, .inl (ka_lexemes_tokens_kinds, 90, .inl f_lexemes_tokens_kinds)), (a_lexemes_tokens_values, .inl (ka_lexemes_tokens_values, 90, .inr (.inl f_lexemes_tokens_values))), (a_lexemes_places, .inl (ka_lexemes_places, 90, .inl f_lexemes_places)), (a_lexemes_columns, .inl (ka_lexemes_columns, 90, .inl f_lexemes_columns)), (a_lexemes_lineFirsts, .inl (ka_lexemes_lineFirsts, 90, .inl f_lexemes_lineFirsts)), (a_y0, .inr (10, [.ref a_y0_characters, .int (nI n_y0_length)])), (a_y0_characters, .inl (ka_y0_characters, 240, .inl f_y0_characters))] U.heap ∧ va_K (dC, dI) vcl [(ka_lexemes_tokens_kinds, .int), (ka_lexemes_tokens_values, .long), (ka_lexemes_places, .int), (ka_lexemes_columns, .int), (ka_lexemes_lineFirsts, .boolean), (ka_y0_characters, .char)] U ∧ va_D (fun _ => True) [(a_t, .inr (3, [.ref a_lexemes, .int (nI n_at), .int z_lineStart, .int z_lineIsFresh, .int z_wrongPlace, .int z_tooMany])), (a_lexemes, .inr (5, [.ref a_lexemes_tokens, .ref a_lexemes_places, .ref a_lexemes_columns, .ref a_lexemes_lineFirsts])), (a_lexemes_tokens, .inr (11, [.ref a_lexemes_tokens_kinds, .ref a_lexemes_tokens_values, .int (nI n_lexemes_tokens_size)])), (a_lexemes_tokens_kinds, .inl (ka_lexemes_tokens_kinds, 90, .inl f_lexemes_tokens_kinds)), (a_lexemes_tokens_values, .inl (ka_lexemes_tokens_values, 90, .inr (.inl f_lexemes_tokens_values))), (a_lexemes_places, .inl (ka_lexemes_places, 90, .inl f_lexemes_places)), (a_lexemes_columns, .inl (ka_lexemes_columns, 90, .inl f_lexemes_columns)), (a_lexemes_lineFirsts, .inl (ka_lexemes_lineFirsts, 90, .inl f_lexemes_lineFirsts)), (a_y0, .inr (10, [.ref a_y0_characters, .int (nI n_y0_length)])), (a_y0_characters, .inl (ka_y0_characters, 240, .inl f_y0_characters))])) (va_Qv (fun (_ : Unit) => True) (fun _ t => ∃ (w_n_at : Nat) (w_z_lineIsFresh : Int32) (w_n_lexemes_tokens_size : Nat) (w_f_lexemes_tokens_kinds : Nat → Int32) (w_f_lexemes_tokens_values : Nat → Int64) (w_f_lexemes_places : Nat → Int32) (w_f_lexemes_columns : Nat → Int32) (w_f_lexemes_lineFirsts : Nat → Int32), (w_n_at ≤ 241) ∧ (w_n_lexemes_tokens_size ≤ 90) ∧ (w_n_at = y2) ∧ (w_z_lineIsFresh = 0) ∧ (Rp w_f_lexemes_tokens_kinds w_f_lexemes_tokens_values w_f_lexemes_places w_f_lexemes_columns w_f_lexemes_lineFirsts (lxO y1 (pkO (cN f_y0_characters n_y0_length) y1 n_at y2) (cN f_y0_characters n_y0_length) n_at L :: L)) ∧ (w_n_lexemes_tokens_size = n_lexemes_tokens_size + 1) ∧ va_P (dC, dI) vcl [(a_t, .inr (3, [.ref a_lexemes, .int (nI w_n_at), .int z_lineStart, .int w_z_lineIsFresh, .int z_wrongPlace, .int z_tooMany])), (a_lexemes, .inr (5, [.ref a_lexemes_tokens, .ref a_lexemes_places, .ref a_lexemes_columns, .ref a_lexemes_lineFirsts])), (a_lexemes_tokens, .inr (11, [.ref a_lexemes_tokens_kinds, .ref a_lexemes_tokens_values, .int (nI w_n_lexemes_tokens_size)])), (a_lexemes_tokens_kinds, .inl (ka_lexemes_tokens_kinds, 90, .inl w_f_lexemes_tokens_kinds)), (a_lexemes_tokens_values, .inl (ka_lexemes_tokens_values, 90, .inr (.inl w_f_lexemes_tokens_values))), (a_lexemes_places, .inl (ka_lexemes_places, 90, .inl w_f_lexemes_places)), (a_lexemes_columns, .inl (ka_lexemes_columns, 90, .inl w_f_lexemes_columns)), (a_lexemes_lineFirsts, .inl (ka_lexemes_lineFirsts, 90, .inl w_f_lexemes_lineFirsts)), (a_y0, .inr (10, [.ref a_y0_characters, .int (nI n_y0_length)])), (a_y0_characters, .inl (ka_y0_characters, 240, .inl f_y0_characters))] t.heap ∧ va_K (dC, dI) vcl [(ka_lexemes_tokens_kinds, .int), (ka_lexemes_tokens_values, .long), (ka_lexemes_places, .int), (ka_lexemes_columns, .int), (ka_lexemes_lineFirsts, .boolean), (ka_y0_characters, .char)] t ∧ va_D (va_A [(a_t, .inr (3, [.ref a_lexemes, .int (nI n_at), .int z_lineStart, .int z_lineIsFresh, .int z_wrongPlace, .int z_tooMany])), (a_lexemes, .inr (5, [.ref a_lexemes_tokens, .ref a_lexemes_places, .ref a_lexemes_columns, .ref a_lexemes_lineFirsts])), (a_lexemes_tokens, .inr (11, [.ref a_lexemes_tokens_kinds, .ref a_lexemes_tokens_values, .int (nI n_lexemes_tokens_size)])), (a_lexemes_tokens_kinds, .inl (ka_lexemes_tokens_kinds, 90, .inl f_lexemes_tokens_kinds)), (a_lexemes_tokens_values, .inl (ka_lexemes_tokens_values, 90, .inr (.inl f_lexemes_tokens_values))), (a_lexemes_places, .inl (ka_lexemes_places, 90, .inl f_lexemes_places)), (a_lexemes_columns, .inl (ka_lexemes_columns, 90, .inl f_lexemes_columns)), (a_lexemes_lineFirsts, .inl (ka_lexemes_lineFirsts, 90, .inl f_lexemes_lineFirsts)), (a_y0, .inr (10, [.ref a_y0_characters, .int (nI n_y0_length)])), (a_y0_characters, .inl (ka_y0_characters, 240, .inl f_y0_characters))] sz) [(a_t, .inr (3, [.ref a_lexemes, .int (nI w_n_at), .int z_lineStart, .int w_z_lineIsFresh, .int z_wrongPlace, .int z_tooMany])), (a_lexemes, .inr (5, [.ref a_lexemes_tokens, .ref a_lexemes_places, .ref a_lexemes_columns, .ref a_lexemes_lineFirsts])), (a_lexemes_tokens, .inr (11, [.ref a_lexemes_tokens_kinds, .ref a_lexemes_tokens_values, .int (nI w_n_lexemes_tokens_size)])), (a_lexemes_tokens_kinds, .inl (ka_lexemes_tokens_kinds, 90, .inl w_f_lexemes_tokens_kinds)), (a_lexemes_tokens_values, .inl (ka_lexemes_tokens_values, 90, .inr (.inl w_f_lexemes_tokens_values))), (a_lexemes_places, .inl (ka_lexemes_places, 90, .inl w_f_lexemes_places)), (a_lexemes_columns, .inl (ka_lexemes_columns, 90, .inl w_f_lexemes_columns)), (a_lexemes_lineFirsts, .inl (ka_lexemes_lineFirsts, 90, .inl w_f_lexemes_lineFirsts)), (a_y0, .inr (10, [.ref a_y0_characters, .int (nI n_y0_length)])), (a_y0_characters, .inl (ka_y0_characters, 240, .inl f_y0_characters))]) (va_A [(a_t, .inr (3, [.ref a_lexemes, .int (nI n_at), .int z_lineStart, .int z_lineIsFresh, .int z_wrongPlace, .int z_tooMany])), (a_lexemes, .inr (5, [.ref a_lexemes_tokens, .ref a_lexemes_places, .ref a_lexemes_columns, .ref a_lexemes_lineFirsts])), (a_lexemes_tokens, .inr (11, [.ref a_lexemes_tokens_kinds, .ref a_lexemes_tokens_values, .int (nI n_lexemes_tokens_size)])), (a_lexemes_tokens_kinds, .inl (ka_lexemes_tokens_kinds, 90, .inl f_lexemes_tokens_kinds)), (a_lexemes_tokens_values, .inl (ka_lexemes_tokens_values, 90, .inr (.inl f_lexemes_tokens_values))), (a_lexemes_places, .inl (ka_lexemes_places, 90, .inl f_lexemes_places)), (a_lexemes_columns, .inl (ka_lexemes_columns, 90, .inl f_lexemes_columns)), (a_lexemes_lineFirsts, .inl (ka_lexemes_lineFirsts, 90, .inl f_lexemes_lineFirsts)), (a_y0, .inr (10, [.ref a_y0_characters, .int (nI n_y0_length)])), (a_y0_characters, .inl (ka_y0_characters, 240, .inl f_y0_characters))] sz)) 0 0 (va_A [(a_t, .inr (3, [.ref a_lexemes, .int (nI n_at), .int z_lineStart, .int z_lineIsFresh, .int z_wrongPlace, .int z_tooMany])), (a_lexemes, .inr (5, [.ref a_lexemes_tokens, .ref a_lexemes_places, .ref a_lexemes_columns, .ref a_lexemes_lineFirsts])), (a_lexemes_tokens, .inr (11, [.ref a_lexemes_tokens_kinds, .ref a_lexemes_tokens_values, .int (nI n_lexemes_tokens_size)])), (a_lexemes_tokens_kinds, .inl (ka_lexemes_tokens_kinds, 90, .inl f_lexemes_tokens_kinds)), (a_lexemes_tokens_values, .inl (ka_lexemes_tokens_values, 90, .inr (.inl f_lexemes_tokens_values))), (a_lexemes_places, .inl (ka_lexemes_places, 90, .inl f_lexemes_places)), (a_lexemes_columns, .inl (ka_lexemes_columns, 90, .inl f_lexemes_columns)), (a_lexemes_lineFirsts, .inl (ka_lexemes_lineFirsts, 90, .inl f_lexemes_lineFirsts)), (a_y0, .inr (10, [.ref a_y0_characters, .int (nI n_y0_length)])), (a_y0_characters, .inl (ka_y0_characters, 240, .inl f_y0_characters))] sz) := by
  refine Met.ofW (cc := b_Cutter_take) (maxL := 6) (ret := none) (by decide) rfl ?_
  intro p e s m args below meth c s₁ B hml hv
  obtain ⟨rfl, hsz, hP, hK, hD0⟩ := hv
  have hx := B.exec
  have hb := B.bytes
  have hr := B.returns
  have hts := atoms_spec (ws := w_Cutter_take) B.pre
  have hz : ∀ w ∈ wz, w.before _ s = true := fun w h => hts w (List.mem_cons_of_mem _ h)
  have hown : s.vm.findClass R_Cutter = some m.cls := findClass_of_methodNamed B.named
  have hlocks := B.notSynchronized
  subst hsz
  have hD := hD0.self (sz := s.heap.size)
  generalize hAe : va_A [(a_t, .inr (3, [.ref a_lexemes, .int (nI n_at), .int z_lineStart, .int z_lineIsFresh, .int z_wrongPlace, .int z_tooMany])), (a_lexemes, .inr (5, [.ref a_lexemes_tokens, .ref a_lexemes_places, .ref a_lexemes_columns, .ref a_lexemes_lineFirsts])), (a_lexemes_tokens, .inr (11, [.ref a_lexemes_tokens_kinds, .ref a_lexemes_tokens_values, .int (nI n_lexemes_tokens_size)])), (a_lexemes_tokens_kinds, .inl (ka_lexemes_tokens_kinds, 90, .inl f_lexemes_tokens_kinds)), (a_lexemes_tokens_values, .inl (ka_lexemes_tokens_values, 90, .inr (.inl f_lexemes_tokens_values))), (a_lexemes_places, .inl (ka_lexemes_places, 90, .inl f_lexemes_places)), (a_lexemes_columns, .inl (ka_lexemes_columns, 90, .inl f_lexemes_columns)), (a_lexemes_lineFirsts, .inl (ka_lexemes_lineFirsts, 90, .inl f_lexemes_lineFirsts)), (a_y0, .inr (10, [.ref a_y0_characters, .int (nI n_y0_length)])), (a_y0_characters, .inl (ka_y0_characters, 240, .inl f_y0_characters))] s.heap.size = A at hD ⊢
  have hA : ∀ q : Nat, s.heap.size ≤ q → A q := fun q h => by rw [← hAe]; exact Or.inr h
  have hS : va_S A s.heap s.heap [] := va_S.rf
  have hP : va_P (dC, dI) vcl [(a_t, .inr (3, [.ref a_lexemes, .int (nI n_at), .int z_lineStart, .int z_lineIsFresh, .int z_wrongPlace, .int z_tooMany])), (a_lexemes, .inr (5, [.ref a_lexemes_tokens, .ref a_lexemes_places, .ref a_lexemes_columns, .ref a_lexemes_lineFirsts])), (a_lexemes_tokens, .inr (11, [.ref a_lexemes_tokens_kinds, .ref a_lexemes_tokens_values, .int (nI n_lexemes_tokens_size)])), (a_lexemes_tokens_kinds, .inl (ka_lexemes_tokens_kinds, 90, .inl f_lexemes_tokens_kinds)), (a_lexemes_tokens_values, .inl (ka_lexemes_tokens_values, 90, .inr (.inl f_lexemes_tokens_values))), (a_lexemes_places, .inl (ka_lexemes_places, 90, .inl f_lexemes_places)), (a_lexemes_columns, .inl (ka_lexemes_columns, 90, .inl f_lexemes_columns)), (a_lexemes_lineFirsts, .inl (ka_lexemes_lineFirsts, 90, .inl f_lexemes_lineFirsts)), (a_y0, .inr (10, [.ref a_y0_characters, .int (nI n_y0_length)])), (a_y0_characters, .inl (ka_y0_characters, 240, .inl f_y0_characters))] s.heap := hP
  have hl := lv_entry ([.ref a_t, .ref a_y0, .int y1, .int (nI y2)]) (n := 6) (Nat.le_of_ble_eq_true rfl)
  rw [lg_entry_eq]
  generalize (lg_sl ([.ref a_t, .ref a_y0, .int y1, .int (nI y2)]) ++ List.replicate (6 - (lg_sl ([.ref a_t, .ref a_y0, .int y1, .int (nI y2)])).length) Slot.unset).toArray = ls at hl ⊢
  have hl : lv_has ls 6 [(0, .ref a_t), (1, .ref a_y0), (2, .int y1), (3, .int (nI y2))] := hl
  refine lv_iload_n hx hb d_Cutter_take_0 rfl (lv_at hl 2 rfl) ?_
  refine lv_iconst (v := 1) hx hb d_Cutter_take_1 (by decide) ?_
  refine lv_icmp_ne (tgt := 17) hx hb d_Cutter_take_2 (by decide) (fun h1 => ?_) (fun h1 => ?_)
  · have e2 := h1
    refine lv_aload_n hx hb d_Cutter_take_17 rfl (lv_at hl 1 rfl) ?_
    refine lv_aload_n hx hb d_Cutter_take_18 rfl (lv_at hl 0 rfl) ?_
    refine va_get (D := (dC, dI)) (ci := 3) (v := .int (nI n_at)) (C := R_Cutter) (T := F_Cutter) (N := 6) hx hb hz zu_Cutter hown hK hP 0 rfl rfl 1 (by decide) (hz (.fieldLink R_Cutter 29 "LayoutFront$Cutter" "at" "I") zm_82) (fun _ h9 => h9) rfl d_Cutter_take_19 ?_
    refine lv_iload_n hx hb d_Cutter_take_22 rfl (lv_at hl 3 rfl) ?_
    have hPc := hP.sub (ws' := [(a_y0, .inr (10, [.ref a_y0_characters, .int (nI n_y0_length)])), (a_y0_characters, .inl (ka_y0_characters, 240, .inl f_y0_characters))]) [8, 9] rfl
    have hDc := hD.sub (ws' := [(a_y0, .inr (10, [.ref a_y0_characters, .int (nI n_y0_length)])), (a_y0_characters, .inl (ka_y0_characters, 240, .inl f_y0_characters))]) [8, 9] (by decide) rfl
    have hKc := hK.sub (tys' := [(ka_y0_characters, .char)]) [5] rfl
    have hFc := va_free (wc := [(a_y0, .inr (10, [.ref a_y0_characters, .int (nI n_y0_length)])), (a_y0_characters, .inl (ka_y0_characters, 240, .inl f_y0_characters))]) hD hS hA [8, 9] rfl
    refine va_calll (va_runV (As := [.int (nI n_at), .int (nI y2)]) (rest := []) ⟨hx, hb, hml, hown, hz⟩ (s_Text_packed6 l dC dI s.heap.size a_y0 a_y0_characters f_y0_characters n_y0_length n_at y2 ka_y0_characters (by first | omega | assumption | exact hp3 e2 | exact hp4 e2 | (rw [hp9]; exact b01_any)) (by first | omega | assumption | exact hp3 e2 | exact hp4 e2 | (rw [hp9]; exact b01_any)) (by first | omega | assumption | exact hp3 e2 | exact hp4 e2 | (rw [hp9]; exact b01_any)) (by first | omega | assumption | exact hp3 e2 | exact hp4 e2 | (rw [hp9]; exact b01_any)) (by first | omega | assumption | exact hp3 e2 | exact hp4 e2 | (rw [hp9]; exact b01_any)) (by first | omega | assumption | exact hp3 e2 | exact hp4 e2 | (rw [hp9]; exact b01_any))) (cwV 2 hz (zV zm_141 zm_142 zm_143 zm_7 zm_144) rfl rfl rfl (by decide +kernel) ⟨Nat.le_of_ble_eq_true rfl, Nat.le_of_ble_eq_true rfl⟩) ⟨fun a U g mk q => by obtain ⟨q0, q1, qP, qK, qD⟩ := q; exact ⟨q0, q1, qP, va_K.moved (u := U) (U := U.calling g mk a) (Vm.Alike.refl U.vm) qK, qD⟩, va_recv (q := (R_Text, F_Text, 2)) (q0 := 8) (ci := 10) hK hP rfl rfl, fun U hU hW => ⟨rfl, by rw [hU], by rw [hU]; exact hPc, va_K.moved hW.alike hKc, hDc.weaken (fun _ _ _ _ => trivial)⟩⟩ rfl rfl hl.1 rfl (lv_room (Nat.le_of_ble_eq_true rfl)) d_Cutter_take_23 ⟨Nat.zero_le _, Nat.zero_le _⟩) hS (fun q _ h => hFc q h) hFc (fun r u t H1 locs ht hvm hw hB hz1 hk1 hS => ?_)
    obtain ⟨hP1, hK1, hD1⟩ := hB
    subst r
    rw [ht] at hP1
    obtain ⟨hP, hD⟩ := va_join (wr := [(a_t, .inr (3, [.ref a_lexemes, .int (nI n_at), .int z_lineStart, .int z_lineIsFresh, .int z_wrongPlace, .int z_tooMany])), (a_lexemes, .inr (5, [.ref a_lexemes_tokens, .ref a_lexemes_places, .ref a_lexemes_columns, .ref a_lexemes_lineFirsts])), (a_lexemes_tokens, .inr (11, [.ref a_lexemes_tokens_kinds, .ref a_lexemes_tokens_values, .int (nI n_lexemes_tokens_size)])), (a_lexemes_tokens_kinds, .inl (ka_lexemes_tokens_kinds, 90, .inl f_lexemes_tokens_kinds)), (a_lexemes_tokens_values, .inl (ka_lexemes_tokens_values, 90, .inr (.inl f_lexemes_tokens_values))), (a_lexemes_places, .inl (ka_lexemes_places, 90, .inl f_lexemes_places)), (a_lexemes_columns, .inl (ka_lexemes_columns, 90, .inl f_lexemes_columns)), (a_lexemes_lineFirsts, .inl (ka_lexemes_lineFirsts, 90, .inl f_lexemes_lineFirsts))]) (w1 := [(a_y0, .inr (10, [.ref a_y0_characters, .int (nI n_y0_length)])), (a_y0_characters, .inl (ka_y0_characters, 240, .inl f_y0_characters))]) hP hD [8, 9] [0, 1, 2, 3, 4, 5, 6, 7] rfl rfl (by decide) (by decide) hk1 hFc hP1 hD1
    generalize H1 = H at hP hS ⊢
    have hP : va_P (dC, dI) vcl [(a_t, .inr (3, [.ref a_lexemes, .int (nI n_at), .int z_lineStart, .int z_lineIsFresh, .int z_wrongPlace, .int z_tooMany])), (a_lexemes, .inr (5, [.ref a_lexemes_tokens, .ref a_lexemes_places, .ref a_lexemes_columns, .ref a_lexemes_lineFirsts])), (a_lexemes_tokens, .inr (11, [.ref a_lexemes_tokens_kinds, .ref a_lexemes_tokens_values, .int (nI n_lexemes_tokens_size)])), (a_lexemes_tokens_kinds, .inl (ka_lexemes_tokens_kinds, 90, .inl f_lexemes_tokens_kinds)), (a_lexemes_tokens_values, .inl (ka_lexemes_tokens_values, 90, .inr (.inl f_lexemes_tokens_values))), (a_lexemes_places, .inl (ka_lexemes_places, 90, .inl f_lexemes_places)), (a_lexemes_columns, .inl (ka_lexemes_columns, 90, .inl f_lexemes_columns)), (a_lexemes_lineFirsts, .inl (ka_lexemes_lineFirsts, 90, .inl f_lexemes_lineFirsts)), (a_y0, .inr (10, [.ref a_y0_characters, .int (nI n_y0_length)])), (a_y0_characters, .inl (ka_y0_characters, 240, .inl f_y0_characters))] H := hP
    have hD : va_D A [(a_t, .inr (3, [.ref a_lexemes, .int (nI n_at), .int z_lineStart, .int z_lineIsFresh, .int z_wrongPlace, .int z_tooMany])), (a_lexemes, .inr (5, [.ref a_lexemes_tokens, .ref a_lexemes_places, .ref a_lexemes_columns, .ref a_lexemes_lineFirsts])), (a_lexemes_tokens, .inr (11, [.ref a_lexemes_tokens_kinds, .ref a_lexemes_tokens_values, .int (nI n_lexemes_tokens_size)])), (a_lexemes_tokens_kinds, .inl (ka_lexemes_tokens_kinds, 90, .inl f_lexemes_tokens_kinds)), (a_lexemes_tokens_values, .inl (ka_lexemes_tokens_values, 90, .inr (.inl f_lexemes_tokens_values))), (a_lexemes_places, .inl (ka_lexemes_places, 90, .inl f_lexemes_places)), (a_lexemes_columns, .inl (ka_lexemes_columns, 90, .inl f_lexemes_columns)), (a_lexemes_lineFirsts, .inl (ka_lexemes_lineFirsts, 90, .inl f_lexemes_lineFirsts)), (a_y0, .inr (10, [.ref a_y0_characters, .int (nI n_y0_length)])), (a_y0_characters, .inl (ka_y0_characters, 240, .inl f_y0_characters))] := hD
    refine lv_lstore hx hb d_Cutter_take_26 hl (by decide) rfl (fun ls hl => ?_)
    have hl : lv_has ls 6 [(4, .long (pkL (cN f_y0_characters n_y0_length) n_at (y2 - n_at))), (0, .ref a_t), (1, .ref a_y0), (2, .int y1), (3, .int (nI y2))] := hl
    refine lv_aload_n hx hb d_Cutter_take_28 rfl (lv_at hl 1 rfl) ?_
    refine va_get (D := (dC, dI)) (ci := 3) (v := .ref a_lexemes) (C := R_Cutter) (T := F_Cutter) (N := 6) hx hb hz zu_Cutter hown hK hP 0 rfl rfl 0 (by decide) (hz (.fieldLink R_Cutter 12 "LayoutFront$Cutter" "lexemes" "LLayoutFront$Lexemes;") zm_74) (fun _ h9 => h9) rfl d_Cutter_take_29 ?_
    refine lv_iload_n hx hb d_Cutter_take_32 rfl (lv_at hl 3 rfl) ?_
    refine lv_lload hx hb d_Cutter_take_33 (lv_at hl 0 rfl) ?_
    refine lv_aload_n hx hb d_Cutter_take_35 rfl (lv_at hl 1 rfl) ?_
    refine va_get (D := (dC, dI)) (ci := 3) (v := .int (nI n_at)) (C := R_Cutter) (T := F_Cutter) (N := 6) hx hb hz zu_Cutter hown hK hP 0 rfl rfl 1 (by decide) (hz (.fieldLink R_Cutter 29 "LayoutFront$Cutter" "at" "I") zm_82) (fun _ h9 => h9) rfl d_Cutter_take_36 ?_
    refine lv_aload_n hx hb d_Cutter_take_39 rfl (lv_at hl 1 rfl) ?_
    refine va_get (D := (dC, dI)) (ci := 3) (v := .int (nI n_at)) (C := R_Cutter) (T := F_Cutter) (N := 6) hx hb hz zu_Cutter hown hK hP 0 rfl rfl 1 (by decide) (hz (.fieldLink R_Cutter 29 "LayoutFront$Cutter" "at" "I") zm_82) (fun _ h9 => h9) rfl d_Cutter_take_40 ?_
    refine lv_aload_n hx hb d_Cutter_take_43 rfl (lv_at hl 1 rfl) ?_
    refine va_get (D := (dC, dI)) (ci := 3) (v := .int z_lineStart) (C := R_Cutter) (T := F_Cutter) (N := 6) hx hb hz zu_Cutter hown hK hP 0 rfl rfl 2 (by decide) (hz (.fieldLink R_Cutter 32 "LayoutFront$Cutter" "lineStart" "I") zm_83) (fun _ h9 => h9) rfl d_Cutter_take_44 ?_
    refine xr_isub (v := ((nI n_at) - z_lineStart)) hx hb d_Cutter_take_47 rfl ?_
    refine lv_iconst (v := 1) hx hb d_Cutter_take_48 (by decide) ?_
    refine xr_iadd (v := (((nI n_at) - z_lineStart) + 1)) hx hb d_Cutter_take_49 rfl ?_
    refine lv_aload_n hx hb d_Cutter_take_50 rfl (lv_at hl 1 rfl) ?_
    refine va_get (D := (dC, dI)) (ci := 3) (v := .int z_lineIsFresh) (C := R_Cutter) (T := F_Cutter) (N := 6) hx hb hz zu_Cutter hown hK hP 0 rfl rfl 3 (by decide) (hz (.fieldLink R_Cutter 35 "LayoutFront$Cutter" "lineIsFresh" "Z") zm_84) (fun _ h9 => h9) rfl d_Cutter_take_51 ?_
    have hPc := hP.sub (ws' := [(a_lexemes, .inr (5, [.ref a_lexemes_tokens, .ref a_lexemes_places, .ref a_lexemes_columns, .ref a_lexemes_lineFirsts])), (a_lexemes_tokens, .inr (11, [.ref a_lexemes_tokens_kinds, .ref a_lexemes_tokens_values, .int (nI n_lexemes_tokens_size)])), (a_lexemes_tokens_kinds, .inl (ka_lexemes_tokens_kinds, 90, .inl f_lexemes_tokens_kinds)), (a_lexemes_tokens_values, .inl (ka_lexemes_tokens_values, 90, .inr (.inl f_lexemes_tokens_values))), (a_lexemes_places, .inl (ka_lexemes_places, 90, .inl f_lexemes_places)), (a_lexemes_columns, .inl (ka_lexemes_columns, 90, .inl f_lexemes_columns)), (a_lexemes_lineFirsts, .inl (ka_lexemes_lineFirsts, 90, .inl f_lexemes_lineFirsts))]) [1, 2, 3, 4, 5, 6, 7] rfl
    have hDc := hD.sub (ws' := [(a_lexemes, .inr (5, [.ref a_lexemes_tokens, .ref a_lexemes_places, .ref a_lexemes_columns, .ref a_lexemes_lineFirsts])), (a_lexemes_tokens, .inr (11, [.ref a_lexemes_tokens_kinds, .ref a_lexemes_tokens_values, .int (nI n_lexemes_tokens_size)])), (a_lexemes_tokens_kinds, .inl (ka_lexemes_tokens_kinds, 90, .inl f_lexemes_tokens_kinds)), (a_lexemes_tokens_values, .inl (ka_lexemes_tokens_values, 90, .inr (.inl f_lexemes_tokens_values))), (a_lexemes_places, .inl (ka_lexemes_places, 90, .inl f_lexemes_places)), (a_lexemes_columns, .inl (ka_lexemes_columns, 90, .inl f_lexemes_columns)), (a_lexemes_lineFirsts, .inl (ka_lexemes_lineFirsts, 90, .inl f_lexemes_lineFirsts))]) [1, 2, 3, 4, 5, 6, 7] (by decide) rfl
    have hKc := hK.sub (tys' := [(ka_lexemes_tokens_kinds, .int), (ka_lexemes_tokens_values, .long), (ka_lexemes_places, .int), (ka_lexemes_columns, .int), (ka_lexemes_lineFirsts, .boolean)]) [0, 1, 2, 3, 4] rfl
    have hFc := va_free (wc := [(a_lexemes, .inr (5, [.ref a_lexemes_tokens, .ref a_lexemes_places, .ref a_lexemes_columns, .ref a_lexemes_lineFirsts])), (a_lexemes_tokens, .inr (11, [.ref a_lexemes_tokens_kinds, .ref a_lexemes_tokens_values, .int (nI n_lexemes_tokens_size)])), (a_lexemes_tokens_kinds, .inl (ka_lexemes_tokens_kinds, 90, .inl f_lexemes_tokens_kinds)), (a_lexemes_tokens_values, .inl (ka_lexemes_tokens_values, 90, .inr (.inl f_lexemes_tokens_values))), (a_lexemes_places, .inl (ka_lexemes_places, 90, .inl f_lexemes_places)), (a_lexemes_columns, .inl (ka_lexemes_columns, 90, .inl f_lexemes_columns)), (a_lexemes_lineFirsts, .inl (ka_lexemes_lineFirsts, 90, .inl f_lexemes_lineFirsts))]) hD hS hA [1, 2, 3, 4, 5, 6, 7] rfl
    refine va_callv (va_runV (As := [.int y1, .long (pkL (cN f_y0_characters n_y0_length) n_at (y2 - n_at)), .int (nI n_at), .int (((nI n_at) - z_lineStart) + 1), .int z_lineIsFresh]) (rest := []) ⟨hx, hb, hml, hown, hz⟩ (s_Lexemes_add6 l dC dI H.size a_lexemes a_lexemes_tokens a_lexemes_tokens_kinds f_lexemes_tokens_kinds a_lexemes_tokens_values f_lexemes_tokens_values n_lexemes_tokens_size a_lexemes_places f_lexemes_places a_lexemes_columns f_lexemes_columns a_lexemes_lineFirsts f_lexemes_lineFirsts y1 ((pkL (cN f_y0_characters n_y0_length) n_at (y2 - n_at))) ((nI n_at)) ((((nI n_at) - z_lineStart) + 1)) z_lineIsFresh ka_lexemes_tokens_kinds ka_lexemes_tokens_values ka_lexemes_places ka_lexemes_columns ka_lexemes_lineFirsts (by first | omega | assumption | exact hp3 e2 | exact hp4 e2 | (rw [hp9]; exact b01_any)) (by first | omega | assumption | exact hp3 e2 | exact hp4 e2 | (rw [hp9]; exact b01_any)) (by first | omega | assumption | exact hp3 e2 | exact hp4 e2 | (rw [hp9]; exact b01_any))) (cwV 5 hz (zV zm_145 zm_146 zm_147 zm_71 zm_148) rfl rfl rfl (by decide +kernel) ⟨Nat.le_of_ble_eq_true rfl, Nat.le_of_ble_eq_true rfl⟩) ⟨fun a U g mk q => by obtain ⟨q0, q1, qP, qK, qD⟩ := q; exact ⟨q0, q1, qP, va_K.moved (u := U) (U := U.calling g mk a) (Vm.Alike.refl U.vm) qK, qD⟩, va_recv (q := (R_Lexemes, F_Lexemes, 4)) (q0 := 1) (ci := 5) hK hP rfl rfl, fun U hU hW => ⟨rfl, by rw [hU], by rw [hU]; exact hPc, va_K.moved hW.alike hKc, hDc.weaken (fun _ _ _ _ => trivial)⟩⟩ rfl rfl hl.1 rfl (lv_room (Nat.le_of_ble_eq_true rfl)) d_Cutter_take_54 ⟨Nat.zero_le _, Nat.zero_le _⟩) hS (fun q _ h => hFc q h) hFc (fun u t H1 locs ht hvm hw hB hz1 hk1 hS => ?_)
    obtain ⟨g2, g3, g4, g5, g6, g7, hb_g2, hq0_54, hq1_54, hq2_54, hq3_54, hq4_54, hq5_54, hP1, hK1, hD1⟩ := hB
    subst g2
    subst g3
    subst g4
    subst g5
    subst g6
    subst g7
    rw [ht] at hP1
    obtain ⟨hP, hD⟩ := va_join (wr := [(a_t, .inr (3, [.ref a_lexemes, .int (nI n_at), .int z_lineStart, .int z_lineIsFresh, .int z_wrongPlace, .int z_tooMany])), (a_y0, .inr (10, [.ref a_y0_characters, .int (nI n_y0_length)])), (a_y0_characters, .inl (ka_y0_characters, 240, .inl f_y0_characters))]) (w1 := [(a_lexemes, .inr (5, [.ref a_lexemes_tokens, .ref a_lexemes_places, .ref a_lexemes_columns, .ref a_lexemes_lineFirsts])), (a_lexemes_tokens, .inr (11, [.ref a_lexemes_tokens_kinds, .ref a_lexemes_tokens_values, .int (nI (n_lexemes_tokens_size + 1))])), (a_lexemes_tokens_kinds, .inl (ka_lexemes_tokens_kinds, 90, .inl (upd f_lexemes_tokens_kinds n_lexemes_tokens_size y1))), (a_lexemes_tokens_values, .inl (ka_lexemes_tokens_values, 90, .inr (.inl (vp_updL f_lexemes_tokens_values n_lexemes_tokens_size ((pkL (cN f_y0_characters n_y0_length) n_at (y2 - n_at))))))), (a_lexemes_places, .inl (ka_lexemes_places, 90, .inl (upd f_lexemes_places n_lexemes_tokens_size ((nI n_at))))), (a_lexemes_columns, .inl (ka_lexemes_columns, 90, .inl (upd f_lexemes_columns n_lexemes_tokens_size ((((nI n_at) - z_lineStart) + 1))))), (a_lexemes_lineFirsts, .inl (ka_lexemes_lineFirsts, 90, .inl (upd f_lexemes_lineFirsts n_lexemes_tokens_size z_lineIsFresh)))]) hP hD [1, 2, 3, 4, 5, 6, 7] [0, 8, 9] rfl rfl (by decide) (by decide) hk1 hFc hP1 hD1
    generalize H1 = H at hP hS ⊢
    have hP : va_P (dC, dI) vcl [(a_t, .inr (3, [.ref a_lexemes, .int (nI n_at), .int z_lineStart, .int z_lineIsFresh, .int z_wrongPlace, .int z_tooMany])), (a_y0, .inr (10, [.ref a_y0_characters, .int (nI n_y0_length)])), (a_y0_characters, .inl (ka_y0_characters, 240, .inl f_y0_characters)), (a_lexemes, .inr (5, [.ref a_lexemes_tokens, .ref a_lexemes_places, .ref a_lexemes_columns, .ref a_lexemes_lineFirsts])), (a_lexemes_tokens, .inr (11, [.ref a_lexemes_tokens_kinds, .ref a_lexemes_tokens_values, .int (nI (n_lexemes_tokens_size + 1))])), (a_lexemes_tokens_kinds, .inl (ka_lexemes_tokens_kinds, 90, .inl (upd f_lexemes_tokens_kinds n_lexemes_tokens_size y1))), (a_lexemes_tokens_values, .inl (ka_lexemes_tokens_values, 90, .inr (.inl (vp_updL f_lexemes_tokens_values n_lexemes_tokens_size ((pkL (cN f_y0_characters n_y0_length) n_at (y2 - n_at))))))), (a_lexemes_places, .inl (ka_lexemes_places, 90, .inl (upd f_lexemes_places n_lexemes_tokens_size ((nI n_at))))), (a_lexemes_columns, .inl (ka_lexemes_columns, 90, .inl (upd f_lexemes_columns n_lexemes_tokens_size ((((nI n_at) - z_lineStart) + 1))))), (a_lexemes_lineFirsts, .inl (ka_lexemes_lineFirsts, 90, .inl (upd f_lexemes_lineFirsts n_lexemes_tokens_size z_lineIsFresh)))] H := hP
    have hD : va_D A [(a_t, .inr (3, [.ref a_lexemes, .int (nI n_at), .int z_lineStart, .int z_lineIsFresh, .int z_wrongPlace, .int z_tooMany])), (a_y0, .inr (10, [.ref a_y0_characters, .int (nI n_y0_length)])), (a_y0_characters, .inl (ka_y0_characters, 240, .inl f_y0_characters)), (a_lexemes, .inr (5, [.ref a_lexemes_tokens, .ref a_lexemes_places, .ref a_lexemes_columns, .ref a_lexemes_lineFirsts])), (a_lexemes_tokens, .inr (11, [.ref a_lexemes_tokens_kinds, .ref a_lexemes_tokens_values, .int (nI (n_lexemes_tokens_size + 1))])), (a_lexemes_tokens_kinds, .inl (ka_lexemes_tokens_kinds, 90, .inl (upd f_lexemes_tokens_kinds n_lexemes_tokens_size y1))), (a_lexemes_tokens_values, .inl (ka_lexemes_tokens_values, 90, .inr (.inl (vp_updL f_lexemes_tokens_values n_lexemes_tokens_size ((pkL (cN f_y0_characters n_y0_length) n_at (y2 - n_at))))))), (a_lexemes_places, .inl (ka_lexemes_places, 90, .inl (upd f_lexemes_places n_lexemes_tokens_size ((nI n_at))))), (a_lexemes_columns, .inl (ka_lexemes_columns, 90, .inl (upd f_lexemes_columns n_lexemes_tokens_size ((((nI n_at) - z_lineStart) + 1))))), (a_lexemes_lineFirsts, .inl (ka_lexemes_lineFirsts, 90, .inl (upd f_lexemes_lineFirsts n_lexemes_tokens_size z_lineIsFresh)))] := hD
    refine lv_aload_n hx hb d_Cutter_take_57 rfl (lv_at hl 1 rfl) ?_
    refine lv_iconst (v := 0) hx hb d_Cutter_take_58 (by decide) ?_
    refine va_put (D := (dC, dI)) (ci := 3) (v := .int 0) (ty := .boolean) (C := R_Cutter) (T := F_Cutter) (N := 6) hx hb hz zu_Cutter t_Cutter t_Cutter_ok n_Cutter hown hK hP hD hS 0 rfl rfl 3 (by decide) (hz (.fieldLink R_Cutter 35 "LayoutFront$Cutter" "lineIsFresh" "Z") zm_84) (fun _ h9 => h9) rfl (by decide +kernel) (by decide +kernel) rfl (Nat.le_of_ble_eq_true rfl) d_Cutter_take_59 (fun H locs hP hD hS => ?_)
    have hP : va_P (dC, dI) vcl [(a_t, .inr (3, [.ref a_lexemes, .int (nI n_at), .int z_lineStart, .int 0, .int z_wrongPlace, .int z_tooMany])), (a_y0, .inr (10, [.ref a_y0_characters, .int (nI n_y0_length)])), (a_y0_characters, .inl (ka_y0_characters, 240, .inl f_y0_characters)), (a_lexemes, .inr (5, [.ref a_lexemes_tokens, .ref a_lexemes_places, .ref a_lexemes_columns, .ref a_lexemes_lineFirsts])), (a_lexemes_tokens, .inr (11, [.ref a_lexemes_tokens_kinds, .ref a_lexemes_tokens_values, .int (nI (n_lexemes_tokens_size + 1))])), (a_lexemes_tokens_kinds, .inl (ka_lexemes_tokens_kinds, 90, .inl (upd f_lexemes_tokens_kinds n_lexemes_tokens_size y1))), (a_lexemes_tokens_values, .inl (ka_lexemes_tokens_values, 90, .inr (.inl (vp_updL f_lexemes_tokens_values n_lexemes_tokens_size ((pkL (cN f_y0_characters n_y0_length) n_at (y2 - n_at))))))), (a_lexemes_places, .inl (ka_lexemes_places, 90, .inl (upd f_lexemes_places n_lexemes_tokens_size ((nI n_at))))), (a_lexemes_columns, .inl (ka_lexemes_columns, 90, .inl (upd f_lexemes_columns n_lexemes_tokens_size ((((nI n_at) - z_lineStart) + 1))))), (a_lexemes_lineFirsts, .inl (ka_lexemes_lineFirsts, 90, .inl (upd f_lexemes_lineFirsts n_lexemes_tokens_size z_lineIsFresh)))] H := hP
    have hD : va_D A [(a_t, .inr (3, [.ref a_lexemes, .int (nI n_at), .int z_lineStart, .int 0, .int z_wrongPlace, .int z_tooMany])), (a_y0, .inr (10, [.ref a_y0_characters, .int (nI n_y0_length)])), (a_y0_characters, .inl (ka_y0_characters, 240, .inl f_y0_characters)), (a_lexemes, .inr (5, [.ref a_lexemes_tokens, .ref a_lexemes_places, .ref a_lexemes_columns, .ref a_lexemes_lineFirsts])), (a_lexemes_tokens, .inr (11, [.ref a_lexemes_tokens_kinds, .ref a_lexemes_tokens_values, .int (nI (n_lexemes_tokens_size + 1))])), (a_lexemes_tokens_kinds, .inl (ka_lexemes_tokens_kinds, 90, .inl (upd f_lexemes_tokens_kinds n_lexemes_tokens_size y1))), (a_lexemes_tokens_values, .inl (ka_lexemes_tokens_values, 90, .inr (.inl (vp_updL f_lexemes_tokens_values n_lexemes_tokens_size ((pkL (cN f_y0_characters n_y0_length) n_at (y2 - n_at))))))), (a_lexemes_places, .inl (ka_lexemes_places, 90, .inl (upd f_lexemes_places n_lexemes_tokens_size ((nI n_at))))), (a_lexemes_columns, .inl (ka_lexemes_columns, 90, .inl (upd f_lexemes_columns n_lexemes_tokens_size ((((nI n_at) - z_lineStart) + 1))))), (a_lexemes_lineFirsts, .inl (ka_lexemes_lineFirsts, 90, .inl (upd f_lexemes_lineFirsts n_lexemes_tokens_size z_lineIsFresh)))] := hD
    refine lv_aload_n hx hb d_Cutter_take_62 rfl (lv_at hl 1 rfl) ?_
    refine lv_iload_n hx hb d_Cutter_take_63 rfl (lv_at hl 4 rfl) ?_
    refine va_put (D := (dC, dI)) (ci := 3) (v := .int (nI y2)) (ty := .int) (C := R_Cutter) (T := F_Cutter) (N := 6) hx hb hz zu_Cutter t_Cutter t_Cutter_ok n_Cutter hown hK hP hD hS 0 rfl rfl 1 (by decide) (hz (.fieldLink R_Cutter 29 "LayoutFront$Cutter" "at" "I") zm_82) (fun _ h9 => h9) rfl (by decide +kernel) rfl rfl (Nat.le_of_ble_eq_true rfl) d_Cutter_take_64 (fun H locs hP hD hS => ?_)
    have hP : va_P (dC, dI) vcl [(a_t, .inr (3, [.ref a_lexemes, .int (nI y2), .int z_lineStart, .int 0, .int z_wrongPlace, .int z_tooMany])), (a_y0, .inr (10, [.ref a_y0_characters, .int (nI n_y0_length)])), (a_y0_characters, .inl (ka_y0_characters, 240, .inl f_y0_characters)), (a_lexemes, .inr (5, [.ref a_lexemes_tokens, .ref a_lexemes_places, .ref a_lexemes_columns, .ref a_lexemes_lineFirsts])), (a_lexemes_tokens, .inr (11, [.ref a_lexemes_tokens_kinds, .ref a_lexemes_tokens_values, .int (nI (n_lexemes_tokens_size + 1))])), (a_lexemes_tokens_kinds, .inl (ka_lexemes_tokens_kinds, 90, .inl (upd f_lexemes_tokens_kinds n_lexemes_tokens_size y1))), (a_lexemes_tokens_values, .inl (ka_lexemes_tokens_values, 90, .inr (.inl (vp_updL f_lexemes_tokens_values n_lexemes_tokens_size ((pkL (cN f_y0_characters n_y0_length) n_at (y2 - n_at))))))), (a_lexemes_places, .inl (ka_lexemes_places, 90, .inl (upd f_lexemes_places n_lexemes_tokens_size ((nI n_at))))), (a_lexemes_columns, .inl (ka_lexemes_columns, 90, .inl (upd f_lexemes_columns n_lexemes_tokens_size ((((nI n_at) - z_lineStart) + 1))))), (a_lexemes_lineFirsts, .inl (ka_lexemes_lineFirsts, 90, .inl (upd f_lexemes_lineFirsts n_lexemes_tokens_size z_lineIsFresh)))] H := hP
    have hD : va_D A [(a_t, .inr (3, [.ref a_lexemes, .int (nI y2), .int z_lineStart, .int 0, .int z_wrongPlace, .int z_tooMany])), (a_y0, .inr (10, [.ref a_y0_characters, .int (nI n_y0_length)])), (a_y0_characters, .inl (ka_y0_characters, 240, .inl f_y0_characters)), (a_lexemes, .inr (5, [.ref a_lexemes_tokens, .ref a_lexemes_places, .ref a_lexemes_columns, .ref a_lexemes_lineFirsts])), (a_lexemes_tokens, .inr (11, [.ref a_lexemes_tokens_kinds, .ref a_lexemes_tokens_values, .int (nI (n_lexemes_tokens_size + 1))])), (a_lexemes_tokens_kinds, .inl (ka_lexemes_tokens_kinds, 90, .inl (upd f_lexemes_tokens_kinds n_lexemes_tokens_size y1))), (a_lexemes_tokens_values, .inl (ka_lexemes_tokens_values, 90, .inr (.inl (vp_updL f_lexemes_tokens_values n_lexemes_tokens_size ((pkL (cN f_y0_characters n_y0_length) n_at (y2 - n_at))))))), (a_lexemes_places, .inl (ka_lexemes_places, 90, .inl (upd f_lexemes_places n_lexemes_tokens_size ((nI n_at))))), (a_lexemes_columns, .inl (ka_lexemes_columns, 90, .inl (upd f_lexemes_columns n_lexemes_tokens_size ((((nI n_at) - z_lineStart) + 1))))), (a_lexemes_lineFirsts, .inl (ka_lexemes_lineFirsts, 90, .inl (upd f_lexemes_lineFirsts n_lexemes_tokens_size z_lineIsFresh)))] := hD
    have hP9 := hP.sub (ws' := [(a_t, .inr (3, [.ref a_lexemes, .int (nI y2), .int z_lineStart, .int 0, .int z_wrongPlace, .int z_tooMany])), (a_lexemes, .inr (5, [.ref a_lexemes_tokens, .ref a_lexemes_places, .ref a_lexemes_columns, .ref a_lexemes_lineFirsts])), (a_lexemes_tokens, .inr (11, [.ref a_lexemes_tokens_kinds, .ref a_lexemes_tokens_values, .int (nI (n_lexemes_tokens_size + 1))])), (a_lexemes_tokens_kinds, .inl (ka_lexemes_tokens_kinds, 90, .inl (upd f_lexemes_tokens_kinds n_lexemes_tokens_size y1))), (a_lexemes_tokens_values, .inl (ka_lexemes_tokens_values, 90, .inr (.inl (vp_updL f_lexemes_tokens_values n_lexemes_tokens_size ((pkL (cN f_y0_characters n_y0_length) n_at (y2 - n_at))))))), (a_lexemes_places, .inl (ka_lexemes_places, 90, .inl (upd f_lexemes_places n_lexemes_tokens_size ((nI n_at))))), (a_lexemes_columns, .inl (ka_lexemes_columns, 90, .inl (upd f_lexemes_columns n_lexemes_tokens_size ((((nI n_at) - z_lineStart) + 1))))), (a_lexemes_lineFirsts, .inl (ka_lexemes_lineFirsts, 90, .inl (upd f_lexemes_lineFirsts n_lexemes_tokens_size z_lineIsFresh))), (a_y0, .inr (10, [.ref a_y0_characters, .int (nI n_y0_length)])), (a_y0_characters, .inl (ka_y0_characters, 240, .inl f_y0_characters))]) [0, 3, 4, 5, 6, 7, 8, 9, 1, 2] rfl
    have hD9 := hD.sub (ws' := [(a_t, .inr (3, [.ref a_lexemes, .int (nI y2), .int z_lineStart, .int 0, .int z_wrongPlace, .int z_tooMany])), (a_lexemes, .inr (5, [.ref a_lexemes_tokens, .ref a_lexemes_places, .ref a_lexemes_columns, .ref a_lexemes_lineFirsts])), (a_lexemes_tokens, .inr (11, [.ref a_lexemes_tokens_kinds, .ref a_lexemes_tokens_values, .int (nI (n_lexemes_tokens_size + 1))])), (a_lexemes_tokens_kinds, .inl (ka_lexemes_tokens_kinds, 90, .inl (upd f_lexemes_tokens_kinds n_lexemes_tokens_size y1))), (a_lexemes_tokens_values, .inl (ka_lexemes_tokens_values, 90, .inr (.inl (vp_updL f_lexemes_tokens_values n_lexemes_tokens_size ((pkL (cN f_y0_characters n_y0_length) n_at (y2 - n_at))))))), (a_lexemes_places, .inl (ka_lexemes_places, 90, .inl (upd f_lexemes_places n_lexemes_tokens_size ((nI n_at))))), (a_lexemes_columns, .inl (ka_lexemes_columns, 90, .inl (upd f_lexemes_columns n_lexemes_tokens_size ((((nI n_at) - z_lineStart) + 1))))), (a_lexemes_lineFirsts, .inl (ka_lexemes_lineFirsts, 90, .inl (upd f_lexemes_lineFirsts n_lexemes_tokens_size z_lineIsFresh))), (a_y0, .inr (10, [.ref a_y0_characters, .int (nI n_y0_length)])), (a_y0_characters, .inl (ka_y0_characters, 240, .inl f_y0_characters))]) [0, 3, 4, 5, 6, 7, 8, 9, 1, 2] (by decide) rfl
    exact W.vret hx hb hr (fun t ht hW => ⟨⟨(), rfl, trivial, y2, 0, ((n_lexemes_tokens_size + 1)), ((upd f_lexemes_tokens_kinds n_lexemes_tokens_size y1)), ((vp_updL f_lexemes_tokens_values n_lexemes_tokens_size ((pkL (cN f_y0_characters n_y0_length) n_at (y2 - n_at))))), ((upd f_lexemes_places n_lexemes_tokens_size ((nI n_at)))), ((upd f_lexemes_columns n_lexemes_tokens_size ((((nI n_at) - z_lineStart) + 1)))), ((upd f_lexemes_lineFirsts n_lexemes_tokens_size z_lineIsFresh)), by first | rfl | omega | assumption, by first | rfl | omega | assumption, by first | rfl | omega | assumption, by first | rfl | omega | assumption, by exact tk_fin hp5 hp6 hp8 hp9 (pkO_n e2) (by omega), by first | rfl | omega | assumption, by rw [ht]; exact hP9, va_K.moved hW.alike hK, hD9⟩, hS.F ht⟩) hS.2.2 d_Cutter_take_67
  · have e2 := h1
    refine lv_aload_n hx hb d_Cutter_take_5 rfl (lv_at hl 1 rfl) ?_
    refine lv_aload_n hx hb d_Cutter_take_6 rfl (lv_at hl 0 rfl) ?_
    refine va_get (D := (dC, dI)) (ci := 3) (v := .int (nI n_at)) (C := R_Cutter) (T := F_Cutter) (N := 6) hx hb hz zu_Cutter hown hK hP 0 rfl rfl 1 (by decide) (hz (.fieldLink R_Cutter 29 "LayoutFront$Cutter" "at" "I") zm_82) (fun _ h9 => h9) rfl d_Cutter_take_7 ?_
    refine lv_iload_n hx hb d_Cutter_take_10 rfl (lv_at hl 3 rfl) ?_
    have hPc := hP.sub (ws' := [(a_y0, .inr (10, [.ref a_y0_characters, .int (nI n_y0_length)])), (a_y0_characters, .inl (ka_y0_characters, 240, .inl f_y0_characters))]) [8, 9] rfl
    have hDc := hD.sub (ws' := [(a_y0, .inr (10, [.ref a_y0_characters, .int (nI n_y0_length)])), (a_y0_characters, .inl (ka_y0_characters, 240, .inl f_y0_characters))]) [8, 9] (by decide) rfl
    have hKc := hK.sub (tys' := [(ka_y0_characters, .char)]) [5] rfl
    have hFc := va_free (wc := [(a_y0, .inr (10, [.ref a_y0_characters, .int (nI n_y0_length)])), (a_y0_characters, .inl (ka_y0_characters, 240, .inl f_y0_characters))]) hD hS hA [8, 9] rfl
    refine va_calll (va_runV (As := [.int (nI n_at), .int (nI y2)]) (rest := []) ⟨hx, hb, hml, hown, hz⟩ (s_Text_number6 l dC dI s.heap.size a_y0 a_y0_characters f_y0_characters n_y0_length n_at y2 ka_y0_characters (by first | omega | assumption | exact hp3 e2 | exact hp4 e2 | (rw [hp9]; exact b01_any)) (by first | omega | assumption | exact hp3 e2 | exact hp4 e2 | (rw [hp9]; exact b01_any)) (by first | omega | assumption | exact hp3 e2 | exact hp4 e2 | (rw [hp9]; exact b01_any)) (by first | omega | assumption | exact hp3 e2 | exact hp4 e2 | (rw [hp9]; exact b01_any)) (by first | omega | assumption | exact hp3 e2 | exact hp4 e2 | (rw [hp9]; exact b01_any)) (by first | omega | assumption | exact hp3 e2 | exact hp4 e2 | (rw [hp9]; exact b01_any))) (cwV 2 hz (zV zm_137 zm_138 zm_139 zm_7 zm_140) rfl rfl rfl (by decide +kernel) ⟨Nat.le_of_ble_eq_true rfl, Nat.le_of_ble_eq_true rfl⟩) ⟨fun a U g mk q => by obtain ⟨q0, q1, qP, qK, qD⟩ := q; exact ⟨q0, q1, qP, va_K.moved (u := U) (U := U.calling g mk a) (Vm.Alike.refl U.vm) qK, qD⟩, va_recv (q := (R_Text, F_Text, 2)) (q0 := 8) (ci := 10) hK hP rfl rfl, fun U hU hW => ⟨rfl, by rw [hU], by rw [hU]; exact hPc, va_K.moved hW.alike hKc, hDc.weaken (fun _ _ _ _ => trivial)⟩⟩ rfl rfl hl.1 rfl (lv_room (Nat.le_of_ble_eq_true rfl)) d_Cutter_take_11 ⟨Nat.zero_le _, Nat.zero_le _⟩) hS (fun q _ h => hFc q h) hFc (fun r u t H1 locs ht hvm hw hB hz1 hk1 hS => ?_)
    obtain ⟨hP1, hK1, hD1⟩ := hB
    subst r
    rw [ht] at hP1
    obtain ⟨hP, hD⟩ := va_join (wr := [(a_t, .inr (3, [.ref a_lexemes, .int (nI n_at), .int z_lineStart, .int z_lineIsFresh, .int z_wrongPlace, .int z_tooMany])), (a_lexemes, .inr (5, [.ref a_lexemes_tokens, .ref a_lexemes_places, .ref a_lexemes_columns, .ref a_lexemes_lineFirsts])), (a_lexemes_tokens, .inr (11, [.ref a_lexemes_tokens_kinds, .ref a_lexemes_tokens_values, .int (nI n_lexemes_tokens_size)])), (a_lexemes_tokens_kinds, .inl (ka_lexemes_tokens_kinds, 90, .inl f_lexemes_tokens_kinds)), (a_lexemes_tokens_values, .inl (ka_lexemes_tokens_values, 90, .inr (.inl f_lexemes_tokens_values))), (a_lexemes_places, .inl (ka_lexemes_places, 90, .inl f_lexemes_places)), (a_lexemes_columns, .inl (ka_lexemes_columns, 90, .inl f_lexemes_columns)), (a_lexemes_lineFirsts, .inl (ka_lexemes_lineFirsts, 90, .inl f_lexemes_lineFirsts))]) (w1 := [(a_y0, .inr (10, [.ref a_y0_characters, .int (nI n_y0_length)])), (a_y0_characters, .inl (ka_y0_characters, 240, .inl f_y0_characters))]) hP hD [8, 9] [0, 1, 2, 3, 4, 5, 6, 7] rfl rfl (by decide) (by decide) hk1 hFc hP1 hD1
    generalize H1 = H at hP hS ⊢
    have hP : va_P (dC, dI) vcl [(a_t, .inr (3, [.ref a_lexemes, .int (nI n_at), .int z_lineStart, .int z_lineIsFresh, .int z_wrongPlace, .int z_tooMany])), (a_lexemes, .inr (5, [.ref a_lexemes_tokens, .ref a_lexemes_places, .ref a_lexemes_columns, .ref a_lexemes_lineFirsts])), (a_lexemes_tokens, .inr (11, [.ref a_lexemes_tokens_kinds, .ref a_lexemes_tokens_values, .int (nI n_lexemes_tokens_size)])), (a_lexemes_tokens_kinds, .inl (ka_lexemes_tokens_kinds, 90, .inl f_lexemes_tokens_kinds)), (a_lexemes_tokens_values, .inl (ka_lexemes_tokens_values, 90, .inr (.inl f_lexemes_tokens_values))), (a_lexemes_places, .inl (ka_lexemes_places, 90, .inl f_lexemes_places)), (a_lexemes_columns, .inl (ka_lexemes_columns, 90, .inl f_lexemes_columns)), (a_lexemes_lineFirsts, .inl (ka_lexemes_lineFirsts, 90, .inl f_lexemes_lineFirsts)), (a_y0, .inr (10, [.ref a_y0_characters, .int (nI n_y0_length)])), (a_y0_characters, .inl (ka_y0_characters, 240, .inl f_y0_characters))] H := hP
    have hD : va_D A [(a_t, .inr (3, [.ref a_lexemes, .int (nI n_at), .int z_lineStart, .int z_lineIsFresh, .int z_wrongPlace, .int z_tooMany])), (a_lexemes, .inr (5, [.ref a_lexemes_tokens, .ref a_lexemes_places, .ref a_lexemes_columns, .ref a_lexemes_lineFirsts])), (a_lexemes_tokens, .inr (11, [.ref a_lexemes_tokens_kinds, .ref a_lexemes_tokens_values, .int (nI n_lexemes_tokens_size)])), (a_lexemes_tokens_kinds, .inl (ka_lexemes_tokens_kinds, 90, .inl f_lexemes_tokens_kinds)), (a_lexemes_tokens_values, .inl (ka_lexemes_tokens_values, 90, .inr (.inl f_lexemes_tokens_values))), (a_lexemes_places, .inl (ka_lexemes_places, 90, .inl f_lexemes_places)), (a_lexemes_columns, .inl (ka_lexemes_columns, 90, .inl f_lexemes_columns)), (a_lexemes_lineFirsts, .inl (ka_lexemes_lineFirsts, 90, .inl f_lexemes_lineFirsts)), (a_y0, .inr (10, [.ref a_y0_characters, .int (nI n_y0_length)])), (a_y0_characters, .inl (ka_y0_characters, 240, .inl f_y0_characters))] := hD
    refine lv_goto (tgt := 26) hx hb d_Cutter_take_14 (by decide) ?_
    refine lv_lstore hx hb d_Cutter_take_26 hl (by decide) rfl (fun ls hl => ?_)
    have hl : lv_has ls 6 [(4, .long (nmL (cN f_y0_characters n_y0_length) n_at (y2 - n_at))), (0, .ref a_t), (1, .ref a_y0), (2, .int y1), (3, .int (nI y2))] := hl
    refine lv_aload_n hx hb d_Cutter_take_28 rfl (lv_at hl 1 rfl) ?_
    refine va_get (D := (dC, dI)) (ci := 3) (v := .ref a_lexemes) (C := R_Cutter) (T := F_Cutter) (N := 6) hx hb hz zu_Cutter hown hK hP 0 rfl rfl 0 (by decide) (hz (.fieldLink R_Cutter 12 "LayoutFront$Cutter" "lexemes" "LLayoutFront$Lexemes;") zm_74) (fun _ h9 => h9) rfl d_Cutter_take_29 ?_
    refine lv_iload_n hx hb d_Cutter_take_32 rfl (lv_at hl 3 rfl) ?_
    refine lv_lload hx hb d_Cutter_take_33 (lv_at hl 0 rfl) ?_
    refine lv_aload_n hx hb d_Cutter_take_35 rfl (lv_at hl 1 rfl) ?_
    refine va_get (D := (dC, dI)) (ci := 3) (v := .int (nI n_at)) (C := R_Cutter) (T := F_Cutter) (N := 6) hx hb hz zu_Cutter hown hK hP 0 rfl rfl 1 (by decide) (hz (.fieldLink R_Cutter 29 "LayoutFront$Cutter" "at" "I") zm_82) (fun _ h9 => h9) rfl d_Cutter_take_36 ?_
    refine lv_aload_n hx hb d_Cutter_take_39 rfl (lv_at hl 1 rfl) ?_
    refine va_get (D := (dC, dI)) (ci := 3) (v := .int (nI n_at)) (C := R_Cutter) (T := F_Cutter) (N := 6) hx hb hz zu_Cutter hown hK hP 0 rfl rfl 1 (by decide) (hz (.fieldLink R_Cutter 29 "LayoutFront$Cutter" "at" "I") zm_82) (fun _ h9 => h9) rfl d_Cutter_take_40 ?_
    refine lv_aload_n hx hb d_Cutter_take_43 rfl (lv_at hl 1 rfl) ?_
    refine va_get (D := (dC, dI)) (ci := 3) (v := .int z_lineStart) (C := R_Cutter) (T := F_Cutter) (N := 6) hx hb hz zu_Cutter hown hK hP 0 rfl rfl 2 (by decide) (hz (.fieldLink R_Cutter 32 "LayoutFront$Cutter" "lineStart" "I") zm_83) (fun _ h9 => h9) rfl d_Cutter_take_44 ?_
    refine xr_isub (v := ((nI n_at) - z_lineStart)) hx hb d_Cutter_take_47 rfl ?_
    refine lv_iconst (v := 1) hx hb d_Cutter_take_48 (by decide) ?_
    refine xr_iadd (v := (((nI n_at) - z_lineStart) + 1)) hx hb d_Cutter_take_49 rfl ?_
    refine lv_aload_n hx hb d_Cutter_take_50 rfl (lv_at hl 1 rfl) ?_
    refine va_get (D := (dC, dI)) (ci := 3) (v := .int z_lineIsFresh) (C := R_Cutter) (T := F_Cutter) (N := 6) hx hb hz zu_Cutter hown hK hP 0 rfl rfl 3 (by decide) (hz (.fieldLink R_Cutter 35 "LayoutFront$Cutter" "lineIsFresh" "Z") zm_84) (fun _ h9 => h9) rfl d_Cutter_take_51 ?_
    have hPc := hP.sub (ws' := [(a_lexemes, .inr (5, [.ref a_lexemes_tokens, .ref a_lexemes_places, .ref a_lexemes_columns, .ref a_lexemes_lineFirsts])), (a_lexemes_tokens, .inr (11, [.ref a_lexemes_tokens_kinds, .ref a_lexemes_tokens_values, .int (nI n_lexemes_tokens_size)])), (a_lexemes_tokens_kinds, .inl (ka_lexemes_tokens_kinds, 90, .inl f_lexemes_tokens_kinds)), (a_lexemes_tokens_values, .inl (ka_lexemes_tokens_values, 90, .inr (.inl f_lexemes_tokens_values))), (a_lexemes_places, .inl (ka_lexemes_places, 90, .inl f_lexemes_places)), (a_lexemes_columns, .inl (ka_lexemes_columns, 90, .inl f_lexemes_columns)), (a_lexemes_lineFirsts, .inl (ka_lexemes_lineFirsts, 90, .inl f_lexemes_lineFirsts))]) [1, 2, 3, 4, 5, 6, 7] rfl
    have hDc := hD.sub (ws' := [(a_lexemes, .inr (5, [.ref a_lexemes_tokens, .ref a_lexemes_places, .ref a_lexemes_columns, .ref a_lexemes_lineFirsts])), (a_lexemes_tokens, .inr (11, [.ref a_lexemes_tokens_kinds, .ref a_lexemes_tokens_values, .int (nI n_lexemes_tokens_size)])), (a_lexemes_tokens_kinds, .inl (ka_lexemes_tokens_kinds, 90, .inl f_lexemes_tokens_kinds)), (a_lexemes_tokens_values, .inl (ka_lexemes_tokens_values, 90, .inr (.inl f_lexemes_tokens_values))), (a_lexemes_places, .inl (ka_lexemes_places, 90, .inl f_lexemes_places)), (a_lexemes_columns, .inl (ka_lexemes_columns, 90, .inl f_lexemes_columns)), (a_lexemes_lineFirsts, .inl (ka_lexemes_lineFirsts, 90, .inl f_lexemes_lineFirsts))]) [1, 2, 3, 4, 5, 6, 7] (by decide) rfl
    have hKc := hK.sub (tys' := [(ka_lexemes_tokens_kinds, .int), (ka_lexemes_tokens_values, .long), (ka_lexemes_places, .int), (ka_lexemes_columns, .int), (ka_lexemes_lineFirsts, .boolean)]) [0, 1, 2, 3, 4] rfl
    have hFc := va_free (wc := [(a_lexemes, .inr (5, [.ref a_lexemes_tokens, .ref a_lexemes_places, .ref a_lexemes_columns, .ref a_lexemes_lineFirsts])), (a_lexemes_tokens, .inr (11, [.ref a_lexemes_tokens_kinds, .ref a_lexemes_tokens_values, .int (nI n_lexemes_tokens_size)])), (a_lexemes_tokens_kinds, .inl (ka_lexemes_tokens_kinds, 90, .inl f_lexemes_tokens_kinds)), (a_lexemes_tokens_values, .inl (ka_lexemes_tokens_values, 90, .inr (.inl f_lexemes_tokens_values))), (a_lexemes_places, .inl (ka_lexemes_places, 90, .inl f_lexemes_places)), (a_lexemes_columns, .inl (ka_lexemes_columns, 90, .inl f_lexemes_columns)), (a_lexemes_lineFirsts, .inl (ka_lexemes_lineFirsts, 90, .inl f_lexemes_lineFirsts))]) hD hS hA [1, 2, 3, 4, 5, 6, 7] rfl
    refine va_callv (va_runV (As := [.int y1, .long (nmL (cN f_y0_characters n_y0_length) n_at (y2 - n_at)), .int (nI n_at), .int (((nI n_at) - z_lineStart) + 1), .int z_lineIsFresh]) (rest := []) ⟨hx, hb, hml, hown, hz⟩ (s_Lexemes_add6 l dC dI H.size a_lexemes a_lexemes_tokens a_lexemes_tokens_kinds f_lexemes_tokens_kinds a_lexemes_tokens_values f_lexemes_tokens_values n_lexemes_tokens_size a_lexemes_places f_lexemes_places a_lexemes_columns f_lexemes_columns a_lexemes_lineFirsts f_lexemes_lineFirsts y1 ((nmL (cN f_y0_characters n_y0_length) n_at (y2 - n_at))) ((nI n_at)) ((((nI n_at) - z_lineStart) + 1)) z_lineIsFresh ka_lexemes_tokens_kinds ka_lexemes_tokens_values ka_lexemes_places ka_lexemes_columns ka_lexemes_lineFirsts (by first | omega | assumption | exact hp3 e2 | exact hp4 e2 | (rw [hp9]; exact b01_any)) (by first | omega | assumption | exact hp3 e2 | exact hp4 e2 | (rw [hp9]; exact b01_any)) (by first | omega | assumption | exact hp3 e2 | exact hp4 e2 | (rw [hp9]; exact b01_any))) (cwV 5 hz (zV zm_145 zm_146 zm_147 zm_71 zm_148) rfl rfl rfl (by decide +kernel) ⟨Nat.le_of_ble_eq_true rfl, Nat.le_of_ble_eq_true rfl⟩) ⟨fun a U g mk q => by obtain ⟨q0, q1, qP, qK, qD⟩ := q; exact ⟨q0, q1, qP, va_K.moved (u := U) (U := U.calling g mk a) (Vm.Alike.refl U.vm) qK, qD⟩, va_recv (q := (R_Lexemes, F_Lexemes, 4)) (q0 := 1) (ci := 5) hK hP rfl rfl, fun U hU hW => ⟨rfl, by rw [hU], by rw [hU]; exact hPc, va_K.moved hW.alike hKc, hDc.weaken (fun _ _ _ _ => trivial)⟩⟩ rfl rfl hl.1 rfl (lv_room (Nat.le_of_ble_eq_true rfl)) d_Cutter_take_54 ⟨Nat.zero_le _, Nat.zero_le _⟩) hS (fun q _ h => hFc q h) hFc (fun u t H1 locs ht hvm hw hB hz1 hk1 hS => ?_)
    obtain ⟨g8, g9, g10, g11, g12, g13, hb_g8, hq0_54, hq1_54, hq2_54, hq3_54, hq4_54, hq5_54, hP1, hK1, hD1⟩ := hB
    subst g8
    subst g9
    subst g10
    subst g11
    subst g12
    subst g13
    rw [ht] at hP1
    obtain ⟨hP, hD⟩ := va_join (wr := [(a_t, .inr (3, [.ref a_lexemes, .int (nI n_at), .int z_lineStart, .int z_lineIsFresh, .int z_wrongPlace, .int z_tooMany])), (a_y0, .inr (10, [.ref a_y0_characters, .int (nI n_y0_length)])), (a_y0_characters, .inl (ka_y0_characters, 240, .inl f_y0_characters))]) (w1 := [(a_lexemes, .inr (5, [.ref a_lexemes_tokens, .ref a_lexemes_places, .ref a_lexemes_columns, .ref a_lexemes_lineFirsts])), (a_lexemes_tokens, .inr (11, [.ref a_lexemes_tokens_kinds, .ref a_lexemes_tokens_values, .int (nI (n_lexemes_tokens_size + 1))])), (a_lexemes_tokens_kinds, .inl (ka_lexemes_tokens_kinds, 90, .inl (upd f_lexemes_tokens_kinds n_lexemes_tokens_size y1))), (a_lexemes_tokens_values, .inl (ka_lexemes_tokens_values, 90, .inr (.inl (vp_updL f_lexemes_tokens_values n_lexemes_tokens_size ((nmL (cN f_y0_characters n_y0_length) n_at (y2 - n_at))))))), (a_lexemes_places, .inl (ka_lexemes_places, 90, .inl (upd f_lexemes_places n_lexemes_tokens_size ((nI n_at))))), (a_lexemes_columns, .inl (ka_lexemes_columns, 90, .inl (upd f_lexemes_columns n_lexemes_tokens_size ((((nI n_at) - z_lineStart) + 1))))), (a_lexemes_lineFirsts, .inl (ka_lexemes_lineFirsts, 90, .inl (upd f_lexemes_lineFirsts n_lexemes_tokens_size z_lineIsFresh)))]) hP hD [1, 2, 3, 4, 5, 6, 7] [0, 8, 9] rfl rfl (by decide) (by decide) hk1 hFc hP1 hD1
    generalize H1 = H at hP hS ⊢
    have hP : va_P (dC, dI) vcl [(a_t, .inr (3, [.ref a_lexemes, .int (nI n_at), .int z_lineStart, .int z_lineIsFresh, .int z_wrongPlace, .int z_tooMany])), (a_y0, .inr (10, [.ref a_y0_characters, .int (nI n_y0_length)])), (a_y0_characters, .inl (ka_y0_characters, 240, .inl f_y0_characters)), (a_lexemes, .inr (5, [.ref a_lexemes_tokens, .ref a_lexemes_places, .ref a_lexemes_columns, .ref a_lexemes_lineFirsts])), (a_lexemes_tokens, .inr (11, [.ref a_lexemes_tokens_kinds, .ref a_lexemes_tokens_values, .int (nI (n_lexemes_tokens_size + 1))])), (a_lexemes_tokens_kinds, .inl (ka_lexemes_tokens_kinds, 90, .inl (upd f_lexemes_tokens_kinds n_lexemes_tokens_size y1))), (a_lexemes_tokens_values, .inl (ka_lexemes_tokens_values, 90, .inr (.inl (vp_updL f_lexemes_tokens_values n_lexemes_tokens_size ((nmL (cN f_y0_characters n_y0_length) n_at (y2 - n_at))))))), (a_lexemes_places, .inl (ka_lexemes_places, 90, .inl (upd f_lexemes_places n_lexemes_tokens_size ((nI n_at))))), (a_lexemes_columns, .inl (ka_lexemes_columns, 90, .inl (upd f_lexemes_columns n_lexemes_tokens_size ((((nI n_at) - z_lineStart) + 1))))), (a_lexemes_lineFirsts, .inl (ka_lexemes_lineFirsts, 90, .inl (upd f_lexemes_lineFirsts n_lexemes_tokens_size z_lineIsFresh)))] H := hP
    have hD : va_D A [(a_t, .inr (3, [.ref a_lexemes, .int (nI n_at), .int z_lineStart, .int z_lineIsFresh, .int z_wrongPlace, .int z_tooMany])), (a_y0, .inr (10, [.ref a_y0_characters, .int (nI n_y0_length)])), (a_y0_characters, .inl (ka_y0_characters, 240, .inl f_y0_characters)), (a_lexemes, .inr (5, [.ref a_lexemes_tokens, .ref a_lexemes_places, .ref a_lexemes_columns, .ref a_lexemes_lineFirsts])), (a_lexemes_tokens, .inr (11, [.ref a_lexemes_tokens_kinds, .ref a_lexemes_tokens_values, .int (nI (n_lexemes_tokens_size + 1))])), (a_lexemes_tokens_kinds, .inl (ka_lexemes_tokens_kinds, 90, .inl (upd f_lexemes_tokens_kinds n_lexemes_tokens_size y1))), (a_lexemes_tokens_values, .inl (ka_lexemes_tokens_values, 90, .inr (.inl (vp_updL f_lexemes_tokens_values n_lexemes_tokens_size ((nmL (cN f_y0_characters n_y0_length) n_at (y2 - n_at))))))), (a_lexemes_places, .inl (ka_lexemes_places, 90, .inl (upd f_lexemes_places n_lexemes_tokens_size ((nI n_at))))), (a_lexemes_columns, .inl (ka_lexemes_columns, 90, .inl (upd f_lexemes_columns n_lexemes_tokens_size ((((nI n_at) - z_lineStart) + 1))))), (a_lexemes_lineFirsts, .inl (ka_lexemes_lineFirsts, 90, .inl (upd f_lexemes_lineFirsts n_lexemes_tokens_size z_lineIsFresh)))] := hD
    refine lv_aload_n hx hb d_Cutter_take_57 rfl (lv_at hl 1 rfl) ?_
    refine lv_iconst (v := 0) hx hb d_Cutter_take_58 (by decide) ?_
    refine va_put (D := (dC, dI)) (ci := 3) (v := .int 0) (ty := .boolean) (C := R_Cutter) (T := F_Cutter) (N := 6) hx hb hz zu_Cutter t_Cutter t_Cutter_ok n_Cutter hown hK hP hD hS 0 rfl rfl 3 (by decide) (hz (.fieldLink R_Cutter 35 "LayoutFront$Cutter" "lineIsFresh" "Z") zm_84) (fun _ h9 => h9) rfl (by decide +kernel) (by decide +kernel) rfl (Nat.le_of_ble_eq_true rfl) d_Cutter_take_59 (fun H locs hP hD hS => ?_)
    have hP : va_P (dC, dI) vcl [(a_t, .inr (3, [.ref a_lexemes, .int (nI n_at), .int z_lineStart, .int 0, .int z_wrongPlace, .int z_tooMany])), (a_y0, .inr (10, [.ref a_y0_characters, .int (nI n_y0_length)])), (a_y0_characters, .inl (ka_y0_characters, 240, .inl f_y0_characters)), (a_lexemes, .inr (5, [.ref a_lexemes_tokens, .ref a_lexemes_places, .ref a_lexemes_columns, .ref a_lexemes_lineFirsts])), (a_lexemes_tokens, .inr (11, [.ref a_lexemes_tokens_kinds, .ref a_lexemes_tokens_values, .int (nI (n_lexemes_tokens_size + 1))])), (a_lexemes_tokens_kinds, .inl (ka_lexemes_tokens_kinds, 90, .inl (upd f_lexemes_tokens_kinds n_lexemes_tokens_size y1))), (a_lexemes_tokens_values, .inl (ka_lexemes_tokens_values, 90, .inr (.inl (vp_updL f_lexemes_tokens_values n_lexemes_tokens_size ((nmL (cN f_y0_characters n_y0_length) n_at (y2 - n_at))))))), (a_lexemes_places, .inl (ka_lexemes_places, 90, .inl (upd f_lexemes_places n_lexemes_tokens_size ((nI n_at))))), (a_lexemes_columns, .inl (ka_lexemes_columns, 90, .inl (upd f_lexemes_columns n_lexemes_tokens_size ((((nI n_at) - z_lineStart) + 1))))), (a_lexemes_lineFirsts, .inl (ka_lexemes_lineFirsts, 90, .inl (upd f_lexemes_lineFirsts n_lexemes_tokens_size z_lineIsFresh)))] H := hP
    have hD : va_D A [(a_t, .inr (3, [.ref a_lexemes, .int (nI n_at), .int z_lineStart, .int 0, .int z_wrongPlace, .int z_tooMany])), (a_y0, .inr (10, [.ref a_y0_characters, .int (nI n_y0_length)])), (a_y0_characters, .inl (ka_y0_characters, 240, .inl f_y0_characters)), (a_lexemes, .inr (5, [.ref a_lexemes_tokens, .ref a_lexemes_places, .ref a_lexemes_columns, .ref a_lexemes_lineFirsts])), (a_lexemes_tokens, .inr (11, [.ref a_lexemes_tokens_kinds, .ref a_lexemes_tokens_values, .int (nI (n_lexemes_tokens_size + 1))])), (a_lexemes_tokens_kinds, .inl (ka_lexemes_tokens_kinds, 90, .inl (upd f_lexemes_tokens_kinds n_lexemes_tokens_size y1))), (a_lexemes_tokens_values, .inl (ka_lexemes_tokens_values, 90, .inr (.inl (vp_updL f_lexemes_tokens_values n_lexemes_tokens_size ((nmL (cN f_y0_characters n_y0_length) n_at (y2 - n_at))))))), (a_lexemes_places, .inl (ka_lexemes_places, 90, .inl (upd f_lexemes_places n_lexemes_tokens_size ((nI n_at))))), (a_lexemes_columns, .inl (ka_lexemes_columns, 90, .inl (upd f_lexemes_columns n_lexemes_tokens_size ((((nI n_at) - z_lineStart) + 1))))), (a_lexemes_lineFirsts, .inl (ka_lexemes_lineFirsts, 90, .inl (upd f_lexemes_lineFirsts n_lexemes_tokens_size z_lineIsFresh)))] := hD
    refine lv_aload_n hx hb d_Cutter_take_62 rfl (lv_at hl 1 rfl) ?_
    refine lv_iload_n hx hb d_Cutter_take_63 rfl (lv_at hl 4 rfl) ?_
    refine va_put (D := (dC, dI)) (ci := 3) (v := .int (nI y2)) (ty := .int) (C := R_Cutter) (T := F_Cutter) (N := 6) hx hb hz zu_Cutter t_Cutter t_Cutter_ok n_Cutter hown hK hP hD hS 0 rfl rfl 1 (by decide) (hz (.fieldLink R_Cutter 29 "LayoutFront$Cutter" "at" "I") zm_82) (fun _ h9 => h9) rfl (by decide +kernel) rfl rfl (Nat.le_of_ble_eq_true rfl) d_Cutter_take_64 (fun H locs hP hD hS => ?_)
    have hP : va_P (dC, dI) vcl [(a_t, .inr (3, [.ref a_lexemes, .int (nI y2), .int z_lineStart, .int 0, .int z_wrongPlace, .int z_tooMany])), (a_y0, .inr (10, [.ref a_y0_characters, .int (nI n_y0_length)])), (a_y0_characters, .inl (ka_y0_characters, 240, .inl f_y0_characters)), (a_lexemes, .inr (5, [.ref a_lexemes_tokens, .ref a_lexemes_places, .ref a_lexemes_columns, .ref a_lexemes_lineFirsts])), (a_lexemes_tokens, .inr (11, [.ref a_lexemes_tokens_kinds, .ref a_lexemes_tokens_values, .int (nI (n_lexemes_tokens_size + 1))])), (a_lexemes_tokens_kinds, .inl (ka_lexemes_tokens_kinds, 90, .inl (upd f_lexemes_tokens_kinds n_lexemes_tokens_size y1))), (a_lexemes_tokens_values, .inl (ka_lexemes_tokens_values, 90, .inr (.inl (vp_updL f_lexemes_tokens_values n_lexemes_tokens_size ((nmL (cN f_y0_characters n_y0_length) n_at (y2 - n_at))))))), (a_lexemes_places, .inl (ka_lexemes_places, 90, .inl (upd f_lexemes_places n_lexemes_tokens_size ((nI n_at))))), (a_lexemes_columns, .inl (ka_lexemes_columns, 90, .inl (upd f_lexemes_columns n_lexemes_tokens_size ((((nI n_at) - z_lineStart) + 1))))), (a_lexemes_lineFirsts, .inl (ka_lexemes_lineFirsts, 90, .inl (upd f_lexemes_lineFirsts n_lexemes_tokens_size z_lineIsFresh)))] H := hP
    have hD : va_D A [(a_t, .inr (3, [.ref a_lexemes, .int (nI y2), .int z_lineStart, .int 0, .int z_wrongPlace, .int z_tooMany])), (a_y0, .inr (10, [.ref a_y0_characters, .int (nI n_y0_length)])), (a_y0_characters, .inl (ka_y0_characters, 240, .inl f_y0_characters)), (a_lexemes, .inr (5, [.ref a_lexemes_tokens, .ref a_lexemes_places, .ref a_lexemes_columns, .ref a_lexemes_lineFirsts])), (a_lexemes_tokens, .inr (11, [.ref a_lexemes_tokens_kinds, .ref a_lexemes_tokens_values, .int (nI (n_lexemes_tokens_size + 1))])), (a_lexemes_tokens_kinds, .inl (ka_lexemes_tokens_kinds, 90, .inl (upd f_lexemes_tokens_kinds n_lexemes_tokens_size y1))), (a_lexemes_tokens_values, .inl (ka_lexemes_tokens_values, 90, .inr (.inl (vp_updL f_lexemes_tokens_values n_lexemes_tokens_size ((nmL (cN f_y0_characters n_y0_length) n_at (y2 - n_at))))))), (a_lexemes_places, .inl (ka_lexemes_places, 90, .inl (upd f_lexemes_places n_lexemes_tokens_size ((nI n_at))))), (a_lexemes_columns, .inl (ka_lexemes_columns, 90, .inl (upd f_lexemes_columns n_lexemes_tokens_size ((((nI n_at) - z_lineStart) + 1))))), (a_lexemes_lineFirsts, .inl (ka_lexemes_lineFirsts, 90, .inl (upd f_lexemes_lineFirsts n_lexemes_tokens_size z_lineIsFresh)))] := hD
    have hP9 := hP.sub (ws' := [(a_t, .inr (3, [.ref a_lexemes, .int (nI y2), .int z_lineStart, .int 0, .int z_wrongPlace, .int z_tooMany])), (a_lexemes, .inr (5, [.ref a_lexemes_tokens, .ref a_lexemes_places, .ref a_lexemes_columns, .ref a_lexemes_lineFirsts])), (a_lexemes_tokens, .inr (11, [.ref a_lexemes_tokens_kinds, .ref a_lexemes_tokens_values, .int (nI (n_lexemes_tokens_size + 1))])), (a_lexemes_tokens_kinds, .inl (ka_lexemes_tokens_kinds, 90, .inl (upd f_lexemes_tokens_kinds n_lexemes_tokens_size y1))), (a_lexemes_tokens_values, .inl (ka_lexemes_tokens_values, 90, .inr (.inl (vp_updL f_lexemes_tokens_values n_lexemes_tokens_size ((nmL (cN f_y0_characters n_y0_length) n_at (y2 - n_at))))))), (a_lexemes_places, .inl (ka_lexemes_places, 90, .inl (upd f_lexemes_places n_lexemes_tokens_size ((nI n_at))))), (a_lexemes_columns, .inl (ka_lexemes_columns, 90, .inl (upd f_lexemes_columns n_lexemes_tokens_size ((((nI n_at) - z_lineStart) + 1))))), (a_lexemes_lineFirsts, .inl (ka_lexemes_lineFirsts, 90, .inl (upd f_lexemes_lineFirsts n_lexemes_tokens_size z_lineIsFresh))), (a_y0, .inr (10, [.ref a_y0_characters, .int (nI n_y0_length)])), (a_y0_characters, .inl (ka_y0_characters, 240, .inl f_y0_characters))]) [0, 3, 4, 5, 6, 7, 8, 9, 1, 2] rfl
    have hD9 := hD.sub (ws' := [(a_t, .inr (3, [.ref a_lexemes, .int (nI y2), .int z_lineStart, .int 0, .int z_wrongPlace, .int z_tooMany])), (a_lexemes, .inr (5, [.ref a_lexemes_tokens, .ref a_lexemes_places, .ref a_lexemes_columns, .ref a_lexemes_lineFirsts])), (a_lexemes_tokens, .inr (11, [.ref a_lexemes_tokens_kinds, .ref a_lexemes_tokens_values, .int (nI (n_lexemes_tokens_size + 1))])), (a_lexemes_tokens_kinds, .inl (ka_lexemes_tokens_kinds, 90, .inl (upd f_lexemes_tokens_kinds n_lexemes_tokens_size y1))), (a_lexemes_tokens_values, .inl (ka_lexemes_tokens_values, 90, .inr (.inl (vp_updL f_lexemes_tokens_values n_lexemes_tokens_size ((nmL (cN f_y0_characters n_y0_length) n_at (y2 - n_at))))))), (a_lexemes_places, .inl (ka_lexemes_places, 90, .inl (upd f_lexemes_places n_lexemes_tokens_size ((nI n_at))))), (a_lexemes_columns, .inl (ka_lexemes_columns, 90, .inl (upd f_lexemes_columns n_lexemes_tokens_size ((((nI n_at) - z_lineStart) + 1))))), (a_lexemes_lineFirsts, .inl (ka_lexemes_lineFirsts, 90, .inl (upd f_lexemes_lineFirsts n_lexemes_tokens_size z_lineIsFresh))), (a_y0, .inr (10, [.ref a_y0_characters, .int (nI n_y0_length)])), (a_y0_characters, .inl (ka_y0_characters, 240, .inl f_y0_characters))]) [0, 3, 4, 5, 6, 7, 8, 9, 1, 2] (by decide) rfl
    exact W.vret hx hb hr (fun t ht hW => ⟨⟨(), rfl, trivial, y2, 0, ((n_lexemes_tokens_size + 1)), ((upd f_lexemes_tokens_kinds n_lexemes_tokens_size y1)), ((vp_updL f_lexemes_tokens_values n_lexemes_tokens_size ((nmL (cN f_y0_characters n_y0_length) n_at (y2 - n_at))))), ((upd f_lexemes_places n_lexemes_tokens_size ((nI n_at)))), ((upd f_lexemes_columns n_lexemes_tokens_size ((((nI n_at) - z_lineStart) + 1)))), ((upd f_lexemes_lineFirsts n_lexemes_tokens_size z_lineIsFresh)), by first | rfl | omega | assumption, by first | rfl | omega | assumption, by first | rfl | omega | assumption, by first | rfl | omega | assumption, by exact tk_fin hp5 hp6 hp8 hp9 (pkO_1 e2) (by omega), by first | rfl | omega | assumption, by rw [ht]; exact hP9, va_K.moved hW.alike hK, hD9⟩, hS.F ht⟩) hS.2.2 d_Cutter_take_67
