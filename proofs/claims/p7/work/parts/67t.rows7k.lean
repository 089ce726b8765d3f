/-! all levels -/
section RWK
variable {s : Nat → Int32} {v : Nat → Int64} {P : Nat → Int32} {n k q p m x : Nat} {f : Nat → Nat}
theorem e7_n (h : n ≤ k) : e7 s v P n k = 0 := by
  unfold e7 exN; rw [if_pos h]
theorem lv_top (hb : bl7 s v n) (hn : n ≤ 600) (hP : PN s v P n) : LV7 s v P n [] n := by
  refine ⟨Nat.le_refl _, e7_n (Nat.le_refl _), fun k hk hS => ⟨?_, fun he => ?_⟩⟩
  · cases hc : clo (s k) (v k)
    · rfl
    · exfalso
      have h1 := sk_len (s := s) (v := v) k (fun p hp => hb.1 p (by omega))
      rw [hS] at h1
      have h3 := hb.1 (k + 1) (by omega)
      rw [dep] at h3
      simp only [dlt, clo_opn hc, hc, if_true] at h3
      simp at h1 h3
      omega
  · exact exN_in hn (pn_pt hb hn hP) he
theorem lv_in (hb : bl7 s v n) (hn : n ≤ 600) (hP : PN s v P n) (hq : q < p) (hp : p < n) (hc : clo (s p) (v p) = true) (hs : sk s v p = q :: sk s v q) (e : P q = nI p) : LV7 s v P n (q :: sk s v q) p := by
  have hT := pn_pt hb hn hP
  refine ⟨by omega, exN_clo hn hT hc, fun k hk hS => ⟨?_, fun he => ?_⟩⟩
  · cases hz : clo (s k) (v k)
    · rfl
    · exfalso
      have e2 := hP k q (by omega) hz (by rw [hS]; rfl)
      have := (nI_eq (a := p) (b := k) (by omega) (by omega)).mp (e.symm.trans e2)
      omega
  · have qk := sk_lt k q (by rw [hS]; exact List.mem_cons_self)
    obtain ⟨hkn, a | b | c⟩ := exN_cases hn hT he
    · have : e7 s v P n k = 1 := a.1
      omega
    · obtain ⟨ho, p', p1', p2', p3', p4', p5'⟩ := b
      obtain ⟨r, r1, r2, r3, r4, r5, r6⟩ := grp hb hkn ho
      have e1 := hP r k r2 r3 (by rw [r4]; rfl)
      have e2 := (nI_eq (a := r) (b := p') (by omega) (by omega)).mp (e1.symm.trans p4')
      subst e2
      have hj : e7 s v P n k = r - k + 1 := p5'
      by_cases z : r < p
      · omega
      · exfalso
        have w := r6 p hk (by omega)
        rw [hs] at w
        rcases List.mem_cons.mp w with w | w
        · omega
        · have := sk_lt q k w; omega
    · obtain ⟨c0, c1, c2, c3, c4, c5, c6⟩ := c
      have h3 : e7 s v P n k = 3 := c0
      have bp := br_no (Or.inr hc)
      have n1 : ¬ p = k + 1 := fun z => by
        have := bp.1; rw [z, c4] at this; exact absurd this (by decide)
      have n2 : ¬ p = k + 2 := fun z => bp.2 (by rw [z]; exact c6)
      omega
/-- which levels have been gone through: the outmost, and those of brackets before m -/
def prB (s : Nat → Int32) (v : Nat → Int64) (m x : Nat) : Bool := match sk s v x with
  | [] => true
  | q :: _ => decide (q < m)
def pg (s : Nat → Int32) (v : Nat → Int64) (f : Nat → Nat) (m x : Nat) : Nat := if prB s v m x = true then f x else 0
def lg7 (s : Nat → Int32) (v : Nat → Int64) (S : List Nat) (f : Nat → Nat) (x : Nat) : Nat := if sk s v x = S then f x else 0
theorem pg_0 : ∀ n, sm (pg s v f 0) n = sm (lg7 s v [] f) n := fun n => sm_eq n (fun x _ => by
  unfold pg lg7 prB
  cases h : sk s v x with
  | nil => rw [if_pos rfl, if_pos rfl]
  | cons q T => rw [if_neg (by simp), if_neg (by simp)])
theorem pg_s : ∀ n, sm (pg s v f (m + 1)) n = sm (pg s v f m) n + sm (lg7 s v (m :: sk s v m) f) n := fun n => sm_add n (fun x _ => by
  unfold pg lg7 prB
  cases h : sk s v x with
  | nil => rw [if_pos rfl, if_neg (by simp), Nat.add_zero]
  | cons q T =>
    have ht : sk s v x = q :: sk s v q := sk_top (by rw [h]; rfl)
    have hT : T = sk s v q := (List.cons.inj (h.symm.trans ht)).2
    show (if decide (q < m + 1) = true then f x else 0) = (if decide (q < m) = true then f x else 0) + (if q :: T = m :: sk s v m then f x else 0)
    by_cases a : q < m
    · rw [if_pos (decide_eq_true (by omega)), if_pos (decide_eq_true a), if_neg (fun z => by have := (List.cons.inj z).1; omega)]; rfl
    · by_cases b : q = m
      · subst b
        rw [if_pos (decide_eq_true (by omega)), if_neg (by simp), if_pos (by rw [hT]), Nat.zero_add]
      · rw [if_neg (by simp; omega), if_neg (by simp; omega), if_neg (fun z => b (List.cons.inj z).1)])
theorem pg_n : ∀ c, c ≤ n → sm (pg s v f n) c = sm f c := fun c hc => sm_eq c (fun x hx => by
  unfold pg prB
  cases h : sk s v x with
  | nil => rw [if_pos rfl]
  | cons q T =>
    have := sk_lt x q (by rw [h]; exact List.mem_cons_self)
    show (if decide (q < n) = true then f x else 0) = f x
    rw [if_pos (decide_eq_true (by omega))])
/-- no bracket at m: its level is empty -/
theorem lg_no (ho : opn (s m) (v m) = false) : ∀ c, sm (lg7 s v (m :: sk s v m) f) c = 0 := by
  have key : ∀ x, ∀ q, q ∈ sk s v x → opn (s q) (v q) = true := by
    intro x
    induction x with
    | zero => intro q h; cases h
    | succ x ih =>
      intro q h
      by_cases o : opn (s x) (v x) = true
      · rw [sk_o o] at h
        rcases List.mem_cons.mp h with e | h
        · rw [e]; exact o
        · exact ih q h
      · by_cases c : clo (s x) (v x) = true
        · rw [sk_c c] at h; exact ih q (List.mem_of_mem_tail h)
        · rw [sk_n (by simpa using o) (by simpa using c)] at h; exact ih q h
  intro c
  have e := sm_z (g := lg7 s v (m :: sk s v m) f) (a := 0) c (Nat.zero_le _) (fun x _ _ => by
    unfold lg7
    rw [if_neg (fun z => by
      have := key x m (by rw [z]; exact List.mem_cons_self)
      rw [ho] at this; cases this)])
  rw [e]; rfl
/-- the level of a bracket lies between it and its partner -/
theorem lg_lo : sm (lg7 s v (m :: sk s v m) f) (m + 1) = 0 := by
  have e := sm_z (g := lg7 s v (m :: sk s v m) f) (a := 0) (m + 1) (Nat.zero_le _) (fun x _ hx => by
    unfold lg7
    rw [if_neg (fun z => by
      have := sk_lt x m (by rw [z]; exact List.mem_cons_self)
      omega)])
  rw [e]; rfl
theorem lg_hi (hq : q < p) (hc : clo (s p) (v p) = true) (hs : sk s v p = q :: sk s v q) : ∀ c, p + 1 ≤ c → sm (lg7 s v (q :: sk s v q) f) c = sm (lg7 s v (q :: sk s v q) f) (p + 1) := by
  intro c hpc
  refine sm_z c hpc (fun x h1 h2 => ?_)
  unfold lg7
  rw [if_neg (fun z => ?_)]
  have z1 : q ∉ sk s v (p + 1) := by
    rw [sk_c hc, hs]
    exact fun w => absurd (sk_lt q q w) (Nat.lt_irrefl _)
  exact sk_out x h1 (by omega) z1 (by rw [z]; exact List.mem_cons_self)
end RWK
