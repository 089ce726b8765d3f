/-! the rows of one level -/
section RWJ
variable {s : Nat → Int32} {v : Nat → Int64} {P : Nat → Int32} {n k to : Nat} {S : List Nat} {F G : Int64 → Int32} {f : Nat → Nat}
def rw7 (s : Nat → Int32) (v : Nat → Int64) (P : Nat → Int32) (n k : Nat) : Rb := (chE s v P n k ([], false, false)).2
def rr7 (v : Nat → Int64) (F G : Int64 → Int32) (r : Rb) : Option (Option (List Sp)) := if wh7 r = true then some ((rs7 v F G [] r.1).map (fun x => (fin7 x).2.2)) else none
def oR : Option (Option (List Sp)) → Nat
  | some (some _) => 1
  | _ => 0
def oC : Option (Option (List Sp)) → Nat
  | some none => 1
  | _ => 0
def oP : Option (Option (List Sp)) → List Sp
  | some (some R) => R
  | _ => []
def cF (x : Nat) : List Sp → Nat
  | [] => 0
  | p :: L => cF x L + (if p.1 = nI x then 1 else 0)
def cB (x : Nat) : List Sp → Nat
  | [] => 0
  | p :: L => cB x L + (if p.2 = nI x then 1 else 0)
theorem cF_app {x : Nat} {B : List Sp} : ∀ A, cF x (A ++ B) = cF x A + cF x B
  | [] => by rw [List.nil_append, cF]; omega
  | p :: A => by rw [List.cons_append, cF, cF, cF_app A]; omega
theorem cB_app {x : Nat} {B : List Sp} : ∀ A, cB x (A ++ B) = cB x A + cB x B
  | [] => by rw [List.nil_append, cB]; omega
  | p :: A => by rw [List.cons_append, cB, cB, cB_app A]; omega
abbrev rk7 (s : Nat → Int32) (v : Nat → Int64) (P : Nat → Int32) (n : Nat) (F G : Int64 → Int32) (k : Nat) : Option (Option (List Sp)) := rr7 v F G (rw7 s v P n k)
def fR (s : Nat → Int32) (v : Nat → Int64) (P : Nat → Int32) (n : Nat) (F G : Int64 → Int32) (k : Nat) : Nat := oR (rk7 s v P n F G k)
def fC (s : Nat → Int32) (v : Nat → Int64) (P : Nat → Int32) (n : Nat) (F G : Int64 → Int32) (k : Nat) : Nat := oC (rk7 s v P n F G k)
def fF (s : Nat → Int32) (v : Nat → Int64) (P : Nat → Int32) (n : Nat) (F G : Int64 → Int32) (x k : Nat) : Nat := cF x (oP (rk7 s v P n F G k))
def fB (s : Nat → Int32) (v : Nat → Int64) (P : Nat → Int32) (n : Nat) (F G : Int64 → Int32) (x k : Nat) : Nat := cB x (oP (rk7 s v P n F G k))
theorem rk_0 (h : e7 s v P n k = 0) : rk7 s v P n F G k = none := by
  unfold rk7 rw7
  rw [chE_end h]; rfl
theorem ch_sum (hb : bl7 s v n) (hn : n ≤ 600) (hP : PN s v P n) : ∀ (d k : Nat) (r : Rb), n - k ≤ d → cv s v n k = 0 → sk s v k = S → sm (gL s v P n S f) (chE s v P n k r).1 = sm (gL s v P n S f) k + (if st7 s v P n k = true then f k else 0) := by
  intro d
  have z0 : ∀ k r, e7 s v P n k = 0 → sm (gL s v P n S f) (chE s v P n k r).1 = sm (gL s v P n S f) k + (if st7 s v P n k = true then f k else 0) := by
    intro k r e
    rw [chE_end e, if_neg (fun z => by have := (st_ex z).2.1; omega)]; rfl
  induction d with
  | zero =>
    intro k r hd h0 hS
    rcases Nat.eq_zero_or_pos (e7 s v P n k) with e | e
    · exact z0 k r e
    · have := e7_lt e; omega
  | succ d ih =>
    intro k r hd h0 hS
    rcases Nat.eq_zero_or_pos (e7 s v P n k) with e | e
    · exact z0 k r e
    · have nx := it_nx hb hn hP h0 e
      have lt := e7_lt e
      rw [chE_go e, ih _ _ (by omega) nx.2.1 (nx.2.2.2.1.trans hS)]
      have st : ¬ st7 s v P n (k + e7 s v P n k) = true := fun z => by
        have := (st_ex z).2.2
        rw [nx.2.2.1] at this; cases this
      rw [if_neg st]
      have g := gl_it (f := f) hb hn hP h0 e
      rw [hS] at g
      rw [g]; rfl
/-- from one row to the next -/
theorem lv_sum (hb : bl7 s v n) (hn : n ≤ 600) (hP : PN s v P n) (h0 : cv s v n k = 0) (hl : lk7 s v P n k = false) (hS : sk s v k = S) (he : e7 s v P n (chE s v P n k ([], false, false)).1 = 0) (hf : e7 s v P n k = 0 → f k = 0) : sm (gL s v P n S f) ((chE s v P n k ([], false, false)).1 + 1) = sm (gL s v P n S f) k + f k := by
  rw [gl_zr he, ch_sum hb hn hP _ k _ (Nat.le_refl _) h0 hS]
  rcases Nat.eq_zero_or_pos (e7 s v P n k) with e | e
  · rw [if_neg (fun z => by have := (st_ex z).2.1; omega), hf e]
  · rw [if_pos (by unfold st7; rw [h0, hl, decide_eq_true e]; rfl)]
theorem nI_z {z : Int32} : z = z + nI 0 := by
  rw [show nI 0 = (0 : Int32) from rfl, Int32.add_zero]
theorem nI_p {z : Int32} {a b : Nat} : z + nI a + nI b = z + nI (a + b) := by
  rw [Int32.add_assoc, nI_add]
theorem wh_eo {r : Rb} (h : wh7 r = true) : eo7 r.1 = true := by
  simp only [wh7, Bool.and_eq_true] at h; exact h.2.2
theorem sm_y2 {S : List Nat} (he : e7 s v P n to = 0) (h1 : to ≤ k) (h2 : k ≤ to + 1) : sm (gL s v P n S f) k = sm (gL s v P n S f) to := by
  have h : k = to ∨ k = to + 1 := by omega
  rcases h with e | e
  · rw [e]
  · rw [e]; exact gl_zr he
/-- what a row adds -/
theorem pr_no {r : Rb} (h : wh7 r = false) : rr7 v F G r = none := by unfold rr7; rw [if_neg (by rw [h]; decide)]
theorem pr_step {r : Rb} {B B' : List Sp} {t t' c c' : Int32} {w w' : Nat} (h : wh7 r = true) (q0 : rs7 v F G B r.1 = none → (w' = w ∧ c' = c + 1 ∧ t' = t)) (q1 : ∀ x9, rs7 v F G B r.1 = some x9 → (B' = (fin7 x9).2.2 ∧ t' = t + 1 ∧ c' = c)) (qb : w' = w → B' = B) :
    B' = oP (rr7 v F G r) ++ B ∧ t' = t + nI (oR (rr7 v F G r)) ∧ c' = c + nI (oC (rr7 v F G r)) := by
  unfold rr7
  rw [if_pos h]
  rw [rs_ap] at q0 q1
  cases hx : rs7 v F G [] r.1 with
  | none =>
    rw [hx] at q0
    obtain ⟨e1, e2, e3⟩ := q0 rfl
    exact ⟨qb e1, by rw [e3]; exact nI_z, e2⟩
  | some x =>
    rw [hx] at q1
    obtain ⟨e1, e2, e3⟩ := q1 _ rfl
    refine ⟨?_, e2, by rw [e3]; exact nI_z⟩
    rw [e1, fin_ap]; rfl
end RWJ
