/-! all rows: sums -/
section RWL
variable {s : Nat → Int32} {v : Nat → Int64} {P : Nat → Int32} {n k j d m : Nat} {S : List Nat} {f : Nat → Nat}
def gS7 (s : Nat → Int32) (v : Nat → Int64) (P : Nat → Int32) (n : Nat) (f : Nat → Nat) (x : Nat) : Nat := if st7 s v P n x = true then f x else 0
def c4 (s : Nat → Int32) (x : Nat) : Nat := if s x = 4 then 0 else 1
theorem gl_lg : ∀ c, sm (gL s v P n S f) c = sm (lg7 s v S (gS7 s v P n f)) c := fun c => sm_eq c (fun x _ => by
  unfold gL lg7 gS7
  by_cases a : st7 s v P n x = true
  · by_cases b : sk s v x = S
    · rw [if_pos ⟨a, b⟩, if_pos b, if_pos a]
    · rw [if_neg (fun z => b z.2), if_neg b]
  · rw [if_neg (fun z => a z.1), if_neg a]; split <;> rfl)
theorem cg_lg : ∀ c, sm (cg s v S) c = sm (lg7 s v S (c4 s)) c := fun c => sm_eq c (fun x _ => by
  unfold cg lg7 c4
  by_cases a : s x = 4
  · rw [if_neg (fun z => z.2 a), if_pos a]; split <;> rfl
  · by_cases b : sk s v x = S
    · rw [if_pos ⟨b, a⟩, if_pos b, if_neg a]
    · rw [if_neg (fun z => b z.1), if_neg b])
theorem c4_cn : ∀ c, sm (c4 s) c = cn s c
  | 0 => rfl
  | c + 1 => by rw [sm, cn, c4_cn c]; rfl
theorem pg_le : ∀ c, sm (pg s v f m) c ≤ sm f c := fun c => sm_le c (fun x _ => by
  unfold pg; split <;> omega)
theorem lv_cl (hb : bl7 s v n) (hn : n ≤ 600) (hP : PN s v P n) (hk : k < n) (ho : opn (s k) (v k) = true) (ej : P k = nI j) (hj : j < 600) : k < j ∧ j < n ∧ clo (s j) (v j) = true ∧ sk s v j = k :: sk s v k := by
  obtain ⟨p, p1, p2, p3, p4, p5, -⟩ := op_ex hb hn hP hk ho
  have e := (nI_eq (a := j) (b := p) (by omega) (by omega)).mp (ej.symm.trans p4)
  subst e
  exact ⟨p1, p2, p3, p5⟩
/-- the level of a bracket, whole -/
theorem lv_tot (hb : bl7 s v n) (hn : n ≤ 600) (hP : PN s v P n) (h : k < j ∧ j < n ∧ clo (s j) (v j) = true ∧ sk s v j = k :: sk s v k) (e : d + sm (gL s v P n (k :: sk s v k) f) (k + 1) = sm (gL s v P n (k :: sk s v k) f) j) : d = sm (lg7 s v (k :: sk s v k) (gS7 s v P n f)) n := by
  obtain ⟨h1, h2, h3, h4⟩ := h
  rw [gl_lg, lg_lo] at e
  have z : sm (gL s v P n (k :: sk s v k) f) (j + 1) = sm (gL s v P n (k :: sk s v k) f) j := gl_zr (exN_clo hn (pn_pt hb hn hP) h3)
  rw [lg_hi h1 h3 h4 n (by omega), ← gl_lg, z]
  omega
theorem lv_bd (hc : cn s n ≤ 90) (h : k < j ∧ j < n ∧ clo (s j) (v j) = true ∧ sk s v j = k :: sk s v k) (hw : d ≤ sm (pg s v (c4 s) k) n) : d + sm (cg s v (k :: sk s v k)) j ≤ 90 := by
  have h1 := sm_mono (g := cg s v (k :: sk s v k)) (a := j) n (by omega)
  have h2 := cg_lg (s := s) (v := v) (S := k :: sk s v k) n
  have h3 := pg_s (s := s) (v := v) (f := c4 s) (m := k) n
  have h4 := pg_le (s := s) (v := v) (f := c4 s) (m := k + 1) n
  have h5 := c4_cn (s := s) n
  omega
theorem lv_bw {w : Nat} (h : k < j ∧ j < n ∧ clo (s j) (v j) = true ∧ sk s v j = k :: sk s v k) (hw : d ≤ sm (pg s v (c4 s) k) n) (e : w + sm (cg s v (k :: sk s v k)) (k + 1) ≤ d + sm (cg s v (k :: sk s v k)) j) : w ≤ sm (pg s v (c4 s) (k + 1)) n := by
  have h1 := sm_mono (g := cg s v (k :: sk s v k)) (a := j) n (by omega)
  have h2 := cg_lg (s := s) (v := v) (S := k :: sk s v k) n
  have h3 := pg_s (s := s) (v := v) (f := c4 s) (m := k) n
  omega
theorem pg_o (ho : opn (s k) (v k) = false) : sm (pg s v f (k + 1)) n = sm (pg s v f k) n := by
  rw [pg_s, lg_no ho]; rfl
theorem pg_t (hd : d + sm (gL s v P n (sk s v 0) f) 0 = sm (gL s v P n (sk s v 0) f) n) : d = sm (pg s v (gS7 s v P n f) 0) n := by
  rw [pg_0, ← gl_lg]
  exact ((Nat.add_zero d).symm.trans hd)
theorem pg_u {a b : Nat} (h : a = sm (pg s v f k) n) (hd : b = sm (lg7 s v (k :: sk s v k) f) n) : a + b = sm (pg s v f (k + 1)) n := by
  rw [pg_s, h, hd]
end RWL
