/-! a row is collected -/
section RWI
variable {s : Nat → Int32} {v : Nat → Int64} {P : Nat → Int32} {n k e to j a : Nat} {S : List Nat} {X : Nat × Rb} {r r' : Rb}
def LV7 (s : Nat → Int32) (v : Nat → Int64) (P : Nat → Int32) (n : Nat) (S : List Nat) (to : Nat) : Prop := to ≤ n ∧ e7 s v P n to = 0 ∧ ∀ k, k < to → sk s v k = S → (clo (s k) (v k) = false ∧ (0 < e7 s v P n k → k + e7 s v P n k ≤ to))
def cg (s : Nat → Int32) (v : Nat → Int64) (S : List Nat) (x : Nat) : Nat := if sk s v x = S ∧ ¬ s x = 4 then 1 else 0
theorem cg_cn : ∀ k, sm (cg s v S) k ≤ cn s k
  | 0 => Nat.le_refl _
  | k + 1 => by
    have ih := cg_cn k
    have g : cg s v S k ≤ (if s k = 4 then 0 else 1) := by
      unfold cg
      by_cases h : s k = 4
      · rw [if_neg (fun z => z.2 h), if_pos h]; exact Nat.le_refl _
      · rw [if_neg h]; split <;> omega
    rw [sm, cn]
    exact Nat.add_le_add ih g
theorem dd_v (hk : k < n) (hn : n ≤ 600) : vaI v n (nI k) = v k := by rw [va_n hk hn, nI_clamp (by omega)]
theorem dd_0 (hk : k < n) (hn : n ≤ 600) (h : ¬ lg_cmp (vaI v n (nI k)) 45 = 0) : decide (¬ (0 : Int32) = 0) = (v k == 45) := by
  rw [dd_v hk hn] at h
  have e : ¬ v k = 45 := fun q => h ((lg_cmp_eq _ _).mpr q)
  simp [e]
theorem dd_1 (hk : k < n) (hn : n ≤ 600) (h : lg_cmp (vaI v n (nI k)) 45 = 0) : decide (¬ (1 : Int32) = 0) = (v k == 45) := by
  rw [dd_v hk hn] at h
  rw [(lg_cmp_eq _ _).mp h]; rfl
theorem bA_y (h : ¬ k + bA s v P n k ≤ k) : opB s v n k = false ∧ bA s v P n k = e7 s v P n k ∧ 0 < e7 s v P n k ∧ bO s v P n k = 0 := by
  unfold bA at h ⊢
  unfold bO
  by_cases z : opB s v n k = true
  · rw [if_pos z] at h; omega
  · rw [if_neg z] at h ⊢
    rw [if_neg z]
    exact ⟨by simpa using z, rfl, by omega, rfl⟩
theorem bO_y (h : ¬ k + bO s v P n k ≤ k) : opB s v n k = true ∧ bO s v P n k = e7 s v P n k ∧ 0 < e7 s v P n k ∧ bA s v P n k = 0 := by
  unfold bO at h ⊢
  unfold bA
  by_cases z : opB s v n k = true
  · rw [if_pos z] at h ⊢
    rw [if_pos z]
    exact ⟨z, rfl, by omega, rfl⟩
  · rw [if_neg z] at h; omega
theorem ex_z (h1 : k + bA s v P n k ≤ k) (h2 : k + bO s v P n k ≤ k) : e7 s v P n k = 0 := by
  unfold bA at h1
  unfold bO at h2
  by_cases z : opB s v n k = true
  · rw [if_pos z] at h2; omega
  · rw [if_neg z] at h1; omega
theorem ch_a (hX : X = chE s v P n k r) (h : ¬ k + bA s v P n k ≤ k) (hr : r' = rbA (nI k) (nI (k + e7 s v P n k - 1)) r) : X = chE s v P n (k + e7 s v P n k) r' := by
  obtain ⟨h1, -, h3, -⟩ := bA_y h
  rw [hX, chE_go h3, hr]
  unfold rbN; rw [if_neg (by rw [h1]; decide)]
theorem ch_o {d : Bool} (hX : X = chE s v P n k r) (h : ¬ k + bO s v P n k ≤ k) (hd : d = (v k == 45)) (hr : r' = rbO (nI k) (nI (k + e7 s v P n k - 1)) d r) : X = chE s v P n (k + e7 s v P n k) r' := by
  obtain ⟨h1, -, h3, -⟩ := bO_y h
  rw [hX, chE_go h3, hr, hd]
  unfold rbN; rw [if_pos h1]
theorem cg_s (hb : bl7 s v n) (hn : n ≤ 600) (hP : PN s v P n) (he : 0 < e7 s v P n k) (hS : sk s v k = S) : sm (cg s v S) k + 1 ≤ sm (cg s v S) (k + e7 s v P n k) := by
  have h4 := exN_lex hn (pn_pt hb hn hP) he
  have h1 : sm (cg s v S) (k + 1) = sm (cg s v S) k + 1 := by
    rw [sm]; unfold cg; rw [if_pos ⟨hS, h4⟩]
  have := sm_mono (g := cg s v S) (a := k + 1) (k + e7 s v P n k) (by omega)
  omega
theorem itm_0 {fi la : Nat → Int32} : ITM fi la 0 n := fun i h => absurd h (Nat.not_lt_zero _)
theorem rv_0 {pa : Nat → Int32} : RV pa 0 := fun i h => absurd h (Nat.not_lt_zero _)
/-- items and parts through the builder -/
theorem z3_at {a b c a' b' c' : Nat → Int32} : ∀ n, z3 a b c n = z3 a' b' c' n → ∀ i, i < n → a i = a' i ∧ b i = b' i ∧ c i = c' i
  | 0, _, i, h => absurd h (Nat.not_lt_zero _)
  | n + 1, e, i, h => by
    rw [z3, z3] at e
    have e1 := List.cons.inj e
    by_cases q : i = n
    · rw [q]
      have e2 := Prod.mk.inj e1.1
      have e3 := Prod.mk.inj e2.2
      exact ⟨e2.1, e3.1, e3.2⟩
    · exact z3_at n e1.2 i (by omega)
def ITL (n : Nat) (L : List It) : Prop := ∀ x, x ∈ L → ∃ a b, x.1 = nI a ∧ x.2.1 = nI b ∧ a ≤ b ∧ b < n
def RVL : List It → Prop
  | [] => True
  | x :: L => (x.2.2 = 1 → eo7 L = true) ∧ RVL L
theorem itl_m {fi la pa : Nat → Int32} {m : Nat} : ∀ i, i < m → (fi i, la i, pa i) ∈ z3 fi la pa m := by
  induction m with
  | zero => intro i h; exact absurd h (Nat.not_lt_zero _)
  | succ m ih =>
    intro i h
    rw [z3]
    by_cases q : i = m
    · rw [q]; exact List.mem_cons_self
    · exact List.mem_cons_of_mem _ (ih i (by omega))
theorem itl_itm {fi la pa : Nat → Int32} {m : Nat} (h : ITL n (z3 fi la pa m)) : ITM fi la m n := fun i hi => h _ (itl_m i hi)
theorem rvl_rv {fi la pa : Nat → Int32} : ∀ m, RVL (z3 fi la pa m) → RV pa m
  | 0, _, i, h => absurd h (Nat.not_lt_zero _)
  | m + 1, hr, i, h => by
    rw [z3] at hr
    by_cases q : i = m
    · rw [q]
      intro e
      exact eo_y (hr.1 e)
    · exact rvl_rv m hr.2 i (by omega)
theorem itl_a {b : Nat} (h : ITL k r.1) (hk : k ≤ b) (hb : b < n) (hkn : k ≤ n) : ITL n (rbA (nI k) (nI b) r).1 := by
  obtain ⟨L, f⟩ := r
  cases L with
  | nil =>
    intro x hx
    have : x = (nI k, nI b, 0) := by simpa [rbA] using hx
    rw [this]; exact ⟨k, b, rfl, rfl, hk, hb⟩
  | cons y L =>
    intro x hx
    have hy := h y List.mem_cons_self
    unfold rbA at hx
    by_cases z : y.2.2 = 0
    · have hx' : x ∈ (y.1, nI b, y.2.2) :: L := by
        have : (if y.2.2 = 0 then ((y.1, nI b, y.2.2) :: L, f) else ((nI k, nI b, 0) :: y :: L, f)).1 = (y.1, nI b, y.2.2) :: L := by rw [if_pos z]
        rw [← this]; exact hx
      rcases List.mem_cons.mp hx' with e | e
      · obtain ⟨a, c, h1, h2, h3, h4⟩ := hy
        rw [e]; exact ⟨a, b, h1, rfl, by omega, hb⟩
      · obtain ⟨a, c, h1, h2, h3, h4⟩ := h x (List.mem_cons_of_mem _ e)
        exact ⟨a, c, h1, h2, h3, by omega⟩
    · have hx' : x ∈ (nI k, nI b, (0 : Int32)) :: y :: L := by
        have : (if y.2.2 = 0 then ((y.1, nI b, y.2.2) :: L, f) else ((nI k, nI b, 0) :: y :: L, f)).1 = (nI k, nI b, 0) :: y :: L := by rw [if_neg z]
        rw [← this]; exact hx
      rcases List.mem_cons.mp hx' with e | e
      · rw [e]; exact ⟨k, b, rfl, rfl, hk, hb⟩
      · obtain ⟨a, c, h1, h2, h3, h4⟩ := h x e
        exact ⟨a, c, h1, h2, h3, by omega⟩
theorem itl_o {b : Nat} {d : Bool} (h : ITL k r.1) (hk : k ≤ b) (hb : b < n) (hkn : k ≤ n) : ITL n (rbO (nI k) (nI b) d r).1 := by
  intro x hx
  rcases List.mem_cons.mp hx with e | e
  · rw [e]; exact ⟨k, b, rfl, rfl, hk, hb⟩
  · obtain ⟨a, c, h1, h2, h3, h4⟩ := h x e
    exact ⟨a, c, h1, h2, h3, by omega⟩
theorem rvl_a {x y : Int32} (h : RVL r.1) : RVL (rbA x y r).1 := by
  obtain ⟨L, f⟩ := r
  cases L with
  | nil => exact ⟨fun z => absurd (show (0 : Int32) = 1 from z) (by decide), trivial⟩
  | cons i L =>
    unfold rbA
    show RVL (if i.2.2 = 0 then ((i.1, y, i.2.2) :: L, f) else ((x, y, 0) :: i :: L, f)).1
    by_cases z : i.2.2 = 0
    · rw [if_pos z]
      exact ⟨fun w => absurd (z.symm.trans w) (by decide), h.2⟩
    · rw [if_neg z]
      exact ⟨fun w => absurd (show (0 : Int32) = 1 from w) (by decide), h⟩
theorem rvl_o {x y : Int32} {d : Bool} (h : RVL r.1) : RVL (rbO x y d r).1 := by
  refine ⟨fun w => ?_, h⟩
  have w' : (if eo7 r.1 = true then (1 : Int32) else 2) = 1 := w
  by_cases z : eo7 r.1 = true
  · exact z
  · rw [if_neg z] at w'; exact absurd w' (by decide)
theorem rb_len_a {x y : Int32} : (rbA x y r).1.length ≤ r.1.length + 1 := by
  obtain ⟨L, f⟩ := r
  cases L with
  | nil => exact Nat.le_refl _
  | cons i L =>
    unfold rbA
    show (if i.2.2 = 0 then ((i.1, y, i.2.2) :: L, f) else ((x, y, 0) :: i :: L, f)).1.length ≤ (i :: L).length + 1
    by_cases z : i.2.2 = 0
    · rw [if_pos z]; exact Nat.le_succ _
    · rw [if_neg z]; exact Nat.le_refl _
theorem itl_0 : ITL n [] := fun x hx => by cases hx
theorem rb_sz_a {a b c a' b' c' : Nat → Int32} {n m : Nat} {p q p' q' : Bool} {x y : Int32} (e : (z3 a b c n, p, q) = rbA x y (z3 a' b' c' m, p', q')) : n ≤ m + 1 := by
  have h := congrArg (fun z : Rb => z.1.length) e
  have h1 : (z3 a b c n).length = (rbA x y (z3 a' b' c' m, p', q')).1.length := h
  have h2 := rb_len_a (x := x) (y := y) (r := (z3 a' b' c' m, p', q'))
  have h3 : (z3 a' b' c' m, p', q').1.length = m := z3_len m
  rw [z3_len] at h1
  omega
theorem rb_sz_o {a b c a' b' c' : Nat → Int32} {n m : Nat} {p q p' q' d : Bool} {x y : Int32} (e : (z3 a b c n, p, q) = rbO x y d (z3 a' b' c' m, p', q')) : n ≤ m + 1 := by
  have h := congrArg (fun z : Rb => z.1.length) e
  have h1 : (z3 a b c n).length = (z3 a' b' c' m).length + 1 := h
  rw [z3_len, z3_len] at h1
  omega
theorem rb_len_o {x y : Int32} {d : Bool} : (rbO x y d r).1.length = r.1.length + 1 := rfl
end RWI
