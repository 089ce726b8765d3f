/-! the reference: is a row whole, and its parts -/
section RWR
variable {s : Nat → Int32} {v : Nat → Int64} {P : Nat → Int32} {n k j m : Nat}
def fix7 : List It → List It
  | [] => []
  | i :: L => (i.1, i.2.1, if i.2.2 = 0 then 0 else if eo7 L = true then 1 else 2) :: fix7 L
def so7 : List It → Bool
  | [] => false
  | i :: L => so7 L || !(i.2.2 == 0)
def dsB (s : Nat → Int32) (v : Nat → Int64) (f : Int32) : Bool := s f.toNatClampNeg == 2 && v f.toNatClampNeg == 45
def gd7 (s : Nat → Int32) (v : Nat → Int64) : List It → Bool
  | [] => true
  | i :: L => gd7 s v L && (i.2.2 == 0 || (eo7 L || dsB s v i.1))
def VB (s : Nat → Int32) (v : Nat → Int64) (r : Rb) : Prop := fix7 (r.1.map rw1) = r.1 ∧ so7 (r.1.map rw1) = r.2.1 ∧ gd7 s v (r.1.map rw1) = !r.2.2
theorem vb_0 : VB s v ([], false, false) := ⟨rfl, rfl, rfl⟩
theorem vb_A {a b : Int32} {r : Rb} (h : VB s v r) : VB s v (rbA a b r) := by
  obtain ⟨h1, h2, h3⟩ := h
  have ps : VB s v ((a, b, 0) :: r.1, r.2) := by
    refine ⟨?_, ?_, ?_⟩
    · show fix7 (rw1 (a, b, 0) :: r.1.map rw1) = (a, b, 0) :: r.1
      rw [rw_0 rfl, fix7, if_pos rfl, h1]
    · show (so7 (r.1.map rw1) || !((if (0 : Int32) = 0 then (0 : Int32) else 1) == 0)) = r.2.1
      rw [h2]; simp
    · show (gd7 s v (r.1.map rw1) && (((if (0 : Int32) = 0 then (0 : Int32) else 1) == 0) || _)) = !r.2.2
      rw [h3]; simp
  unfold rbA
  cases hr : r.1 with
  | nil => rw [hr] at ps; exact ps
  | cons x L =>
    rw [hr] at ps h1 h2 h3
    show VB s v (if x.2.2 = 0 then ((x.1, b, x.2.2) :: L, r.2) else ((a, b, 0) :: x :: L, r.2))
    by_cases z : x.2.2 = 0
    · rw [if_pos z]
      obtain ⟨x1, x2, x3⟩ := x
      have z' : x3 = 0 := z
      subst z'
      have h1' : (x1, x2, (0 : Int32)) :: fix7 (L.map rw1) = (x1, x2, 0) :: L := by
        have e : fix7 ((x1, x2, (0 : Int32)) :: L.map rw1) = (x1, x2, 0) :: L := h1
        rw [fix7, if_pos rfl] at e; exact e
      have h4 := (List.cons.inj h1').2
      refine ⟨?_, h2, h3⟩
      show fix7 ((x1, b, (0 : Int32)) :: L.map rw1) = (x1, b, 0) :: L
      rw [fix7, if_pos rfl, h4]
    · rw [if_neg z]; exact ps
theorem vb_O {a b : Int32} {d : Bool} {r : Rb} (hd : eo7 r.1 = true ∨ dsB s v a = d) (h : VB s v r) : VB s v (rbO a b d r) := by
  obtain ⟨h1, h2, h3⟩ := h
  have nz : ¬ (if eo7 r.1 = true then (1 : Int32) else 2) = 0 := by split <;> decide
  unfold rbO
  refine ⟨?_, ?_, ?_⟩
  · show fix7 (rw1 (a, b, if eo7 r.1 = true then 1 else 2) :: r.1.map rw1) = (a, b, if eo7 r.1 = true then 1 else 2) :: r.1
    rw [rw_1 nz, fix7, if_neg (show ¬ (1 : Int32) = 0 by decide), rw_eo, h1]
  · show (so7 (r.1.map rw1) || !((rw1 (a, b, if eo7 r.1 = true then 1 else 2)).2.2 == 0)) = true
    rw [rw_1 nz]; simp
  · show (gd7 s v (r.1.map rw1) && ((rw1 (a, b, if eo7 r.1 = true then 1 else 2)).2.2 == 0 || (eo7 (r.1.map rw1) || dsB s v a))) = !(r.2.2 || (!eo7 r.1 && !d))
    rw [rw_1 nz, rw_eo, h3]
    rcases hd with z | z
    · rw [z]; simp
    · rw [z]; simp
theorem ds_k (hk : k < 600) (ho : opB s v n k = true) : dsB s v (nI k) = (v k == 45) := by
  unfold dsB
  rw [nI_clamp (by omega)]
  unfold opB at ho
  rcases Bool.or_eq_true_iff.mp ho with z | z
  · rw [z]; rfl
  · have w := tkB_s z
    rw [w.1, w.2]; decide
theorem vb_N {r : Rb} (hk : k < 600) (h : VB s v r) : VB s v (rbN s v P n k r) := by
  unfold rbN
  by_cases ho : opB s v n k = true
  · rw [if_pos ho]; exact vb_O (Or.inr (ds_k hk ho)) h
  · rw [if_neg ho]; exact vb_A h
/-- the name of an operation -/
def NW (s : Nat → Int32) (v : Nat → Int64) (n : Nat) (L : List It) : Prop := ∀ i, i ∈ L → ¬ i.2.2 = 0 → nm7 v i.1 i.2.1 = v (cr s v n i.1.toNatClampNeg)
theorem nm_k (hb : bl7 s v n) (hn : n ≤ 600) (hP : PN s v P n) (he : 0 < e7 s v P n k) (ho : opB s v n k = true) : nm7 v (nI k) (nI (k + e7 s v P n k - 1)) = v (cr s v n (nI k).toNatClampNeg) := by
  have hk := e7_lt he
  have hT := pn_pt hb hn hP
  rw [nI_clamp (by omega)]
  unfold nm7 cr
  unfold opB at ho
  rcases Bool.or_eq_true_iff.mp ho with z | z
  · have s2 : s k = 2 := by simpa using z
    have e1 : e7 s v P n k = 1 := by
      obtain ⟨-, c1 | c2 | c3⟩ := exN_cases hn hT he
      · exact c1.1
      · have := (br_no (Or.inl c2.1)).1; rw [s2] at this; exact absurd this (by decide)
      · have := c3.2.2.1; rw [s2] at this; exact absurd this (by decide)
    have nt : ¬ tkB s v n k = true := fun w => by
      have := (tkB_s w).1; rw [s2] at this; exact absurd this (by decide)
    rw [e1, show k + 1 - 1 = k by omega, if_pos rfl, if_neg nt, nI_clamp (by omega)]
  · have w := tkB_s z
    obtain ⟨-, e3⟩ := ex_t3 w.1 w.2 he
    rw [e3, if_neg (fun q => by have := (nI_eq (a := k) (b := k + 3 - 1) (by omega) (by omega)).mp q; omega), if_pos z, nI_1 k, nI_clamp (by omega)]
theorem nw_A {a b : Int32} {r : Rb} (h : NW s v n r.1) : NW s v n (rbA a b r).1 := by
  have ps : NW s v n ((a, b, 0) :: r.1) := fun i hi => by
    rcases List.mem_cons.mp hi with e | e
    · rw [e]; exact fun z => absurd rfl z
    · exact h i e
  unfold rbA
  cases hr : r.1 with
  | nil => rw [hr] at ps; exact ps
  | cons x L =>
    rw [hr] at ps h
    show NW s v n (if x.2.2 = 0 then ((x.1, b, x.2.2) :: L, r.2) else ((a, b, 0) :: x :: L, r.2)).1
    by_cases z : x.2.2 = 0
    · rw [if_pos z]
      intro i hi
      rcases List.mem_cons.mp hi with e | e
      · rw [e]; exact fun w => absurd z w
      · exact h i (List.mem_cons_of_mem _ e)
    · rw [if_neg z]; exact ps
theorem nw_N (hb : bl7 s v n) (hn : n ≤ 600) (hP : PN s v P n) (he : 0 < e7 s v P n k) {r : Rb} (h : NW s v n r.1) : NW s v n (rbN s v P n k r).1 := by
  unfold rbN
  by_cases ho : opB s v n k = true
  · rw [if_pos ho]
    intro i hi
    rcases List.mem_cons.mp hi with e | e
    · rw [e]; exact fun _ => nm_k hb hn hP he ho
    · exact h i e
  · rw [if_neg ho]; exact nw_A h
theorem ch_in (hb : bl7 s v n) (hn : n ≤ 600) (hP : PN s v P n) : ∀ (d k : Nat) (r : Rb), n - k ≤ d → VB s v r → NW s v n r.1 → VB s v (chE s v P n k r).2 ∧ NW s v n (chE s v P n k r).2.1 := by
  intro d
  induction d with
  | zero =>
    intro k r hd h1 h2
    rcases Nat.eq_zero_or_pos (e7 s v P n k) with e | e
    · rw [chE_end e]; exact ⟨h1, h2⟩
    · have := e7_lt e; omega
  | succ d ih =>
    intro k r hd h1 h2
    rcases Nat.eq_zero_or_pos (e7 s v P n k) with e | e
    · rw [chE_end e]; exact ⟨h1, h2⟩
    · have := e7_lt e
      rw [chE_go e]
      exact ih _ _ (by omega) (vb_N (by omega) h1) (nw_N hb hn hP e h2)
theorem rw_in (hb : bl7 s v n) (hn : n ≤ 600) (hP : PN s v P n) : VB s v (rw7 s v P n k) ∧ NW s v n (rw7 s v P n k).1 := ch_in hb hn hP _ k _ (Nat.le_refl _) vb_0 (fun i hi => absurd hi List.not_mem_nil)
/-! the loop of regular -/
variable {f t w w' : Nat → Int32}
theorem so_s (h : w k = 0 ∨ w k = 1) : so7 (z3 f t w (k + 1)) = (so7 (z3 f t w k) || decide (0 < w k)) := by
  rw [z3, so7]
  rcases h with e | e
  · show (_ || !(w k == 0)) = _; rw [e]; rfl
  · show (_ || !(w k == 0)) = _; rw [e]; rfl
theorem fx_s (h : z3 f t w' k = fix7 (z3 f t w k)) (e : w' k = if w k = 0 then 0 else if eo7 (z3 f t w k) = true then 1 else 2) : z3 f t w' (k + 1) = fix7 (z3 f t w (k + 1)) := by
  rw [z3, z3, fix7, h, e]
theorem z3_wu {x : Int32} : z3 f t (upd w k x) k = z3 f t w k := z3_cg k (fun j hj => ⟨rfl, rfl, upd_ne (by omega)⟩)
theorem fx_k (h : z3 f t w' k = fix7 (z3 f t w k)) (h1 : w' k = w k) (c : w k = 0 ∨ w k = 1) (q : w k = 1 → eo7 (z3 f t w k) = true) : z3 f t w' (k + 1) = fix7 (z3 f t w (k + 1)) := by
  refine fx_s h ?_
  rcases c with e | e
  · rw [h1, if_pos e, e]
  · rw [h1, if_neg (by rw [e]; decide), if_pos (q e), e]
theorem fy_2 {g : Nat → Int32} (h : z3 f t w' k = fix7 (z3 f t w k)) (c : w k = 1) (q : eo7 (z3 f t w k) = false) (e : upd w' k 2 = g) : z3 f t g (k + 1) = fix7 (z3 f t w (k + 1)) := by
  subst e
  refine fx_s (z3_wu.trans h) ?_
  rw [upd_eq, if_neg (by rw [c]; decide), if_neg (by rw [q]; decide)]
theorem fx_eo : ∀ L : List It, eo7 (fix7 L) = eo7 L
  | [] => rfl
  | i :: L => by
    show ((if i.2.2 = 0 then (0 : Int32) else if eo7 L = true then 1 else 2) == 0) = (i.2.2 == 0)
    by_cases h : i.2.2 = 0
    · rw [if_pos h, h]
    · rw [if_neg h]
      have : (i.2.2 == 0) = false := by simpa using h
      rw [this]; split <;> rfl
/-- is there an operand before k? -/
theorem eo_f (h : z3 f t w' k = fix7 (z3 f t w k)) (hk : 1 ≤ k) (q : w' (k - 1) = 0) : eo7 (z3 f t w k) = true := by
  rw [← fx_eo, ← h, z3_pop hk]; show (w' (k - 1) == 0) = true; rw [q]; rfl
theorem eo_g (h : z3 f t w' k = fix7 (z3 f t w k)) (q : k = 0 ∨ ¬ w' (k - 1) = 0) : eo7 (z3 f t w k) = false := by
  rcases Nat.eq_zero_or_pos k with e | e
  · rw [e]; rfl
  · rw [← fx_eo, ← h, z3_pop e]; show (w' (k - 1) == 0) = false
    rcases q with q | q
    · omega
    · simpa using q
theorem gy_s : gd7 s v (z3 f t w (k + 1)) = (gd7 s v (z3 f t w k) && (w k == 0 || (eo7 (z3 f t w k) || dsB s v (f k)))) := rfl
theorem rg_wh {r : Rb} (h : VB s v r) : ((eo7 (r.1.map rw1) && gd7 s v (r.1.map rw1)) && so7 (r.1.map rw1)) = wh7 r := by
  obtain ⟨h1, h2, h3⟩ := h
  unfold wh7
  rw [h2, h3, rw_eo]
  cases r.2.1 <;> cases r.2.2 <;> cases eo7 r.1 <;> rfl
variable {K : Int32} {A B c : Bool}
theorem rgs_a (h : K = b01 A) (q : ¬ K = 0) : (1 : Int32) = b01 (A || c) := by
  rw [h] at q; rw [b01_yes q]; rfl
theorem rgs_b (hb : c = true) : (1 : Int32) = b01 (A || c) := by rw [hb]; cases A <;> rfl
theorem rgs_c (h : K = b01 A) (q : K = 0) (hb : c = false) : (0 : Int32) = b01 (A || c) := by
  rw [h] at q; rw [b01_no q, hb]; rfl
theorem rgg_0 (h : K = b01 (A && B)) (q : K = 0) : (0 : Int32) = b01 (A && (B && c)) := by
  rw [h] at q; have := b01_no q
  rw [← Bool.and_assoc, this]; rfl
theorem rgg_1 (h : K = b01 (A && B)) (q : ¬ K = 0) (hc : c = true) : (1 : Int32) = b01 (A && (B && c)) := by
  rw [h] at q; have := b01_yes q
  rw [← Bool.and_assoc, this, hc]; rfl
theorem rgg_2 (hc : c = false) : (0 : Int32) = b01 (A && (B && c)) := by rw [hc]; cases A <;> cases B <;> rfl
theorem rgr_1 {K' : Int32} (h : K = b01 A) (q : ¬ K = 0) (h' : K' = b01 B) (q' : ¬ K' = 0) : (1 : Int32) = b01 (A && B) := by
  rw [h] at q; rw [h'] at q'; rw [b01_yes q, b01_yes q']; rfl
theorem rgr_2 (h : K = b01 A) (q : K = 0) : (0 : Int32) = b01 (A && B) := by rw [h] at q; rw [b01_no q]; rfl
theorem rgr_3 (h : K = b01 B) (q : K = 0) : (0 : Int32) = b01 (A && B) := by rw [h] at q; rw [b01_no q]; cases A <;> rfl
theorem rg_i1 (hm : 1 ≤ m) (h : w (m - 1) = 0) : (1 : Int32) = b01 (eo7 (z3 f t w m) && gd7 s v (z3 f t w 0)) := by
  rw [z3_pop hm]; show 1 = b01 ((w (m - 1) == 0) && true); rw [h]; rfl
theorem rg_i0 (hm : 1 ≤ m) (h : ¬ w (m - 1) = 0) : (0 : Int32) = b01 (eo7 (z3 f t w m) && gd7 s v (z3 f t w 0)) := by
  rw [z3_pop hm]; show 0 = b01 ((w (m - 1) == 0) && true); simp [b01, h]
theorem le_z {x : Int32} (h : ¬ x ≤ 0) : ¬ x = 0 := fun e => h (by rw [e]; decide)
theorem ds_0 {x : Int32} (e : x = nI j) (hj : j < 600) (h : ¬ s j = 2) : (0 : Int32) = b01 (dsB s v x) := by
  unfold dsB; rw [e, nI_clamp (by omega)]; simp [b01, h]
theorem ds_1 {x : Int32} (e : x = nI j) (hj : j < 600) (h : ¬ lg_cmp (v j) 45 = 0) : (0 : Int32) = b01 (dsB s v x) := by
  have h' : ¬ v j = 45 := fun q => h ((lg_cmp_eq _ _).mpr q)
  unfold dsB; rw [e, nI_clamp (by omega)]; simp [b01, h']
theorem ds_2 {x : Int32} {i : Nat} (e : x = nI j) (hj : j < 600) (h : s j = 2) (e' : x = nI i) (hi : i < 600) (h2 : lg_cmp (v i) 45 = 0) : (1 : Int32) = b01 (dsB s v x) := by
  have h' : v i = 45 := (lg_cmp_eq _ _).mp h2
  have q : j = i := (nI_eq (by omega) (by omega)).mp (e.symm.trans e')
  subst q
  unfold dsB; rw [e, nI_clamp (by omega)]; simp [b01, h, h']
theorem cc_0 (h : w k = 0) : (w k == 0 || c) = true := by rw [h]; rfl
theorem cc_e {L : List It} (h : eo7 L = true) : (B || (eo7 L || c)) = true := by rw [h]; cases B <;> rfl
theorem cc_d {L : List It} (h : c = true) : (B || (eo7 L || c)) = true := by rw [h]; cases B <;> cases eo7 L <;> rfl
theorem cc_n {L : List It} (h : ¬ w k = 0) (h2 : eo7 L = false) (h3 : c = false) : (w k == 0 || (eo7 L || c)) = false := by
  rw [h2, h3]; simpa using h
end RWR
