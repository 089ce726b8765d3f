/-! the reference puts a row together -/
section RWT
variable {wh fr to_ s wt : Nat → Int32} {v : Nat → Int64} {P : Nat → Int32} {n k m no j : Nat} {F G : Int64 → Int32} {fi la : Nat → Int32} {R : List Sp} {W : List Wt} {X Y : Rs} {u : Int32}
theorem pu_o {fi' la' : Nat → Int32} {a b : Nat} (h : rs7 v F G [] (z3 fr to_ wh k) = some (W, z2 fi la no, R)) (h0 : wh k = 0) (h1 : upd fi no (nI a) = fi') (h2 : upd la no (nI b) = la') (ea : fr k = nI a) (eb : to_ k = nI b) : rs7 v F G [] (z3 fr to_ wh (k + 1)) = some (W, z2 fi' la' (no + 1), R) := by
  subst h1; subst h2
  refine rs_s h ?_
  rw [tI_0 (by show ¬ wh k = 1; rw [h0]; decide) (by show ¬ wh k = 2; rw [h0]; decide), ea, eb, od_z]
theorem pu_c (h : rs7 v F G [] (z3 fr to_ wh k) = some X) (hw : wh k = 1 ∨ wh k = 2) (hm : nm7 v (fr k) (to_ k) = v (cr s v n (fr k).toNatClampNeg)) (hu : u = b01 (cm7 wh fr s v n F G k X).isSome) (hs : ∀ x9, cm7 wh fr s v n F G k X = some x9 → Y = x9) (q : ¬ u = 0) : rs7 v F G [] (z3 fr to_ wh (k + 1)) = some Y := by
  refine rs_s h ?_
  rw [cm_tI hw hm]
  rw [hu] at q
  have z := b01_yes q
  cases hc : cm7 wh fr s v n F G k X with
  | none => rw [hc] at z; cases z
  | some y => rw [hs y hc]
theorem pu_n (h : rs7 v F G [] (z3 fr to_ wh k) = some X) (hw : wh k = 1 ∨ wh k = 2) (hm : nm7 v (fr k) (to_ k) = v (cr s v n (fr k).toNatClampNeg)) (hu : u = b01 (cm7 wh fr s v n F G k X).isSome) (q : u = 0) (hk : k + 1 ≤ m) : rs7 v F G [] (z3 fr to_ wh m) = none := by
  refine rs_n (k := k + 1) (rs_s h ?_) m hk
  rw [cm_tI hw hm]
  rw [hu] at q
  have z := b01_no q
  cases hc : cm7 wh fr s v n F G k X with
  | none => rfl
  | some y => rw [hc] at z; cases z
theorem rg_12 (h : RG wh m) (hk : k < m) (h0 : ¬ wh k = 0) : wh k = 1 ∨ wh k = 2 := (h.1 k hk).resolve_left h0
theorem tm_F {f f' g A B : Nat → Int32} (h : ∀ x9, x9 < 600 → f x9 = g x9 + nI (cF x9 (z2 A B k))) (e : A k = nI j) (hj : j < 600) (hf : upd f j (f j + 1) = f') : ∀ x9, x9 < 600 → f' x9 = g x9 + nI (cF x9 (z2 A B (k + 1))) := fun x hx => by
  subst hf
  have q : cF x (z2 A B (k + 1)) = cF x (z2 A B k) + (if A k = nI x then 1 else 0) := rfl
  rw [q]
  by_cases a : x = j
  · subst a
    rw [if_pos e, upd_self, h x hx, ← nI_add, show (1 : Int32) = nI 1 from rfl, Int32.add_assoc]
  · rw [if_neg (fun z => a ((nI_eq (by omega) (by omega)).mp (z.symm.trans e))), upd_ne a, h x hx, Nat.add_zero]
theorem tm_B {f f' g A B : Nat → Int32} (h : ∀ x9, x9 < 600 → f x9 = g x9 + nI (cB x9 (z2 A B k))) (e : B k = nI j) (hj : j < 600) (hf : upd f j (f j + 1) = f') : ∀ x9, x9 < 600 → f' x9 = g x9 + nI (cB x9 (z2 A B (k + 1))) := fun x hx => by
  subst hf
  have q : cB x (z2 A B (k + 1)) = cB x (z2 A B k) + (if B k = nI x then 1 else 0) := rfl
  rw [q]
  by_cases a : x = j
  · subst a
    rw [if_pos e, upd_self, h x hx, ← nI_add, show (1 : Int32) = nI 1 from rfl, Int32.add_assoc]
  · rw [if_neg (fun z => a ((nI_eq (by omega) (by omega)).mp (z.symm.trans e))), upd_ne a, h x hx, Nat.add_zero]
/-! around -/
theorem z3_mem {a b c : Nat → Int32} : ∀ m, j < m → (a j, b j, c j) ∈ z3 a b c m
  | 0, h => absurd h (Nat.not_lt_zero _)
  | m + 1, h => by
    rw [z3]
    by_cases e : j = m
    · rw [e]; exact List.mem_cons_self
    · exact List.mem_cons_of_mem _ (z3_mem m (by omega))
theorem nw_arr {L : List It} (h : z3 fr to_ wh m = L) (hn : NW s v n L) : ∀ j, j < m → ¬ wh j = 0 → nm7 v (fr j) (to_ j) = v (cr s v n (fr j).toNatClampNeg) := fun j hj h0 => hn (fr j, to_ j, wh j) (by rw [← h]; exact z3_mem m hj) h0
variable {f : Nat → Nat} {r : Rb} {z z' : Int32} {a : Nat}
theorem sg_0 (h : st7 s v P n k = false) : sm (gS7 s v P n f) (k + 1) = sm (gS7 s v P n f) k := by
  rw [sm]; unfold gS7; rw [if_neg (by rw [h]; decide)]; rfl
theorem sg_1 (h : st7 s v P n k = true) : sm (gS7 s v P n f) (k + 1) = sm (gS7 s v P n f) k + f k := by
  rw [sm]; unfold gS7; rw [if_pos h]
theorem ag_0 (h : st7 s v P n k = false) (e : z = nI (sm (gS7 s v P n f) k)) : z = nI (sm (gS7 s v P n f) (k + 1)) := by rw [sg_0 h]; exact e
theorem ag_1 (h : st7 s v P n k = true) (h0 : f k = 0) (e : z = nI (sm (gS7 s v P n f) k)) : z = nI (sm (gS7 s v P n f) (k + 1)) := by rw [sg_1 h, h0]; exact e
theorem ag_2 (h : st7 s v P n k = true) (h0 : f k = a) (e : z = nI (sm (gS7 s v P n f) k)) (e2 : z' = z + nI a) : z' = nI (sm (gS7 s v P n f) (k + 1)) := by rw [sg_1 h, h0, e2, e, nI_add]
theorem st_z (h : e7 s v P n k = 0) : st7 s v P n k = false := by
  unfold st7; rw [h]; simp
theorem rk_w (h : wh7 (rw7 s v P n k) = false) : rk7 s v P n F G k = none := pr_no h
/-- what put adds -/
theorem aq_s {L : List It} {b b' h h' : Nat → Int32} {ro ro' co co' : Int32} (hw : wh7 r = true) (hL : L = r.1)
    (q1 : rs7 v F G [] L = none → (ro' = ro ∧ co' = co + 1 ∧ (∀ x9, x9 < 600 → b' x9 = b x9) ∧ (∀ x9, x9 < 600 → h' x9 = h x9)))
    (q2 : ∀ x8, rs7 v F G [] L = some x8 → (ro' = ro + 1 ∧ co' = co ∧ (∀ x9, x9 < 600 → b' x9 = b x9 + nI (cF x9 (fin7 x8).2.2)) ∧ (∀ x9, x9 < 600 → h' x9 = h x9 + nI (cB x9 (fin7 x8).2.2)))) :
    ro' = ro + nI (oR (rr7 v F G r)) ∧ co' = co + nI (oC (rr7 v F G r)) ∧ (∀ x9, x9 < 600 → b' x9 = b x9 + nI (cF x9 (oP (rr7 v F G r)))) ∧ (∀ x9, x9 < 600 → h' x9 = h x9 + nI (cB x9 (oP (rr7 v F G r)))) := by
  subst hL
  unfold rr7
  rw [if_pos hw]
  cases hx : rs7 v F G [] r.1 with
  | none =>
    obtain ⟨e1, e2, e3, e4⟩ := q1 hx
    exact ⟨by rw [e1]; exact nI_z, e2, fun x hx => by rw [e3 x hx]; exact nI_z, fun x hx => by rw [e4 x hx]; exact nI_z⟩
  | some x =>
    obtain ⟨e1, e2, e3, e4⟩ := q2 x hx
    exact ⟨e1, by rw [e2]; exact nI_z, e3, e4⟩
end RWT
