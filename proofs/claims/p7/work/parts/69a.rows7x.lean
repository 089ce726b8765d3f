/-! both sides go on together -/
section RWX
variable {X X' : Lr} {cnt cnt' : Nat → Int32} {t0 t1 t2 t3 t4 u0 u1 u2 u3 u4 : Int32} {a a' : Nat} {F G F' G' : Int64 → Int32} {Z Z' : Prop}
theorem rd_both (q1 : ∀ p9, X = .inl p9 → ((∀ x9, x9 < 5 → cnt' x9 = cnt x9) ∧ Z)) (q2 : ∀ r9, X = .inr r9 → (cnt' 0 = nI a ∧ cnt' 1 = r9.2.2 ∧ cnt' 4 = r9.2.1 ∧ TLD r9 F G (cnt' 2) (cnt' 3)))
    (m1 : ∀ p9, X' = .inl p9 → (u0 = t0 ∧ u1 = t1 ∧ u2 = t2 ∧ u3 = t3 ∧ u4 = t4 ∧ Z')) (m2 : ∀ r9, X' = .inr r9 → (u0 = nI a' ∧ u1 = r9.2.2 ∧ u4 = r9.2.1 ∧ TLD r9 F' G' u2 u3))
    (eX : X = X') (ea : a = a') (hF : ∀ z, F z = F' z) (hG : ∀ z, G z = G' z) (h0 : cnt 0 = t0) (h1 : cnt 1 = t1) (h2 : cnt 2 = t2) (h3 : cnt 3 = t3) (h4 : cnt 4 = t4) :
    cnt' 0 = u0 ∧ cnt' 1 = u1 ∧ cnt' 2 = u2 ∧ cnt' 3 = u3 ∧ cnt' 4 = u4 := by
  subst eX; subst ea
  cases X with
  | inl p =>
    obtain ⟨c, -⟩ := q1 p rfl
    obtain ⟨e0, e1, e2, e3, e4, -⟩ := m1 p rfl
    exact ⟨by rw [c 0 (by decide), h0, e0], by rw [c 1 (by decide), h1, e1], by rw [c 2 (by decide), h2, e2], by rw [c 3 (by decide), h3, e3], by rw [c 4 (by decide), h4, e4]⟩
  | inr r =>
    obtain ⟨c0, c1, c4, ct⟩ := q2 r rfl
    obtain ⟨e0, e1, e4, et⟩ := m2 r rfl
    obtain ⟨x2, x3⟩ := tld_eq ct et hF hG
    exact ⟨by rw [c0, e0], by rw [c1, e1], x2, x3, by rw [c4, e4]⟩
variable {h h' A B B' C C' : Bool} {n n' m m' : Nat} {s t x x' o o' z : Int32}
theorem fz_both (eh : h = h') (en : n' = n) (q : m = if (fxK h n s t && !h) = true then n + 1 else n) (q' : m' = if (fxK h' n' s t && !h') = true then n' + 1 else n') : m' = m := by
  subst eh; subst en; rw [q, q']
theorem fh_both (eh : h = h') (en : n' = n) (q : C = (B || (fxK h n s t && A))) (q' : C' = (B' || (fxK h' n' s t && A))) (e : B = B') : C = C' := by
  subst eh; subst en; subst e; rw [q, q']
theorem fl_both (eh : h = h') (en : n' = n) (q : x = if (fxK h n s t && A) = true then z else o) (q' : x' = if (fxK h' n' s t && A) = true then z else o') (e : o = o') : x = x' := by
  subst eh; subst en; subst e; rw [q, q']
theorem z_hx {f g : Nat → Int64} : ∀ v9, hx7 f v9 0 = hM g v9 0 := fun w => by
  unfold hx7 hM; rw [ix_end (Nat.le_refl _)]; rfl
theorem z_lv {f g : Nat → Int64} {l l' : Nat → Int32} {d : Int32} : ∀ v9, lvC f l 0 d v9 = lvM g l' d v9 0 := fun w => by
  unfold lvC; rw [ix_end (Nat.le_refl _), if_pos rfl]; rfl
/-! count -/
variable {y : Int32} {f : Nat → Int32}
def cnV (a b c d e y : Int32) : Int32 := if y < 3 then (if y = 0 then a else if y = 1 then b else c) else (if y = 3 then d else e)
theorem cn_any : ¬ wi y 0 4 = 0 ∨ wi y 0 4 = 0 := (Classical.em (wi y 0 4 = 0)).symm
theorem ge_5 (h : ¬ y < 5) : 4 < y := by
  have a := Int32.le_iff_toInt_le.mp (Int32.not_lt.mp h)
  refine Int32.lt_iff_toInt_lt.mpr ?_
  have b : (5 : Int32).toInt = 5 := by decide
  have c : (4 : Int32).toInt = 4 := by decide
  omega
theorem lt_5 (h : y < 5) : ¬ 4 < y := by
  have a := Int32.lt_iff_toInt_lt.mp h
  intro q
  have q' := Int32.lt_iff_toInt_lt.mp q
  have b : (5 : Int32).toInt = 5 := by decide
  have c : (4 : Int32).toInt = 4 := by decide
  omega
theorem c5_in (h1 : ¬ y < 0) (h2 : y < 5) : vp_in y 5 := by
  have a := Int32.le_iff_toInt_le.mp (Int32.not_lt.mp h1)
  have c := Int32.lt_iff_toInt_lt.mp h2
  have g0 : (0 : Int32).toInt = 0 := by decide
  have g5 : (5 : Int32).toInt = 5 := by decide
  rw [vp_in_iff]; omega
theorem wi_04 (h : ¬ wi y 0 4 = 0) : ∃ k, k < 5 ∧ y = nI k := by
  have h1 : ¬ y < 0 := fun q => h (wy_l q)
  have h2 : ¬ 4 < y := fun q => h (wy_g q)
  have a := Int32.le_iff_toInt_le.mp (Int32.not_lt.mp h1)
  have c := Int32.le_iff_toInt_le.mp (Int32.not_lt.mp h2)
  have g0 : (0 : Int32).toInt = 0 := by decide
  have g4 : (4 : Int32).toInt = 4 := by decide
  refine ⟨y.toInt.toNat, by omega, ?_⟩
  apply Int32.toInt_inj.mp
  rw [nI_toInt (by omega)]; omega
theorem cn_eq (h : ¬ wi y 0 4 = 0) (h0 : f 0 = t0) (h1 : f 1 = t1) (h2 : f 2 = t2) (h3 : f 3 = t3) (h4 : f 4 = t4) : f y.toNatClampNeg = cnV t0 t1 t2 t3 t4 y := by
  obtain ⟨k, hk, rfl⟩ := wi_04 h
  rw [nI_clamp (by omega), ← h0, ← h1, ← h2, ← h3, ← h4]
  have hc : k = 0 ∨ k = 1 ∨ k = 2 ∨ k = 3 ∨ k = 4 := by omega
  rcases hc with e | e | e | e | e <;> subst e <;> rfl
theorem cv_t (h : ¬ 3 ≤ y) : y < 3 := Int32.not_le.mp h
theorem cn_0 (h : y < 3) (q : y = 0) : t0 = cnV t0 t1 t2 t3 t4 y := by unfold cnV; rw [if_pos h, if_pos q]
theorem cn_1 (h : y < 3) (q : ¬ y = 0) (r : y = 1) : t1 = cnV t0 t1 t2 t3 t4 y := by unfold cnV; rw [if_pos h, if_neg q, if_pos r]
theorem cn_2 (h : y < 3) (q : ¬ y = 0) (r : ¬ y = 1) : t2 = cnV t0 t1 t2 t3 t4 y := by unfold cnV; rw [if_pos h, if_neg q, if_neg r]
theorem cn_3 (h : ¬ y < 3) (q : y = 3) : t3 = cnV t0 t1 t2 t3 t4 y := by unfold cnV; rw [if_neg h, if_pos q]
theorem cn_4 (h : ¬ y < 3) (q : ¬ y = 3) : t4 = cnV t0 t1 t2 t3 t4 y := by unfold cnV; rw [if_neg h, if_neg q]
end RWX
