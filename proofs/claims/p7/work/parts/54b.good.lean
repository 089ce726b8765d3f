/-! what the lexer's list is like -/
section GDL
variable {c : Nat → Int32} {n a : Nat} {R S : List Lx}
def gdX (x : Lx) : Prop := (1 ≤ x.2.2.2.1 ∧ x.2.2.2.1 ≤ 241) ∧ (x.1 = 3 → ∃ q, q < 256 ∧ x.2.1 = i6 (nI q))
def gdL (L : List Lx) : Prop := ∀ x, x ∈ L → gdX x
theorem sg_nat {x : Int32} (h : ¬ sg_ x = 0) : ∃ q, q < 256 ∧ x = nI q := by
  by_cases z : ceB x = 0
  · exact absurd (sg_out z) h
  · exact ce_nat z
theorem kd_sg {x : Int32} (h : kdO x = 3) : ¬ sg_ x = 0 := by
  intro z
  unfold kdO at h
  by_cases a : lt_ x = 0
  · rw [if_neg (fun w => w a)] at h
    by_cases b : wi x 48 57 = 0
    · rw [if_neg (fun w => w b)] at h
      by_cases d : op_ x = 0
      · rw [if_neg (fun w => w d), if_neg (fun w => w z)] at h; exact absurd h (by decide)
      · rw [if_pos d] at h; exact absurd h (by decide)
    · rw [if_pos b] at h; exact absurd h (by decide)
  · rw [if_pos a] at h; exact absurd h (by decide)
theorem pk_1 : pkL c a 1 = i6 (c a) := by
  show (0 : Int64) ||| ((c (a + 0)).toInt64 <<< ((nI (8 * 0)).toInt64 &&& 63)) = _
  rw [shl_0, Int64.zero_or]; rfl
theorem st_gd {b : Nat} (h : a < n) (hn : n ≤ 240) (e : stp c n a R = .inr (b, S)) (g : gdL R) : gdL S := by
  unfold stp at e
  split at e
  · cases e; exact g
  · split at e
    · cases hn' : nsE c n 0 a with
      | none => rw [hn'] at e; cases e
      | some z => rw [hn'] at e; cases e; exact g
    · split at e
      · cases e; exact g
      · split at e
        · cases e
        · cases e
          intro x hx
          rcases List.mem_cons.mp hx with rfl | hx
          · refine ⟨⟨by show 1 ≤ a - lnO c a + 1; omega, by show a - lnO c a + 1 ≤ 241; omega⟩, fun hk => ?_⟩
            have hk' : kdO (c a) = 3 := hk
            obtain ⟨q, hq, hc⟩ := sg_nat (kd_sg hk')
            refine ⟨q, hq, ?_⟩
            show pkO c (kdO (c a)) a (enO c n (kdO (c a)) a) = _
            have en : enO c n (kdO (c a)) a = a + 1 := by
              rw [hk']; unfold enO; rw [if_neg (by decide)]
            rw [en, ← pkO_n (by rw [hk']; decide), Nat.add_sub_cancel_left, pk_1, hc]
          · exact g x hx
theorem cu_gd (hn : n ≤ 240) : ∀ (f a : Nat) (R : List Lx), gdL R → gdL (cuS c n f a R).2
  | 0, _, R, g => g
  | f + 1, a, R, g => by
    rw [cuS]
    by_cases h : a < n
    · rw [if_pos h]
      cases hs : stp c n a R with
      | inl p => exact g
      | inr x =>
        obtain ⟨b, S⟩ := x
        exact cu_gd hn f b S (st_gd h hn hs g)
    · rw [if_neg h]; exact g
theorem cu_leS : ∀ (f a : Nat) (R : List Lx) (p : Nat), (cuS c n f a R).1 = some p → p ≤ n
  | 0, _, R, p, h => by cases h
  | f + 1, a, R, p, e => by
    rw [cuS] at e
    by_cases h : a < n
    · rw [if_pos h] at e
      cases hs : stp c n a R with
      | inl q =>
        rw [hs] at e
        have := stp_inl hs
        have e' : some q = some p := e
        cases e'; omega
      | inr x =>
        obtain ⟨b, S⟩ := x
        rw [hs] at e
        exact cu_leS f b S p e
    · rw [if_neg h] at e; cases e
theorem cu_le {p : Nat} (hn : n ≤ 240) (h : (cuE c n 0 []).1 = some p) : p ≤ 240 := Nat.le_trans (cu_leS _ _ _ _ h) hn
theorem cu_good (hn : n ≤ 240) : gdL (cuE c n 0 []).2 := cu_gd hn _ _ _ (fun x hx => by cases hx)
theorem gd_at {kd : Nat → Int32} {vl : Nat → Int64} {wh col ld : Nat → Int32} : ∀ L : List Lx, Rp kd vl wh col ld L → gdL L → COL col L.length ∧ SGN kd vl L.length
  | [], _, _ => ⟨fun j h => absurd h (Nat.not_lt_zero _), fun j h => absurd h (Nat.not_lt_zero _)⟩
  | x :: L, ⟨h1, h2, h3, h4, h5, h6⟩, g => by
    obtain ⟨g1, g2⟩ := gd_at L h6 (fun y hy => g y (List.mem_cons_of_mem _ hy))
    have gx := g x List.mem_cons_self
    refine ⟨fun j hj => ?_, fun j hj hk => ?_⟩
    · rw [List.length_cons] at hj
      by_cases q : j = L.length
      · rw [q, h4]; exact (nI_ltI (a := 0) (b := x.2.2.2.1) (by omega) (by have := gx.1.2; omega)).mpr gx.1.1
      · exact g1 j (by omega)
    · rw [List.length_cons] at hj
      by_cases q : j = L.length
      · rw [q] at hk ⊢; rw [h2]; exact gx.2 (h1.symm.trans hk)
      · exact g2 j (by omega) hk
end GDL
/-! reading: the place that is wrong, out of the text alone -/
section RDX
variable {c : Nat → Int32} {n : Nat} {L : List Lx} {kd kd' : Nat → Int32} {vl vl' : Nat → Int64} {wh wh' col col' ld ld' : Nat → Int32}
def rdX (c : Nat → Int32) (n : Nat) : Lr := match (cuE c n 0 []).1 with
  | some p => .inl (nI p)
  | none => lyR (kA (cuE c n 0 []).2) (vA (cuE c n 0 []).2) (wA (cuE c n 0 []).2) (cA (cuE c n 0 []).2) (dA (cuE c n 0 []).2) (cuE c n 0 []).2.length n
def rdP (c : Nat → Int32) (n : Nat) : Int32 := lrO (rdX c n)
theorem bgB_c {i m : Nat} (hi : i ≤ m) (hk : ∀ j, j < m → kd j = kd' j) (hv : ∀ j, j < m → vl j = vl' j) : bgB kd vl m i = bgB kd' vl' m i := by
  unfold bgB bgA
  by_cases q : i = 0
  · by_cases z : i = m
    · subst z; simp [q]
    · have := hk i (by omega); have h2 := hv i (by omega)
      rw [this, h2, q]; simp
  · have h1 := hk (i - 1) (by omega)
    have h2 := hv (i - 1) (by omega)
    rw [h1, h2]
    by_cases z : i = m
    · simp [z]
    · rw [hk i (by omega), hv i (by omega)]
theorem lyB_c {i m : Nat} {s : Ly} (hi : i ≤ m) (hk : ∀ j, j < m → kd j = kd' j) (hv : ∀ j, j < m → vl j = vl' j) (hc : ∀ j, j < m → col j = col' j) (hd : ∀ j, j < m → ld j = ld' j) : lyB kd vl col ld m i s = lyB kd' vl' col' ld' m i s := by
  unfold lyB
  rw [bgB_c hi hk hv]
  by_cases z : i < m
  · rw [hc i z, hd i z]
  · rw [if_neg z, if_neg z]
    by_cases w : bgB kd' vl' m i = true
    · rw [if_pos w, if_pos w]
    · rw [if_neg w, if_neg w, if_neg (fun y => z y.1), if_neg (fun y => z y.1)]
theorem lyF_c {m : Nat} (hk : ∀ j, j < m → kd j = kd' j) (hv : ∀ j, j < m → vl j = vl' j) (hw : ∀ j, j < m → wh j = wh' j) (hc : ∀ j, j < m → col j = col' j) (hd : ∀ j, j < m → ld j = ld' j) : ∀ (f i : Nat) (s : Ly) (b : Int32), lyF kd vl wh col ld m f i s b = lyF kd' vl' wh' col' ld' m f i s b
  | 0, _, _, _ => rfl
  | f + 1, i, s, b => by
    rw [lyF, lyF]
    by_cases z : i < m
    · rw [if_pos z, if_pos z, lyB_c (Nat.le_of_lt z) hk hv hc hd]
      have e : lyT kd vl i = lyT kd' vl' i := by
        funext t
        unfold lyT
        rw [hk i z, hv i z]
      rw [e, hw i z]
      cases lyT kd' vl' i (lyB kd' vl' col' ld' m i s) with
      | none => rfl
      | some t =>
        show lyF kd vl wh col ld m f (i + 1) (lyP kd vl i t) (lyG kd vl m i b) = lyF kd' vl' wh' col' ld' m f (i + 1) (lyP kd' vl' i t) (lyG kd' vl' m i b)
        have e2 : lyP kd vl i t = lyP kd' vl' i t := by
          unfold lyP
          rw [hk i z, hv i z]
        have e3 : lyG kd vl m i b = lyG kd' vl' m i b := by
          unfold lyG
          rw [bgB_c (Nat.le_of_lt z) hk hv]
        rw [e2, e3]
        exact lyF_c hk hv hw hc hd f (i + 1) _ _
    · rw [if_neg z, if_neg z]
theorem lyR_c {m len : Nat} (hk : ∀ j, j < m → kd j = kd' j) (hv : ∀ j, j < m → vl j = vl' j) (hw : ∀ j, j < m → wh j = wh' j) (hc : ∀ j, j < m → col j = col' j) (hd : ∀ j, j < m → ld j = ld' j) : lyR kd vl wh col ld m len = lyR kd' vl' wh' col' ld' m len := by
  unfold lyR lyE
  rw [lyF_c hk hv hw hc hd]
  cases lyF kd' vl' wh' col' ld' m (m - 0) 0 ([], [], 0) 0 with
  | inl p => rfl
  | inr x =>
    obtain ⟨s, b⟩ := x
    show lyW len (lyB kd vl col ld m m s) (lyG kd vl m m b) = lyW len (lyB kd' vl' col' ld' m m s) (lyG kd' vl' m m b)
    rw [lyB_c (Nat.le_refl _) hk hv hc hd]
    unfold lyG
    rw [bgB_c (Nat.le_refl _) hk hv]
theorem lyR_L {m len : Nat} (h : Rp kd vl wh col ld L) (hm : m = L.length) : lyR kd vl wh col ld m len = lyR (kA L) (vA L) (wA L) (cA L) (dA L) L.length len := by
  subst hm
  exact lyR_c (fun j hj => (Rp_at L h j hj).1) (fun j hj => (Rp_at L h j hj).2.1) (fun j hj => (Rp_at L h j hj).2.2.1) (fun j hj => (Rp_at L h j hj).2.2.2.1) (fun j hj => (Rp_at L h j hj).2.2.2.2)
theorem rd_1 (h : ¬ wpO (cuE c n 0 []) = -1) : wpO (cuE c n 0 []) = rdP c n := by
  unfold rdP rdX
  unfold wpO at h ⊢
  cases hx : (cuE c n 0 []).1 with
  | none => rw [hx] at h; exact absurd rfl h
  | some p => rfl
theorem wp_n (h : wpO (cuE c n 0 []) = -1) (hn : n ≤ 240) : (cuE c n 0 []).1 = none := by
  unfold wpO at h
  cases hx : (cuE c n 0 []).1 with
  | none => rfl
  | some p =>
    rw [hx] at h
    exfalso
    have hp : p ≤ 240 := cu_le hn hx
    exact nI_n1 (by omega) h
theorem rd_2 {m : Nat} (hn : n ≤ 240) (h : wpO (cuE c n 0 []) = -1) (hR : Rp kd vl wh col ld (cuE c n 0 []).2) (hm : m = (cuE c n 0 []).2.length) : lrO (lyR kd vl wh col ld m n) = rdP c n := by
  unfold rdP rdX
  rw [wp_n h hn, lyR_L hR hm]
theorem rd_x {m : Nat} (h : (cuE c n 0 []).1 = none) (hR : Rp kd vl wh col ld (cuE c n 0 []).2) (hm : m = (cuE c n 0 []).2.length) : lyR kd vl wh col ld m n = rdX c n := by
  unfold rdX
  rw [h, lyR_L hR hm]
theorem rd_m1 {p : Nat} {pl : Int32} (h : cuE c n 0 [] = (some p, L)) (e : pl = nI p) : pl = rdP c n := by
  unfold rdP rdX
  rw [h]; exact e
theorem rd_m2 {m : Nat} {bd pl z : Int32} {Q : List Tk × Int32 × Int32 → Prop} (h : cuE c n 0 [] = (none, L)) (hR : Rp kd vl wh col ld L) (hm : m = L.length) (q1 : ∀ p9, lyR kd vl wh col ld m n = .inl p9 → (bd = 1 ∧ pl = p9)) (q2 : ∀ r9, lyR kd vl wh col ld m n = .inr r9 → (bd = 0 ∧ pl = z ∧ Q r9)) (hz : z = -1) : pl = rdP c n := by
  have e : rdX c n = lyR kd vl wh col ld m n := by
    have h2 : (cuE c n 0 []).2 = L := by rw [h]
    exact (rd_x (by rw [h]) (by rw [h2]; exact hR) (by rw [h2]; exact hm)).symm
  unfold rdP
  rw [e]
  cases hx : lyR kd vl wh col ld m n with
  | inl p => exact (q1 p hx).2
  | inr r => exact (q2 r hx).2.1.trans hz
end RDX
