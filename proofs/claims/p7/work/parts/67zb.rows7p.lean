/-! what is laid is balanced -/
section RWP
variable {kd : Nat → Int32} {vl : Nat → Int64} {wh col ld : Nat → Int32} {n m i : Nat} {d : Int} {st L : List Int32} {ts us : List Tk} {x y : Int32} {B : Bool}
def dL : List Tk → Int
  | [] => 0
  | t :: L => dL L + dlt t.1 t.2
def cL : List Tk → Nat
  | [] => 0
  | t :: L => cL L + (if t.1 = 4 then 0 else 1)
def okL : List Tk → Prop
  | [] => True
  | t :: L => okL L ∧ 0 ≤ dL L + dlt t.1 t.2
def nbL : List Int32 → Nat
  | [] => 0
  | x :: L => nbL L + (if isBr x = true then 1 else 0)
def BI (d : Int) (c : Nat) (st : List Int32) (ts : List Tk) : Prop := okL ts ∧ dL ts + d = nbL st ∧ cL ts = c
theorem ok_0 : ∀ ts, okL ts → 0 ≤ dL ts
  | [], _ => Int.le_refl _
  | _ :: _, h => h.2
theorem dlt_4 {v : Int64} : dlt 4 v = 0 := by simp [dlt, opn, clo]
theorem dlt_n3 {k : Int32} {v : Int64} (h : ¬ k = 3) : dlt k v = 0 := by simp [dlt, opn, clo, h]
theorem BI.put {v : Int64} {c : Nat} (h : BI d c st ts) : BI d c st ((4, v) :: ts) := by
  obtain ⟨h1, h2, h3⟩ := h
  refine ⟨⟨h1, ?_⟩, ?_, ?_⟩
  · have := ok_0 ts h1; show 0 ≤ dL ts + dlt 4 v; rw [dlt_4]; omega
  · show dL ts + dlt 4 v + d = _; rw [dlt_4]; omega
  · show cL ts + (if (4 : Int32) = 4 then 0 else 1) = c; rw [if_pos rfl]; exact h3
theorem BI.pop {c : Nat} (hx : isBr x = false) (h : BI d c (x :: L) ts) : BI d c L ts := by
  obtain ⟨h1, h2, h3⟩ := h
  refine ⟨h1, ?_, h3⟩
  have e : nbL (x :: L) = nbL L + (if isBr x = true then 1 else 0) := rfl
  rw [h2, e, if_neg (by rw [hx]; decide)]; rfl
theorem BI.push {c : Nat} (hx : isBr x = false) (h : BI d c L ts) : BI d c (x :: L) ts := by
  obtain ⟨h1, h2, h3⟩ := h
  refine ⟨h1, ?_, h3⟩
  have e : nbL (x :: L) = nbL L + (if isBr x = true then 1 else 0) := rfl
  rw [h2, e, if_neg (by rw [hx]; decide)]; rfl
theorem br_ge (h : 0 ≤ x) : isBr x = false := by
  unfold isBr
  have a : ¬ x = -5 := fun e => by rw [e] at h; exact absurd h (by decide)
  have b : ¬ x = -6 := fun e => by rw [e] at h; exact absurd h (by decide)
  simp [a, b]
theorem br_gt (h : 0 < x) : isBr x = false := br_ge (Int32.le_of_lt h)
theorem bi_lv {c : Nat} : ∀ (st : List Int32) (ts : List Tk), BI d c st ts → BI d c (lvL B st ts).1 (lvL B st ts).2
  | [], _, h => h
  | x :: L, ts, h => by
    by_cases a : 0 < x
    · rw [lv_pos a]; exact bi_lv L _ ((h.pop (br_gt a)).put)
    · by_cases b : x = -1 ∧ B = true
      · have e : lvL B (x :: L) ts = lvL B L ts := by rw [lvL, if_neg a, if_pos b]
        rw [e]; exact bi_lv L _ (h.pop (by rw [b.1]; rfl))
      · rw [lv_end a b]; exact h
theorem bi_dp {c : Nat} : ∀ (st : List Int32), BI d c st ts → BI d c (dpL st) ts
  | [], h => h
  | x :: L, h => by
    rw [dpL]
    by_cases a : x = -1
    · rw [if_pos a]; exact bi_dp L (h.pop (by rw [a]; rfl))
    · rw [if_neg a]; exact h
theorem bi_mk {c : Nat} {z : Int32} (hz : 0 ≤ z) : ∀ (f : Nat) (st : List Int32) (ts : List Tk), BI d c st ts → BI d c (mkF z f st ts).1 (mkF z f st ts).2
  | 0, _, _, h => h
  | f + 1, st, ts, h => by
    have hd := bi_dp st h
    rw [mkF]
    cases e : dpL st with
    | nil => exact h
    | cons x L =>
      rw [e] at hd
      show BI d c (if z < x then mkF z f L ((4, 125) :: ts) else if x = z then (x :: L, (4, 59) :: ts) else (st, ts)).1 (if z < x then mkF z f L ((4, 125) :: ts) else if x = z then (x :: L, (4, 59) :: ts) else (st, ts)).2
      by_cases a : z < x
      · rw [if_pos a]; exact bi_mk hz f L _ ((hd.pop (br_gt (Int32.lt_of_le_of_lt hz a))).put)
      · rw [if_neg a]
        by_cases b : x = z
        · rw [if_pos b]; exact hd.put
        · rw [if_neg b]; exact h
def BY (d : Int) (c : Nat) (s : Ly) : Prop := BI d c s.1 s.2.1
theorem by_bg {c : Nat} {last : Bool} {s : Ly} {z : Int32} (hz : 0 ≤ z) (h : BY d c s) : BY d c (bgL z last s) := by
  unfold bgL
  by_cases a : ltC s.1 < z
  · rw [if_pos a]; exact (BI.push (br_ge hz) h).put
  · rw [if_neg a]
    cases last
    · exact bi_mk hz _ _ _ (BI.put (BI.put h))
    · exact BI.put (BI.put h)
theorem by_B {c : Nat} {s : Ly} (hc : ∀ j, j < n → 0 ≤ col j) (h : BY d c s) : BY d c (lyB kd vl col ld n i s) := by
  unfold lyB
  by_cases a : bgB kd vl n i = true
  · rw [if_pos a]
    refine by_bg ?_ h
    by_cases b : i < n
    · rw [if_pos b]; exact hc i b
    · rw [if_neg b]; decide
  · rw [if_neg a]
    by_cases b : i < n ∧ ¬ ld i = 0 ∧ 0 < i
    · rw [if_pos b]; exact bi_mk (hc i b.1) _ _ _ h
    · rw [if_neg b]; exact h
theorem bi_clM {c : Nat} {due hh : Int32} {e : Int} {p : Lp} {t : Ly} (h : BI d c p.1 p.2) (hd : clM due hh p = some t) (hb : e = if isBr due = true then d - 1 else d) : BY e c t := by
  obtain ⟨P1, P2⟩ := p
  cases P1 with
  | nil => cases hd
  | cons x L =>
    by_cases a : x = due
    · have w : some (L, P2, hh) = some t := by rw [← hd, clM, if_pos a]
      cases w
      obtain ⟨h1, h2, h3⟩ := h
      refine ⟨h1, ?_, h3⟩
      have q : nbL (x :: L) = nbL L + (if isBr x = true then 1 else 0) := rfl
      have h2' : dL P2 + d = nbL (x :: L) := h2
      rw [q, a] at h2'
      show dL P2 + e = nbL L
      rw [hb]
      by_cases z : isBr due = true
      · rw [if_pos z] at h2' ⊢; omega
      · rw [if_neg z] at h2' ⊢; omega
    · have w : none = some t := by rw [← hd, clM, if_neg a]
      cases w
theorem by_cl {c : Nat} {due : Int32} {e : Int} {s t : Ly} (h : BY d c s) (hd : clL due s = some t) (hb : e = if isBr due = true then d - 1 else d) : BY e c t := bi_clM (bi_lv _ _ h) hd hb
theorem by_sg {c : Nat} {v : Int64} {s t : Ly} (h : BY 0 c s) (hd : sgL v s = some t) : BY (dlt 3 v) c t := by
  unfold sgL at hd
  have up : ∀ b : Int32, isBr b = true → dlt 3 v = 1 → BY (dlt 3 v) c (psL b s) := fun b hb e => by
    obtain ⟨h1, h2, h3⟩ := h
    refine ⟨h1, ?_, h3⟩
    show dL s.2.1 + dlt 3 v = ((nbL s.1 + (if isBr b = true then 1 else 0) : Nat) : Int)
    rw [if_pos hb, e]; omega
  by_cases c1 : v = 40
  · rw [if_pos c1] at hd; cases hd; exact up _ rfl (by rw [c1]; decide)
  rw [if_neg c1] at hd
  by_cases c2 : v = 91
  · rw [if_pos c2] at hd; cases hd; exact up _ rfl (by rw [c2]; decide)
  rw [if_neg c2] at hd
  by_cases c3 : v = 41
  · rw [if_pos c3] at hd; exact by_cl h hd (by rw [c3]; decide)
  rw [if_neg c3] at hd
  by_cases c4 : v = 93
  · rw [if_pos c4] at hd; exact by_cl h hd (by rw [c4]; decide)
  rw [if_neg c4] at hd
  have z : dlt 3 v = 0 := by simp [dlt, opn, clo, c1, c2, c3, c4]
  rw [z]
  by_cases c5 : v = 44
  · rw [if_pos c5] at hd; cases hd
    unfold cmL
    split
    · exact bi_lv _ _ h
    · exact h
  rw [if_neg c5] at hd
  by_cases c6 : v = 123
  · rw [if_pos c6] at hd; cases hd; exact BI.push rfl h
  rw [if_neg c6] at hd
  by_cases c7 : v = 125
  · rw [if_pos c7] at hd; exact bi_clM (p := (dpL s.1, s.2.1)) (bi_dp _ h) hd rfl
  rw [if_neg c7] at hd
  by_cases c8 : v = 59
  · rw [if_pos c8] at hd; cases hd; exact bi_dp _ h
  rw [if_neg c8] at hd; cases hd; exact h
theorem by_wd {c : Nat} {v : Int64} {s t : Ly} (h : BY 0 c s) (hd : wdL v s = some t) : BY 0 c t := by
  unfold wdL at hd
  by_cases c1 : v = 26217
  · rw [if_pos c1] at hd; cases hd; exact BI.push rfl h
  rw [if_neg c1] at hd
  by_cases c2 : v = 1702060387
  · rw [if_pos c2] at hd; cases hd; exact BI.push rfl h
  rw [if_neg c2] at hd
  by_cases c3 : v = 7628140
  · rw [if_pos c3] at hd; cases hd; exact BI.push rfl h
  rw [if_neg c3] at hd
  by_cases c4 : v = 1852139636
  · rw [if_pos c4] at hd
    obtain ⟨u, hu, rfl⟩ := Option.map_eq_some_iff.mp hd
    exact BI.push rfl (by_cl h hu rfl)
  rw [if_neg c4] at hd
  by_cases c5 : v = 1702063205
  · rw [if_pos c5] at hd; exact by_cl h hd rfl
  rw [if_neg c5] at hd
  by_cases c6 : v = 26223
  · rw [if_pos c6] at hd; exact by_cl h hd rfl
  rw [if_neg c6] at hd
  by_cases c7 : v = 28265
  · rw [if_pos c7] at hd; exact by_cl h hd rfl
  rw [if_neg c7] at hd; cases hd; exact h
theorem by_T {c : Nat} {s t : Ly} (h : BY 0 c s) (hd : lyT kd vl i s = some t) : BY (dlt (kd i) (vl i)) c t := by
  unfold lyT at hd
  by_cases a : kd i = 3
  · rw [if_pos a] at hd; rw [a]; exact by_sg h hd
  rw [if_neg a] at hd
  rw [dlt_n3 a]
  by_cases b : kd i = 0
  · rw [if_pos b] at hd; exact by_wd h hd
  rw [if_neg b] at hd; cases hd; exact h
theorem by_P {c : Nat} {s : Ly} (h : BY (dlt (kd i) (vl i)) c s) : ∃ c', c' ≤ c + 1 ∧ BY 0 c' (lyP kd vl i s) := by
  obtain ⟨h1, h2, h3⟩ := h
  refine ⟨c + (if kd i = 4 then 0 else 1), by split <;> omega, ⟨h1, by show 0 ≤ dL s.2.1 + dlt (kd i) (vl i); omega⟩, ?_, ?_⟩
  · show dL s.2.1 + dlt (kd i) (vl i) + 0 = _; rw [h2]; rfl
  · show cL s.2.1 + (if kd i = 4 then 0 else 1) = _; rw [h3]
theorem by_F (hc : ∀ j, j < n → 0 ≤ col j) : ∀ (f i : Nat) (s : Ly) (b : Int32) (c : Nat) (t : Ly) (b' : Int32), BY 0 c s → c ≤ i → i ≤ n → lyF kd vl wh col ld n f i s b = .inr (t, b') → ∃ c', c' ≤ n ∧ BY 0 c' t
  | 0, i, s, b, c, t, b', h, h1, h2, e => by
    rw [lyF] at e; injection e with e; injection e with e1 e2; subst e1; exact ⟨c, by omega, h⟩
  | f + 1, i, s, b, c, t, b', h, h1, h2, e => by
    rw [lyF] at e
    by_cases a : i < n
    · rw [if_pos a] at e
      cases q : lyT kd vl i (lyB kd vl col ld n i s) with
      | none => rw [q] at e; cases e
      | some u =>
        rw [q] at e
        obtain ⟨c', k1, k2⟩ := by_P (by_T (by_B hc h) q)
        exact by_F hc f (i + 1) _ _ c' t b' k2 (by omega) (by omega) e
    · rw [if_neg a] at e; injection e with e; injection e with e1 e2; subst e1; exact ⟨c, by omega, h⟩
theorem by_R {len : Nat} {r : List Tk × Int32 × Int32} (hc : ∀ j, j < n → 0 ≤ col j) (e : lyR kd vl wh col ld n len = .inr r) : okL r.1 ∧ dL r.1 = 0 ∧ cL r.1 ≤ n := by
  unfold lyR lyE at e
  cases q : lyF kd vl wh col ld n (n - 0) 0 ([], [], 0) 0 with
  | inl p => rw [q] at e; cases e
  | inr z =>
    obtain ⟨t, b'⟩ := z
    rw [q] at e
    obtain ⟨c', k1, k2⟩ := by_F hc _ 0 ([], [], 0) 0 0 t b' ⟨trivial, rfl, rfl⟩ (Nat.le_refl _) (Nat.zero_le _) q
    have k3 := bi_lv (B := true) _ _ (by_B (kd := kd) (vl := vl) (ld := ld) (i := n) hc k2)
    have e' : lyW len (lyB kd vl col ld n n t) (lyG kd vl n n b') = .inr r := e
    unfold lyW at e'
    cases w : lvL true (lyB kd vl col ld n n t).1 (lyB kd vl col ld n n t).2.1 with
    | mk S O =>
      rw [w] at e' k3
      cases S with
      | nil =>
        injection e' with e'; subst e'
        obtain ⟨g1, g2, g3⟩ := k3
        have g2' : dL O + 0 = ((0 : Nat) : Int) := g2
        have g3' : cL O = c' := g3
        exact ⟨g1, by show dL O = 0; omega, by show cL O ≤ n; omega⟩
      | cons a S => cases e'
theorem dl_tks {s : Nat → Int32} {v : Nat → Int64} : ∀ k, dL (tks s v k) = dep s v k
  | 0 => rfl
  | k + 1 => by rw [tks, dL, dep, dl_tks k]
theorem cl_tks {s : Nat → Int32} {v : Nat → Int64} : ∀ k, cL (tks s v k) = cn s k
  | 0 => rfl
  | k + 1 => by rw [tks, cL, cn, cl_tks k]
theorem ok_tks {s : Nat → Int32} {v : Nat → Int64} : ∀ k, okL (tks s v k) → ∀ p, p ≤ k → 0 ≤ dep s v p
  | 0, _, p, hp => by rw [Nat.le_zero.mp hp]; exact Int.le_refl _
  | k + 1, h, p, hp => by
    have h' : okL (tks s v k) ∧ 0 ≤ dL (tks s v k) + dlt (s k) (v k) := h
    by_cases e : p = k + 1
    · rw [e, dep, ← dl_tks]; exact h'.2
    · exact ok_tks k h'.1 p (by omega)
/-- of arrays that hold what is laid -/
theorem ly_bl {s : Nat → Int32} {v : Nat → Int64} {t len : Nat} {r : List Tk × Int32 × Int32} (hc : COL col n) (e : lyR kd vl wh col ld n len = .inr r) (ht : tks s v t = r.1) : bl7 s v t ∧ cn s t ≤ n := by
  obtain ⟨h1, h2, h3⟩ := by_R (fun j hj => Int32.le_of_lt (hc j hj)) e
  rw [← ht] at h1 h2 h3
  rw [dl_tks] at h2
  rw [cl_tks] at h3
  exact ⟨⟨ok_tks t h1, h2⟩, h3⟩
end RWP
