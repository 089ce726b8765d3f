/-! items of a row, and how a row is put together -/
section RWB
variable {s : Nat → Int32} {v : Nat → Int64} {P : Nat → Int32} {n k : Nat}
abbrev It := Int32 × Int32 × Int32
abbrev Rb := List It × Bool × Bool
def eo7 : List It → Bool
  | [] => false
  | x :: _ => x.2.2 == 0
def rbA (a b : Int32) (r : Rb) : Rb := match r.1 with
  | [] => ([(a, b, 0)], r.2)
  | x :: L => if x.2.2 = 0 then ((x.1, b, x.2.2) :: L, r.2) else ((a, b, 0) :: x :: L, r.2)
def rbO (a b : Int32) (d : Bool) (r : Rb) : Rb := ((a, b, if eo7 r.1 = true then 1 else 2) :: r.1, true, r.2.2 || (!eo7 r.1 && !d))
def rbN (s : Nat → Int32) (v : Nat → Int64) (P : Nat → Int32) (n k : Nat) (r : Rb) : Rb := if opB s v n k = true then rbO (nI k) (nI (k + e7 s v P n k - 1)) (v k == 45) r else rbA (nI k) (nI (k + e7 s v P n k - 1)) r
def ch7 (s : Nat → Int32) (v : Nat → Int64) (P : Nat → Int32) (n : Nat) : Nat → Nat → Rb → Nat × Rb
  | 0, k, r => (k, r)
  | f + 1, k, r => if 0 < e7 s v P n k then ch7 s v P n f (k + e7 s v P n k) (rbN s v P n k r) else (k, r)
def chE (s : Nat → Int32) (v : Nat → Int64) (P : Nat → Int32) (n k : Nat) (r : Rb) : Nat × Rb := ch7 s v P n (n - k) k r
theorem e7_lt (h : 0 < e7 s v P n k) : k < n := by
  unfold e7 exN at h
  by_cases z : n ≤ k
  · rw [if_pos z] at h; omega
  · omega
theorem ch7_more : ∀ (f g k : Nat) (r : Rb), n - k ≤ f → n - k ≤ g → ch7 s v P n f k r = ch7 s v P n g k r
  | 0, 0, _, _, _, _ => rfl
  | 0, g + 1, k, r, h, _ => by
    rw [ch7, ch7, if_neg (fun z => by have := e7_lt z; omega)]
  | f + 1, 0, k, r, _, h => by
    rw [ch7, ch7, if_neg (fun z => by have := e7_lt z; omega)]
  | f + 1, g + 1, k, r, h1, h2 => by
    rw [ch7, ch7]
    by_cases z : 0 < e7 s v P n k
    · have := e7_lt z
      rw [if_pos z, if_pos z, ch7_more f g _ _ (by omega) (by omega)]
    · rw [if_neg z, if_neg z]
theorem chE_go {r : Rb} (h : 0 < e7 s v P n k) : chE s v P n k r = chE s v P n (k + e7 s v P n k) (rbN s v P n k r) := by
  have := e7_lt h
  unfold chE
  obtain ⟨f, hf⟩ : ∃ f, n - k = f + 1 := ⟨n - k - 1, by omega⟩
  rw [hf, ch7, if_pos h]
  exact ch7_more _ _ _ _ (by omega) (by omega)
theorem chE_end {r : Rb} (h : e7 s v P n k = 0) : chE s v P n k r = (k, r) := by
  unfold chE
  cases hf : n - k with
  | zero => rfl
  | succ f => rw [ch7, if_neg (by omega)]
def wh7 (r : Rb) : Bool := r.2.1 && (!r.2.2 && eo7 r.1)
/-! resolution: what waits (level, side, minus place or -1), operands, pairs; the latest first -/
abbrev Wt := Int32 × Int32 × Int32
abbrev Sp := Int32 × Int32
abbrev Rs := List Wt × List Sp × List Sp
def gv7 (x : Rs) : Rs := match x.1, x.2.1 with
  | w :: W, a :: O => if w.2.2 = -1 then (match O with
      | [] => (W, [a], a :: x.2.2)
      | b :: O' => (W, (b.1, a.2) :: O', (b.1, a.2) :: x.2.2)) else (W, (w.2.2, a.2) :: O, (w.2.2, a.2) :: x.2.2)
  | _, _ => x
def ps7 (lv sd mp : Int32) (x : Rs) : Rs := ((lv, sd, mp) :: x.1, x.2)
def tk7 (lv sd : Int32) : Nat → Rs → Option Rs
  | 0, x => some (ps7 lv sd (-1) x)
  | f + 1, x => match x.1 with
    | [] => some (ps7 lv sd (-1) x)
    | w :: _ => if w.1 = lv ∧ (¬ w.2.1 = sd ∨ sd = 2) then none else if w.1 < lv ∨ (w.1 = lv ∧ ¬ sd = 0) then some (ps7 lv sd (-1) x) else tk7 lv sd f (gv7 x)
def tkE (lv sd : Int32) (x : Rs) : Option Rs := tk7 lv sd x.1.length x
def mn7 (pl : Int32) (x : Rs) : Option Rs := match x.1 with
  | [] => some (ps7 6 0 pl x)
  | w :: _ => if 6 ≤ w.1 then none else some (ps7 6 0 pl x)
def nm7 (v : Nat → Int64) (f l : Int32) : Int64 := if f = l then v f.toNatClampNeg else v (f + 1).toNatClampNeg
def tI7 (v : Nat → Int64) (F G : Int64 → Int32) (i : It) (x : Rs) : Option Rs := if i.2.2 = 1 then tkE (F (nm7 v i.1 i.2.1)) (G (nm7 v i.1 i.2.1)) x else if i.2.2 = 2 then mn7 i.1 x else some (x.1, (i.1, i.2.1) :: x.2.1, x.2.2)
def rs7 (v : Nat → Int64) (F G : Int64 → Int32) (B : List Sp) : List It → Option Rs
  | [] => some ([], [], B)
  | i :: L => match rs7 v F G B L with
    | none => none
    | some x => tI7 v F G i x
def fi7 : Nat → Rs → Rs
  | 0, x => x
  | f + 1, x => fi7 f (gv7 x)
def fin7 (x : Rs) : Rs := fi7 x.1.length x
/-- pairs found before stay below -/
def ap7 (B : List Sp) (x : Rs) : Rs := (x.1, x.2.1, x.2.2 ++ B)
theorem gv_ap {B : List Sp} {x : Rs} : gv7 (ap7 B x) = ap7 B (gv7 x) := by
  obtain ⟨W, O, R⟩ := x
  cases W with
  | nil => rfl
  | cons w W =>
    cases O with
    | nil => rfl
    | cons a O =>
      unfold gv7 ap7
      by_cases h : w.2.2 = -1
      · simp only [h, if_true]
        cases O <;> rfl
      · simp only [h, if_false]; rfl
theorem tk_ap {lv sd : Int32} {B : List Sp} : ∀ (f : Nat) (x : Rs), tk7 lv sd f (ap7 B x) = (tk7 lv sd f x).map (ap7 B)
  | 0, x => rfl
  | f + 1, x => by
    have ih := tk_ap (lv := lv) (sd := sd) (B := B) f (gv7 x)
    rw [← gv_ap] at ih
    rw [tk7, tk7]
    show (match x.1 with
      | [] => some (ps7 lv sd (-1) (ap7 B x))
      | w :: _ => if w.1 = lv ∧ (¬ w.2.1 = sd ∨ sd = 2) then none else if w.1 < lv ∨ (w.1 = lv ∧ ¬ sd = 0) then some (ps7 lv sd (-1) (ap7 B x)) else tk7 lv sd f (gv7 (ap7 B x))) = _
    cases x.1 with
    | nil => rfl
    | cons w W =>
      by_cases h1 : w.1 = lv ∧ (¬ w.2.1 = sd ∨ sd = 2)
      · simp only [h1, if_true]; rfl
      · simp only [h1, if_false]
        by_cases h2 : w.1 < lv ∨ (w.1 = lv ∧ ¬ sd = 0)
        · simp only [h2, if_true]; rfl
        · simp only [h2, if_false]; exact ih
theorem mn_ap {pl : Int32} {B : List Sp} {x : Rs} : mn7 pl (ap7 B x) = (mn7 pl x).map (ap7 B) := by
  unfold mn7
  show (match x.1 with
    | [] => some (ps7 6 0 pl (ap7 B x))
    | w :: _ => if 6 ≤ w.1 then none else some (ps7 6 0 pl (ap7 B x))) = _
  cases x.1 with
  | nil => rfl
  | cons w W =>
    by_cases h : 6 ≤ w.1
    · simp only [h, if_true]; rfl
    · simp only [h, if_false]; rfl
theorem tI_ap {F G : Int64 → Int32} {i : It} {B : List Sp} {x : Rs} : tI7 v F G i (ap7 B x) = (tI7 v F G i x).map (ap7 B) := by
  unfold tI7
  by_cases h1 : i.2.2 = 1
  · simp only [h1, if_true]
    unfold tkE
    exact tk_ap _ _
  · simp only [h1, if_false]
    by_cases h2 : i.2.2 = 2
    · simp only [h2, if_true]; exact mn_ap
    · simp only [h2, if_false]; rfl
theorem rs_ap {F G : Int64 → Int32} {B : List Sp} : ∀ L : List It, rs7 v F G B L = (rs7 v F G [] L).map (ap7 B)
  | [] => rfl
  | i :: L => by
    rw [rs7, rs7, rs_ap L]
    cases rs7 v F G [] L with
    | none => rfl
    | some x => exact tI_ap
theorem fi_ap {B : List Sp} : ∀ (f : Nat) (x : Rs), fi7 f (ap7 B x) = ap7 B (fi7 f x)
  | 0, x => rfl
  | f + 1, x => by rw [fi7, fi7, gv_ap]; exact fi_ap f _
theorem fin_ap {B : List Sp} {x : Rs} : fin7 (ap7 B x) = ap7 B (fin7 x) := fi_ap _ _
/-- operands: once there is one, there is one -/
theorem gv_1 {x : Rs} (h : 1 ≤ x.2.1.length) : 1 ≤ (gv7 x).2.1.length ∧ (gv7 x).1 = x.1.tail ∧ ((gv7 x).2.2.length = x.2.2.length + 1 ∨ x.1 = []) ∧ (gv7 x).2.1.length ≤ x.2.1.length := by
  obtain ⟨W, O, R⟩ := x
  cases W with
  | nil => exact ⟨h, rfl, Or.inr rfl, Nat.le_refl _⟩
  | cons w W =>
    cases O with
    | nil => exact absurd (show 1 ≤ 0 from h) (by decide)
    | cons a O =>
      unfold gv7
      by_cases z : w.2.2 = -1
      · simp only [z, if_true]
        cases O with
        | nil => exact ⟨Nat.le_refl _, rfl, Or.inl rfl, Nat.le_refl _⟩
        | cons b O => exact ⟨by show 1 ≤ (_ :: O).length; rw [List.length_cons]; omega, rfl, Or.inl rfl, by show (_ :: O).length ≤ (a :: b :: O).length; rw [List.length_cons, List.length_cons, List.length_cons]; omega⟩
      · simp only [z, if_false]
        exact ⟨by show 1 ≤ (_ :: O).length; rw [List.length_cons]; omega, rfl, Or.inl rfl, Nat.le_refl _⟩
end RWB
