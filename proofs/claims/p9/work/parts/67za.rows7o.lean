/-! every pair lies among the tokens -/
def iN7 (n : Nat) (x : Int32) : Prop := ∃ a, x = nI a ∧ a < n
def iS7 (n : Nat) (p : Sp) : Prop := iN7 n p.1 ∧ iN7 n p.2
def iX7 (n : Nat) (x : Rs) : Prop := (∀ w, w ∈ x.1 → w.2.2 = -1 ∨ iN7 n w.2.2) ∧ (∀ p, p ∈ x.2.1 → iS7 n p) ∧ (∀ p, p ∈ x.2.2 → iS7 n p)
theorem mem_c {α : Type} {P : α → Prop} {a : α} {L : List α} (h : P a) (t : ∀ p, p ∈ L → P p) : ∀ p, p ∈ a :: L → P p := fun p hp => by
  cases List.mem_cons.mp hp with
  | inl e => rw [e]; exact h
  | inr e => exact t p e
theorem gv_in {n : Nat} {x : Rs} (h : iX7 n x) : iX7 n (gv7 x) := by
  obtain ⟨W, O, R⟩ := x
  obtain ⟨h1, h2, h3⟩ := h
  cases W with
  | nil => exact ⟨h1, h2, h3⟩
  | cons w W =>
    cases O with
    | nil => exact ⟨h1, h2, h3⟩
    | cons a O =>
      have ha : iS7 n a := h2 a List.mem_cons_self
      have hW : ∀ z, z ∈ W → z.2.2 = -1 ∨ iN7 n z.2.2 := fun z hz => h1 z (List.mem_cons_of_mem _ hz)
      have hO : ∀ z, z ∈ O → iS7 n z := fun z hz => h2 z (List.mem_cons_of_mem _ hz)
      unfold gv7
      by_cases e : w.2.2 = -1
      · simp only [e, if_true]
        cases O with
        | nil => exact ⟨hW, mem_c ha (fun _ z => absurd z List.not_mem_nil), mem_c ha h3⟩
        | cons b O =>
          have hb : iS7 n (b.1, a.2) := ⟨(hO b List.mem_cons_self).1, ha.2⟩
          exact ⟨hW, mem_c hb (fun z hz => hO z (List.mem_cons_of_mem _ hz)), mem_c hb h3⟩
      · simp only [e, if_false]
        have hw : iS7 n (w.2.2, a.2) := ⟨(h1 w List.mem_cons_self).resolve_left e, ha.2⟩
        exact ⟨hW, mem_c hw hO, mem_c hw h3⟩
theorem ps_in {n : Nat} {x : Rs} {lv sd mp : Int32} (h : iX7 n x) (hm : mp = -1 ∨ iN7 n mp) : iX7 n (ps7 lv sd mp x) := ⟨mem_c (P := fun w : Int32 × Int32 × Int32 => w.2.2 = -1 ∨ iN7 n w.2.2) hm h.1, h.2⟩
theorem tk_in {n : Nat} {lv sd : Int32} : ∀ (f : Nat) (x y : Rs), iX7 n x → tk7 lv sd f x = some y → iX7 n y
  | 0, x, y, h, e => by
    rw [tk7] at e; injection e with e; subst e; exact ps_in h (Or.inl rfl)
  | f + 1, x, y, h, e => by
    rw [tk7] at e
    split at e
    · injection e with e; subst e; exact ps_in h (Or.inl rfl)
    · split at e
      · cases e
      · split at e
        · injection e with e; subst e; exact ps_in h (Or.inl rfl)
        · exact tk_in f _ y (gv_in h) e
theorem mn_in {n : Nat} {pl : Int32} {x y : Rs} (h : iX7 n x) (hp : iN7 n pl) (e : mn7 pl x = some y) : iX7 n y := by
  unfold mn7 at e
  split at e
  · injection e with e; subst e; exact ps_in h (Or.inr hp)
  · split at e
    · cases e
    · injection e with e; subst e; exact ps_in h (Or.inr hp)
theorem tI_in {n : Nat} {v : Nat → Int64} {F G : Int64 → Int32} {i : It} {x y : Rs} (h : iX7 n x) (hi : iN7 n i.1 ∧ iN7 n i.2.1) (e : tI7 v F G i x = some y) : iX7 n y := by
  unfold tI7 at e
  split at e
  · exact tk_in _ _ _ h e
  · split at e
    · exact mn_in h hi.1 e
    · injection e with e; subst e; exact ⟨h.1, mem_c hi h.2.1, h.2.2⟩
theorem rs_in {n : Nat} {v : Nat → Int64} {F G : Int64 → Int32} {B : List Sp} (hB : ∀ p, p ∈ B → iS7 n p) : ∀ (L : List It) (y : Rs), (∀ i, i ∈ L → iN7 n i.1 ∧ iN7 n i.2.1) → rs7 v F G B L = some y → iX7 n y
  | [], y, _, e => by
    rw [rs7] at e; injection e with e; subst e
    exact ⟨fun _ z => absurd z List.not_mem_nil, fun _ z => absurd z List.not_mem_nil, hB⟩
  | i :: L, y, h, e => by
    rw [rs7] at e
    split at e
    · cases e
    · rename_i x ex
      exact tI_in (rs_in hB L x (fun z hz => h z (List.mem_cons_of_mem _ hz)) ex) (h i List.mem_cons_self) e
theorem fi_in {n : Nat} : ∀ (f : Nat) (x : Rs), iX7 n x → iX7 n (fi7 f x)
  | 0, _, h => h
  | f + 1, x, h => fi_in f (gv7 x) (gv_in h)
