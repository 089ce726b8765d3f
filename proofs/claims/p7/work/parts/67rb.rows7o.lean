/-! every pair lies among the tokens -/
def iN7 (n : Nat) (x : Int32) : Prop := ∃ a, x = nI a ∧ a < n
def iS7 (n : Nat) (p : Sp) : Prop := iN7 n p.1 ∧ iN7 n p.2
def iX7 (n : Nat) (x : Rs) : Prop := (∀ w, w ∈ x.1 → w.2.2 = -1 ∨ iN7 n w.2.2) ∧ (∀ p, p ∈ x.2.1 → iS7 n p) ∧ (∀ p, p ∈ x.2.2 → iS7 n p)
theorem mem_c {α : Type} {P : α → Prop} {a : α} {L : List α} (h : P a) (t : ∀ p, p ∈ L → P p) : ∀ p, p ∈ a :: L → P p := fun p hp => by
  cases List.mem_cons.mp hp with
  | inl e => rw [e]; exact h
  | inr e => exact t p e
theorem gv_in {n : Nat} {x : Rs} (h : iX7 n x) : iX7 n (gv7 x) := by
  obtain ⟨W, O, R⟩ := x
  obtain ⟨h1, h2, h3⟩ := h
  cases W with
  | nil => exact ⟨h1, h2, h3⟩
  | cons w W =>
    cases O with
    | nil => exact ⟨h1, h2, h3⟩
    | cons a O =>
      have ha : iS7 n a := h2 a List.mem_cons_self
      have hW : ∀ z, z ∈ W → z.2.2 = -1 ∨ iN7 n z.2.2 := fun z hz => h1 z (List.mem_cons_of_mem _ hz)
      have hO : ∀ z, z ∈ O → iS7 n z := fun z hz => h2 z (List.mem_cons_of_mem _ hz)
      unfold gv7
      by_cases e : w.2.2 = -1
      · simp only [e, if_true]
        cases O with
        | nil => exact ⟨hW, mem_c ha (fun _ z => absurd z List.not_mem_nil), mem_c ha h3⟩
        | cons b O =>
          have hb : iS7 n (b.1, a.2) := ⟨(hO b List.mem_cons_self).1, ha.2⟩
          exact ⟨hW, mem_c hb (fun z hz => hO z (List.mem_cons_of_mem _ hz)), mem_c hb h3⟩
      · simp only [e, if_false]
        have hw : iS7 n (w.2.2, a.2) := ⟨(h1 w List.mem_cons_self).resolve_left e, ha.2⟩
        exact ⟨hW, mem_c hw hO, mem_c hw h3⟩
theorem ps_in {n : Nat} {x : Rs} {lv sd mp : Int32} (h : iX7 n x) (hm : mp = -1 ∨ iN7 n mp) : iX7 n (ps7 lv sd mp x) := ⟨mem_c (P := fun w : Int32 × Int32 × Int32 => w.2.2 = -1 ∨ iN7 n w.2.2) hm h.1, h.2⟩
theorem tk_in {n : Nat} {lv sd : Int32} : ∀ (f : Nat) (x y : Rs), iX7 n x → tk7 lv sd f x = some y → iX7 n y
  | 0, x, y, h, e => by
    rw [tk7] at e; injection e with e; subst e; exact ps_in h (Or.inl rfl)
  | f + 1, x, y, h, e => by
    rw [tk7] at e
    split at e
    · injection e with e; subst e; exact ps_in h (Or.inl rfl)
    · split at e
      · cases e
      · split at e
        · injection e with e; subst e; exact ps_in h (Or.inl rfl)
        · exact tk_in f _ y (gv_in h) e
theorem mn_in {n : Nat} {pl : Int32} {x y : Rs} (h : iX7 n x) (hp : iN7 n pl) (e : mn7 pl x = some y) : iX7 n y := by
  unfold mn7 at e
  split at e
  · injection e with e; subst e; exact ps_in h (Or.inr hp)
  · split at e
    · cases e
    · injection e with e; subst e; exact ps_in h (Or.inr hp)
theorem tI_in {n : Nat} {v : Nat → Int64} {F G : Int64 → Int32} {i : It} {x y : Rs} (h : iX7 n x) (hi : iN7 n i.1 ∧ iN7 n i.2.1) (e : tI7 v F G i x = some y) : iX7 n y := by
  unfold tI7 at e
  split at e
  · exact tk_in _ _ _ h e
  · split at e
    · exact mn_in h hi.1 e
    · injection e with e; subst e; exact ⟨h.1, mem_c hi h.2.1, h.2.2⟩
theorem rs_in {n : Nat} {v : Nat → Int64} {F G : Int64 → Int32} {B : List Sp} (hB : ∀ p, p ∈ B → iS7 n p) : ∀ (L : List It) (y : Rs), (∀ i, i ∈ L → iN7 n i.1 ∧ iN7 n i.2.1) → rs7 v F G B L = some y → iX7 n y
  | [], y, _, e => by
    rw [rs7] at e; injection e with e; subst e
    exact ⟨fun _ z => absurd z List.not_mem_nil, fun _ z => absurd z List.not_mem_nil, hB⟩
  | i :: L, y, h, e => by
    rw [rs7] at e
    split at e
    · cases e
    · rename_i x ex
      exact tI_in (rs_in hB L x (fun z hz => h z (List.mem_cons_of_mem _ hz)) ex) (h i List.mem_cons_self) e
theorem fi_in {n : Nat} : ∀ (f : Nat) (x : Rs), iX7 n x → iX7 n (fi7 f x)
  | 0, _, h => h
  | f + 1, x, h => fi_in f (gv7 x) (gv_in h)
/-! every pair of a row lies among the tokens -/
section RWY
variable {s : Nat → Int32} {v : Nat → Int64} {P : Nat → Int32} {n k : Nat} {F G : Int64 → Int32} {r : Rb} {a b : Int32}
def RGI (n : Nat) (L : List It) : Prop := ∀ i, i ∈ L → iN7 n i.1 ∧ iN7 n i.2.1
theorem rgi_A (ha : iN7 n a) (hb : iN7 n b) (h : RGI n r.1) : RGI n (rbA a b r).1 := by
  have ps : RGI n ((a, b, 0) :: r.1) := fun i hi => by
    rcases List.mem_cons.mp hi with e | e
    · rw [e]; exact ⟨ha, hb⟩
    · exact h i e
  unfold rbA
  cases hr : r.1 with
  | nil => rw [hr] at ps; exact ps
  | cons x L =>
    rw [hr] at ps h
    show RGI n (if x.2.2 = 0 then ((x.1, b, x.2.2) :: L, r.2) else ((a, b, 0) :: x :: L, r.2)).1
    by_cases z : x.2.2 = 0
    · rw [if_pos z]
      intro i hi
      rcases List.mem_cons.mp hi with e | e
      · rw [e]; exact ⟨(h x List.mem_cons_self).1, hb⟩
      · exact h i (List.mem_cons_of_mem _ e)
    · rw [if_neg z]; exact ps
theorem rgi_N (hb : bl7 s v n) (hn : n ≤ 600) (hP : PN s v P n) (he : 0 < e7 s v P n k) (h : RGI n r.1) : RGI n (rbN s v P n k r).1 := by
  have hin := exN_in hn (pn_pt hb hn hP) he
  have hin' : k + e7 s v P n k ≤ n := hin
  have h1 : iN7 n (nI k) := ⟨k, rfl, e7_lt he⟩
  have h2 : iN7 n (nI (k + e7 s v P n k - 1)) := ⟨_, rfl, by omega⟩
  unfold rbN
  by_cases ho : opB s v n k = true
  · rw [if_pos ho]
    intro i hi
    rcases List.mem_cons.mp hi with e | e
    · rw [e]; exact ⟨h1, h2⟩
    · exact h i e
  · rw [if_neg ho]; exact rgi_A h1 h2 h
theorem rgi_ch (hb : bl7 s v n) (hn : n ≤ 600) (hP : PN s v P n) : ∀ (f k : Nat) (r : Rb), RGI n r.1 → RGI n (ch7 s v P n f k r).2.1
  | 0, _, _, h => h
  | f + 1, k, r, h => by
    rw [ch7]
    by_cases z : 0 < e7 s v P n k
    · rw [if_pos z]; exact rgi_ch hb hn hP f _ _ (rgi_N hb hn hP z h)
    · rw [if_neg z]; exact h
theorem rk_in (hb : bl7 s v n) (hn : n ≤ 600) (hP : PN s v P n) : ∀ p, p ∈ oP (rk7 s v P n F G k) → iS7 n p := by
  have hr : RGI n (rw7 s v P n k).1 := rgi_ch hb hn hP _ _ _ (fun i hi => absurd hi List.not_mem_nil)
  show ∀ p, p ∈ oP (rr7 v F G (rw7 s v P n k)) → iS7 n p
  unfold rr7
  by_cases w : wh7 (rw7 s v P n k) = true
  · rw [if_pos w]
    cases hx : rs7 v F G [] (rw7 s v P n k).1 with
    | none => exact fun p hp => absurd hp List.not_mem_nil
    | some x =>
      have hi := rs_in (n := n) (B := []) (fun p hp => absurd hp List.not_mem_nil) _ x hr hx
      exact (fi_in x.1.length x hi).2.2
  · rw [if_neg w]; exact fun p hp => absurd hp List.not_mem_nil
theorem mem_ap {A B : List Sp} (h1 : ∀ p, p ∈ A → iS7 n p) (h2 : ∀ p, p ∈ B → iS7 n p) : ∀ p, p ∈ A ++ B → iS7 n p := fun p hp => (List.mem_append.mp hp).elim (h1 p) (h2 p)
def IR7 (A B : Nat → Int32) (m n : Nat) : Prop := ∀ k, k < m → ∃ a b, A k = nI a ∧ B k = nI b ∧ a < n ∧ b < n
theorem z2_mem {A B : Nat → Int32} {j : Nat} : ∀ m, j < m → (A j, B j) ∈ z2 A B m
  | 0, h => absurd h (Nat.not_lt_zero _)
  | m + 1, h => by
    rw [z2]
    by_cases e : j = m
    · rw [e]; exact List.mem_cons_self
    · exact List.mem_cons_of_mem _ (z2_mem m (by omega))
theorem ir_of {A B : Nat → Int32} {m n' : Nat} (h : ∀ p, p ∈ z2 A B m → iS7 n p) (hn : n ≤ n') : IR7 A B m n' := fun k hk => by
  obtain ⟨⟨a, e1, l1⟩, ⟨b, e2, l2⟩⟩ := h _ (z2_mem m hk)
  exact ⟨a, b, e1, e2, by omega, by omega⟩
end RWY
