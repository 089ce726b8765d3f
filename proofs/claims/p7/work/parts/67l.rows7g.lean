/-! what a token is, as the class asks -/
section RWG
theorem wx_t (v : Int64) : ixE wWd v 9 0 = if (7628140 : Int64) = v then 0 else if (435710945399 : Int64) = v then 1 else if (28516 : Int64) = v then 2 else if (26223 : Int64) = v then 3 else if (28265 : Int64) = v then 4 else if (26217 : Int64) = v then 5 else if (1852139636 : Int64) = v then 6 else if (1702063205 : Int64) = v then 7 else if (1702060387 : Int64) = v then 8 else -1 := rfl
theorem wx_ix (v : Int64) : (ixE wWd v 9 0 = -1) ↔ wdB v = false := by
  rw [wx_t]
  by_cases h0 : (7628140 : Int64) = v
  · subst h0; exact ⟨fun h => absurd h (by decide), fun h => absurd h (by decide)⟩
  by_cases h1 : (435710945399 : Int64) = v
  · subst h1; exact ⟨fun h => absurd h (by decide), fun h => absurd h (by decide)⟩
  by_cases h2 : (28516 : Int64) = v
  · subst h2; exact ⟨fun h => absurd h (by decide), fun h => absurd h (by decide)⟩
  by_cases h3 : (26223 : Int64) = v
  · subst h3; exact ⟨fun h => absurd h (by decide), fun h => absurd h (by decide)⟩
  by_cases h4 : (28265 : Int64) = v
  · subst h4; exact ⟨fun h => absurd h (by decide), fun h => absurd h (by decide)⟩
  by_cases h5 : (26217 : Int64) = v
  · subst h5; exact ⟨fun h => absurd h (by decide), fun h => absurd h (by decide)⟩
  by_cases h6 : (1852139636 : Int64) = v
  · subst h6; exact ⟨fun h => absurd h (by decide), fun h => absurd h (by decide)⟩
  by_cases h7 : (1702063205 : Int64) = v
  · subst h7; exact ⟨fun h => absurd h (by decide), fun h => absurd h (by decide)⟩
  by_cases h8 : (1702060387 : Int64) = v
  · subst h8; exact ⟨fun h => absurd h (by decide), fun h => absurd h (by decide)⟩
  rw [if_neg h0, if_neg h1, if_neg h2, if_neg h3, if_neg h4, if_neg h5, if_neg h6, if_neg h7, if_neg h8]
  have g0 : ¬ v = (7628140 : Int64) := fun q => h0 q.symm
  have g1 : ¬ v = (435710945399 : Int64) := fun q => h1 q.symm
  have g2 : ¬ v = (28516 : Int64) := fun q => h2 q.symm
  have g3 : ¬ v = (26223 : Int64) := fun q => h3 q.symm
  have g4 : ¬ v = (28265 : Int64) := fun q => h4 q.symm
  have g5 : ¬ v = (26217 : Int64) := fun q => h5 q.symm
  have g6 : ¬ v = (1852139636 : Int64) := fun q => h6 q.symm
  have g7 : ¬ v = (1702063205 : Int64) := fun q => h7 q.symm
  have g8 : ¬ v = (1702060387 : Int64) := fun q => h8 q.symm
  exact ⟨fun _ => by simp [wdB, g0, g1, g2, g3, g4, g5, g6, g7, g8], fun _ => rfl⟩
theorem rx_t (v : Int64) : ixE wRs v 10 0 = if (61 : Int64) = v then 0 else if (15917 : Int64) = v then 1 else if (11580 : Int64) = v then 2 else if (124 : Int64) = v then 3 else if (14906 : Int64) = v then 4 else if (15933 : Int64) = v then 5 else if (92 : Int64) = v then 6 else if (64 : Int64) = v then 7 else if (126 : Int64) = v then 8 else if (11822 : Int64) = v then 9 else -1 := rfl
theorem rx_ix (v : Int64) : (ixE wRs v 10 0 = -1) ↔ rsB v = false := by
  rw [rx_t]
  by_cases h0 : (61 : Int64) = v
  · subst h0; exact ⟨fun h => absurd h (by decide), fun h => absurd h (by decide)⟩
  by_cases h1 : (15917 : Int64) = v
  · subst h1; exact ⟨fun h => absurd h (by decide), fun h => absurd h (by decide)⟩
  by_cases h2 : (11580 : Int64) = v
  · subst h2; exact ⟨fun h => absurd h (by decide), fun h => absurd h (by decide)⟩
  by_cases h3 : (124 : Int64) = v
  · subst h3; exact ⟨fun h => absurd h (by decide), fun h => absurd h (by decide)⟩
  by_cases h4 : (14906 : Int64) = v
  · subst h4; exact ⟨fun h => absurd h (by decide), fun h => absurd h (by decide)⟩
  by_cases h5 : (15933 : Int64) = v
  · subst h5; exact ⟨fun h => absurd h (by decide), fun h => absurd h (by decide)⟩
  by_cases h6 : (92 : Int64) = v
  · subst h6; exact ⟨fun h => absurd h (by decide), fun h => absurd h (by decide)⟩
  by_cases h7 : (64 : Int64) = v
  · subst h7; exact ⟨fun h => absurd h (by decide), fun h => absurd h (by decide)⟩
  by_cases h8 : (126 : Int64) = v
  · subst h8; exact ⟨fun h => absurd h (by decide), fun h => absurd h (by decide)⟩
  by_cases h9 : (11822 : Int64) = v
  · subst h9; exact ⟨fun h => absurd h (by decide), fun h => absurd h (by decide)⟩
  rw [if_neg h0, if_neg h1, if_neg h2, if_neg h3, if_neg h4, if_neg h5, if_neg h6, if_neg h7, if_neg h8, if_neg h9]
  have g0 : ¬ v = (61 : Int64) := fun q => h0 q.symm
  have g1 : ¬ v = (15917 : Int64) := fun q => h1 q.symm
  have g2 : ¬ v = (11580 : Int64) := fun q => h2 q.symm
  have g3 : ¬ v = (124 : Int64) := fun q => h3 q.symm
  have g4 : ¬ v = (14906 : Int64) := fun q => h4 q.symm
  have g5 : ¬ v = (15933 : Int64) := fun q => h5 q.symm
  have g6 : ¬ v = (92 : Int64) := fun q => h6 q.symm
  have g7 : ¬ v = (64 : Int64) := fun q => h7 q.symm
  have g8 : ¬ v = (126 : Int64) := fun q => h8 q.symm
  have g9 : ¬ v = (11822 : Int64) := fun q => h9 q.symm
  exact ⟨fun _ => by simp [rsB, g0, g1, g2, g3, g4, g5, g6, g7, g8, g9], fun _ => rfl⟩
variable {kd : Nat → Int32} {vl : Nat → Int64} {n i : Nat}
def obB (kd : Nat → Int32) (vl : Nat → Int64) (n i : Nat) : Bool := decide (i < n) && opn (kd i) (vl i)
def cbB (kd : Nat → Int32) (vl : Nat → Int64) (n i : Nat) : Bool := decide (i < n) && clo (kd i) (vl i)
def foB (kd : Nat → Int32) (vl : Nat → Int64) (n i : Nat) : Bool := decide (i < n) && (kd i == 2 && !rsB (vl i))
theorem i6_40 : i6 40 = 40 := by decide
theorem i6_91 : i6 91 = 91 := by decide
theorem i6_41 : i6 41 = 41 := by decide
theorem i6_93 : i6 93 = 93 := by decide
theorem i6_96 : i6 96 = 96 := by decide
theorem ob_e : obB kd vl n i = (sgB kd vl n i 40 || sgB kd vl n i 91) := by
  unfold obB sgB opn
  rw [i6_40, i6_91]
  cases decide (i < n) <;> cases kd i == 3 <;> cases vl i == 40 <;> cases vl i == 91 <;> rfl
theorem cb_e : cbB kd vl n i = (sgB kd vl n i 41 || sgB kd vl n i 93) := by
  unfold cbB sgB clo
  rw [i6_41, i6_93]
  cases decide (i < n) <;> cases kd i == 3 <;> cases vl i == 41 <;> cases vl i == 93 <;> rfl
theorem ob_a (h : sgB kd vl n i 40 = true) : (1 : Int32) = b01 (obB kd vl n i) := by rw [ob_e, h]; rfl
theorem ob_b (h : sgB kd vl n i 91 = true) : (1 : Int32) = b01 (obB kd vl n i) := by rw [ob_e, h, Bool.or_true]; rfl
theorem ob_n (h : sgB kd vl n i 40 = false) (h2 : sgB kd vl n i 91 = false) : (0 : Int32) = b01 (obB kd vl n i) := by rw [ob_e, h, h2]; rfl
theorem cb_a (h : sgB kd vl n i 41 = true) : (1 : Int32) = b01 (cbB kd vl n i) := by rw [cb_e, h]; rfl
theorem cb_b (h : sgB kd vl n i 93 = true) : (1 : Int32) = b01 (cbB kd vl n i) := by rw [cb_e, h, Bool.or_true]; rfl
theorem cb_n (h : sgB kd vl n i 41 = false) (h2 : sgB kd vl n i 93 = false) : (0 : Int32) = b01 (cbB kd vl n i) := by rw [cb_e, h, h2]; rfl
theorem fn_1 (h : ¬ i < n) : (0 : Int32) = b01 (nmB wdB kd vl n i) := by unfold nmB; rw [decide_eq_false h]; rfl
theorem fn_2 (q : ¬ kd i = 0) : (0 : Int32) = b01 (nmB wdB kd vl n i) := by unfold nmB; simp [q, b01]
theorem fn_3 (q : ¬ ixE wWd (vl i) 9 0 = -1) : (0 : Int32) = b01 (nmB wdB kd vl n i) := by
  have e : wdB (vl i) = true := by
    cases z : wdB (vl i)
    · exact absurd ((wx_ix _).mpr z) q
    · rfl
  unfold nmB; simp [e, b01]
theorem fn_4 (h : i < n) (q : kd i = 0) (r : ixE wWd (vl i) 9 0 = -1) : (1 : Int32) = b01 (nmB wdB kd vl n i) := by
  unfold nmB; simp [h, q, (wx_ix _).mp r, b01]
theorem fo_1 (h : ¬ i < n) : (0 : Int32) = b01 (foB kd vl n i) := by unfold foB; rw [decide_eq_false h]; rfl
theorem fo_2 (q : ¬ kd i = 2) : (0 : Int32) = b01 (foB kd vl n i) := by unfold foB; simp [q, b01]
theorem fo_3 (q : ¬ ixE wRs (vl i) 10 0 = -1) : (0 : Int32) = b01 (foB kd vl n i) := by
  have e : rsB (vl i) = true := by
    cases z : rsB (vl i)
    · exact absurd ((rx_ix _).mpr z) q
    · rfl
  unfold foB; simp [e, b01]
theorem fo_4 (h : i < n) (q : kd i = 2) (r : ixE wRs (vl i) 10 0 = -1) : (1 : Int32) = b01 (foB kd vl n i) := by
  unfold foB; simp [h, q, (rx_ix _).mp r, b01]
end RWG
