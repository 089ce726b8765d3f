/-! fixity: is the name there, and what is answered -/
def hasN (f : Nat → Int64) (v : Int64) : Nat → Bool
  | 0 => false
  | n + 1 => hasN f v n || f n == v
section FXX
variable {f g : Nat → Int64} {v : Int64} {n k m : Nat} {y a b : Int32}
theorem hasN_no (h : hasN f v n = false) (e : ¬ f n = v) : hasN f v (n + 1) = false := by
  rw [hasN, h]; simpa using e
theorem hasN_of : ∀ (n : Nat), k < n → f k = v → hasN f v n = true
  | 0, h, _ => absurd h (Nat.not_lt_zero _)
  | n + 1, h, e => by
    rw [hasN]
    by_cases q : k = n
    · rw [← q, e]; simp
    · rw [hasN_of n (by omega) e]; rfl
theorem hasN_congr : ∀ (n : Nat), (∀ j, j < n → f j = g j) → hasN f v n = hasN g v n
  | 0, _ => rfl
  | n + 1, h => by rw [hasN, hasN, hasN_congr n (fun j hj => h j (by omega)), h n (by omega)]
theorem nI_m1 (hk : k ≤ 600) : ¬ nI k = (-1 : Int32) := by
  intro e
  have h := congrArg Int32.toInt e
  rw [nI_toInt (by omega), show (-1 : Int32).toInt = -1 by decide] at h
  omega
theorem fd_1 (hk : k < n) (hn : n ≤ 600) (e : f k = v) : ∀ j, j < n → nI k = nI j → f j = v := by
  intro j hj q
  have := (nI_eq (a := k) (b := j) (by omega) (by omega)).mp q
  rw [← this]; exact e
theorem fd_0 (hn : n ≤ 600) : ∀ j, j < n → (-1 : Int32) = nI j → f j = v := by
  intro j hj q
  exact absurd q.symm (nI_m1 (by omega))
theorem hr_1 {h : Bool} (q : n < 12) : (1 : Int32) = b01 (decide (n < 12) || h) := by simp [q, b01]
theorem hr_2 {h : Bool} (q : h = true) : (1 : Int32) = b01 (decide (n < 12) || h) := by simp [q, b01]
theorem hr_0 {h : Bool} (q : ¬ n < 12) (e : h = false) : (0 : Int32) = b01 (decide (n < 12) || h) := by simp [q, e, b01]
theorem nm_0 (hk : k < n) (e : f k = v) (hg : vp_updL f k v = g) : ∀ j, j < n → g j = f j := by
  intro j _
  rw [← hg]
  by_cases q : j = k
  · rw [q]; exact (if_pos rfl).trans e.symm
  · exact if_neg q
theorem nm_1 (hg : vp_updL f n v = g) : ∀ j, j < n → g j = f j := by
  intro j hj
  rw [← hg]
  exact if_neg (by omega)
theorem nm_n (hg : vp_updL f n v = g) : g n = v := by rw [← hg]; exact if_pos rfl
theorem nm_push {f' g' : Nat → Int64} (h : ∀ j, j < n → f j = f' j) (h1 : ∀ j, j < n → g j = f j) (h2 : g n = v) (h3 : ∀ j, j < n → g' j = f' j) (h4 : g' n = v) : ∀ j, j < n + 1 → g j = g' j := by
  intro j hj
  by_cases q : j = n
  · rw [q, h2, h4]
  · rw [h1 j (by omega), h3 j (by omega)]; exact h j (by omega)
theorem wi_l (h : y < a) : wi y a b = 0 := if_pos h
theorem wi_g (h : b < y) : wi y a b = 0 := by
  unfold wi
  by_cases q : y < a
  · rw [if_pos q]
  · rw [if_neg q, if_pos h]
theorem wi_y (h : ¬ y < a) (h2 : ¬ b < y) : ¬ wi y a b = 0 := by
  unfold wi
  rw [if_neg h, if_neg h2]; decide
theorem fn_found {z : Int32} (e : fnN f v n = z) (h : 0 ≤ z) : ∃ j, j < n ∧ z = nI j ∧ f j = v := by
  induction n with
  | zero => rw [fnN] at e; rw [← e] at h; exact absurd h (by decide)
  | succ n ih =>
    rw [fnN] at e
    by_cases q : f n = v
    · rw [if_pos q] at e; exact ⟨n, by omega, e.symm, q⟩
    · rw [if_neg q] at e
      obtain ⟨j, h1, h2, h3⟩ := ih e
      exact ⟨j, by omega, h2, h3⟩
theorem fn_none (hn : n ≤ 600) (h : ¬ 0 ≤ fnN f v n) : hasN f v n = false := by
  induction n with
  | zero => rfl
  | succ n ih =>
    rw [fnN] at h
    by_cases q : f n = v
    · rw [if_pos q] at h
      exact absurd ((nI_leI (a := 0) (b := n) (by omega) (by omega)).mpr (Nat.zero_le _)) h
    · rw [if_neg q] at h
      exact hasN_no (ih (by omega) h) q
theorem fx_any {h : Bool} {s t : Int32} {n : Nat} : (h = true ∧ ¬ wi s 0 2 = 0 ∧ ¬ wi t 0 9 = 0) ∨ (h = false ∧ ¬ wi s 0 2 = 0 ∧ ¬ wi t 0 9 = 0 ∧ n < 12) ∨ (wi s 0 2 = 0 ∨ wi t 0 9 = 0) ∨ (h = false ∧ ¬ wi s 0 2 = 0 ∧ ¬ wi t 0 9 = 0 ∧ ¬ n < 12) := by
  by_cases h1 : wi s 0 2 = 0
  · exact Or.inr (Or.inr (Or.inl (Or.inl h1)))
  · by_cases h2 : wi t 0 9 = 0
    · exact Or.inr (Or.inr (Or.inl (Or.inr h2)))
    · cases h
      · by_cases h3 : n < 12
        · exact Or.inr (Or.inl ⟨rfl, h1, h2, h3⟩)
        · exact Or.inr (Or.inr (Or.inr ⟨rfl, h1, h2, h3⟩))
      · exact Or.inl ⟨rfl, h1, h2⟩
theorem yn {P : Prop} {x : Bool} (h1 : x = true) (h2 : x = false) : P := by rw [h1] at h2; cases h2
end FXX
set_option maxHeartbeats 4000000 in
set_option maxRecDepth 100000 in
theorem s_Model_thrown (l : Launch) (dC : Nat → ClassId) (dI : Nat → Nat → Nat) (sz : Nat) (a_t : Nat) (z_thrown : Int32) (n_length : Nat) (a_text : Nat) (z_bad : Int32) (z_place : Int32) (n_at : Nat) (n_lexemes : Nat) (a_kind : Nat) (a_value : Nat) (a_where : Nat) (a_column : Nat) (a_leads : Nat) (n_open : Nat) (z_highest : Int32) (a_row : Nat) (n_tokens : Nat) (z_blocks : Int32) (a_sort : Nat) (a_is : Nat) (a_before : Nat) (a_behind : Nat) (a_partner : Nat) (a_done : Nat) (n_all : Nat) (a_kinds : Nat) (a_values : Nat) (z_told : Int32) (z_toldBlocks : Int32) (z_toldRows : Int32) (z_toldConflicts : Int32) (z_toldHighest : Int32) (n_set : Nat) (a_names : Nat) (a_sides : Nat) (a_levels : Nat) (n_items : Nat) (n_operands : Nat) (n_waiting : Nat) (n_pairs : Nat) (z_rows : Int32) (z_conflicts : Int32) (a_from : Nat) (a_to : Nat) (a_what : Nat) (a_left : Nat) (a_right : Nat) (a_waits : Nat) (a_opens : Nat) (a_closes : Nat) (a_waitsFor : Nat) (b_length : n_length ≤ 240) (b_bad : z_bad = 0 ∨ z_bad = 1 ∨ z_bad = 2) (b_at : n_at ≤ 240) (b_lexemes : n_lexemes ≤ 90) (b_open : n_open ≤ 200) (b_tokens : n_tokens ≤ 600) (b_all : n_all ≤ 900) (b_set : n_set ≤ 12) (b_items : n_items ≤ 96) (b_operands : n_operands ≤ 96) (b_waiting : n_waiting ≤ 96) (b_pairs : n_pairs ≤ 96) : Met l y_Model_thrown w_Model_thrown ({ frames := 0, cells := 0, slots := 0, locals := 0 }) (va_Pc [.ref a_t] (fun U => U.heap.size = sz ∧ va_P (dC, dI) vcl [(a_t, .inr (1, [.int z_thrown, .int (nI n_length), .ref a_text, .int z_bad, .int z_place, .int (nI n_at), .int (nI n_lexemes), .ref a_kind, .ref a_value, .ref a_where, .ref a_column, .ref a_leads, .int (nI n_open), .int z_highest, .ref a_row, .int (nI n_tokens), .int z_blocks, .ref a_sort, .ref a_is, .ref a_before, .ref a_behind, .ref a_partner, .ref a_done, .int (nI n_all), .ref a_kinds, .ref a_values, .int z_told, .int z_toldBlocks, .int z_toldRows, .int z_toldConflicts, .int z_toldHighest, .int (nI n_set), .ref a_names, .ref a_sides, .ref a_levels, .int (nI n_items), .int (nI n_operands), .int (nI n_waiting), .int (nI n_pairs), .int z_rows, .int z_conflicts, .ref a_from, .ref a_to, .ref a_what, .ref a_left, .ref a_right, .ref a_waits, .ref a_opens, .ref a_closes, .ref a_waitsFor]))] U.heap ∧ va_K (dC, dI) vcl [] U ∧ va_D (fun _ => True) [(a_t, .inr (1, [.int z_thrown, .int (nI n_length), .ref a_text, .int z_bad, .int z_place, .int (nI n_at), .int (nI n_lexemes), .ref a_kind, .ref a_value, .ref a_where, .ref a_column, .ref a_leads, .int (nI n_open), .int z_highest, .ref a_row, .int (nI n_tokens), .int z_blocks, .ref a_sort, .ref a_is, .ref a_before, .ref a_behind, .ref a_partner, .ref a_done, .int (nI n_all), .ref a_kinds, .ref a_values, .int z_told, .int z_toldBlocks, .int z_toldRows, .int z_toldConflicts, .int z_toldHighest, .int (nI n_set), .ref a_names, .ref a_sides, .ref a_levels, .int (nI n_items), .int (nI n_operands), .int (nI n_waiting), .int (nI n_pairs), .int z_rows, .int z_conflicts, .ref a_from, .ref a_to, .ref a_what, .ref a_left, .ref a_right, .ref a_waits, .ref a_opens, .ref a_closes, .ref a_waitsFor]))])) (va_Qi (fun (r : Int32) (_ : Unit) => r = z_thrown) (fun _ t => va_P (dC, dI) vcl [(a_t, .inr (1, [.int z_thrown, .int (nI n_length), .ref a_text, .int z_bad, .int z_place, .int (nI n_at), .int (nI n_lexemes), .ref a_kind, .ref a_value, .ref a_where, .ref a_column, .ref a_leads, .int (nI n_open), .int z_highest, .ref a_row, .int (nI n_tokens), .int z_blocks, .ref a_sort, .ref a_is, .ref a_before, .ref a_behind, .ref a_partner, .ref a_done, .int (nI n_all), .ref a_kinds, .ref a_values, .int z_told, .int z_toldBlocks, .int z_toldRows, .int z_toldConflicts, .int z_toldHighest, .int (nI n_set), .ref a_names, .ref a_sides, .ref a_levels, .int (nI n_items), .int (nI n_operands), .int (nI n_waiting), .int (nI n_pairs), .int z_rows, .int z_conflicts, .ref a_from, .ref a_to, .ref a_what, .ref a_left, .ref a_right, .ref a_waits, .ref a_opens, .ref a_closes, .ref a_waitsFor]))] t.heap ∧ va_K (dC, dI) vcl [] t ∧ va_D (va_A [(a_t, .inr (1, [.int z_thrown, .int (nI n_length), .ref a_text, .int z_bad, .int z_place, .int (nI n_at), .int (nI n_lexemes), .ref a_kind, .ref a_value, .ref a_where, .ref a_column, .ref a_leads, .int (nI n_open), .int z_highest, .ref a_row, .int (nI n_tokens), .int z_blocks, .ref a_sort, .ref a_is, .ref a_before, .ref a_behind, .ref a_partner, .ref a_done, .int (nI n_all), .ref a_kinds, .ref a_values, .int z_told, .int z_toldBlocks, .int z_toldRows, .int z_toldConflicts, .int z_toldHighest, .int (nI n_set), .ref a_names, .ref a_sides, .ref a_levels, .int (nI n_items), .int (nI n_operands), .int (nI n_waiting), .int (nI n_pairs), .int z_rows, .int z_conflicts, .ref a_from, .ref a_to, .ref a_what, .ref a_left, .ref a_right, .ref a_waits, .ref a_opens, .ref a_closes, .ref a_waitsFor]))] sz) [(a_t, .inr (1, [.int z_thrown, .int (nI n_length), .ref a_text, .int z_bad, .int z_place, .int (nI n_at), .int (nI n_lexemes), .ref a_kind, .ref a_value, .ref a_where, .ref a_column, .ref a_leads, .int (nI n_open), .int z_highest, .ref a_row, .int (nI n_tokens), .int z_blocks, .ref a_sort, .ref a_is, .ref a_before, .ref a_behind, .ref a_partner, .ref a_done, .int (nI n_all), .ref a_kinds, .ref a_values, .int z_told, .int z_toldBlocks, .int z_toldRows, .int z_toldConflicts, .int z_toldHighest, .int (nI n_set), .ref a_names, .ref a_sides, .ref a_levels, .int (nI n_items), .int (nI n_operands), .int (nI n_waiting), .int (nI n_pairs), .int z_rows, .int z_conflicts, .ref a_from, .ref a_to, .ref a_what, .ref a_left, .ref a_right, .ref a_waits, .ref a_opens, .ref a_closes, .ref a_waitsFor]))]) (va_A [(a_t, .inr (1, [.int z_thrown, .int (nI n_length), .ref a_text, .int z_bad, .int z_place, .int (nI n_at), .int (nI n_lexemes), .ref a_kind, .ref a_value, .ref a_where, .ref a_column, .ref a_leads, .int (nI n_open), .int z_highest, .ref a_row, .int (nI n_tokens), .int z_blocks, .ref a_sort, .ref a_is, .ref a_before, .ref a_behind, .ref a_partner, .ref a_done, .int (nI n_all), .ref a_kinds, .ref a_values, .int z_told, .int z_toldBlocks, .int z_toldRows, .int z_toldConflicts, .int z_toldHighest, .int (nI n_set), .ref a_names, .ref a_sides, .ref a_levels, .int (nI n_items), .int (nI n_operands), .int (nI n_waiting), .int (nI n_pairs), .int z_rows, .int z_conflicts, .ref a_from, .ref a_to, .ref a_what, .ref a_left, .ref a_right, .ref a_waits, .ref a_opens, .ref a_closes, .ref a_waitsFor]))] sz)) 0 0 (va_A [(a_t, .inr (1, [.int z_thrown, .int (nI n_length), .ref a_text, .int z_bad, .int z_place, .int (nI n_at), .int (nI n_lexemes), .ref a_kind, .ref a_value, .ref a_where, .ref a_column, .ref a_leads, .int (nI n_open), .int z_highest, .ref a_row, .int (nI n_tokens), .int z_blocks, .ref a_sort, .ref a_is, .ref a_before, .ref a_behind, .ref a_partner, .ref a_done, .int (nI n_all), .ref a_kinds, .ref a_values, .int z_told, .int z_toldBlocks, .int z_toldRows, .int z_toldConflicts, .int z_toldHighest, .int (nI n_set), .ref a_names, .ref a_sides, .ref a_levels, .int (nI n_items), .int (nI n_operands), .int (nI n_waiting), .int (nI n_pairs), .int z_rows, .int z_conflicts, .ref a_from, .ref a_to, .ref a_what, .ref a_left, .ref a_right, .ref a_waits, .ref a_opens, .ref a_closes, .ref a_waitsFor]))] sz) := by
  refine Met.ofW (cc := b_Model_thrown) (maxL := 1) (ret := (some .int)) (by decide) rfl ?_
  intro p e s m args below meth c s₁ B hml hv
  obtain ⟨rfl, hsz, hP, hK, hD0⟩ := hv
  have hx := B.exec
  have hb := B.bytes
  have hr := B.returns
  have hts := atoms_spec (ws := w_Model_thrown) B.pre
  have hz : ∀ w ∈ wz, w.before _ s = true := fun w h => hts w (List.mem_cons_of_mem _ h)
  have hown : s.vm.findClass R_Model = some m.cls := findClass_of_methodNamed B.named
  have hlocks := B.notSynchronized
  subst hsz
  have hD := hD0.self (sz := s.heap.size)
  generalize hAe : va_A [(a_t, .inr (1, [.int z_thrown, .int (nI n_length), .ref a_text, .int z_bad, .int z_place, .int (nI n_at), .int (nI n_lexemes), .ref a_kind, .ref a_value, .ref a_where, .ref a_column, .ref a_leads, .int (nI n_open), .int z_highest, .ref a_row, .int (nI n_tokens), .int z_blocks, .ref a_sort, .ref a_is, .ref a_before, .ref a_behind, .ref a_partner, .ref a_done, .int (nI n_all), .ref a_kinds, .ref a_values, .int z_told, .int z_toldBlocks, .int z_toldRows, .int z_toldConflicts, .int z_toldHighest, .int (nI n_set), .ref a_names, .ref a_sides, .ref a_levels, .int (nI n_items), .int (nI n_operands), .int (nI n_waiting), .int (nI n_pairs), .int z_rows, .int z_conflicts, .ref a_from, .ref a_to, .ref a_what, .ref a_left, .ref a_right, .ref a_waits, .ref a_opens, .ref a_closes, .ref a_waitsFor]))] s.heap.size = A at hD ⊢
  have hA : ∀ q : Nat, s.heap.size ≤ q → A q := fun q h => by rw [← hAe]; exact Or.inr h
  have hS : va_S A s.heap s.heap [] := va_S.rf
  have hP : va_P (dC, dI) vcl [(a_t, .inr (1, [.int z_thrown, .int (nI n_length), .ref a_text, .int z_bad, .int z_place, .int (nI n_at), .int (nI n_lexemes), .ref a_kind, .ref a_value, .ref a_where, .ref a_column, .ref a_leads, .int (nI n_open), .int z_highest, .ref a_row, .int (nI n_tokens), .int z_blocks, .ref a_sort, .ref a_is, .ref a_before, .ref a_behind, .ref a_partner, .ref a_done, .int (nI n_all), .ref a_kinds, .ref a_values, .int z_told, .int z_toldBlocks, .int z_toldRows, .int z_toldConflicts, .int z_toldHighest, .int (nI n_set), .ref a_names, .ref a_sides, .ref a_levels, .int (nI n_items), .int (nI n_operands), .int (nI n_waiting), .int (nI n_pairs), .int z_rows, .int z_conflicts, .ref a_from, .ref a_to, .ref a_what, .ref a_left, .ref a_right, .ref a_waits, .ref a_opens, .ref a_closes, .ref a_waitsFor]))] s.heap := hP
  have hl := lv_entry ([.ref a_t]) (n := 1) (Nat.le_of_ble_eq_true rfl)
  rw [lg_entry_eq]
  generalize (lg_sl ([.ref a_t]) ++ List.replicate (1 - (lg_sl ([.ref a_t])).length) Slot.unset).toArray = ls at hl ⊢
  have hl : lv_has ls 1 [(0, .ref a_t)] := hl
  refine lv_aload_n hx hb d_Model_thrown_0 rfl (lv_at hl 0 rfl) ?_
  refine va_get (D := (dC, dI)) (ci := 1) (v := .int z_thrown) (C := R_Model) (T := F_Model) (N := 50) hx hb hz zu_Model hown hK hP 0 rfl rfl 0 (by decide) (hz (.fieldLink R_Model 97 "LayoutFrontModel" "thrown" "I") zm_652) (fun _ h9 => h9) rfl d_Model_thrown_1 ?_
  have hP9 := hP.sub (ws' := [(a_t, .inr (1, [.int z_thrown, .int (nI n_length), .ref a_text, .int z_bad, .int z_place, .int (nI n_at), .int (nI n_lexemes), .ref a_kind, .ref a_value, .ref a_where, .ref a_column, .ref a_leads, .int (nI n_open), .int z_highest, .ref a_row, .int (nI n_tokens), .int z_blocks, .ref a_sort, .ref a_is, .ref a_before, .ref a_behind, .ref a_partner, .ref a_done, .int (nI n_all), .ref a_kinds, .ref a_values, .int z_told, .int z_toldBlocks, .int z_toldRows, .int z_toldConflicts, .int z_toldHighest, .int (nI n_set), .ref a_names, .ref a_sides, .ref a_levels, .int (nI n_items), .int (nI n_operands), .int (nI n_waiting), .int (nI n_pairs), .int z_rows, .int z_conflicts, .ref a_from, .ref a_to, .ref a_what, .ref a_left, .ref a_right, .ref a_waits, .ref a_opens, .ref a_closes, .ref a_waitsFor]))]) [0] rfl
  have hD9 := hD.sub (ws' := [(a_t, .inr (1, [.int z_thrown, .int (nI n_length), .ref a_text, .int z_bad, .int z_place, .int (nI n_at), .int (nI n_lexemes), .ref a_kind, .ref a_value, .ref a_where, .ref a_column, .ref a_leads, .int (nI n_open), .int z_highest, .ref a_row, .int (nI n_tokens), .int z_blocks, .ref a_sort, .ref a_is, .ref a_before, .ref a_behind, .ref a_partner, .ref a_done, .int (nI n_all), .ref a_kinds, .ref a_values, .int z_told, .int z_toldBlocks, .int z_toldRows, .int z_toldConflicts, .int z_toldHighest, .int (nI n_set), .ref a_names, .ref a_sides, .ref a_levels, .int (nI n_items), .int (nI n_operands), .int (nI n_waiting), .int (nI n_pairs), .int z_rows, .int z_conflicts, .ref a_from, .ref a_to, .ref a_what, .ref a_left, .ref a_right, .ref a_waits, .ref a_opens, .ref a_closes, .ref a_waitsFor]))]) [0] (by decide) rfl
  exact W.iret (v := z_thrown) hx hb hr (fun t ht hW => ⟨⟨z_thrown, (), rfl, rfl, by rw [ht]; exact hP9, va_K.moved hW.alike hK, hD9⟩, hS.F ht⟩) hS.2.2 d_Model_thrown_4
set_option maxHeartbeats 4000000 in
set_option maxRecDepth 100000 in
theorem s_Fixities_findH (l : Launch) (dC : Nat → ClassId) (dI : Nat → Nat → Nat) (sz : Nat) (a_t : Nat) (a_names : Nat) (f_names : Nat → Int64) (a_sides : Nat) (a_levels : Nat) (n_size : Nat) (y0 : Int64) (ka_names : ClassId) (b_size : n_size ≤ 12) : Met l y_Fixities_find w_Fixities_find ({ frames := 0, cells := 0, slots := 0, locals := 0 }) (va_Pc [.ref a_t, .long y0] (fun U => U.heap.size = sz ∧ va_P (dC, dI) vcl [(a_t, .inr (4, [.ref a_names, .ref a_sides, .ref a_levels, .int (nI n_size)])), (a_names, .inl (ka_names, 12, .inr (.inl f_names)))] U.heap ∧ va_K (dC, dI) vcl [(ka_names, .long)] U ∧ va_D (fun _ => True) [(a_t, .inr (4, [.ref a_names, .ref a_sides, .ref a_levels, .int (nI n_size)])), (a_names, .inl (ka_names, 12, .inr (.inl f_names)))])) (va_Qi (fun (r : Int32) (u : Int32) => u = r ∧ (r = (-1) ∨ (0 ≤ r ∧ r < (nI n_size)))) (fun u t => (u = -1 → hasN f_names y0 n_size = false) ∧ (∀ j, j < n_size → u = nI j → f_names j = y0) ∧ va_P (dC, dI) vcl [(a_t, .inr (4, [.ref a_names, .ref a_sides, .ref a_levels, .int (nI n_size)])), (a_names, .inl (ka_names, 12, .inr (.inl f_names)))] t.heap ∧ va_K (dC, dI) vcl [(ka_names, .long)] t ∧ va_D (va_A [(a_t, .inr (4, [.ref a_names, .ref a_sides, .ref a_levels, .int (nI n_size)])), (a_names, .inl (ka_names, 12, .inr (.inl f_names)))] sz) [(a_t, .inr (4, [.ref a_names, .ref a_sides, .ref a_levels, .int (nI n_size)])), (a_names, .inl (ka_names, 12, .inr (.inl f_names)))]) (va_A [(a_t, .inr (4, [.ref a_names, .ref a_sides, .ref a_levels, .int (nI n_size)])), (a_names, .inl (ka_names, 12, .inr (.inl f_names)))] sz)) 0 0 (va_A [(a_t, .inr (4, [.ref a_names, .ref a_sides, .ref a_levels, .int (nI n_size)])), (a_names, .inl (ka_names, 12, .inr (.inl f_names)))] sz) := by
  refine Met.ofW (cc := b_Fixities_find) (maxL := 4) (ret := (some .int)) (by decide) rfl ?_
  intro p e s m args below meth c s₁ B hml hv
  obtain ⟨rfl, hsz, hP, hK, hD0⟩ := hv
  have hx := B.exec
  have hb := B.bytes
  have hr := B.returns
  have hts := atoms_spec (ws := w_Fixities_find) B.pre
  have hz : ∀ w ∈ wz, w.before _ s = true := fun w h => hts w (List.mem_cons_of_mem _ h)
  have hown : s.vm.findClass R_Fixities = some m.cls := findClass_of_methodNamed B.named
  have hlocks := B.notSynchronized
  subst hsz
  have hD := hD0.self (sz := s.heap.size)
  generalize hAe : va_A [(a_t, .inr (4, [.ref a_names, .ref a_sides, .ref a_levels, .int (nI n_size)])), (a_names, .inl (ka_names, 12, .inr (.inl f_names)))] s.heap.size = A at hD ⊢
  have hA : ∀ q : Nat, s.heap.size ≤ q → A q := fun q h => by rw [← hAe]; exact Or.inr h
  have hS : va_S A s.heap s.heap [] := va_S.rf
  have hP : va_P (dC, dI) vcl [(a_t, .inr (4, [.ref a_names, .ref a_sides, .ref a_levels, .int (nI n_size)])), (a_names, .inl (ka_names, 12, .inr (.inl f_names)))] s.heap := hP
  have hl := lv_entry ([.ref a_t, .long y0]) (n := 4) (Nat.le_of_ble_eq_true rfl)
  rw [lg_entry_eq]
  generalize (lg_sl ([.ref a_t, .long y0]) ++ List.replicate (4 - (lg_sl ([.ref a_t, .long y0])).length) Slot.unset).toArray = ls at hl ⊢
  have hl : lv_has ls 4 [(0, .ref a_t), (1, .long y0)] := hl
  refine lv_iconst (v := 0) hx hb d_Fixities_find_0 (by decide) ?_
  refine lv_istore_n hx hb d_Fixities_find_1 rfl hl (by decide) rfl (fun ls hl => ?_)
  have hl : lv_has ls 4 [(3, .int 0), (0, .ref a_t), (1, .long y0)] := hl
  refine xr_loop (α := (Nat)) (fun a => (fun (k3 : Nat) => 12 - k3) a) (fun a H locs ls => (fun (k3 : Nat) => (k3 ≤ 12) ∧ (k3 ≤ n_size) ∧ (hasN f_names y0 k3 = false) ∧ lv_has ls 4 [(3, .int (nI k3)), (0, .ref a_t), (1, .long y0)] ∧ va_P (dC, dI) vcl [(a_t, .inr (4, [.ref a_names, .ref a_sides, .ref a_levels, .int (nI n_size)])), (a_names, .inl (ka_names, 12, .inr (.inl f_names)))] H ∧ va_D A [(a_t, .inr (4, [.ref a_names, .ref a_sides, .ref a_levels, .int (nI n_size)])), (a_names, .inl (ka_names, 12, .inr (.inl f_names)))] ∧ va_S A s.heap H locs) a) (fun a ih2 H locs ls hI => ?_) (0) _ _ _ ⟨by show 0 ≤ 12; first | omega | assumption, by show 0 ≤ n_size; first | omega | assumption, by show hasN f_names y0 0 = false; rfl, hl, hP, hD, hS⟩
  generalize a = k3 at ih2 hI
  obtain ⟨bl0, bl1, bl2, hl, hP, hD, hS⟩ := hI
  have bl0 : k3 ≤ 12 := bl0
  have bl1 : k3 ≤ n_size := bl1
  have bl2 : hasN f_names y0 k3 = false := bl2
  have hl : lv_has ls 4 [(3, .int (nI k3)), (0, .ref a_t), (1, .long y0)] := hl
  have hP : va_P (dC, dI) vcl [(a_t, .inr (4, [.ref a_names, .ref a_sides, .ref a_levels, .int (nI n_size)])), (a_names, .inl (ka_names, 12, .inr (.inl f_names)))] H := hP
  have hD : va_D A [(a_t, .inr (4, [.ref a_names, .ref a_sides, .ref a_levels, .int (nI n_size)])), (a_names, .inl (ka_names, 12, .inr (.inl f_names)))] := hD
  refine lv_iload_n hx hb d_Fixities_find_2 rfl (lv_at hl 0 rfl) ?_
  refine lv_aload_n hx hb d_Fixities_find_3 rfl (lv_at hl 1 rfl) ?_
  refine va_get (D := (dC, dI)) (ci := 4) (v := .int (nI n_size)) (C := R_Fixities) (T := F_Fixities) (N := 4) hx hb hz zu_Fixities hown hK hP 0 rfl rfl 3 (by decide) (hz (.fieldLink R_Fixities 22 "LayoutFront$Fixities" "size" "I") zm_21) (fun _ h9 => h9) rfl d_Fixities_find_4 ?_
  refine lv_icmp_ge (tgt := 29) hx hb d_Fixities_find_7 (by decide) (fun h1 => ?_) (fun h1 => ?_)
  · have h1 : n_size ≤ k3 := (nI_leI (a := n_size) (b := k3) (by omega) (by omega)).mp h1
    refine lv_iconst (v := (-1)) hx hb d_Fixities_find_29 (by decide) ?_
    have hP9 := hP.sub (ws' := [(a_t, .inr (4, [.ref a_names, .ref a_sides, .ref a_levels, .int (nI n_size)])), (a_names, .inl (ka_names, 12, .inr (.inl f_names)))]) [0, 1] rfl
    have hD9 := hD.sub (ws' := [(a_t, .inr (4, [.ref a_names, .ref a_sides, .ref a_levels, .int (nI n_size)])), (a_names, .inl (ka_names, 12, .inr (.inl f_names)))]) [0, 1] (by decide) rfl
    exact W.iret (v := (-1)) hx hb hr (fun t ht hW => ⟨⟨(-1), (-1), rfl, ⟨rfl, Or.inl rfl⟩, by (intro _; have e9 : k3 = n_size := (by omega); rw [← e9]; exact bl2), by exact fd_0 (by omega), by rw [ht]; exact hP9, va_K.moved hW.alike hK, hD9⟩, hS.F ht⟩) hS.2.2 d_Fixities_find_30
  · have h1 : ¬ n_size ≤ k3 := fun q => h1 ((nI_leI (a := n_size) (b := k3) (by omega) (by omega)).mpr q)
    refine lv_aload_n hx hb d_Fixities_find_10 rfl (lv_at hl 1 rfl) ?_
    refine va_get (D := (dC, dI)) (ci := 4) (v := .ref a_names) (C := R_Fixities) (T := F_Fixities) (N := 4) hx hb hz zu_Fixities hown hK hP 0 rfl rfl 0 (by decide) (hz (.fieldLink R_Fixities 9 "LayoutFront$Fixities" "names" "[J") zm_16) (fun _ h9 => h9) rfl d_Fixities_find_11 ?_
    refine lv_iload_n hx hb d_Fixities_find_14 rfl (lv_at hl 0 rfl) ?_
    refine xr_lald (v := (f_names k3)) hx hb hK hP 1 0 rfl rfl (vp_in_nI (by omega) (by omega)) (congrArg f_names (nI_clamp (by omega))) d_Fixities_find_15 ?_
    refine lv_lload_n hx hb d_Fixities_find_16 rfl (lv_at hl 2 rfl) ?_
    refine W.lcmp hx hb d_Fixities_find_17 ?_
    refine lv_if_ne (tgt := 23) hx hb d_Fixities_find_18 (by decide) (fun h3 => ?_) (fun h3 => ?_)
    · have pe := h3
      refine lv_iinc (k := 0) (v := (nI (k3 + 1))) hx hb d_Fixities_find_23 hl rfl (nI_1 k3) (by decide) rfl (fun ls hl => ?_)
      have hl : lv_has ls 4 [(3, .int (nI (k3 + 1))), (0, .ref a_t), (1, .long y0)] := hl
      refine lv_goto (tgt := 2) hx hb d_Fixities_find_26 (by decide) ?_
      have hP9 := hP.sub (ws' := [(a_t, .inr (4, [.ref a_names, .ref a_sides, .ref a_levels, .int (nI n_size)])), (a_names, .inl (ka_names, 12, .inr (.inl f_names)))]) [0, 1] rfl
      have hD9 := hD.sub (ws' := [(a_t, .inr (4, [.ref a_names, .ref a_sides, .ref a_levels, .int (nI n_size)])), (a_names, .inl (ka_names, 12, .inr (.inl f_names)))]) [0, 1] (by decide) rfl
      exact ih2 ((k3 + 1)) (by show 12 - ((k3 + 1)) < 12 - k3; omega) _ _ _ ⟨by show ((k3 + 1)) ≤ 12; first | omega | assumption, by show ((k3 + 1)) ≤ n_size; first | omega | assumption, by show hasN f_names y0 ((k3 + 1)) = false; exact hasN_no bl2 (fun q9 => pe ((lg_cmp_eq _ _).mpr q9)), hl, hP9, hD9, hS⟩
    · have pe := h3
      refine lv_iload_n hx hb d_Fixities_find_21 rfl (lv_at hl 0 rfl) ?_
      have hP9 := hP.sub (ws' := [(a_t, .inr (4, [.ref a_names, .ref a_sides, .ref a_levels, .int (nI n_size)])), (a_names, .inl (ka_names, 12, .inr (.inl f_names)))]) [0, 1] rfl
      have hD9 := hD.sub (ws' := [(a_t, .inr (4, [.ref a_names, .ref a_sides, .ref a_levels, .int (nI n_size)])), (a_names, .inl (ka_names, 12, .inr (.inl f_names)))]) [0, 1] (by decide) rfl
      exact W.iret (v := (nI k3)) hx hb hr (fun t ht hW => ⟨⟨(nI k3), (nI k3), rfl, ⟨rfl, Or.inr ⟨(nI_leI (a := 0) (b := k3) (by omega) (by omega)).mpr (by omega), (nI_ltI (a := k3) (b := n_size) (by omega) (by omega)).mpr (by omega)⟩⟩, by (intro e9; exact absurd e9 (nI_m1 (by omega))), by exact fd_1 (by omega) (by omega) ((lg_cmp_eq _ _).mp pe), by rw [ht]; exact hP9, va_K.moved hW.alike hK, hD9⟩, hS.F ht⟩) hS.2.2 d_Fixities_find_22
set_option maxHeartbeats 4000000 in
set_option maxRecDepth 100000 in
theorem s_Fixities_hasRoomForH (l : Launch) (dC : Nat → ClassId) (dI : Nat → Nat → Nat) (sz : Nat) (a_t : Nat) (a_names : Nat) (f_names : Nat → Int64) (a_sides : Nat) (a_levels : Nat) (n_size : Nat) (y0 : Int64) (ka_names : ClassId) (b_size : n_size ≤ 12) : Met l y_Fixities_hasRoomFor w_Fixities_hasRoomFor ({ frames := 1, cells := 0, slots := 0, locals := 23 }) (va_Pc [.ref a_t, .long y0] (fun U => U.heap.size = sz ∧ va_P (dC, dI) vcl [(a_t, .inr (4, [.ref a_names, .ref a_sides, .ref a_levels, .int (nI n_size)])), (a_names, .inl (ka_names, 12, .inr (.inl f_names)))] U.heap ∧ va_K (dC, dI) vcl [(ka_names, .long)] U ∧ va_D (fun _ => True) [(a_t, .inr (4, [.ref a_names, .ref a_sides, .ref a_levels, .int (nI n_size)])), (a_names, .inl (ka_names, 12, .inr (.inl f_names)))])) (va_Qi (fun (r : Int32) (_ : Unit) => (r = 0 ∨ r = 1) ∧ (r = b01 (decide (n_size < 12) || hasN f_names y0 n_size))) (fun _ t => va_P (dC, dI) vcl [(a_t, .inr (4, [.ref a_names, .ref a_sides, .ref a_levels, .int (nI n_size)])), (a_names, .inl (ka_names, 12, .inr (.inl f_names)))] t.heap ∧ va_K (dC, dI) vcl [(ka_names, .long)] t ∧ va_D (va_A [(a_t, .inr (4, [.ref a_names, .ref a_sides, .ref a_levels, .int (nI n_size)])), (a_names, .inl (ka_names, 12, .inr (.inl f_names)))] sz) [(a_t, .inr (4, [.ref a_names, .ref a_sides, .ref a_levels, .int (nI n_size)])), (a_names, .inl (ka_names, 12, .inr (.inl f_names)))]) (va_A [(a_t, .inr (4, [.ref a_names, .ref a_sides, .ref a_levels, .int (nI n_size)])), (a_names, .inl (ka_names, 12, .inr (.inl f_names)))] sz)) 0 0 (va_A [(a_t, .inr (4, [.ref a_names, .ref a_sides, .ref a_levels, .int (nI n_size)])), (a_names, .inl (ka_names, 12, .inr (.inl f_names)))] sz) := by
  refine Met.ofW (cc := b_Fixities_hasRoomFor) (maxL := 3) (ret := (some .boolean)) (by decide) rfl ?_
  intro p e s m args below meth c s₁ B hml hv
  obtain ⟨rfl, hsz, hP, hK, hD0⟩ := hv
  have hx := B.exec
  have hb := B.bytes
  have hr := B.returns
  have hts := atoms_spec (ws := w_Fixities_hasRoomFor) B.pre
  have hz : ∀ w ∈ wz, w.before _ s = true := fun w h => hts w (List.mem_cons_of_mem _ h)
  have hown : s.vm.findClass R_Fixities = some m.cls := findClass_of_methodNamed B.named
  have hlocks := B.notSynchronized
  subst hsz
  have hD := hD0.self (sz := s.heap.size)
  generalize hAe : va_A [(a_t, .inr (4, [.ref a_names, .ref a_sides, .ref a_levels, .int (nI n_size)])), (a_names, .inl (ka_names, 12, .inr (.inl f_names)))] s.heap.size = A at hD ⊢
  have hA : ∀ q : Nat, s.heap.size ≤ q → A q := fun q h => by rw [← hAe]; exact Or.inr h
  have hS : va_S A s.heap s.heap [] := va_S.rf
  have hP : va_P (dC, dI) vcl [(a_t, .inr (4, [.ref a_names, .ref a_sides, .ref a_levels, .int (nI n_size)])), (a_names, .inl (ka_names, 12, .inr (.inl f_names)))] s.heap := hP
  have hl := lv_entry ([.ref a_t, .long y0]) (n := 3) (Nat.le_of_ble_eq_true rfl)
  rw [lg_entry_eq]
  generalize (lg_sl ([.ref a_t, .long y0]) ++ List.replicate (3 - (lg_sl ([.ref a_t, .long y0])).length) Slot.unset).toArray = ls at hl ⊢
  have hl : lv_has ls 3 [(0, .ref a_t), (1, .long y0)] := hl
  refine lv_aload_n hx hb d_Fixities_hasRoomFor_0 rfl (lv_at hl 0 rfl) ?_
  refine va_get (D := (dC, dI)) (ci := 4) (v := .int (nI n_size)) (C := R_Fixities) (T := F_Fixities) (N := 4) hx hb hz zu_Fixities hown hK hP 0 rfl rfl 3 (by decide) (hz (.fieldLink R_Fixities 22 "LayoutFront$Fixities" "size" "I") zm_21) (fun _ h9 => h9) rfl d_Fixities_hasRoomFor_1 ?_
  refine lv_bipush (v := 12) hx hb d_Fixities_hasRoomFor_4 (by decide) ?_
  refine lv_icmp_lt (tgt := 18) hx hb d_Fixities_hasRoomFor_6 (by decide) (fun h1 => ?_) (fun h1 => ?_)
  · have h1 : n_size < 12 := (nI_ltI (a := n_size) (b := 12) (by omega) (by omega)).mp h1
    refine lv_iconst (v := 1) hx hb d_Fixities_hasRoomFor_18 (by decide) ?_
    refine lv_goto (tgt := 23) hx hb d_Fixities_hasRoomFor_19 (by decide) ?_
    have hP9 := hP.sub (ws' := [(a_t, .inr (4, [.ref a_names, .ref a_sides, .ref a_levels, .int (nI n_size)])), (a_names, .inl (ka_names, 12, .inr (.inl f_names)))]) [0, 1] rfl
    have hD9 := hD.sub (ws' := [(a_t, .inr (4, [.ref a_names, .ref a_sides, .ref a_levels, .int (nI n_size)])), (a_names, .inl (ka_names, 12, .inr (.inl f_names)))]) [0, 1] (by decide) rfl
    exact W.zret (v := 1) hx hb hr (by decide +kernel) (fun t ht hW => ⟨⟨1, (), rfl, ⟨(by first | assumption | exact Or.inl rfl | exact Or.inr rfl), (by exact hr_1 (by omega))⟩, by rw [ht]; exact hP9, va_K.moved hW.alike hK, hD9⟩, hS.F ht⟩) hS.2.2 d_Fixities_hasRoomFor_23
  · have h1 : ¬ n_size < 12 := fun q => h1 ((nI_ltI (a := n_size) (b := 12) (by omega) (by omega)).mpr q)
    refine lv_aload_n hx hb d_Fixities_hasRoomFor_9 rfl (lv_at hl 0 rfl) ?_
    refine lv_lload_n hx hb d_Fixities_hasRoomFor_10 rfl (lv_at hl 1 rfl) ?_
    have hPc := hP.sub (ws' := [(a_t, .inr (4, [.ref a_names, .ref a_sides, .ref a_levels, .int (nI n_size)])), (a_names, .inl (ka_names, 12, .inr (.inl f_names)))]) [0, 1] rfl
    have hDc := hD.sub (ws' := [(a_t, .inr (4, [.ref a_names, .ref a_sides, .ref a_levels, .int (nI n_size)])), (a_names, .inl (ka_names, 12, .inr (.inl f_names)))]) [0, 1] (by decide) rfl
    have hKc := hK.sub (tys' := [(ka_names, .long)]) [0] rfl
    have hFc := va_free (wc := [(a_t, .inr (4, [.ref a_names, .ref a_sides, .ref a_levels, .int (nI n_size)])), (a_names, .inl (ka_names, 12, .inr (.inl f_names)))]) hD hS hA [0, 1] rfl
    refine va_calli (va_runV (As := [.long y0]) (rest := []) ⟨hx, hb, hml, hown, hz⟩ (s_Fixities_findH l dC dI s.heap.size a_t a_names f_names a_sides a_levels n_size y0 ka_names (by first | omega | assumption)) (cwV 1 hz (zV zm_22 zm_23 zm_24 zm_25 zm_26) rfl rfl rfl (by decide +kernel) ⟨Nat.le_of_ble_eq_true rfl, Nat.le_of_ble_eq_true rfl⟩) ⟨fun a U g mk q => by obtain ⟨q0, q1, qP, qK, qD⟩ := q; exact ⟨q0, q1, qP, va_K.moved (u := U) (U := U.calling g mk a) (Vm.Alike.refl U.vm) qK, qD⟩, va_recv (q := (R_Fixities, F_Fixities, 4)) (q0 := 0) (ci := 4) hK hP rfl rfl, fun U hU hW => ⟨rfl, by rw [hU], by rw [hU]; exact hPc, va_K.moved hW.alike hKc, hDc.weaken (fun _ _ _ _ => trivial)⟩⟩ rfl rfl hl.1 rfl (lv_room (Nat.le_of_ble_eq_true rfl)) d_Fixities_hasRoomFor_11 ⟨Nat.zero_le _, Nat.zero_le _⟩) hS (fun q _ h => hFc q h) hFc (fun x2 u t H1 locs ht hvm hw_x2 hB hz1 hk1 hS => ?_)
    obtain ⟨hu, hw_x2⟩ := hw_x2
    have hu := hu.symm
    subst hu
    obtain ⟨hq0_11, hq1_11, hP1, hK1, hD1⟩ := hB
    rw [ht] at hP1
    obtain ⟨hP, hD⟩ := va_join (wr := []) (w1 := [(a_t, .inr (4, [.ref a_names, .ref a_sides, .ref a_levels, .int (nI n_size)])), (a_names, .inl (ka_names, 12, .inr (.inl f_names)))]) hP hD [0, 1] [] rfl rfl (by decide) (by decide) hk1 hFc hP1 hD1
    generalize H1 = H at hP hS ⊢
    have hP : va_P (dC, dI) vcl [(a_t, .inr (4, [.ref a_names, .ref a_sides, .ref a_levels, .int (nI n_size)])), (a_names, .inl (ka_names, 12, .inr (.inl f_names)))] H := hP
    have hD : va_D A [(a_t, .inr (4, [.ref a_names, .ref a_sides, .ref a_levels, .int (nI n_size)])), (a_names, .inl (ka_names, 12, .inr (.inl f_names)))] := hD
    refine lv_iconst (v := (-1)) hx hb d_Fixities_hasRoomFor_14 (by decide) ?_
    refine lv_icmp_eq (tgt := 22) hx hb d_Fixities_hasRoomFor_15 (by decide) (fun h3 => ?_) (fun h3 => ?_)
    · refine lv_iconst (v := 0) hx hb d_Fixities_hasRoomFor_22 (by decide) ?_
      have hP9 := hP.sub (ws' := [(a_t, .inr (4, [.ref a_names, .ref a_sides, .ref a_levels, .int (nI n_size)])), (a_names, .inl (ka_names, 12, .inr (.inl f_names)))]) [0, 1] rfl
      have hD9 := hD.sub (ws' := [(a_t, .inr (4, [.ref a_names, .ref a_sides, .ref a_levels, .int (nI n_size)])), (a_names, .inl (ka_names, 12, .inr (.inl f_names)))]) [0, 1] (by decide) rfl
      exact W.zret (v := 0) hx hb hr (by decide +kernel) (fun t ht hW => ⟨⟨0, (), rfl, ⟨(by first | assumption | exact Or.inl rfl | exact Or.inr rfl), (by exact hr_0 (by omega) (hq0_11 (by assumption)))⟩, by rw [ht]; exact hP9, va_K.moved hW.alike hK, hD9⟩, hS.F ht⟩) hS.2.2 d_Fixities_hasRoomFor_23
    · obtain ⟨j4, l_j4, e_j4⟩ := xr_nat (hw_x2.resolve_left h3) (by omega)
      subst e_j4
      have hl : lv_has ls 3 [(0, .ref a_t), (1, .long y0)] := hl
      refine lv_iconst (v := 1) hx hb d_Fixities_hasRoomFor_18 (by decide) ?_
      refine lv_goto (tgt := 23) hx hb d_Fixities_hasRoomFor_19 (by decide) ?_
      have hP9 := hP.sub (ws' := [(a_t, .inr (4, [.ref a_names, .ref a_sides, .ref a_levels, .int (nI n_size)])), (a_names, .inl (ka_names, 12, .inr (.inl f_names)))]) [0, 1] rfl
      have hD9 := hD.sub (ws' := [(a_t, .inr (4, [.ref a_names, .ref a_sides, .ref a_levels, .int (nI n_size)])), (a_names, .inl (ka_names, 12, .inr (.inl f_names)))]) [0, 1] (by decide) rfl
      exact W.zret (v := 1) hx hb hr (by decide +kernel) (fun t ht hW => ⟨⟨1, (), rfl, ⟨(by first | assumption | exact Or.inl rfl | exact Or.inr rfl), (by exact hr_2 (hasN_of _ (by assumption) (hq1_11 _ (by assumption) rfl)))⟩, by rw [ht]; exact hP9, va_K.moved hW.alike hK, hD9⟩, hS.F ht⟩) hS.2.2 d_Fixities_hasRoomFor_23
set_option maxHeartbeats 4000000 in
set_option maxRecDepth 100000 in
theorem s_Fixities_setSa (l : Launch) (dC : Nat → ClassId) (dI : Nat → Nat → Nat) (sz : Nat) (a_t : Nat) (a_names : Nat) (f_names : Nat → Int64) (a_sides : Nat) (f_sides : Nat → Int32) (a_levels : Nat) (f_levels : Nat → Int32) (n_size : Nat) (y0 : Int64) (y1 : Int32) (y2 : Int32) (ka_names : ClassId) (ka_sides : ClassId) (ka_levels : ClassId) (b_size : n_size ≤ 12) (hp0 : hasN f_names y0 n_size = true) : Met l y_Fixities_set w_Fixities_set ({ frames := 1, cells := 0, slots := 0, locals := 40 }) (va_Pc [.ref a_t, .long y0, .int y1, .int y2] (fun U => U.heap.size = sz ∧ va_P (dC, dI) vcl [(a_t, .inr (4, [.ref a_names, .ref a_sides, .ref a_levels, .int (nI n_size)])), (a_names, .inl (ka_names, 12, .inr (.inl f_names))), (a_sides, .inl (ka_sides, 12, .inl f_sides)), (a_levels, .inl (ka_levels, 12, .inl f_levels))] U.heap ∧ va_K (dC, dI) vcl [(ka_names, .long), (ka_sides, .int), (ka_levels, .int)] U ∧ va_D (fun _ => True) [(a_t, .inr (4, [.ref a_names, .ref a_sides, .ref a_levels, .int (nI n_size)])), (a_names, .inl (ka_names, 12, .inr (.inl f_names))), (a_sides, .inl (ka_sides, 12, .inl f_sides)), (a_levels, .inl (ka_levels, 12, .inl f_levels))])) (va_Qv (fun (_ : Unit) => True) (fun _ t => ∃ (w_n_size : Nat) (w_f_names : Nat → Int64) (w_f_sides : Nat → Int32) (w_f_levels : Nat → Int32), (w_n_size ≤ 12) ∧ (w_n_size = n_size) ∧ (∀ j, j < n_size → w_f_names j = f_names j) ∧ va_P (dC, dI) vcl [(a_t, .inr (4, [.ref a_names, .ref a_sides, .ref a_levels, .int (nI w_n_size)])), (a_names, .inl (ka_names, 12, .inr (.inl w_f_names))), (a_sides, .inl (ka_sides, 12, .inl w_f_sides)), (a_levels, .inl (ka_levels, 12, .inl w_f_levels))] t.heap ∧ va_K (dC, dI) vcl [(ka_names, .long), (ka_sides, .int), (ka_levels, .int)] t ∧ va_D (va_A [(a_t, .inr (4, [.ref a_names, .ref a_sides, .ref a_levels, .int (nI n_size)])), (a_names, .inl (ka_names, 12, .inr (.inl f_names))), (a_sides, .inl (ka_sides, 12, .inl f_sides)), (a_levels, .inl (ka_levels, 12, .inl f_levels))] sz) [(a_t, .inr (4, [.ref a_names, .ref a_sides, .ref a_levels, .int (nI w_n_size)])), (a_names, .inl (ka_names, 12, .inr (.inl w_f_names))), (a_sides, .inl (ka_sides, 12, .inl w_f_sides)), (a_levels, .inl (ka_levels, 12, .inl w_f_levels))]) (va_A [(a_t, .inr (4, [.ref a_names, .ref a_sides, .ref a_levels, .int (nI n_size)])), (a_names, .inl (ka_names, 12, .inr (.inl f_names))), (a_sides, .inl (ka_sides, 12, .inl f_sides)), (a_levels, .inl (ka_levels, 12, .inl f_levels))] sz)) 0 0 (va_A [(a_t, .inr (4, [.ref a_names, .ref a_sides, .ref a_levels, .int (nI n_size)])), (a_names, .inl (ka_names, 12, .inr (.inl f_names))), (a_sides, .inl (ka_sides, 12, .inl f_sides)), (a_levels, .inl (ka_levels, 12, .inl f_levels))] sz) := by
  refine Met.ofW (cc := b_Fixities_set) (maxL := 6) (ret := none) (by decide) rfl ?_
  intro p e s m args below meth c s₁ B hml hv
  obtain ⟨rfl, hsz, hP, hK, hD0⟩ := hv
  have hx := B.exec
  have hb := B.bytes
  have hr := B.returns
  have hts := atoms_spec (ws := w_Fixities_set) B.pre
  have hz : ∀ w ∈ wz, w.before _ s = true := fun w h => hts w (List.mem_cons_of_mem _ h)
  have hown : s.vm.findClass R_Fixities = some m.cls := findClass_of_methodNamed B.named
  have hlocks := B.notSynchronized
  subst hsz
  have hD := hD0.self (sz := s.heap.size)
  generalize hAe : va_A [(a_t, .inr (4, [.ref a_names, .ref a_sides, .ref a_levels, .int (nI n_size)])), (a_names, .inl (ka_names, 12, .inr (.inl f_names))), (a_sides, .inl (ka_sides, 12, .inl f_sides)), (a_levels, .inl (ka_levels, 12, .inl f_levels))] s.heap.size = A at hD ⊢
  have hA : ∀ q : Nat, s.heap.size ≤ q → A q := fun q h => by rw [← hAe]; exact Or.inr h
  have hS : va_S A s.heap s.heap [] := va_S.rf
  have hP : va_P (dC, dI) vcl [(a_t, .inr (4, [.ref a_names, .ref a_sides, .ref a_levels, .int (nI n_size)])), (a_names, .inl (ka_names, 12, .inr (.inl f_names))), (a_sides, .inl (ka_sides, 12, .inl f_sides)), (a_levels, .inl (ka_levels, 12, .inl f_levels))] s.heap := hP
  have hl := lv_entry ([.ref a_t, .long y0, .int y1, .int y2]) (n := 6) (Nat.le_of_ble_eq_true rfl)
  rw [lg_entry_eq]
  generalize (lg_sl ([.ref a_t, .long y0, .int y1, .int y2]) ++ List.replicate (6 - (lg_sl ([.ref a_t, .long y0, .int y1, .int y2])).length) Slot.unset).toArray = ls at hl ⊢
  have hl : lv_has ls 6 [(0, .ref a_t), (1, .long y0), (3, .int y1), (4, .int y2)] := hl
  refine lv_aload_n hx hb d_Fixities_set_0 rfl (lv_at hl 0 rfl) ?_
  refine lv_lload_n hx hb d_Fixities_set_1 rfl (lv_at hl 1 rfl) ?_
  have hPc := hP.sub (ws' := [(a_t, .inr (4, [.ref a_names, .ref a_sides, .ref a_levels, .int (nI n_size)])), (a_names, .inl (ka_names, 12, .inr (.inl f_names)))]) [0, 1] rfl
  have hDc := hD.sub (ws' := [(a_t, .inr (4, [.ref a_names, .ref a_sides, .ref a_levels, .int (nI n_size)])), (a_names, .inl (ka_names, 12, .inr (.inl f_names)))]) [0, 1] (by decide) rfl
  have hKc := hK.sub (tys' := [(ka_names, .long)]) [0] rfl
  have hFc := va_free (wc := [(a_t, .inr (4, [.ref a_names, .ref a_sides, .ref a_levels, .int (nI n_size)])), (a_names, .inl (ka_names, 12, .inr (.inl f_names)))]) hD hS hA [0, 1] rfl
  refine va_calli (va_runV (As := [.long y0]) (rest := []) ⟨hx, hb, hml, hown, hz⟩ (s_Fixities_findH l dC dI s.heap.size a_t a_names f_names a_sides a_levels n_size y0 ka_names (by first | omega | assumption)) (cwV 1 hz (zV zm_22 zm_23 zm_24 zm_25 zm_26) rfl rfl rfl (by decide +kernel) ⟨Nat.le_of_ble_eq_true rfl, Nat.le_of_ble_eq_true rfl⟩) ⟨fun a U g mk q => by obtain ⟨q0, q1, qP, qK, qD⟩ := q; exact ⟨q0, q1, qP, va_K.moved (u := U) (U := U.calling g mk a) (Vm.Alike.refl U.vm) qK, qD⟩, va_recv (q := (R_Fixities, F_Fixities, 4)) (q0 := 0) (ci := 4) hK hP rfl rfl, fun U hU hW => ⟨rfl, by rw [hU], by rw [hU]; exact hPc, va_K.moved hW.alike hKc, hDc.weaken (fun _ _ _ _ => trivial)⟩⟩ rfl rfl hl.1 rfl (lv_room (Nat.le_of_ble_eq_true rfl)) d_Fixities_set_2 ⟨Nat.zero_le _, Nat.zero_le _⟩) hS (fun q _ h => hFc q h) hFc (fun x1 u t H1 locs ht hvm hw_x1 hB hz1 hk1 hS => ?_)
  obtain ⟨hu, hw_x1⟩ := hw_x1
  have hu := hu.symm
  subst hu
  obtain ⟨hq0_2, hq1_2, hP1, hK1, hD1⟩ := hB
  rw [ht] at hP1
  obtain ⟨hP, hD⟩ := va_join (wr := [(a_sides, .inl (ka_sides, 12, .inl f_sides)), (a_levels, .inl (ka_levels, 12, .inl f_levels))]) (w1 := [(a_t, .inr (4, [.ref a_names, .ref a_sides, .ref a_levels, .int (nI n_size)])), (a_names, .inl (ka_names, 12, .inr (.inl f_names)))]) hP hD [0, 1] [2, 3] rfl rfl (by decide) (by decide) hk1 hFc hP1 hD1
  generalize H1 = H at hP hS ⊢
  have hP : va_P (dC, dI) vcl [(a_sides, .inl (ka_sides, 12, .inl f_sides)), (a_levels, .inl (ka_levels, 12, .inl f_levels)), (a_t, .inr (4, [.ref a_names, .ref a_sides, .ref a_levels, .int (nI n_size)])), (a_names, .inl (ka_names, 12, .inr (.inl f_names)))] H := hP
  have hD : va_D A [(a_sides, .inl (ka_sides, 12, .inl f_sides)), (a_levels, .inl (ka_levels, 12, .inl f_levels)), (a_t, .inr (4, [.ref a_names, .ref a_sides, .ref a_levels, .int (nI n_size)])), (a_names, .inl (ka_names, 12, .inr (.inl f_names)))] := hD
  refine lv_istore hx hb d_Fixities_set_5 hl (by decide) rfl (fun ls hl => ?_)
  have hl : lv_has ls 6 [(5, .int x1), (0, .ref a_t), (1, .long y0), (3, .int y1), (4, .int y2)] := hl
  refine lv_iload hx hb d_Fixities_set_7 (lv_at hl 0 rfl) ?_
  refine lv_iconst (v := (-1)) hx hb d_Fixities_set_9 (by decide) ?_
  refine lv_icmp_ne (tgt := 19) hx hb d_Fixities_set_10 (by decide) (fun h2 => ?_) (fun h2 => ?_)
  · obtain ⟨j3, l_j3, e_j3⟩ := xr_nat (hw_x1.resolve_left h2) (by omega)
    subst e_j3
    have hl : lv_has ls 6 [(5, .int (nI j3)), (0, .ref a_t), (1, .long y0), (3, .int y1), (4, .int y2)] := hl
    refine lv_iload hx hb d_Fixities_set_19 (lv_at hl 0 rfl) ?_
    refine lv_bipush (v := 12) hx hb d_Fixities_set_21 (by decide) ?_
    refine lv_icmp_ge (tgt := 66) hx hb d_Fixities_set_23 (by decide) (fun h4 => ?_) (fun h4 => ?_)
    · have h4 : 12 ≤ j3 := (nI_leI (a := 12) (b := j3) (by omega) (by omega)).mp h4
      (exfalso; omega)
    · have h4 : ¬ 12 ≤ j3 := fun q => h4 ((nI_leI (a := 12) (b := j3) (by omega) (by omega)).mpr q)
      refine lv_aload_n hx hb d_Fixities_set_26 rfl (lv_at hl 1 rfl) ?_
      refine va_get (D := (dC, dI)) (ci := 4) (v := .ref a_names) (C := R_Fixities) (T := F_Fixities) (N := 4) hx hb hz zu_Fixities hown hK hP 2 rfl rfl 0 (by decide) (hz (.fieldLink R_Fixities 9 "LayoutFront$Fixities" "names" "[J") zm_16) (fun _ h9 => h9) rfl d_Fixities_set_27 ?_
      refine lv_iload hx hb d_Fixities_set_30 (lv_at hl 0 rfl) ?_
      refine lv_lload_n hx hb d_Fixities_set_32 rfl (lv_at hl 2 rfl) ?_
      refine va_last hx hb hK hP hD hS 3 0 rfl rfl (vp_in_nI (by omega) (by omega)) d_Fixities_set_33 (fun H locs hP hD hS => ?_)
      rw [show ((nI j3) : Int32).toNatClampNeg = j3 from nI_clamp (by omega)] at hP hD
      generalize hf_f5 : vp_updL f_names j3 y0 = f5 at hP hD
      have hP : va_P (dC, dI) vcl [(a_sides, .inl (ka_sides, 12, .inl f_sides)), (a_levels, .inl (ka_levels, 12, .inl f_levels)), (a_t, .inr (4, [.ref a_names, .ref a_sides, .ref a_levels, .int (nI n_size)])), (a_names, .inl (ka_names, 12, .inr (.inl f5)))] H := hP
      have hD : va_D A [(a_sides, .inl (ka_sides, 12, .inl f_sides)), (a_levels, .inl (ka_levels, 12, .inl f_levels)), (a_t, .inr (4, [.ref a_names, .ref a_sides, .ref a_levels, .int (nI n_size)])), (a_names, .inl (ka_names, 12, .inr (.inl f5)))] := hD
      refine lv_aload_n hx hb d_Fixities_set_34 rfl (lv_at hl 1 rfl) ?_
      refine va_get (D := (dC, dI)) (ci := 4) (v := .ref a_sides) (C := R_Fixities) (T := F_Fixities) (N := 4) hx hb hz zu_Fixities hown hK hP 2 rfl rfl 1 (by decide) (hz (.fieldLink R_Fixities 15 "LayoutFront$Fixities" "sides" "[I") zm_18) (fun _ h9 => h9) rfl d_Fixities_set_35 ?_
      refine lv_iload hx hb d_Fixities_set_38 (lv_at hl 0 rfl) ?_
      refine lv_iload_n hx hb d_Fixities_set_40 rfl (lv_at hl 3 rfl) ?_
      refine va_iast hx hb hK hP hD hS 0 1 rfl rfl (vp_in_nI (by omega) (by omega)) d_Fixities_set_41 (fun H locs hP hD hS => ?_)
      rw [show ((nI j3) : Int32).toNatClampNeg = j3 from nI_clamp (by omega)] at hP hD
      generalize hf_f6 : upd f_sides j3 y1 = f6 at hP hD
      have hP : va_P (dC, dI) vcl [(a_sides, .inl (ka_sides, 12, .inl f6)), (a_levels, .inl (ka_levels, 12, .inl f_levels)), (a_t, .inr (4, [.ref a_names, .ref a_sides, .ref a_levels, .int (nI n_size)])), (a_names, .inl (ka_names, 12, .inr (.inl f5)))] H := hP
      have hD : va_D A [(a_sides, .inl (ka_sides, 12, .inl f6)), (a_levels, .inl (ka_levels, 12, .inl f_levels)), (a_t, .inr (4, [.ref a_names, .ref a_sides, .ref a_levels, .int (nI n_size)])), (a_names, .inl (ka_names, 12, .inr (.inl f5)))] := hD
      refine lv_aload_n hx hb d_Fixities_set_42 rfl (lv_at hl 1 rfl) ?_
      refine va_get (D := (dC, dI)) (ci := 4) (v := .ref a_levels) (C := R_Fixities) (T := F_Fixities) (N := 4) hx hb hz zu_Fixities hown hK hP 2 rfl rfl 2 (by decide) (hz (.fieldLink R_Fixities 19 "LayoutFront$Fixities" "levels" "[I") zm_19) (fun _ h9 => h9) rfl d_Fixities_set_43 ?_
      refine lv_iload hx hb d_Fixities_set_46 (lv_at hl 0 rfl) ?_
      refine lv_iload hx hb d_Fixities_set_48 (lv_at hl 4 rfl) ?_
      refine va_iast hx hb hK hP hD hS 1 2 rfl rfl (vp_in_nI (by omega) (by omega)) d_Fixities_set_50 (fun H locs hP hD hS => ?_)
      rw [show ((nI j3) : Int32).toNatClampNeg = j3 from nI_clamp (by omega)] at hP hD
      generalize hf_f7 : upd f_levels j3 y2 = f7 at hP hD
      have hP : va_P (dC, dI) vcl [(a_sides, .inl (ka_sides, 12, .inl f6)), (a_levels, .inl (ka_levels, 12, .inl f7)), (a_t, .inr (4, [.ref a_names, .ref a_sides, .ref a_levels, .int (nI n_size)])), (a_names, .inl (ka_names, 12, .inr (.inl f5)))] H := hP
      have hD : va_D A [(a_sides, .inl (ka_sides, 12, .inl f6)), (a_levels, .inl (ka_levels, 12, .inl f7)), (a_t, .inr (4, [.ref a_names, .ref a_sides, .ref a_levels, .int (nI n_size)])), (a_names, .inl (ka_names, 12, .inr (.inl f5)))] := hD
      refine lv_aload_n hx hb d_Fixities_set_51 rfl (lv_at hl 1 rfl) ?_
      refine lv_aload_n hx hb d_Fixities_set_52 rfl (lv_at hl 1 rfl) ?_
      refine va_get (D := (dC, dI)) (ci := 4) (v := .int (nI n_size)) (C := R_Fixities) (T := F_Fixities) (N := 4) hx hb hz zu_Fixities hown hK hP 2 rfl rfl 3 (by decide) (hz (.fieldLink R_Fixities 22 "LayoutFront$Fixities" "size" "I") zm_21) (fun _ h9 => h9) rfl d_Fixities_set_53 ?_
      refine lv_iload hx hb d_Fixities_set_56 (lv_at hl 0 rfl) ?_
      refine lv_iconst (v := 1) hx hb d_Fixities_set_58 (by decide) ?_
      refine xr_iadd (v := (nI (j3 + 1))) hx hb d_Fixities_set_59 (nI_add j3 1) ?_
      refine xr_max (v := (nI (max n_size (j3 + 1)))) hx hb (hml.trans hl.1.symm) hown (hz (.methodLink R_Fixities 30 Lib.Math.max.name) zm_27) (hz (.static Lib.Math.max.name) zm_1023) (hz (.initialized "java/lang/Math") zm_1024) (hz (.code Lib.Math.max.name Lib.Math.max.code 2 (some .int)) zm_1025) (Nat.le_of_ble_eq_true rfl) (Nat.le_of_ble_eq_true rfl) (Nat.le_of_ble_eq_true rfl) (Nat.le_of_ble_eq_true rfl) d_Fixities_set_60 (xr_maxn (by omega) (by omega)) ?_
      refine va_put (D := (dC, dI)) (ci := 4) (v := .int (nI (max n_size (j3 + 1)))) (ty := .int) (C := R_Fixities) (T := F_Fixities) (N := 4) hx hb hz zu_Fixities t_Fixities t_Fixities_ok n_Fixities hown hK hP hD hS 2 rfl rfl 3 (by decide) (hz (.fieldLink R_Fixities 22 "LayoutFront$Fixities" "size" "I") zm_21) (fun _ h9 => h9) rfl (by decide +kernel) rfl rfl (Nat.le_of_ble_eq_true rfl) d_Fixities_set_63 (fun H locs hP hD hS => ?_)
      have hP : va_P (dC, dI) vcl [(a_sides, .inl (ka_sides, 12, .inl f6)), (a_levels, .inl (ka_levels, 12, .inl f7)), (a_t, .inr (4, [.ref a_names, .ref a_sides, .ref a_levels, .int (nI (max n_size (j3 + 1)))])), (a_names, .inl (ka_names, 12, .inr (.inl f5)))] H := hP
      have hD : va_D A [(a_sides, .inl (ka_sides, 12, .inl f6)), (a_levels, .inl (ka_levels, 12, .inl f7)), (a_t, .inr (4, [.ref a_names, .ref a_sides, .ref a_levels, .int (nI (max n_size (j3 + 1)))])), (a_names, .inl (ka_names, 12, .inr (.inl f5)))] := hD
      have hP9 := hP.sub (ws' := [(a_t, .inr (4, [.ref a_names, .ref a_sides, .ref a_levels, .int (nI (max n_size (j3 + 1)))])), (a_names, .inl (ka_names, 12, .inr (.inl f5))), (a_sides, .inl (ka_sides, 12, .inl f6)), (a_levels, .inl (ka_levels, 12, .inl f7))]) [2, 3, 0, 1] rfl
      have hD9 := hD.sub (ws' := [(a_t, .inr (4, [.ref a_names, .ref a_sides, .ref a_levels, .int (nI (max n_size (j3 + 1)))])), (a_names, .inl (ka_names, 12, .inr (.inl f5))), (a_sides, .inl (ka_sides, 12, .inl f6)), (a_levels, .inl (ka_levels, 12, .inl f7))]) [2, 3, 0, 1] (by decide) rfl
      exact W.vret hx hb hr (fun t ht hW => ⟨⟨(), rfl, trivial, ((max n_size (j3 + 1))), f5, f6, f7, by first | omega | assumption, by omega, by exact nm_0 (by assumption) (hq1_2 _ (by assumption) rfl) (by assumption), by rw [ht]; exact hP9, va_K.moved hW.alike hK, hD9⟩, hS.F ht⟩) hS.2.2 d_Fixities_set_66
  · exact yn hp0 (hq0_2 h2)
set_option maxHeartbeats 4000000 in
set_option maxRecDepth 100000 in
theorem s_Fixities_setSb (l : Launch) (dC : Nat → ClassId) (dI : Nat → Nat → Nat) (sz : Nat) (a_t : Nat) (a_names : Nat) (f_names : Nat → Int64) (a_sides : Nat) (f_sides : Nat → Int32) (a_levels : Nat) (f_levels : Nat → Int32) (n_size : Nat) (y0 : Int64) (y1 : Int32) (y2 : Int32) (ka_names : ClassId) (ka_sides : ClassId) (ka_levels : ClassId) (b_size : n_size ≤ 12) (hp0 : hasN f_names y0 n_size = false) (hp1 : n_size < 12) : Met l y_Fixities_set w_Fixities_set ({ frames := 1, cells := 0, slots := 0, locals := 40 }) (va_Pc [.ref a_t, .long y0, .int y1, .int y2] (fun U => U.heap.size = sz ∧ va_P (dC, dI) vcl [(a_t, .inr (4, [.ref a_names, .ref a_sides, .ref a_levels, .int (nI n_size)])), (a_names, .inl (ka_names, 12, .inr (.inl f_names))), (a_sides, .inl (ka_sides, 12, .inl f_sides)), (a_levels, .inl (ka_levels, 12, .inl f_levels))] U.heap ∧ va_K (dC, dI) vcl [(ka_names, .long), (ka_sides, .int), (ka_levels, .int)] U ∧ va_D (fun _ => True) [(a_t, .inr (4, [.ref a_names, .ref a_sides, .ref a_levels, .int (nI n_size)])), (a_names, .inl (ka_names, 12, .inr (.inl f_names))), (a_sides, .inl (ka_sides, 12, .inl f_sides)), (a_levels, .inl (ka_levels, 12, .inl f_levels))])) (va_Qv (fun (_ : Unit) => True) (fun _ t => ∃ (w_n_size : Nat) (w_f_names : Nat → Int64) (w_f_sides : Nat → Int32) (w_f_levels : Nat → Int32), (w_n_size ≤ 12) ∧ (w_n_size = n_size + 1) ∧ (∀ j, j < n_size → w_f_names j = f_names j) ∧ (w_f_names n_size = y0) ∧ va_P (dC, dI) vcl [(a_t, .inr (4, [.ref a_names, .ref a_sides, .ref a_levels, .int (nI w_n_size)])), (a_names, .inl (ka_names, 12, .inr (.inl w_f_names))), (a_sides, .inl (ka_sides, 12, .inl w_f_sides)), (a_levels, .inl (ka_levels, 12, .inl w_f_levels))] t.heap ∧ va_K (dC, dI) vcl [(ka_names, .long), (ka_sides, .int), (ka_levels, .int)] t ∧ va_D (va_A [(a_t, .inr (4, [.ref a_names, .ref a_sides, .ref a_levels, .int (nI n_size)])), (a_names, .inl (ka_names, 12, .inr (.inl f_names))), (a_sides, .inl (ka_sides, 12, .inl f_sides)), (a_levels, .inl (ka_levels, 12, .inl f_levels))] sz) [(a_t, .inr (4, [.ref a_names, .ref a_sides, .ref a_levels, .int (nI w_n_size)])), (a_names, .inl (ka_names, 12, .inr (.inl w_f_names))), (a_sides, .inl (ka_sides, 12, .inl w_f_sides)), (a_levels, .inl (ka_levels, 12, .inl w_f_levels))]) (va_A [(a_t, .inr (4, [.ref a_names, .ref a_sides, .ref a_levels, .int (nI n_size)])), (a_names, .inl (ka_names, 12, .inr (.inl f_names))), (a_sides, .inl (ka_sides, 12, .inl f_sides)), (a_levels, .inl (ka_levels, 12, .inl f_levels))] sz)) 0 0 (va_A [(a_t, .inr (4, [.ref a_names, .ref a_sides, .ref a_levels, .int (nI n_size)])), (a_names, .inl (ka_names, 12, .inr (.inl f_names))), (a_sides, .inl (ka_sides, 12, .inl f_sides)), (a_levels, .inl (ka_levels, 12, .inl f_levels))] sz) := by
  refine Met.ofW (cc := b_Fixities_set) (maxL := 6) (ret := none) (by decide) rfl ?_
  intro p e s m args below meth c s₁ B hml hv
  obtain ⟨rfl, hsz, hP, hK, hD0⟩ := hv
  have hx := B.exec
  have hb := B.bytes
  have hr := B.returns
  have hts := atoms_spec (ws := w_Fixities_set) B.pre
  have hz : ∀ w ∈ wz, w.before _ s = true := fun w h => hts w (List.mem_cons_of_mem _ h)
  have hown : s.vm.findClass R_Fixities = some m.cls := findClass_of_methodNamed B.named
  have hlocks := B.notSynchronized
  subst hsz
  have hD := hD0.self (sz := s.heap.size)
  generalize hAe : va_A [(a_t, .inr (4, [.ref a_names, .ref a_sides, .ref a_levels, .int (nI n_size)])), (a_names, .inl (ka_names, 12, .inr (.inl f_names))), (a_sides, .inl (ka_sides, 12, .inl f_sides)), (a_levels, .inl (ka_levels, 12, .inl f_levels))] s.heap.size = A at hD ⊢
  have hA : ∀ q : Nat, s.heap.size ≤ q → A q := fun q h => by rw [← hAe]; exact Or.inr h
  have hS : va_S A s.heap s.heap [] := va_S.rf
  have hP : va_P (dC, dI) vcl [(a_t, .inr (4, [.ref a_names, .ref a_sides, .ref a_levels, .int (nI n_size)])), (a_names, .inl (ka_names, 12, .inr (.inl f_names))), (a_sides, .inl (ka_sides, 12, .inl f_sides)), (a_levels, .inl (ka_levels, 12, .inl f_levels))] s.heap := hP
  have hl := lv_entry ([.ref a_t, .long y0, .int y1, .int y2]) (n := 6) (Nat.le_of_ble_eq_true rfl)
  rw [lg_entry_eq]
  generalize (lg_sl ([.ref a_t, .long y0, .int y1, .int y2]) ++ List.replicate (6 - (lg_sl ([.ref a_t, .long y0, .int y1, .int y2])).length) Slot.unset).toArray = ls at hl ⊢
  have hl : lv_has ls 6 [(0, .ref a_t), (1, .long y0), (3, .int y1), (4, .int y2)] := hl
  refine lv_aload_n hx hb d_Fixities_set_0 rfl (lv_at hl 0 rfl) ?_
  refine lv_lload_n hx hb d_Fixities_set_1 rfl (lv_at hl 1 rfl) ?_
  have hPc := hP.sub (ws' := [(a_t, .inr (4, [.ref a_names, .ref a_sides, .ref a_levels, .int (nI n_size)])), (a_names, .inl (ka_names, 12, .inr (.inl f_names)))]) [0, 1] rfl
  have hDc := hD.sub (ws' := [(a_t, .inr (4, [.ref a_names, .ref a_sides, .ref a_levels, .int (nI n_size)])), (a_names, .inl (ka_names, 12, .inr (.inl f_names)))]) [0, 1] (by decide) rfl
  have hKc := hK.sub (tys' := [(ka_names, .long)]) [0] rfl
  have hFc := va_free (wc := [(a_t, .inr (4, [.ref a_names, .ref a_sides, .ref a_levels, .int (nI n_size)])), (a_names, .inl (ka_names, 12, .inr (.inl f_names)))]) hD hS hA [0, 1] rfl
  refine va_calli (va_runV (As := [.long y0]) (rest := []) ⟨hx, hb, hml, hown, hz⟩ (s_Fixities_findH l dC dI s.heap.size a_t a_names f_names a_sides a_levels n_size y0 ka_names (by first | omega | assumption)) (cwV 1 hz (zV zm_22 zm_23 zm_24 zm_25 zm_26) rfl rfl rfl (by decide +kernel) ⟨Nat.le_of_ble_eq_true rfl, Nat.le_of_ble_eq_true rfl⟩) ⟨fun a U g mk q => by obtain ⟨q0, q1, qP, qK, qD⟩ := q; exact ⟨q0, q1, qP, va_K.moved (u := U) (U := U.calling g mk a) (Vm.Alike.refl U.vm) qK, qD⟩, va_recv (q := (R_Fixities, F_Fixities, 4)) (q0 := 0) (ci := 4) hK hP rfl rfl, fun U hU hW => ⟨rfl, by rw [hU], by rw [hU]; exact hPc, va_K.moved hW.alike hKc, hDc.weaken (fun _ _ _ _ => trivial)⟩⟩ rfl rfl hl.1 rfl (lv_room (Nat.le_of_ble_eq_true rfl)) d_Fixities_set_2 ⟨Nat.zero_le _, Nat.zero_le _⟩) hS (fun q _ h => hFc q h) hFc (fun x1 u t H1 locs ht hvm hw_x1 hB hz1 hk1 hS => ?_)
  obtain ⟨hu, hw_x1⟩ := hw_x1
  have hu := hu.symm
  subst hu
  obtain ⟨hq0_2, hq1_2, hP1, hK1, hD1⟩ := hB
  rw [ht] at hP1
  obtain ⟨hP, hD⟩ := va_join (wr := [(a_sides, .inl (ka_sides, 12, .inl f_sides)), (a_levels, .inl (ka_levels, 12, .inl f_levels))]) (w1 := [(a_t, .inr (4, [.ref a_names, .ref a_sides, .ref a_levels, .int (nI n_size)])), (a_names, .inl (ka_names, 12, .inr (.inl f_names)))]) hP hD [0, 1] [2, 3] rfl rfl (by decide) (by decide) hk1 hFc hP1 hD1
  generalize H1 = H at hP hS ⊢
  have hP : va_P (dC, dI) vcl [(a_sides, .inl (ka_sides, 12, .inl f_sides)), (a_levels, .inl (ka_levels, 12, .inl f_levels)), (a_t, .inr (4, [.ref a_names, .ref a_sides, .ref a_levels, .int (nI n_size)])), (a_names, .inl (ka_names, 12, .inr (.inl f_names)))] H := hP
  have hD : va_D A [(a_sides, .inl (ka_sides, 12, .inl f_sides)), (a_levels, .inl (ka_levels, 12, .inl f_levels)), (a_t, .inr (4, [.ref a_names, .ref a_sides, .ref a_levels, .int (nI n_size)])), (a_names, .inl (ka_names, 12, .inr (.inl f_names)))] := hD
  refine lv_istore hx hb d_Fixities_set_5 hl (by decide) rfl (fun ls hl => ?_)
  have hl : lv_has ls 6 [(5, .int x1), (0, .ref a_t), (1, .long y0), (3, .int y1), (4, .int y2)] := hl
  refine lv_iload hx hb d_Fixities_set_7 (lv_at hl 0 rfl) ?_
  refine lv_iconst (v := (-1)) hx hb d_Fixities_set_9 (by decide) ?_
  refine lv_icmp_ne (tgt := 19) hx hb d_Fixities_set_10 (by decide) (fun h2 => ?_) (fun h2 => ?_)
  · obtain ⟨j3, l_j3, e_j3⟩ := xr_nat (hw_x1.resolve_left h2) (by omega)
    subst e_j3
    have hl : lv_has ls 6 [(5, .int (nI j3)), (0, .ref a_t), (1, .long y0), (3, .int y1), (4, .int y2)] := hl
    exact yn (hasN_of _ (by assumption) (hq1_2 _ (by assumption) rfl)) hp0
  · refine lv_aload_n hx hb d_Fixities_set_13 rfl (lv_at hl 1 rfl) ?_
    refine va_get (D := (dC, dI)) (ci := 4) (v := .int (nI n_size)) (C := R_Fixities) (T := F_Fixities) (N := 4) hx hb hz zu_Fixities hown hK hP 2 rfl rfl 3 (by decide) (hz (.fieldLink R_Fixities 22 "LayoutFront$Fixities" "size" "I") zm_21) (fun _ h9 => h9) rfl d_Fixities_set_14 ?_
    refine lv_istore hx hb d_Fixities_set_17 hl (by decide) rfl (fun ls hl => ?_)
    have hl : lv_has ls 6 [(5, .int (nI n_size)), (0, .ref a_t), (1, .long y0), (3, .int y1), (4, .int y2)] := hl
    refine lv_iload hx hb d_Fixities_set_19 (lv_at hl 0 rfl) ?_
    refine lv_bipush (v := 12) hx hb d_Fixities_set_21 (by decide) ?_
    refine lv_icmp_ge (tgt := 66) hx hb d_Fixities_set_23 (by decide) (fun h9 => ?_) (fun h9 => ?_)
    · have h9 : 12 ≤ n_size := (nI_leI (a := 12) (b := n_size) (by omega) (by omega)).mp h9
      (exfalso; omega)
    · have h9 : ¬ 12 ≤ n_size := fun q => h9 ((nI_leI (a := 12) (b := n_size) (by omega) (by omega)).mpr q)
      refine lv_aload_n hx hb d_Fixities_set_26 rfl (lv_at hl 1 rfl) ?_
      refine va_get (D := (dC, dI)) (ci := 4) (v := .ref a_names) (C := R_Fixities) (T := F_Fixities) (N := 4) hx hb hz zu_Fixities hown hK hP 2 rfl rfl 0 (by decide) (hz (.fieldLink R_Fixities 9 "LayoutFront$Fixities" "names" "[J") zm_16) (fun _ h9 => h9) rfl d_Fixities_set_27 ?_
      refine lv_iload hx hb d_Fixities_set_30 (lv_at hl 0 rfl) ?_
      refine lv_lload_n hx hb d_Fixities_set_32 rfl (lv_at hl 2 rfl) ?_
      refine va_last hx hb hK hP hD hS 3 0 rfl rfl (vp_in_nI (by omega) (by omega)) d_Fixities_set_33 (fun H locs hP hD hS => ?_)
      rw [show ((nI n_size) : Int32).toNatClampNeg = n_size from nI_clamp (by omega)] at hP hD
      generalize hf_f10 : vp_updL f_names n_size y0 = f10 at hP hD
      have hP : va_P (dC, dI) vcl [(a_sides, .inl (ka_sides, 12, .inl f_sides)), (a_levels, .inl (ka_levels, 12, .inl f_levels)), (a_t, .inr (4, [.ref a_names, .ref a_sides, .ref a_levels, .int (nI n_size)])), (a_names, .inl (ka_names, 12, .inr (.inl f10)))] H := hP
      have hD : va_D A [(a_sides, .inl (ka_sides, 12, .inl f_sides)), (a_levels, .inl (ka_levels, 12, .inl f_levels)), (a_t, .inr (4, [.ref a_names, .ref a_sides, .ref a_levels, .int (nI n_size)])), (a_names, .inl (ka_names, 12, .inr (.inl f10)))] := hD
      refine lv_aload_n hx hb d_Fixities_set_34 rfl (lv_at hl 1 rfl) ?_
      refine va_get (D := (dC, dI)) (ci := 4) (v := .ref a_sides) (C := R_Fixities) (T := F_Fixities) (N := 4) hx hb hz zu_Fixities hown hK hP 2 rfl rfl 1 (by decide) (hz (.fieldLink R_Fixities 15 "LayoutFront$Fixities" "sides" "[I") zm_18) (fun _ h9 => h9) rfl d_Fixities_set_35 ?_
      refine lv_iload hx hb d_Fixities_set_38 (lv_at hl 0 rfl) ?_
      refine lv_iload_n hx hb d_Fixities_set_40 rfl (lv_at hl 3 rfl) ?_
      refine va_iast hx hb hK hP hD hS 0 1 rfl rfl (vp_in_nI (by omega) (by omega)) d_Fixities_set_41 (fun H locs hP hD hS => ?_)
      rw [show ((nI n_size) : Int32).toNatClampNeg = n_size from nI_clamp (by omega)] at hP hD
      generalize hf_f11 : upd f_sides n_size y1 = f11 at hP hD
      have hP : va_P (dC, dI) vcl [(a_sides, .inl (ka_sides, 12, .inl f11)), (a_levels, .inl (ka_levels, 12, .inl f_levels)), (a_t, .inr (4, [.ref a_names, .ref a_sides, .ref a_levels, .int (nI n_size)])), (a_names, .inl (ka_names, 12, .inr (.inl f10)))] H := hP
      have hD : va_D A [(a_sides, .inl (ka_sides, 12, .inl f11)), (a_levels, .inl (ka_levels, 12, .inl f_levels)), (a_t, .inr (4, [.ref a_names, .ref a_sides, .ref a_levels, .int (nI n_size)])), (a_names, .inl (ka_names, 12, .inr (.inl f10)))] := hD
      refine lv_aload_n hx hb d_Fixities_set_42 rfl (lv_at hl 1 rfl) ?_
      refine va_get (D := (dC, dI)) (ci := 4) (v := .ref a_levels) (C := R_Fixities) (T := F_Fixities) (N := 4) hx hb hz zu_Fixities hown hK hP 2 rfl rfl 2 (by decide) (hz (.fieldLink R_Fixities 19 "LayoutFront$Fixities" "levels" "[I") zm_19) (fun _ h9 => h9) rfl d_Fixities_set_43 ?_
      refine lv_iload hx hb d_Fixities_set_46 (lv_at hl 0 rfl) ?_
      refine lv_iload hx hb d_Fixities_set_48 (lv_at hl 4 rfl) ?_
      refine va_iast hx hb hK hP hD hS 1 2 rfl rfl (vp_in_nI (by omega) (by omega)) d_Fixities_set_50 (fun H locs hP hD hS => ?_)
      rw [show ((nI n_size) : Int32).toNatClampNeg = n_size from nI_clamp (by omega)] at hP hD
      generalize hf_f12 : upd f_levels n_size y2 = f12 at hP hD
      have hP : va_P (dC, dI) vcl [(a_sides, .inl (ka_sides, 12, .inl f11)), (a_levels, .inl (ka_levels, 12, .inl f12)), (a_t, .inr (4, [.ref a_names, .ref a_sides, .ref a_levels, .int (nI n_size)])), (a_names, .inl (ka_names, 12, .inr (.inl f10)))] H := hP
      have hD : va_D A [(a_sides, .inl (ka_sides, 12, .inl f11)), (a_levels, .inl (ka_levels, 12, .inl f12)), (a_t, .inr (4, [.ref a_names, .ref a_sides, .ref a_levels, .int (nI n_size)])), (a_names, .inl (ka_names, 12, .inr (.inl f10)))] := hD
      refine lv_aload_n hx hb d_Fixities_set_51 rfl (lv_at hl 1 rfl) ?_
      refine lv_aload_n hx hb d_Fixities_set_52 rfl (lv_at hl 1 rfl) ?_
      refine va_get (D := (dC, dI)) (ci := 4) (v := .int (nI n_size)) (C := R_Fixities) (T := F_Fixities) (N := 4) hx hb hz zu_Fixities hown hK hP 2 rfl rfl 3 (by decide) (hz (.fieldLink R_Fixities 22 "LayoutFront$Fixities" "size" "I") zm_21) (fun _ h9 => h9) rfl d_Fixities_set_53 ?_
      refine lv_iload hx hb d_Fixities_set_56 (lv_at hl 0 rfl) ?_
      refine lv_iconst (v := 1) hx hb d_Fixities_set_58 (by decide) ?_
      refine xr_iadd (v := (nI (n_size + 1))) hx hb d_Fixities_set_59 (nI_add n_size 1) ?_
      refine xr_max (v := (nI (max n_size (n_size + 1)))) hx hb (hml.trans hl.1.symm) hown (hz (.methodLink R_Fixities 30 Lib.Math.max.name) zm_27) (hz (.static Lib.Math.max.name) zm_1023) (hz (.initialized "java/lang/Math") zm_1024) (hz (.code Lib.Math.max.name Lib.Math.max.code 2 (some .int)) zm_1025) (Nat.le_of_ble_eq_true rfl) (Nat.le_of_ble_eq_true rfl) (Nat.le_of_ble_eq_true rfl) (Nat.le_of_ble_eq_true rfl) d_Fixities_set_60 (xr_maxn (by omega) (by omega)) ?_
      refine va_put (D := (dC, dI)) (ci := 4) (v := .int (nI (max n_size (n_size + 1)))) (ty := .int) (C := R_Fixities) (T := F_Fixities) (N := 4) hx hb hz zu_Fixities t_Fixities t_Fixities_ok n_Fixities hown hK hP hD hS 2 rfl rfl 3 (by decide) (hz (.fieldLink R_Fixities 22 "LayoutFront$Fixities" "size" "I") zm_21) (fun _ h9 => h9) rfl (by decide +kernel) rfl rfl (Nat.le_of_ble_eq_true rfl) d_Fixities_set_63 (fun H locs hP hD hS => ?_)
      have hP : va_P (dC, dI) vcl [(a_sides, .inl (ka_sides, 12, .inl f11)), (a_levels, .inl (ka_levels, 12, .inl f12)), (a_t, .inr (4, [.ref a_names, .ref a_sides, .ref a_levels, .int (nI (max n_size (n_size + 1)))])), (a_names, .inl (ka_names, 12, .inr (.inl f10)))] H := hP
      have hD : va_D A [(a_sides, .inl (ka_sides, 12, .inl f11)), (a_levels, .inl (ka_levels, 12, .inl f12)), (a_t, .inr (4, [.ref a_names, .ref a_sides, .ref a_levels, .int (nI (max n_size (n_size + 1)))])), (a_names, .inl (ka_names, 12, .inr (.inl f10)))] := hD
      have hP9 := hP.sub (ws' := [(a_t, .inr (4, [.ref a_names, .ref a_sides, .ref a_levels, .int (nI (max n_size (n_size + 1)))])), (a_names, .inl (ka_names, 12, .inr (.inl f10))), (a_sides, .inl (ka_sides, 12, .inl f11)), (a_levels, .inl (ka_levels, 12, .inl f12))]) [2, 3, 0, 1] rfl
      have hD9 := hD.sub (ws' := [(a_t, .inr (4, [.ref a_names, .ref a_sides, .ref a_levels, .int (nI (max n_size (n_size + 1)))])), (a_names, .inl (ka_names, 12, .inr (.inl f10))), (a_sides, .inl (ka_sides, 12, .inl f11)), (a_levels, .inl (ka_levels, 12, .inl f12))]) [2, 3, 0, 1] (by decide) rfl
      exact W.vret hx hb hr (fun t ht hW => ⟨⟨(), rfl, trivial, ((max n_size (n_size + 1))), f10, f11, f12, by first | omega | assumption, by omega, by exact nm_1 (by assumption), by exact nm_n (by assumption), by rw [ht]; exact hP9, va_K.moved hW.alike hK, hD9⟩, hS.F ht⟩) hS.2.2 d_Fixities_set_66
set_option maxHeartbeats 4000000 in
set_option maxRecDepth 100000 in
theorem s_LF_fixityFa (l : Launch) (dC : Nat → ClassId) (dI : Nat → Nat → Nat) (sz : Nat) (a_t : Nat) (a_text : Nat) (a_fixities : Nat) (a_fixities_names : Nat) (f_fixities_names : Nat → Int64) (a_fixities_sides : Nat) (f_fixities_sides : Nat → Int32) (a_fixities_levels : Nat) (f_fixities_levels : Nat → Int32) (n_fixities_size : Nat) (a_cutter : Nat) (a_blocks : Nat) (a_rows : Nat) (a_tokens : Nat) (a_counts : Nat) (z_wrongPlace : Int32) (y0 : Int64) (y1 : Int32) (y2 : Int32) (ka_fixities_names : ClassId) (ka_fixities_sides : ClassId) (ka_fixities_levels : ClassId) (b_fixities_size : n_fixities_size ≤ 12) (hp0 : hasN f_fixities_names y0 n_fixities_size = true) (hp1 : ¬ wi y1 0 2 = 0) (hp2 : ¬ wi y2 0 9 = 0) : Met l y_LF_fixity w_LF_fixity ({ frames := 2, cells := 0, slots := 0, locals := 65 }) (va_Pc [.ref a_t, .long y0, .int y1, .int y2] (fun U => U.heap.size = sz ∧ va_P (dC, dI) vcl [(a_t, .inr (0, [.ref a_text, .ref a_fixities, .ref a_cutter, .ref a_blocks, .ref a_rows, .ref a_tokens, .ref a_counts, .int z_wrongPlace])), (a_fixities, .inr (4, [.ref a_fixities_names, .ref a_fixities_sides, .ref a_fixities_levels, .int (nI n_fixities_size)])), (a_fixities_names, .inl (ka_fixities_names, 12, .inr (.inl f_fixities_names))), (a_fixities_sides, .inl (ka_fixities_sides, 12, .inl f_fixities_sides)), (a_fixities_levels, .inl (ka_fixities_levels, 12, .inl f_fixities_levels))] U.heap ∧ va_K (dC, dI) vcl [(ka_fixities_names, .long), (ka_fixities_sides, .int), (ka_fixities_levels, .int)] U ∧ va_D (fun _ => True) [(a_t, .inr (0, [.ref a_text, .ref a_fixities, .ref a_cutter, .ref a_blocks, .ref a_rows, .ref a_tokens, .ref a_counts, .int z_wrongPlace])), (a_fixities, .inr (4, [.ref a_fixities_names, .ref a_fixities_sides, .ref a_fixities_levels, .int (nI n_fixities_size)])), (a_fixities_names, .inl (ka_fixities_names, 12, .inr (.inl f_fixities_names))), (a_fixities_sides, .inl (ka_fixities_sides, 12, .inl f_fixities_sides)), (a_fixities_levels, .inl (ka_fixities_levels, 12, .inl f_fixities_levels))] ∧ cx_E (va_A [(a_t, .inr (0, [.ref a_text, .ref a_fixities, .ref a_cutter, .ref a_blocks, .ref a_rows, .ref a_tokens, .ref a_counts, .int z_wrongPlace])), (a_fixities, .inr (4, [.ref a_fixities_names, .ref a_fixities_sides, .ref a_fixities_levels, .int (nI n_fixities_size)])), (a_fixities_names, .inl (ka_fixities_names, 12, .inr (.inl f_fixities_names))), (a_fixities_sides, .inl (ka_fixities_sides, 12, .inl f_fixities_sides)), (a_fixities_levels, .inl (ka_fixities_levels, 12, .inl f_fixities_levels))] sz) U U.heap)) (va_Qi (fun (r : Int32) (_ : Unit) => r = (nI n_fixities_size)) (fun _ t => ∃ (w_n_fixities_size : Nat) (w_f_fixities_names : Nat → Int64) (w_f_fixities_sides : Nat → Int32) (w_f_fixities_levels : Nat → Int32), (w_n_fixities_size ≤ 12) ∧ (w_n_fixities_size = n_fixities_size) ∧ (∀ j, j < n_fixities_size → w_f_fixities_names j = f_fixities_names j) ∧ va_P (dC, dI) vcl [(a_t, .inr (0, [.ref a_text, .ref a_fixities, .ref a_cutter, .ref a_blocks, .ref a_rows, .ref a_tokens, .ref a_counts, .int z_wrongPlace])), (a_fixities, .inr (4, [.ref a_fixities_names, .ref a_fixities_sides, .ref a_fixities_levels, .int (nI w_n_fixities_size)])), (a_fixities_names, .inl (ka_fixities_names, 12, .inr (.inl w_f_fixities_names))), (a_fixities_sides, .inl (ka_fixities_sides, 12, .inl w_f_fixities_sides)), (a_fixities_levels, .inl (ka_fixities_levels, 12, .inl w_f_fixities_levels))] t.heap ∧ va_K (dC, dI) vcl [(ka_fixities_names, .long), (ka_fixities_sides, .int), (ka_fixities_levels, .int)] t ∧ va_D (va_A [(a_t, .inr (0, [.ref a_text, .ref a_fixities, .ref a_cutter, .ref a_blocks, .ref a_rows, .ref a_tokens, .ref a_counts, .int z_wrongPlace])), (a_fixities, .inr (4, [.ref a_fixities_names, .ref a_fixities_sides, .ref a_fixities_levels, .int (nI n_fixities_size)])), (a_fixities_names, .inl (ka_fixities_names, 12, .inr (.inl f_fixities_names))), (a_fixities_sides, .inl (ka_fixities_sides, 12, .inl f_fixities_sides)), (a_fixities_levels, .inl (ka_fixities_levels, 12, .inl f_fixities_levels))] sz) [(a_t, .inr (0, [.ref a_text, .ref a_fixities, .ref a_cutter, .ref a_blocks, .ref a_rows, .ref a_tokens, .ref a_counts, .int z_wrongPlace])), (a_fixities, .inr (4, [.ref a_fixities_names, .ref a_fixities_sides, .ref a_fixities_levels, .int (nI w_n_fixities_size)])), (a_fixities_names, .inl (ka_fixities_names, 12, .inr (.inl w_f_fixities_names))), (a_fixities_sides, .inl (ka_fixities_sides, 12, .inl w_f_fixities_sides)), (a_fixities_levels, .inl (ka_fixities_levels, 12, .inl w_f_fixities_levels))]) (va_A [(a_t, .inr (0, [.ref a_text, .ref a_fixities, .ref a_cutter, .ref a_blocks, .ref a_rows, .ref a_tokens, .ref a_counts, .int z_wrongPlace])), (a_fixities, .inr (4, [.ref a_fixities_names, .ref a_fixities_sides, .ref a_fixities_levels, .int (nI n_fixities_size)])), (a_fixities_names, .inl (ka_fixities_names, 12, .inr (.inl f_fixities_names))), (a_fixities_sides, .inl (ka_fixities_sides, 12, .inl f_fixities_sides)), (a_fixities_levels, .inl (ka_fixities_levels, 12, .inl f_fixities_levels))] sz)) 0 0 (va_A [(a_t, .inr (0, [.ref a_text, .ref a_fixities, .ref a_cutter, .ref a_blocks, .ref a_rows, .ref a_tokens, .ref a_counts, .int z_wrongPlace])), (a_fixities, .inr (4, [.ref a_fixities_names, .ref a_fixities_sides, .ref a_fixities_levels, .int (nI n_fixities_size)])), (a_fixities_names, .inl (ka_fixities_names, 12, .inr (.inl f_fixities_names))), (a_fixities_sides, .inl (ka_fixities_sides, 12, .inl f_fixities_sides)), (a_fixities_levels, .inl (ka_fixities_levels, 12, .inl f_fixities_levels))] sz) := by
  refine Met.ofW (cc := b_LF_fixity) (maxL := 5) (ret := (some .int)) (by decide) rfl ?_
  intro p e s m args below meth c s₁ B hml hv
  obtain ⟨rfl, hsz, hP, hK, hD0, hE⟩ := hv
  have hx := B.exec
  have hb := B.bytes
  have hr := B.returns
  have hts := atoms_spec (ws := w_LF_fixity) B.pre
  have hz : ∀ w ∈ wz, w.before _ s = true := fun w h => hts w (List.mem_cons_of_mem _ h)
  have hown : s.vm.findClass R_LF = some m.cls := findClass_of_methodNamed B.named
  have hlocks := B.notSynchronized
  subst hsz
  have hD := hD0.self (sz := s.heap.size)
  generalize hAe : va_A [(a_t, .inr (0, [.ref a_text, .ref a_fixities, .ref a_cutter, .ref a_blocks, .ref a_rows, .ref a_tokens, .ref a_counts, .int z_wrongPlace])), (a_fixities, .inr (4, [.ref a_fixities_names, .ref a_fixities_sides, .ref a_fixities_levels, .int (nI n_fixities_size)])), (a_fixities_names, .inl (ka_fixities_names, 12, .inr (.inl f_fixities_names))), (a_fixities_sides, .inl (ka_fixities_sides, 12, .inl f_fixities_sides)), (a_fixities_levels, .inl (ka_fixities_levels, 12, .inl f_fixities_levels))] s.heap.size = A at hD hE ⊢
  have hA : ∀ q : Nat, s.heap.size ≤ q → A q := fun q h => by rw [← hAe]; exact Or.inr h
  have hS : va_S A s.heap s.heap [] := va_S.rf
  have hP : va_P (dC, dI) vcl [(a_t, .inr (0, [.ref a_text, .ref a_fixities, .ref a_cutter, .ref a_blocks, .ref a_rows, .ref a_tokens, .ref a_counts, .int z_wrongPlace])), (a_fixities, .inr (4, [.ref a_fixities_names, .ref a_fixities_sides, .ref a_fixities_levels, .int (nI n_fixities_size)])), (a_fixities_names, .inl (ka_fixities_names, 12, .inr (.inl f_fixities_names))), (a_fixities_sides, .inl (ka_fixities_sides, 12, .inl f_fixities_sides)), (a_fixities_levels, .inl (ka_fixities_levels, 12, .inl f_fixities_levels))] s.heap := hP
  have hl := lv_entry ([.ref a_t, .long y0, .int y1, .int y2]) (n := 5) (Nat.le_of_ble_eq_true rfl)
  rw [lg_entry_eq]
  generalize (lg_sl ([.ref a_t, .long y0, .int y1, .int y2]) ++ List.replicate (5 - (lg_sl ([.ref a_t, .long y0, .int y1, .int y2])).length) Slot.unset).toArray = ls at hl ⊢
  have hl : lv_has ls 5 [(0, .ref a_t), (1, .long y0), (3, .int y1), (4, .int y2)] := hl
  refine lv_iload_n hx hb d_LF_fixity_0 rfl (lv_at hl 2 rfl) ?_
  refine lv_if_lt (tgt := 21) hx hb d_LF_fixity_1 (by decide) (fun h1 => ?_) (fun h1 => ?_)
  · exact absurd (wi_l h1) hp1
  · have p1 := h1
    refine lv_iload_n hx hb d_LF_fixity_4 rfl (lv_at hl 2 rfl) ?_
    refine lv_iconst (v := 2) hx hb d_LF_fixity_5 (by decide) ?_
    refine lv_icmp_gt (tgt := 21) hx hb d_LF_fixity_6 (by decide) (fun h2 => ?_) (fun h2 => ?_)
    · exact absurd (wi_g h2) hp1
    · have p2 := h2
      refine lv_iload hx hb d_LF_fixity_9 (lv_at hl 3 rfl) ?_
      refine lv_if_lt (tgt := 21) hx hb d_LF_fixity_11 (by decide) (fun h3 => ?_) (fun h3 => ?_)
      · exact absurd (wi_l h3) hp2
      · have p3 := h3
        refine lv_iload hx hb d_LF_fixity_14 (lv_at hl 3 rfl) ?_
        refine lv_bipush (v := 9) hx hb d_LF_fixity_16 (by decide) ?_
        refine lv_icmp_le (tgt := 31) hx hb d_LF_fixity_18 (by decide) (fun h4 => ?_) (fun h4 => ?_)
        · refine lv_aload_n hx hb d_LF_fixity_31 rfl (lv_at hl 0 rfl) ?_
          refine va_get (D := (dC, dI)) (ci := 0) (v := .ref a_fixities) (C := R_LF) (T := F_LF) (N := 8) hx hb hz zu_LF hown hK hP 0 rfl rfl 1 (by decide) (hz (.fieldLink R_LF 19 "LayoutFront" "fixities" "LLayoutFront$Fixities;") zm_509) (fun _ h9 => h9) rfl d_LF_fixity_32 ?_
          refine lv_lload_n hx hb d_LF_fixity_35 rfl (lv_at hl 1 rfl) ?_
          have hPc := hP.sub (ws' := [(a_fixities, .inr (4, [.ref a_fixities_names, .ref a_fixities_sides, .ref a_fixities_levels, .int (nI n_fixities_size)])), (a_fixities_names, .inl (ka_fixities_names, 12, .inr (.inl f_fixities_names)))]) [1, 2] rfl
          have hDc := hD.sub (ws' := [(a_fixities, .inr (4, [.ref a_fixities_names, .ref a_fixities_sides, .ref a_fixities_levels, .int (nI n_fixities_size)])), (a_fixities_names, .inl (ka_fixities_names, 12, .inr (.inl f_fixities_names)))]) [1, 2] (by decide) rfl
          have hKc := hK.sub (tys' := [(ka_fixities_names, .long)]) [0] rfl
          have hFc := va_free (wc := [(a_fixities, .inr (4, [.ref a_fixities_names, .ref a_fixities_sides, .ref a_fixities_levels, .int (nI n_fixities_size)])), (a_fixities_names, .inl (ka_fixities_names, 12, .inr (.inl f_fixities_names)))]) hD hS hA [1, 2] rfl
          refine va_calli (va_runV (As := [.long y0]) (rest := []) ⟨hx, hb, hml, hown, hz⟩ (s_Fixities_hasRoomForH l dC dI s.heap.size a_fixities a_fixities_names f_fixities_names a_fixities_sides a_fixities_levels n_fixities_size y0 ka_fixities_names (by first | omega | assumption)) (cwV 1 hz (zV zm_553 zm_554 zm_555 zm_25 zm_556) rfl rfl rfl (by decide +kernel) ⟨Nat.le_of_ble_eq_true rfl, Nat.le_of_ble_eq_true rfl⟩) ⟨fun a U g mk q => by obtain ⟨q0, q1, qP, qK, qD⟩ := q; exact ⟨q0, q1, qP, va_K.moved (u := U) (U := U.calling g mk a) (Vm.Alike.refl U.vm) qK, qD⟩, va_recv (q := (R_Fixities, F_Fixities, 4)) (q0 := 1) (ci := 4) hK hP rfl rfl, fun U hU hW => ⟨rfl, by rw [hU], by rw [hU]; exact hPc, va_K.moved hW.alike hKc, hDc.weaken (fun _ _ _ _ => trivial)⟩⟩ rfl rfl hl.1 rfl (lv_room (Nat.le_of_ble_eq_true rfl)) d_LF_fixity_36 ⟨Nat.zero_le _, Nat.zero_le _⟩) hS (fun q _ h => hFc q h) hFc (fun r u t H1 locs ht hvm hw_r hB hz1 hk1 hS => ?_)
          obtain ⟨hP1, hK1, hD1⟩ := hB
          obtain ⟨hb_r, he_r⟩ := hw_r
          subst r
          rw [ht] at hP1
          obtain ⟨hP, hD⟩ := va_join (wr := [(a_t, .inr (0, [.ref a_text, .ref a_fixities, .ref a_cutter, .ref a_blocks, .ref a_rows, .ref a_tokens, .ref a_counts, .int z_wrongPlace])), (a_fixities_sides, .inl (ka_fixities_sides, 12, .inl f_fixities_sides)), (a_fixities_levels, .inl (ka_fixities_levels, 12, .inl f_fixities_levels))]) (w1 := [(a_fixities, .inr (4, [.ref a_fixities_names, .ref a_fixities_sides, .ref a_fixities_levels, .int (nI n_fixities_size)])), (a_fixities_names, .inl (ka_fixities_names, 12, .inr (.inl f_fixities_names)))]) hP hD [1, 2] [0, 3, 4] rfl rfl (by decide) (by decide) hk1 hFc hP1 hD1
          generalize H1 = H at hP hS ⊢
          have hP : va_P (dC, dI) vcl [(a_t, .inr (0, [.ref a_text, .ref a_fixities, .ref a_cutter, .ref a_blocks, .ref a_rows, .ref a_tokens, .ref a_counts, .int z_wrongPlace])), (a_fixities_sides, .inl (ka_fixities_sides, 12, .inl f_fixities_sides)), (a_fixities_levels, .inl (ka_fixities_levels, 12, .inl f_fixities_levels)), (a_fixities, .inr (4, [.ref a_fixities_names, .ref a_fixities_sides, .ref a_fixities_levels, .int (nI n_fixities_size)])), (a_fixities_names, .inl (ka_fixities_names, 12, .inr (.inl f_fixities_names)))] H := hP
          have hD : va_D A [(a_t, .inr (0, [.ref a_text, .ref a_fixities, .ref a_cutter, .ref a_blocks, .ref a_rows, .ref a_tokens, .ref a_counts, .int z_wrongPlace])), (a_fixities_sides, .inl (ka_fixities_sides, 12, .inl f_fixities_sides)), (a_fixities_levels, .inl (ka_fixities_levels, 12, .inl f_fixities_levels)), (a_fixities, .inr (4, [.ref a_fixities_names, .ref a_fixities_sides, .ref a_fixities_levels, .int (nI n_fixities_size)])), (a_fixities_names, .inl (ka_fixities_names, 12, .inr (.inl f_fixities_names)))] := hD
          refine lv_if_ne (tgt := 52) hx hb d_LF_fixity_39 (by decide) (fun h5 => ?_) (fun h5 => ?_)
          · refine lv_aload_n hx hb d_LF_fixity_52 rfl (lv_at hl 0 rfl) ?_
            refine va_get (D := (dC, dI)) (ci := 0) (v := .ref a_fixities) (C := R_LF) (T := F_LF) (N := 8) hx hb hz zu_LF hown hK hP 0 rfl rfl 1 (by decide) (hz (.fieldLink R_LF 19 "LayoutFront" "fixities" "LLayoutFront$Fixities;") zm_509) (fun _ h9 => h9) rfl d_LF_fixity_53 ?_
            refine lv_lload_n hx hb d_LF_fixity_56 rfl (lv_at hl 1 rfl) ?_
            refine lv_iload_n hx hb d_LF_fixity_57 rfl (lv_at hl 2 rfl) ?_
            refine lv_iload hx hb d_LF_fixity_58 (lv_at hl 3 rfl) ?_
            have hPc := hP.sub (ws' := [(a_fixities, .inr (4, [.ref a_fixities_names, .ref a_fixities_sides, .ref a_fixities_levels, .int (nI n_fixities_size)])), (a_fixities_names, .inl (ka_fixities_names, 12, .inr (.inl f_fixities_names))), (a_fixities_sides, .inl (ka_fixities_sides, 12, .inl f_fixities_sides)), (a_fixities_levels, .inl (ka_fixities_levels, 12, .inl f_fixities_levels))]) [3, 4, 1, 2] rfl
            have hDc := hD.sub (ws' := [(a_fixities, .inr (4, [.ref a_fixities_names, .ref a_fixities_sides, .ref a_fixities_levels, .int (nI n_fixities_size)])), (a_fixities_names, .inl (ka_fixities_names, 12, .inr (.inl f_fixities_names))), (a_fixities_sides, .inl (ka_fixities_sides, 12, .inl f_fixities_sides)), (a_fixities_levels, .inl (ka_fixities_levels, 12, .inl f_fixities_levels))]) [3, 4, 1, 2] (by decide) rfl
            have hKc := hK.sub (tys' := [(ka_fixities_names, .long), (ka_fixities_sides, .int), (ka_fixities_levels, .int)]) [0, 1, 2] rfl
            have hFc := va_free (wc := [(a_fixities, .inr (4, [.ref a_fixities_names, .ref a_fixities_sides, .ref a_fixities_levels, .int (nI n_fixities_size)])), (a_fixities_names, .inl (ka_fixities_names, 12, .inr (.inl f_fixities_names))), (a_fixities_sides, .inl (ka_fixities_sides, 12, .inl f_fixities_sides)), (a_fixities_levels, .inl (ka_fixities_levels, 12, .inl f_fixities_levels))]) hD hS hA [3, 4, 1, 2] rfl
            refine va_callv (va_runV (As := [.long y0, .int y1, .int y2]) (rest := []) ⟨hx, hb, hml, hown, hz⟩ (s_Fixities_setSa l dC dI H.size a_fixities a_fixities_names f_fixities_names a_fixities_sides f_fixities_sides a_fixities_levels f_fixities_levels n_fixities_size y0 y1 y2 ka_fixities_names ka_fixities_sides ka_fixities_levels (by first | omega | assumption) (by first | omega | assumption)) (cwV 3 hz (zV zm_557 zm_558 zm_559 zm_25 zm_560) rfl rfl rfl (by decide +kernel) ⟨Nat.le_of_ble_eq_true rfl, Nat.le_of_ble_eq_true rfl⟩) ⟨fun a U g mk q => by obtain ⟨q0, q1, qP, qK, qD⟩ := q; exact ⟨q0, q1, qP, va_K.moved (u := U) (U := U.calling g mk a) (Vm.Alike.refl U.vm) qK, qD⟩, va_recv (q := (R_Fixities, F_Fixities, 4)) (q0 := 3) (ci := 4) hK hP rfl rfl, fun U hU hW => ⟨rfl, by rw [hU], by rw [hU]; exact hPc, va_K.moved hW.alike hKc, hDc.weaken (fun _ _ _ _ => trivial)⟩⟩ rfl rfl hl.1 rfl (lv_room (Nat.le_of_ble_eq_true rfl)) d_LF_fixity_60 ⟨Nat.zero_le _, Nat.zero_le _⟩) hS (fun q _ h => hFc q h) hFc (fun u t H1 locs ht hvm hw hB hz1 hk1 hS => ?_)
            obtain ⟨g6, g7, g8, g9, hb_g6, hq0_60, hq1_60, hP1, hK1, hD1⟩ := hB
            subst g6
            rw [ht] at hP1
            obtain ⟨hP, hD⟩ := va_join (wr := [(a_t, .inr (0, [.ref a_text, .ref a_fixities, .ref a_cutter, .ref a_blocks, .ref a_rows, .ref a_tokens, .ref a_counts, .int z_wrongPlace]))]) (w1 := [(a_fixities, .inr (4, [.ref a_fixities_names, .ref a_fixities_sides, .ref a_fixities_levels, .int (nI (n_fixities_size))])), (a_fixities_names, .inl (ka_fixities_names, 12, .inr (.inl g7))), (a_fixities_sides, .inl (ka_fixities_sides, 12, .inl g8)), (a_fixities_levels, .inl (ka_fixities_levels, 12, .inl g9))]) hP hD [3, 4, 1, 2] [0] rfl rfl (by decide) (by decide) hk1 hFc hP1 hD1
            generalize H1 = H at hP hS ⊢
            have hP : va_P (dC, dI) vcl [(a_t, .inr (0, [.ref a_text, .ref a_fixities, .ref a_cutter, .ref a_blocks, .ref a_rows, .ref a_tokens, .ref a_counts, .int z_wrongPlace])), (a_fixities, .inr (4, [.ref a_fixities_names, .ref a_fixities_sides, .ref a_fixities_levels, .int (nI (n_fixities_size))])), (a_fixities_names, .inl (ka_fixities_names, 12, .inr (.inl g7))), (a_fixities_sides, .inl (ka_fixities_sides, 12, .inl g8)), (a_fixities_levels, .inl (ka_fixities_levels, 12, .inl g9))] H := hP
            have hD : va_D A [(a_t, .inr (0, [.ref a_text, .ref a_fixities, .ref a_cutter, .ref a_blocks, .ref a_rows, .ref a_tokens, .ref a_counts, .int z_wrongPlace])), (a_fixities, .inr (4, [.ref a_fixities_names, .ref a_fixities_sides, .ref a_fixities_levels, .int (nI (n_fixities_size))])), (a_fixities_names, .inl (ka_fixities_names, 12, .inr (.inl g7))), (a_fixities_sides, .inl (ka_fixities_sides, 12, .inl g8)), (a_fixities_levels, .inl (ka_fixities_levels, 12, .inl g9))] := hD
            refine lv_aload_n hx hb d_LF_fixity_63 rfl (lv_at hl 0 rfl) ?_
            refine va_get (D := (dC, dI)) (ci := 0) (v := .ref a_fixities) (C := R_LF) (T := F_LF) (N := 8) hx hb hz zu_LF hown hK hP 0 rfl rfl 1 (by decide) (hz (.fieldLink R_LF 19 "LayoutFront" "fixities" "LLayoutFront$Fixities;") zm_509) (fun _ h9 => h9) rfl d_LF_fixity_64 ?_
            have hPc := hP.sub (ws' := [(a_fixities, .inr (4, [.ref a_fixities_names, .ref a_fixities_sides, .ref a_fixities_levels, .int (nI (n_fixities_size))]))]) [1] rfl
            have hDc := hD.sub (ws' := [(a_fixities, .inr (4, [.ref a_fixities_names, .ref a_fixities_sides, .ref a_fixities_levels, .int (nI (n_fixities_size))]))]) [1] (by decide) rfl
            have hKc := hK.sub (tys' := []) [] rfl
            have hFc := va_free (wc := [(a_fixities, .inr (4, [.ref a_fixities_names, .ref a_fixities_sides, .ref a_fixities_levels, .int (nI (n_fixities_size))]))]) hD hS hA [1] rfl
            refine va_calli (va_runV (As := []) (rest := []) ⟨hx, hb, hml, hown, hz⟩ (s_Fixities_size l dC dI H.size a_fixities a_fixities_names a_fixities_sides a_fixities_levels ((n_fixities_size)) (by first | omega | assumption)) (cwV 0 hz (zV zm_561 zm_562 zm_563 zm_25 zm_564) rfl rfl rfl (by decide +kernel) ⟨Nat.le_of_ble_eq_true rfl, Nat.le_of_ble_eq_true rfl⟩) ⟨fun a U g mk q => by obtain ⟨q0, q1, qP, qK, qD⟩ := q; exact ⟨q0, q1, qP, va_K.moved (u := U) (U := U.calling g mk a) (Vm.Alike.refl U.vm) qK, qD⟩, va_recv (q := (R_Fixities, F_Fixities, 4)) (q0 := 1) (ci := 4) hK hP rfl rfl, fun U hU hW => ⟨rfl, by rw [hU], by rw [hU]; exact hPc, va_K.moved hW.alike hKc, hDc.weaken (fun _ _ _ _ => trivial)⟩⟩ rfl rfl hl.1 rfl (lv_room (Nat.le_of_ble_eq_true rfl)) d_LF_fixity_67 ⟨Nat.zero_le _, Nat.zero_le _⟩) hS (fun q _ h => hFc q h) hFc (fun r u t H1 locs ht hvm hw hB hz1 hk1 hS => ?_)
            obtain ⟨hP1, hK1, hD1⟩ := hB
            subst r
            rw [ht] at hP1
            obtain ⟨hP, hD⟩ := va_join (wr := [(a_t, .inr (0, [.ref a_text, .ref a_fixities, .ref a_cutter, .ref a_blocks, .ref a_rows, .ref a_tokens, .ref a_counts, .int z_wrongPlace])), (a_fixities_names, .inl (ka_fixities_names, 12, .inr (.inl g7))), (a_fixities_sides, .inl (ka_fixities_sides, 12, .inl g8)), (a_fixities_levels, .inl (ka_fixities_levels, 12, .inl g9))]) (w1 := [(a_fixities, .inr (4, [.ref a_fixities_names, .ref a_fixities_sides, .ref a_fixities_levels, .int (nI (n_fixities_size))]))]) hP hD [1] [0, 2, 3, 4] rfl rfl (by decide) (by decide) hk1 hFc hP1 hD1
            generalize H1 = H at hP hS ⊢
            have hP : va_P (dC, dI) vcl [(a_t, .inr (0, [.ref a_text, .ref a_fixities, .ref a_cutter, .ref a_blocks, .ref a_rows, .ref a_tokens, .ref a_counts, .int z_wrongPlace])), (a_fixities_names, .inl (ka_fixities_names, 12, .inr (.inl g7))), (a_fixities_sides, .inl (ka_fixities_sides, 12, .inl g8)), (a_fixities_levels, .inl (ka_fixities_levels, 12, .inl g9)), (a_fixities, .inr (4, [.ref a_fixities_names, .ref a_fixities_sides, .ref a_fixities_levels, .int (nI (n_fixities_size))]))] H := hP
            have hD : va_D A [(a_t, .inr (0, [.ref a_text, .ref a_fixities, .ref a_cutter, .ref a_blocks, .ref a_rows, .ref a_tokens, .ref a_counts, .int z_wrongPlace])), (a_fixities_names, .inl (ka_fixities_names, 12, .inr (.inl g7))), (a_fixities_sides, .inl (ka_fixities_sides, 12, .inl g8)), (a_fixities_levels, .inl (ka_fixities_levels, 12, .inl g9)), (a_fixities, .inr (4, [.ref a_fixities_names, .ref a_fixities_sides, .ref a_fixities_levels, .int (nI (n_fixities_size))]))] := hD
            have hP9 := hP.sub (ws' := [(a_t, .inr (0, [.ref a_text, .ref a_fixities, .ref a_cutter, .ref a_blocks, .ref a_rows, .ref a_tokens, .ref a_counts, .int z_wrongPlace])), (a_fixities, .inr (4, [.ref a_fixities_names, .ref a_fixities_sides, .ref a_fixities_levels, .int (nI (n_fixities_size))])), (a_fixities_names, .inl (ka_fixities_names, 12, .inr (.inl g7))), (a_fixities_sides, .inl (ka_fixities_sides, 12, .inl g8)), (a_fixities_levels, .inl (ka_fixities_levels, 12, .inl g9))]) [0, 4, 1, 2, 3] rfl
            have hD9 := hD.sub (ws' := [(a_t, .inr (0, [.ref a_text, .ref a_fixities, .ref a_cutter, .ref a_blocks, .ref a_rows, .ref a_tokens, .ref a_counts, .int z_wrongPlace])), (a_fixities, .inr (4, [.ref a_fixities_names, .ref a_fixities_sides, .ref a_fixities_levels, .int (nI (n_fixities_size))])), (a_fixities_names, .inl (ka_fixities_names, 12, .inr (.inl g7))), (a_fixities_sides, .inl (ka_fixities_sides, 12, .inl g8)), (a_fixities_levels, .inl (ka_fixities_levels, 12, .inl g9))]) [0, 4, 1, 2, 3] (by decide) rfl
            exact W.iret (v := (nI (n_fixities_size))) hx hb hr (fun t ht hW => ⟨⟨(nI (n_fixities_size)), (), rfl, rfl, ((n_fixities_size)), g7, g8, g9, by first | omega | assumption | rfl, by first | omega | assumption | rfl, by first | omega | assumption | rfl, by rw [ht]; exact hP9, va_K.moved hW.alike hK, hD9⟩, hS.F ht⟩) hS.2.2 d_LF_fixity_70
          · exact yn hp0 (Bool.or_eq_false_iff.mp (b01_no h5)).2
        · exact absurd (wi_g (Int32.not_le.mp h4)) hp2
set_option maxHeartbeats 4000000 in
set_option maxRecDepth 100000 in
theorem s_LF_fixityFb (l : Launch) (dC : Nat → ClassId) (dI : Nat → Nat → Nat) (sz : Nat) (a_t : Nat) (a_text : Nat) (a_fixities : Nat) (a_fixities_names : Nat) (f_fixities_names : Nat → Int64) (a_fixities_sides : Nat) (f_fixities_sides : Nat → Int32) (a_fixities_levels : Nat) (f_fixities_levels : Nat → Int32) (n_fixities_size : Nat) (a_cutter : Nat) (a_blocks : Nat) (a_rows : Nat) (a_tokens : Nat) (a_counts : Nat) (z_wrongPlace : Int32) (y0 : Int64) (y1 : Int32) (y2 : Int32) (ka_fixities_names : ClassId) (ka_fixities_sides : ClassId) (ka_fixities_levels : ClassId) (b_fixities_size : n_fixities_size ≤ 12) (hp0 : hasN f_fixities_names y0 n_fixities_size = false) (hp1 : ¬ wi y1 0 2 = 0) (hp2 : ¬ wi y2 0 9 = 0) (hp3 : n_fixities_size < 12) : Met l y_LF_fixity w_LF_fixity ({ frames := 2, cells := 0, slots := 0, locals := 65 }) (va_Pc [.ref a_t, .long y0, .int y1, .int y2] (fun U => U.heap.size = sz ∧ va_P (dC, dI) vcl [(a_t, .inr (0, [.ref a_text, .ref a_fixities, .ref a_cutter, .ref a_blocks, .ref a_rows, .ref a_tokens, .ref a_counts, .int z_wrongPlace])), (a_fixities, .inr (4, [.ref a_fixities_names, .ref a_fixities_sides, .ref a_fixities_levels, .int (nI n_fixities_size)])), (a_fixities_names, .inl (ka_fixities_names, 12, .inr (.inl f_fixities_names))), (a_fixities_sides, .inl (ka_fixities_sides, 12, .inl f_fixities_sides)), (a_fixities_levels, .inl (ka_fixities_levels, 12, .inl f_fixities_levels))] U.heap ∧ va_K (dC, dI) vcl [(ka_fixities_names, .long), (ka_fixities_sides, .int), (ka_fixities_levels, .int)] U ∧ va_D (fun _ => True) [(a_t, .inr (0, [.ref a_text, .ref a_fixities, .ref a_cutter, .ref a_blocks, .ref a_rows, .ref a_tokens, .ref a_counts, .int z_wrongPlace])), (a_fixities, .inr (4, [.ref a_fixities_names, .ref a_fixities_sides, .ref a_fixities_levels, .int (nI n_fixities_size)])), (a_fixities_names, .inl (ka_fixities_names, 12, .inr (.inl f_fixities_names))), (a_fixities_sides, .inl (ka_fixities_sides, 12, .inl f_fixities_sides)), (a_fixities_levels, .inl (ka_fixities_levels, 12, .inl f_fixities_levels))] ∧ cx_E (va_A [(a_t, .inr (0, [.ref a_text, .ref a_fixities, .ref a_cutter, .ref a_blocks, .ref a_rows, .ref a_tokens, .ref a_counts, .int z_wrongPlace])), (a_fixities, .inr (4, [.ref a_fixities_names, .ref a_fixities_sides, .ref a_fixities_levels, .int (nI n_fixities_size)])), (a_fixities_names, .inl (ka_fixities_names, 12, .inr (.inl f_fixities_names))), (a_fixities_sides, .inl (ka_fixities_sides, 12, .inl f_fixities_sides)), (a_fixities_levels, .inl (ka_fixities_levels, 12, .inl f_fixities_levels))] sz) U U.heap)) (va_Qi (fun (r : Int32) (_ : Unit) => r = nI (n_fixities_size + 1)) (fun _ t => ∃ (w_n_fixities_size : Nat) (w_f_fixities_names : Nat → Int64) (w_f_fixities_sides : Nat → Int32) (w_f_fixities_levels : Nat → Int32), (w_n_fixities_size ≤ 12) ∧ (w_n_fixities_size = n_fixities_size + 1) ∧ (∀ j, j < n_fixities_size → w_f_fixities_names j = f_fixities_names j) ∧ (w_f_fixities_names n_fixities_size = y0) ∧ va_P (dC, dI) vcl [(a_t, .inr (0, [.ref a_text, .ref a_fixities, .ref a_cutter, .ref a_blocks, .ref a_rows, .ref a_tokens, .ref a_counts, .int z_wrongPlace])), (a_fixities, .inr (4, [.ref a_fixities_names, .ref a_fixities_sides, .ref a_fixities_levels, .int (nI w_n_fixities_size)])), (a_fixities_names, .inl (ka_fixities_names, 12, .inr (.inl w_f_fixities_names))), (a_fixities_sides, .inl (ka_fixities_sides, 12, .inl w_f_fixities_sides)), (a_fixities_levels, .inl (ka_fixities_levels, 12, .inl w_f_fixities_levels))] t.heap ∧ va_K (dC, dI) vcl [(ka_fixities_names, .long), (ka_fixities_sides, .int), (ka_fixities_levels, .int)] t ∧ va_D (va_A [(a_t, .inr (0, [.ref a_text, .ref a_fixities, .ref a_cutter, .ref a_blocks, .ref a_rows, .ref a_tokens, .ref a_counts, .int z_wrongPlace])), (a_fixities, .inr (4, [.ref a_fixities_names, .ref a_fixities_sides, .ref a_fixities_levels, .int (nI n_fixities_size)])), (a_fixities_names, .inl (ka_fixities_names, 12, .inr (.inl f_fixities_names))), (a_fixities_sides, .inl (ka_fixities_sides, 12, .inl f_fixities_sides)), (a_fixities_levels, .inl (ka_fixities_levels, 12, .inl f_fixities_levels))] sz) [(a_t, .inr (0, [.ref a_text, .ref a_fixities, .ref a_cutter, .ref a_blocks, .ref a_rows, .ref a_tokens, .ref a_counts, .int z_wrongPlace])), (a_fixities, .inr (4, [.ref a_fixities_names, .ref a_fixities_sides, .ref a_fixities_levels, .int (nI w_n_fixities_size)])), (a_fixities_names, .inl (ka_fixities_names, 12, .inr (.inl w_f_fixities_names))), (a_fixities_sides, .inl (ka_fixities_sides, 12, .inl w_f_fixities_sides)), (a_fixities_levels, .inl (ka_fixities_levels, 12, .inl w_f_fixities_levels))]) (va_A [(a_t, .inr (0, [.ref a_text, .ref a_fixities, .ref a_cutter, .ref a_blocks, .ref a_rows, .ref a_tokens, .ref a_counts, .int z_wrongPlace])), (a_fixities, .inr (4, [.ref a_fixities_names, .ref a_fixities_sides, .ref a_fixities_levels, .int (nI n_fixities_size)])), (a_fixities_names, .inl (ka_fixities_names, 12, .inr (.inl f_fixities_names))), (a_fixities_sides, .inl (ka_fixities_sides, 12, .inl f_fixities_sides)), (a_fixities_levels, .inl (ka_fixities_levels, 12, .inl f_fixities_levels))] sz)) 0 0 (va_A [(a_t, .inr (0, [.ref a_text, .ref a_fixities, .ref a_cutter, .ref a_blocks, .ref a_rows, .ref a_tokens, .ref a_counts, .int z_wrongPlace])), (a_fixities, .inr (4, [.ref a_fixities_names, .ref a_fixities_sides, .ref a_fixities_levels, .int (nI n_fixities_size)])), (a_fixities_names, .inl (ka_fixities_names, 12, .inr (.inl f_fixities_names))), (a_fixities_sides, .inl (ka_fixities_sides, 12, .inl f_fixities_sides)), (a_fixities_levels, .inl (ka_fixities_levels, 12, .inl f_fixities_levels))] sz) := by
  refine Met.ofW (cc := b_LF_fixity) (maxL := 5) (ret := (some .int)) (by decide) rfl ?_
  intro p e s m args below meth c s₁ B hml hv
  obtain ⟨rfl, hsz, hP, hK, hD0, hE⟩ := hv
  have hx := B.exec
  have hb := B.bytes
  have hr := B.returns
  have hts := atoms_spec (ws := w_LF_fixity) B.pre
  have hz : ∀ w ∈ wz, w.before _ s = true := fun w h => hts w (List.mem_cons_of_mem _ h)
  have hown : s.vm.findClass R_LF = some m.cls := findClass_of_methodNamed B.named
  have hlocks := B.notSynchronized
  subst hsz
  have hD := hD0.self (sz := s.heap.size)
  generalize hAe : va_A [(a_t, .inr (0, [.ref a_text, .ref a_fixities, .ref a_cutter, .ref a_blocks, .ref a_rows, .ref a_tokens, .ref a_counts, .int z_wrongPlace])), (a_fixities, .inr (4, [.ref a_fixities_names, .ref a_fixities_sides, .ref a_fixities_levels, .int (nI n_fixities_size)])), (a_fixities_names, .inl (ka_fixities_names, 12, .inr (.inl f_fixities_names))), (a_fixities_sides, .inl (ka_fixities_sides, 12, .inl f_fixities_sides)), (a_fixities_levels, .inl (ka_fixities_levels, 12, .inl f_fixities_levels))] s.heap.size = A at hD hE ⊢
  have hA : ∀ q : Nat, s.heap.size ≤ q → A q := fun q h => by rw [← hAe]; exact Or.inr h
  have hS : va_S A s.heap s.heap [] := va_S.rf
  have hP : va_P (dC, dI) vcl [(a_t, .inr (0, [.ref a_text, .ref a_fixities, .ref a_cutter, .ref a_blocks, .ref a_rows, .ref a_tokens, .ref a_counts, .int z_wrongPlace])), (a_fixities, .inr (4, [.ref a_fixities_names, .ref a_fixities_sides, .ref a_fixities_levels, .int (nI n_fixities_size)])), (a_fixities_names, .inl (ka_fixities_names, 12, .inr (.inl f_fixities_names))), (a_fixities_sides, .inl (ka_fixities_sides, 12, .inl f_fixities_sides)), (a_fixities_levels, .inl (ka_fixities_levels, 12, .inl f_fixities_levels))] s.heap := hP
  have hl := lv_entry ([.ref a_t, .long y0, .int y1, .int y2]) (n := 5) (Nat.le_of_ble_eq_true rfl)
  rw [lg_entry_eq]
  generalize (lg_sl ([.ref a_t, .long y0, .int y1, .int y2]) ++ List.replicate (5 - (lg_sl ([.ref a_t, .long y0, .int y1, .int y2])).length) Slot.unset).toArray = ls at hl ⊢
  have hl : lv_has ls 5 [(0, .ref a_t), (1, .long y0), (3, .int y1), (4, .int y2)] := hl
  refine lv_iload_n hx hb d_LF_fixity_0 rfl (lv_at hl 2 rfl) ?_
  refine lv_if_lt (tgt := 21) hx hb d_LF_fixity_1 (by decide) (fun h1 => ?_) (fun h1 => ?_)
  · exact absurd (wi_l h1) hp1
  · have p1 := h1
    refine lv_iload_n hx hb d_LF_fixity_4 rfl (lv_at hl 2 rfl) ?_
    refine lv_iconst (v := 2) hx hb d_LF_fixity_5 (by decide) ?_
    refine lv_icmp_gt (tgt := 21) hx hb d_LF_fixity_6 (by decide) (fun h2 => ?_) (fun h2 => ?_)
    · exact absurd (wi_g h2) hp1
    · have p2 := h2
      refine lv_iload hx hb d_LF_fixity_9 (lv_at hl 3 rfl) ?_
      refine lv_if_lt (tgt := 21) hx hb d_LF_fixity_11 (by decide) (fun h3 => ?_) (fun h3 => ?_)
      · exact absurd (wi_l h3) hp2
      · have p3 := h3
        refine lv_iload hx hb d_LF_fixity_14 (lv_at hl 3 rfl) ?_
        refine lv_bipush (v := 9) hx hb d_LF_fixity_16 (by decide) ?_
        refine lv_icmp_le (tgt := 31) hx hb d_LF_fixity_18 (by decide) (fun h4 => ?_) (fun h4 => ?_)
        · refine lv_aload_n hx hb d_LF_fixity_31 rfl (lv_at hl 0 rfl) ?_
          refine va_get (D := (dC, dI)) (ci := 0) (v := .ref a_fixities) (C := R_LF) (T := F_LF) (N := 8) hx hb hz zu_LF hown hK hP 0 rfl rfl 1 (by decide) (hz (.fieldLink R_LF 19 "LayoutFront" "fixities" "LLayoutFront$Fixities;") zm_509) (fun _ h9 => h9) rfl d_LF_fixity_32 ?_
          refine lv_lload_n hx hb d_LF_fixity_35 rfl (lv_at hl 1 rfl) ?_
          have hPc := hP.sub (ws' := [(a_fixities, .inr (4, [.ref a_fixities_names, .ref a_fixities_sides, .ref a_fixities_levels, .int (nI n_fixities_size)])), (a_fixities_names, .inl (ka_fixities_names, 12, .inr (.inl f_fixities_names)))]) [1, 2] rfl
          have hDc := hD.sub (ws' := [(a_fixities, .inr (4, [.ref a_fixities_names, .ref a_fixities_sides, .ref a_fixities_levels, .int (nI n_fixities_size)])), (a_fixities_names, .inl (ka_fixities_names, 12, .inr (.inl f_fixities_names)))]) [1, 2] (by decide) rfl
          have hKc := hK.sub (tys' := [(ka_fixities_names, .long)]) [0] rfl
          have hFc := va_free (wc := [(a_fixities, .inr (4, [.ref a_fixities_names, .ref a_fixities_sides, .ref a_fixities_levels, .int (nI n_fixities_size)])), (a_fixities_names, .inl (ka_fixities_names, 12, .inr (.inl f_fixities_names)))]) hD hS hA [1, 2] rfl
          refine va_calli (va_runV (As := [.long y0]) (rest := []) ⟨hx, hb, hml, hown, hz⟩ (s_Fixities_hasRoomForH l dC dI s.heap.size a_fixities a_fixities_names f_fixities_names a_fixities_sides a_fixities_levels n_fixities_size y0 ka_fixities_names (by first | omega | assumption)) (cwV 1 hz (zV zm_553 zm_554 zm_555 zm_25 zm_556) rfl rfl rfl (by decide +kernel) ⟨Nat.le_of_ble_eq_true rfl, Nat.le_of_ble_eq_true rfl⟩) ⟨fun a U g mk q => by obtain ⟨q0, q1, qP, qK, qD⟩ := q; exact ⟨q0, q1, qP, va_K.moved (u := U) (U := U.calling g mk a) (Vm.Alike.refl U.vm) qK, qD⟩, va_recv (q := (R_Fixities, F_Fixities, 4)) (q0 := 1) (ci := 4) hK hP rfl rfl, fun U hU hW => ⟨rfl, by rw [hU], by rw [hU]; exact hPc, va_K.moved hW.alike hKc, hDc.weaken (fun _ _ _ _ => trivial)⟩⟩ rfl rfl hl.1 rfl (lv_room (Nat.le_of_ble_eq_true rfl)) d_LF_fixity_36 ⟨Nat.zero_le _, Nat.zero_le _⟩) hS (fun q _ h => hFc q h) hFc (fun r u t H1 locs ht hvm hw_r hB hz1 hk1 hS => ?_)
          obtain ⟨hP1, hK1, hD1⟩ := hB
          obtain ⟨hb_r, he_r⟩ := hw_r
          subst r
          rw [ht] at hP1
          obtain ⟨hP, hD⟩ := va_join (wr := [(a_t, .inr (0, [.ref a_text, .ref a_fixities, .ref a_cutter, .ref a_blocks, .ref a_rows, .ref a_tokens, .ref a_counts, .int z_wrongPlace])), (a_fixities_sides, .inl (ka_fixities_sides, 12, .inl f_fixities_sides)), (a_fixities_levels, .inl (ka_fixities_levels, 12, .inl f_fixities_levels))]) (w1 := [(a_fixities, .inr (4, [.ref a_fixities_names, .ref a_fixities_sides, .ref a_fixities_levels, .int (nI n_fixities_size)])), (a_fixities_names, .inl (ka_fixities_names, 12, .inr (.inl f_fixities_names)))]) hP hD [1, 2] [0, 3, 4] rfl rfl (by decide) (by decide) hk1 hFc hP1 hD1
          generalize H1 = H at hP hS ⊢
          have hP : va_P (dC, dI) vcl [(a_t, .inr (0, [.ref a_text, .ref a_fixities, .ref a_cutter, .ref a_blocks, .ref a_rows, .ref a_tokens, .ref a_counts, .int z_wrongPlace])), (a_fixities_sides, .inl (ka_fixities_sides, 12, .inl f_fixities_sides)), (a_fixities_levels, .inl (ka_fixities_levels, 12, .inl f_fixities_levels)), (a_fixities, .inr (4, [.ref a_fixities_names, .ref a_fixities_sides, .ref a_fixities_levels, .int (nI n_fixities_size)])), (a_fixities_names, .inl (ka_fixities_names, 12, .inr (.inl f_fixities_names)))] H := hP
          have hD : va_D A [(a_t, .inr (0, [.ref a_text, .ref a_fixities, .ref a_cutter, .ref a_blocks, .ref a_rows, .ref a_tokens, .ref a_counts, .int z_wrongPlace])), (a_fixities_sides, .inl (ka_fixities_sides, 12, .inl f_fixities_sides)), (a_fixities_levels, .inl (ka_fixities_levels, 12, .inl f_fixities_levels)), (a_fixities, .inr (4, [.ref a_fixities_names, .ref a_fixities_sides, .ref a_fixities_levels, .int (nI n_fixities_size)])), (a_fixities_names, .inl (ka_fixities_names, 12, .inr (.inl f_fixities_names)))] := hD
          refine lv_if_ne (tgt := 52) hx hb d_LF_fixity_39 (by decide) (fun h5 => ?_) (fun h5 => ?_)
          · refine lv_aload_n hx hb d_LF_fixity_52 rfl (lv_at hl 0 rfl) ?_
            refine va_get (D := (dC, dI)) (ci := 0) (v := .ref a_fixities) (C := R_LF) (T := F_LF) (N := 8) hx hb hz zu_LF hown hK hP 0 rfl rfl 1 (by decide) (hz (.fieldLink R_LF 19 "LayoutFront" "fixities" "LLayoutFront$Fixities;") zm_509) (fun _ h9 => h9) rfl d_LF_fixity_53 ?_
            refine lv_lload_n hx hb d_LF_fixity_56 rfl (lv_at hl 1 rfl) ?_
            refine lv_iload_n hx hb d_LF_fixity_57 rfl (lv_at hl 2 rfl) ?_
            refine lv_iload hx hb d_LF_fixity_58 (lv_at hl 3 rfl) ?_
            have hPc := hP.sub (ws' := [(a_fixities, .inr (4, [.ref a_fixities_names, .ref a_fixities_sides, .ref a_fixities_levels, .int (nI n_fixities_size)])), (a_fixities_names, .inl (ka_fixities_names, 12, .inr (.inl f_fixities_names))), (a_fixities_sides, .inl (ka_fixities_sides, 12, .inl f_fixities_sides)), (a_fixities_levels, .inl (ka_fixities_levels, 12, .inl f_fixities_levels))]) [3, 4, 1, 2] rfl
            have hDc := hD.sub (ws' := [(a_fixities, .inr (4, [.ref a_fixities_names, .ref a_fixities_sides, .ref a_fixities_levels, .int (nI n_fixities_size)])), (a_fixities_names, .inl (ka_fixities_names, 12, .inr (.inl f_fixities_names))), (a_fixities_sides, .inl (ka_fixities_sides, 12, .inl f_fixities_sides)), (a_fixities_levels, .inl (ka_fixities_levels, 12, .inl f_fixities_levels))]) [3, 4, 1, 2] (by decide) rfl
            have hKc := hK.sub (tys' := [(ka_fixities_names, .long), (ka_fixities_sides, .int), (ka_fixities_levels, .int)]) [0, 1, 2] rfl
            have hFc := va_free (wc := [(a_fixities, .inr (4, [.ref a_fixities_names, .ref a_fixities_sides, .ref a_fixities_levels, .int (nI n_fixities_size)])), (a_fixities_names, .inl (ka_fixities_names, 12, .inr (.inl f_fixities_names))), (a_fixities_sides, .inl (ka_fixities_sides, 12, .inl f_fixities_sides)), (a_fixities_levels, .inl (ka_fixities_levels, 12, .inl f_fixities_levels))]) hD hS hA [3, 4, 1, 2] rfl
            refine va_callv (va_runV (As := [.long y0, .int y1, .int y2]) (rest := []) ⟨hx, hb, hml, hown, hz⟩ (s_Fixities_setSb l dC dI H.size a_fixities a_fixities_names f_fixities_names a_fixities_sides f_fixities_sides a_fixities_levels f_fixities_levels n_fixities_size y0 y1 y2 ka_fixities_names ka_fixities_sides ka_fixities_levels (by first | omega | assumption) (by first | omega | assumption) (by first | omega | assumption)) (cwV 3 hz (zV zm_557 zm_558 zm_559 zm_25 zm_560) rfl rfl rfl (by decide +kernel) ⟨Nat.le_of_ble_eq_true rfl, Nat.le_of_ble_eq_true rfl⟩) ⟨fun a U g mk q => by obtain ⟨q0, q1, qP, qK, qD⟩ := q; exact ⟨q0, q1, qP, va_K.moved (u := U) (U := U.calling g mk a) (Vm.Alike.refl U.vm) qK, qD⟩, va_recv (q := (R_Fixities, F_Fixities, 4)) (q0 := 3) (ci := 4) hK hP rfl rfl, fun U hU hW => ⟨rfl, by rw [hU], by rw [hU]; exact hPc, va_K.moved hW.alike hKc, hDc.weaken (fun _ _ _ _ => trivial)⟩⟩ rfl rfl hl.1 rfl (lv_room (Nat.le_of_ble_eq_true rfl)) d_LF_fixity_60 ⟨Nat.zero_le _, Nat.zero_le _⟩) hS (fun q _ h => hFc q h) hFc (fun u t H1 locs ht hvm hw hB hz1 hk1 hS => ?_)
            obtain ⟨g6, g7, g8, g9, hb_g6, hq0_60, hq1_60, hq2_60, hP1, hK1, hD1⟩ := hB
            subst g6
            rw [ht] at hP1
            obtain ⟨hP, hD⟩ := va_join (wr := [(a_t, .inr (0, [.ref a_text, .ref a_fixities, .ref a_cutter, .ref a_blocks, .ref a_rows, .ref a_tokens, .ref a_counts, .int z_wrongPlace]))]) (w1 := [(a_fixities, .inr (4, [.ref a_fixities_names, .ref a_fixities_sides, .ref a_fixities_levels, .int (nI (n_fixities_size + 1))])), (a_fixities_names, .inl (ka_fixities_names, 12, .inr (.inl g7))), (a_fixities_sides, .inl (ka_fixities_sides, 12, .inl g8)), (a_fixities_levels, .inl (ka_fixities_levels, 12, .inl g9))]) hP hD [3, 4, 1, 2] [0] rfl rfl (by decide) (by decide) hk1 hFc hP1 hD1
            generalize H1 = H at hP hS ⊢
            have hP : va_P (dC, dI) vcl [(a_t, .inr (0, [.ref a_text, .ref a_fixities, .ref a_cutter, .ref a_blocks, .ref a_rows, .ref a_tokens, .ref a_counts, .int z_wrongPlace])), (a_fixities, .inr (4, [.ref a_fixities_names, .ref a_fixities_sides, .ref a_fixities_levels, .int (nI (n_fixities_size + 1))])), (a_fixities_names, .inl (ka_fixities_names, 12, .inr (.inl g7))), (a_fixities_sides, .inl (ka_fixities_sides, 12, .inl g8)), (a_fixities_levels, .inl (ka_fixities_levels, 12, .inl g9))] H := hP
            have hD : va_D A [(a_t, .inr (0, [.ref a_text, .ref a_fixities, .ref a_cutter, .ref a_blocks, .ref a_rows, .ref a_tokens, .ref a_counts, .int z_wrongPlace])), (a_fixities, .inr (4, [.ref a_fixities_names, .ref a_fixities_sides, .ref a_fixities_levels, .int (nI (n_fixities_size + 1))])), (a_fixities_names, .inl (ka_fixities_names, 12, .inr (.inl g7))), (a_fixities_sides, .inl (ka_fixities_sides, 12, .inl g8)), (a_fixities_levels, .inl (ka_fixities_levels, 12, .inl g9))] := hD
            refine lv_aload_n hx hb d_LF_fixity_63 rfl (lv_at hl 0 rfl) ?_
            refine va_get (D := (dC, dI)) (ci := 0) (v := .ref a_fixities) (C := R_LF) (T := F_LF) (N := 8) hx hb hz zu_LF hown hK hP 0 rfl rfl 1 (by decide) (hz (.fieldLink R_LF 19 "LayoutFront" "fixities" "LLayoutFront$Fixities;") zm_509) (fun _ h9 => h9) rfl d_LF_fixity_64 ?_
            have hPc := hP.sub (ws' := [(a_fixities, .inr (4, [.ref a_fixities_names, .ref a_fixities_sides, .ref a_fixities_levels, .int (nI (n_fixities_size + 1))]))]) [1] rfl
            have hDc := hD.sub (ws' := [(a_fixities, .inr (4, [.ref a_fixities_names, .ref a_fixities_sides, .ref a_fixities_levels, .int (nI (n_fixities_size + 1))]))]) [1] (by decide) rfl
            have hKc := hK.sub (tys' := []) [] rfl
            have hFc := va_free (wc := [(a_fixities, .inr (4, [.ref a_fixities_names, .ref a_fixities_sides, .ref a_fixities_levels, .int (nI (n_fixities_size + 1))]))]) hD hS hA [1] rfl
            refine va_calli (va_runV (As := []) (rest := []) ⟨hx, hb, hml, hown, hz⟩ (s_Fixities_size l dC dI H.size a_fixities a_fixities_names a_fixities_sides a_fixities_levels ((n_fixities_size + 1)) (by first | omega | assumption)) (cwV 0 hz (zV zm_561 zm_562 zm_563 zm_25 zm_564) rfl rfl rfl (by decide +kernel) ⟨Nat.le_of_ble_eq_true rfl, Nat.le_of_ble_eq_true rfl⟩) ⟨fun a U g mk q => by obtain ⟨q0, q1, qP, qK, qD⟩ := q; exact ⟨q0, q1, qP, va_K.moved (u := U) (U := U.calling g mk a) (Vm.Alike.refl U.vm) qK, qD⟩, va_recv (q := (R_Fixities, F_Fixities, 4)) (q0 := 1) (ci := 4) hK hP rfl rfl, fun U hU hW => ⟨rfl, by rw [hU], by rw [hU]; exact hPc, va_K.moved hW.alike hKc, hDc.weaken (fun _ _ _ _ => trivial)⟩⟩ rfl rfl hl.1 rfl (lv_room (Nat.le_of_ble_eq_true rfl)) d_LF_fixity_67 ⟨Nat.zero_le _, Nat.zero_le _⟩) hS (fun q _ h => hFc q h) hFc (fun r u t H1 locs ht hvm hw hB hz1 hk1 hS => ?_)
            obtain ⟨hP1, hK1, hD1⟩ := hB
            subst r
            rw [ht] at hP1
            obtain ⟨hP, hD⟩ := va_join (wr := [(a_t, .inr (0, [.ref a_text, .ref a_fixities, .ref a_cutter, .ref a_blocks, .ref a_rows, .ref a_tokens, .ref a_counts, .int z_wrongPlace])), (a_fixities_names, .inl (ka_fixities_names, 12, .inr (.inl g7))), (a_fixities_sides, .inl (ka_fixities_sides, 12, .inl g8)), (a_fixities_levels, .inl (ka_fixities_levels, 12, .inl g9))]) (w1 := [(a_fixities, .inr (4, [.ref a_fixities_names, .ref a_fixities_sides, .ref a_fixities_levels, .int (nI (n_fixities_size + 1))]))]) hP hD [1] [0, 2, 3, 4] rfl rfl (by decide) (by decide) hk1 hFc hP1 hD1
            generalize H1 = H at hP hS ⊢
            have hP : va_P (dC, dI) vcl [(a_t, .inr (0, [.ref a_text, .ref a_fixities, .ref a_cutter, .ref a_blocks, .ref a_rows, .ref a_tokens, .ref a_counts, .int z_wrongPlace])), (a_fixities_names, .inl (ka_fixities_names, 12, .inr (.inl g7))), (a_fixities_sides, .inl (ka_fixities_sides, 12, .inl g8)), (a_fixities_levels, .inl (ka_fixities_levels, 12, .inl g9)), (a_fixities, .inr (4, [.ref a_fixities_names, .ref a_fixities_sides, .ref a_fixities_levels, .int (nI (n_fixities_size + 1))]))] H := hP
            have hD : va_D A [(a_t, .inr (0, [.ref a_text, .ref a_fixities, .ref a_cutter, .ref a_blocks, .ref a_rows, .ref a_tokens, .ref a_counts, .int z_wrongPlace])), (a_fixities_names, .inl (ka_fixities_names, 12, .inr (.inl g7))), (a_fixities_sides, .inl (ka_fixities_sides, 12, .inl g8)), (a_fixities_levels, .inl (ka_fixities_levels, 12, .inl g9)), (a_fixities, .inr (4, [.ref a_fixities_names, .ref a_fixities_sides, .ref a_fixities_levels, .int (nI (n_fixities_size + 1))]))] := hD
            have hP9 := hP.sub (ws' := [(a_t, .inr (0, [.ref a_text, .ref a_fixities, .ref a_cutter, .ref a_blocks, .ref a_rows, .ref a_tokens, .ref a_counts, .int z_wrongPlace])), (a_fixities, .inr (4, [.ref a_fixities_names, .ref a_fixities_sides, .ref a_fixities_levels, .int (nI (n_fixities_size + 1))])), (a_fixities_names, .inl (ka_fixities_names, 12, .inr (.inl g7))), (a_fixities_sides, .inl (ka_fixities_sides, 12, .inl g8)), (a_fixities_levels, .inl (ka_fixities_levels, 12, .inl g9))]) [0, 4, 1, 2, 3] rfl
            have hD9 := hD.sub (ws' := [(a_t, .inr (0, [.ref a_text, .ref a_fixities, .ref a_cutter, .ref a_blocks, .ref a_rows, .ref a_tokens, .ref a_counts, .int z_wrongPlace])), (a_fixities, .inr (4, [.ref a_fixities_names, .ref a_fixities_sides, .ref a_fixities_levels, .int (nI (n_fixities_size + 1))])), (a_fixities_names, .inl (ka_fixities_names, 12, .inr (.inl g7))), (a_fixities_sides, .inl (ka_fixities_sides, 12, .inl g8)), (a_fixities_levels, .inl (ka_fixities_levels, 12, .inl g9))]) [0, 4, 1, 2, 3] (by decide) rfl
            exact W.iret (v := (nI (n_fixities_size + 1))) hx hb hr (fun t ht hW => ⟨⟨(nI (n_fixities_size + 1)), (), rfl, (by rfl), ((n_fixities_size + 1)), g7, g8, g9, by first | omega | assumption | rfl, by first | omega | assumption | rfl, by first | omega | assumption | rfl, by first | omega | assumption | rfl, by rw [ht]; exact hP9, va_K.moved hW.alike hK, hD9⟩, hS.F ht⟩) hS.2.2 d_LF_fixity_70
          · exact absurd hp3 (of_decide_eq_false (Bool.or_eq_false_iff.mp (b01_no h5)).1)
        · exact absurd (wi_g (Int32.not_le.mp h4)) hp2
set_option maxHeartbeats 4000000 in
set_option maxRecDepth 100000 in
theorem s_LF_fixityF1 (l : Launch) (hnt : l.stackTraces = false) (dC : Nat → ClassId) (dI : Nat → Nat → Nat) (sz : Nat) (a_t : Nat) (a_text : Nat) (a_fixities : Nat) (a_fixities_names : Nat) (f_fixities_names : Nat → Int64) (a_fixities_sides : Nat) (f_fixities_sides : Nat → Int32) (a_fixities_levels : Nat) (f_fixities_levels : Nat → Int32) (n_fixities_size : Nat) (a_cutter : Nat) (a_blocks : Nat) (a_rows : Nat) (a_tokens : Nat) (a_counts : Nat) (z_wrongPlace : Int32) (y0 : Int64) (y1 : Int32) (y2 : Int32) (ka_fixities_names : ClassId) (ka_fixities_sides : ClassId) (ka_fixities_levels : ClassId) (b_fixities_size : n_fixities_size ≤ 12) (hp0 : wi y1 0 2 = 0 ∨ wi y2 0 9 = 0) : ty_Met l y_LF_fixity w_LF_fixity ({ frames := 7, cells := 1, slots := 6, locals := 120 }) (va_Pc [.ref a_t, .long y0, .int y1, .int y2] (fun U => U.heap.size = sz ∧ va_P (dC, dI) vcl [(a_t, .inr (0, [.ref a_text, .ref a_fixities, .ref a_cutter, .ref a_blocks, .ref a_rows, .ref a_tokens, .ref a_counts, .int z_wrongPlace])), (a_fixities, .inr (4, [.ref a_fixities_names, .ref a_fixities_sides, .ref a_fixities_levels, .int (nI n_fixities_size)])), (a_fixities_names, .inl (ka_fixities_names, 12, .inr (.inl f_fixities_names))), (a_fixities_sides, .inl (ka_fixities_sides, 12, .inl f_fixities_sides)), (a_fixities_levels, .inl (ka_fixities_levels, 12, .inl f_fixities_levels))] U.heap ∧ va_K (dC, dI) vcl [(ka_fixities_names, .long), (ka_fixities_sides, .int), (ka_fixities_levels, .int)] U ∧ va_D (fun _ => True) [(a_t, .inr (0, [.ref a_text, .ref a_fixities, .ref a_cutter, .ref a_blocks, .ref a_rows, .ref a_tokens, .ref a_counts, .int z_wrongPlace])), (a_fixities, .inr (4, [.ref a_fixities_names, .ref a_fixities_sides, .ref a_fixities_levels, .int (nI n_fixities_size)])), (a_fixities_names, .inl (ka_fixities_names, 12, .inr (.inl f_fixities_names))), (a_fixities_sides, .inl (ka_fixities_sides, 12, .inl f_fixities_sides)), (a_fixities_levels, .inl (ka_fixities_levels, 12, .inl f_fixities_levels))] ∧ cx_E (va_A [(a_t, .inr (0, [.ref a_text, .ref a_fixities, .ref a_cutter, .ref a_blocks, .ref a_rows, .ref a_tokens, .ref a_counts, .int z_wrongPlace])), (a_fixities, .inr (4, [.ref a_fixities_names, .ref a_fixities_sides, .ref a_fixities_levels, .int (nI n_fixities_size)])), (a_fixities_names, .inl (ka_fixities_names, 12, .inr (.inl f_fixities_names))), (a_fixities_sides, .inl (ka_fixities_sides, 12, .inl f_fixities_sides)), (a_fixities_levels, .inl (ka_fixities_levels, 12, .inl f_fixities_levels))] sz) U U.heap)) (va_Qi (fun (r : Int32) (_ : Unit) => False) (fun _ t => ∃ (w_n_fixities_size : Nat) (w_f_fixities_names : Nat → Int64) (w_f_fixities_sides : Nat → Int32) (w_f_fixities_levels : Nat → Int32), (w_n_fixities_size ≤ 12) ∧ (w_n_fixities_size = n_fixities_size) ∧ (w_f_fixities_names = f_fixities_names) ∧ va_P (dC, dI) vcl [(a_t, .inr (0, [.ref a_text, .ref a_fixities, .ref a_cutter, .ref a_blocks, .ref a_rows, .ref a_tokens, .ref a_counts, .int z_wrongPlace])), (a_fixities, .inr (4, [.ref a_fixities_names, .ref a_fixities_sides, .ref a_fixities_levels, .int (nI w_n_fixities_size)])), (a_fixities_names, .inl (ka_fixities_names, 12, .inr (.inl w_f_fixities_names))), (a_fixities_sides, .inl (ka_fixities_sides, 12, .inl w_f_fixities_sides)), (a_fixities_levels, .inl (ka_fixities_levels, 12, .inl w_f_fixities_levels))] t.heap ∧ va_K (dC, dI) vcl [(ka_fixities_names, .long), (ka_fixities_sides, .int), (ka_fixities_levels, .int)] t ∧ va_D (va_A [(a_t, .inr (0, [.ref a_text, .ref a_fixities, .ref a_cutter, .ref a_blocks, .ref a_rows, .ref a_tokens, .ref a_counts, .int z_wrongPlace])), (a_fixities, .inr (4, [.ref a_fixities_names, .ref a_fixities_sides, .ref a_fixities_levels, .int (nI n_fixities_size)])), (a_fixities_names, .inl (ka_fixities_names, 12, .inr (.inl f_fixities_names))), (a_fixities_sides, .inl (ka_fixities_sides, 12, .inl f_fixities_sides)), (a_fixities_levels, .inl (ka_fixities_levels, 12, .inl f_fixities_levels))] sz) [(a_t, .inr (0, [.ref a_text, .ref a_fixities, .ref a_cutter, .ref a_blocks, .ref a_rows, .ref a_tokens, .ref a_counts, .int z_wrongPlace])), (a_fixities, .inr (4, [.ref a_fixities_names, .ref a_fixities_sides, .ref a_fixities_levels, .int (nI w_n_fixities_size)])), (a_fixities_names, .inl (ka_fixities_names, 12, .inr (.inl w_f_fixities_names))), (a_fixities_sides, .inl (ka_fixities_sides, 12, .inl w_f_fixities_sides)), (a_fixities_levels, .inl (ka_fixities_levels, 12, .inl w_f_fixities_levels))]) (va_A [(a_t, .inr (0, [.ref a_text, .ref a_fixities, .ref a_cutter, .ref a_blocks, .ref a_rows, .ref a_tokens, .ref a_counts, .int z_wrongPlace])), (a_fixities, .inr (4, [.ref a_fixities_names, .ref a_fixities_sides, .ref a_fixities_levels, .int (nI n_fixities_size)])), (a_fixities_names, .inl (ka_fixities_names, 12, .inr (.inl f_fixities_names))), (a_fixities_sides, .inl (ka_fixities_sides, 12, .inl f_fixities_sides)), (a_fixities_levels, .inl (ka_fixities_levels, 12, .inl f_fixities_levels))] sz)) [xIAE] (fun t => ∃ (w_n_fixities_size : Nat) (w_f_fixities_names : Nat → Int64) (w_f_fixities_sides : Nat → Int32) (w_f_fixities_levels : Nat → Int32), (w_n_fixities_size ≤ 12) ∧ (w_n_fixities_size = n_fixities_size) ∧ (w_f_fixities_names = f_fixities_names) ∧ va_P (dC, dI) vcl [(a_t, .inr (0, [.ref a_text, .ref a_fixities, .ref a_cutter, .ref a_blocks, .ref a_rows, .ref a_tokens, .ref a_counts, .int z_wrongPlace])), (a_fixities, .inr (4, [.ref a_fixities_names, .ref a_fixities_sides, .ref a_fixities_levels, .int (nI w_n_fixities_size)])), (a_fixities_names, .inl (ka_fixities_names, 12, .inr (.inl w_f_fixities_names))), (a_fixities_sides, .inl (ka_fixities_sides, 12, .inl w_f_fixities_sides)), (a_fixities_levels, .inl (ka_fixities_levels, 12, .inl w_f_fixities_levels))] t.heap ∧ va_K (dC, dI) vcl [(ka_fixities_names, .long), (ka_fixities_sides, .int), (ka_fixities_levels, .int)] t ∧ va_D (va_A [(a_t, .inr (0, [.ref a_text, .ref a_fixities, .ref a_cutter, .ref a_blocks, .ref a_rows, .ref a_tokens, .ref a_counts, .int z_wrongPlace])), (a_fixities, .inr (4, [.ref a_fixities_names, .ref a_fixities_sides, .ref a_fixities_levels, .int (nI n_fixities_size)])), (a_fixities_names, .inl (ka_fixities_names, 12, .inr (.inl f_fixities_names))), (a_fixities_sides, .inl (ka_fixities_sides, 12, .inl f_fixities_sides)), (a_fixities_levels, .inl (ka_fixities_levels, 12, .inl f_fixities_levels))] sz) [(a_t, .inr (0, [.ref a_text, .ref a_fixities, .ref a_cutter, .ref a_blocks, .ref a_rows, .ref a_tokens, .ref a_counts, .int z_wrongPlace])), (a_fixities, .inr (4, [.ref a_fixities_names, .ref a_fixities_sides, .ref a_fixities_levels, .int (nI w_n_fixities_size)])), (a_fixities_names, .inl (ka_fixities_names, 12, .inr (.inl w_f_fixities_names))), (a_fixities_sides, .inl (ka_fixities_sides, 12, .inl w_f_fixities_sides)), (a_fixities_levels, .inl (ka_fixities_levels, 12, .inl w_f_fixities_levels))]) (va_A [(a_t, .inr (0, [.ref a_text, .ref a_fixities, .ref a_cutter, .ref a_blocks, .ref a_rows, .ref a_tokens, .ref a_counts, .int z_wrongPlace])), (a_fixities, .inr (4, [.ref a_fixities_names, .ref a_fixities_sides, .ref a_fixities_levels, .int (nI n_fixities_size)])), (a_fixities_names, .inl (ka_fixities_names, 12, .inr (.inl f_fixities_names))), (a_fixities_sides, .inl (ka_fixities_sides, 12, .inl f_fixities_sides)), (a_fixities_levels, .inl (ka_fixities_levels, 12, .inl f_fixities_levels))] sz) 1 6 := by
  refine ty_ofW (cc := b_LF_fixity) (maxL := 5) (ret := (some .int)) (by decide) rfl ?_
  intro p e s m args below meth c s₁ B hml hv
  obtain ⟨rfl, hsz, hP, hK, hD0, hE⟩ := hv
  have hx := B.exec
  have hb := B.bytes
  have hr := B.returns
  have hts := atoms_spec (ws := w_LF_fixity) B.pre
  have hz : ∀ w ∈ wz, w.before _ s = true := fun w h => hts w (List.mem_cons_of_mem _ h)
  have hown : s.vm.findClass R_LF = some m.cls := findClass_of_methodNamed B.named
  have hlocks := B.notSynchronized
  subst hsz
  have hD := hD0.self (sz := s.heap.size)
  generalize hAe : va_A [(a_t, .inr (0, [.ref a_text, .ref a_fixities, .ref a_cutter, .ref a_blocks, .ref a_rows, .ref a_tokens, .ref a_counts, .int z_wrongPlace])), (a_fixities, .inr (4, [.ref a_fixities_names, .ref a_fixities_sides, .ref a_fixities_levels, .int (nI n_fixities_size)])), (a_fixities_names, .inl (ka_fixities_names, 12, .inr (.inl f_fixities_names))), (a_fixities_sides, .inl (ka_fixities_sides, 12, .inl f_fixities_sides)), (a_fixities_levels, .inl (ka_fixities_levels, 12, .inl f_fixities_levels))] s.heap.size = A at hD hE ⊢
  have hA : ∀ q : Nat, s.heap.size ≤ q → A q := fun q h => by rw [← hAe]; exact Or.inr h
  have hS : va_S A s.heap s.heap [] := va_S.rf
  have hP : va_P (dC, dI) vcl [(a_t, .inr (0, [.ref a_text, .ref a_fixities, .ref a_cutter, .ref a_blocks, .ref a_rows, .ref a_tokens, .ref a_counts, .int z_wrongPlace])), (a_fixities, .inr (4, [.ref a_fixities_names, .ref a_fixities_sides, .ref a_fixities_levels, .int (nI n_fixities_size)])), (a_fixities_names, .inl (ka_fixities_names, 12, .inr (.inl f_fixities_names))), (a_fixities_sides, .inl (ka_fixities_sides, 12, .inl f_fixities_sides)), (a_fixities_levels, .inl (ka_fixities_levels, 12, .inl f_fixities_levels))] s.heap := hP
  have hl := lv_entry ([.ref a_t, .long y0, .int y1, .int y2]) (n := 5) (Nat.le_of_ble_eq_true rfl)
  rw [lg_entry_eq]
  generalize (lg_sl ([.ref a_t, .long y0, .int y1, .int y2]) ++ List.replicate (5 - (lg_sl ([.ref a_t, .long y0, .int y1, .int y2])).length) Slot.unset).toArray = ls at hl ⊢
  have hl : lv_has ls 5 [(0, .ref a_t), (1, .long y0), (3, .int y1), (4, .int y2)] := hl
  refine lv_iload_n hx hb d_LF_fixity_0 rfl (lv_at hl 2 rfl) ?_
  refine lv_if_lt (tgt := 21) hx hb d_LF_fixity_1 (by decide) (fun h1 => ?_) (fun h1 => ?_)
  · have hP9 := hP.sub (ws' := [(a_t, .inr (0, [.ref a_text, .ref a_fixities, .ref a_cutter, .ref a_blocks, .ref a_rows, .ref a_tokens, .ref a_counts, .int z_wrongPlace])), (a_fixities, .inr (4, [.ref a_fixities_names, .ref a_fixities_sides, .ref a_fixities_levels, .int (nI n_fixities_size)])), (a_fixities_names, .inl (ka_fixities_names, 12, .inr (.inl f_fixities_names))), (a_fixities_sides, .inl (ka_fixities_sides, 12, .inl f_fixities_sides)), (a_fixities_levels, .inl (ka_fixities_levels, 12, .inl f_fixities_levels))]) [0, 1, 2, 3, 4] rfl
    have hD9 := hD.sub (ws' := [(a_t, .inr (0, [.ref a_text, .ref a_fixities, .ref a_cutter, .ref a_blocks, .ref a_rows, .ref a_tokens, .ref a_counts, .int z_wrongPlace])), (a_fixities, .inr (4, [.ref a_fixities_names, .ref a_fixities_sides, .ref a_fixities_levels, .int (nI n_fixities_size)])), (a_fixities_names, .inl (ka_fixities_names, 12, .inr (.inl f_fixities_names))), (a_fixities_sides, .inl (ka_fixities_sides, 12, .inl f_fixities_sides)), (a_fixities_levels, .inl (ka_fixities_levels, 12, .inl f_fixities_levels))]) [0, 1, 2, 3, 4] (by decide) rfl
    obtain ⟨qs, hqs⟩ := hE.msg _ (List.mem_of_getElem? (l := tx_str) (i := 2) rfl)
    exact ty_throw hx hb hnt hlocks (hl.1.trans hml.symm) hown (by decide +kernel) (by decide +kernel) (fun U hv hh => cx_xIAE (cx_hz hz hv) (hE.at hS hv hh)) (fun U hv => word_at (cx_warm hv) (zgood _ zm_543).2 (hz _ zm_543)) (fun U hv => word_at (cx_warm hv) (zgood _ zm_544).2 (hz _ zm_544)) (fun U hv => word_at (cx_warm hv) (zgood _ zm_545).2 (hz _ zm_545)) hqs d_LF_fixity_21 d_LF_fixity_24 d_LF_fixity_25 d_LF_fixity_27 d_LF_fixity_30 (covers_of_empty (B.noHandlers (hts _ List.mem_cons_self)) _) (Nat.le_of_ble_eq_true rfl) (Nat.le_of_ble_eq_true rfl) (Nat.le_of_ble_eq_true rfl) (Nat.le_of_ble_eq_true rfl) hS (Nat.le_refl _) (Nat.le_refl _) (by simp) (fun t ha h8 h9 => ⟨n_fixities_size, f_fixities_names, f_fixities_sides, f_fixities_levels, by first | omega | assumption | rfl, by first | omega | assumption | rfl, by rfl, cx_grown hP9 h9, va_K.moved ha hK, hD9⟩)
  · have p1 := h1
    refine lv_iload_n hx hb d_LF_fixity_4 rfl (lv_at hl 2 rfl) ?_
    refine lv_iconst (v := 2) hx hb d_LF_fixity_5 (by decide) ?_
    refine lv_icmp_gt (tgt := 21) hx hb d_LF_fixity_6 (by decide) (fun h2 => ?_) (fun h2 => ?_)
    · have hP9 := hP.sub (ws' := [(a_t, .inr (0, [.ref a_text, .ref a_fixities, .ref a_cutter, .ref a_blocks, .ref a_rows, .ref a_tokens, .ref a_counts, .int z_wrongPlace])), (a_fixities, .inr (4, [.ref a_fixities_names, .ref a_fixities_sides, .ref a_fixities_levels, .int (nI n_fixities_size)])), (a_fixities_names, .inl (ka_fixities_names, 12, .inr (.inl f_fixities_names))), (a_fixities_sides, .inl (ka_fixities_sides, 12, .inl f_fixities_sides)), (a_fixities_levels, .inl (ka_fixities_levels, 12, .inl f_fixities_levels))]) [0, 1, 2, 3, 4] rfl
      have hD9 := hD.sub (ws' := [(a_t, .inr (0, [.ref a_text, .ref a_fixities, .ref a_cutter, .ref a_blocks, .ref a_rows, .ref a_tokens, .ref a_counts, .int z_wrongPlace])), (a_fixities, .inr (4, [.ref a_fixities_names, .ref a_fixities_sides, .ref a_fixities_levels, .int (nI n_fixities_size)])), (a_fixities_names, .inl (ka_fixities_names, 12, .inr (.inl f_fixities_names))), (a_fixities_sides, .inl (ka_fixities_sides, 12, .inl f_fixities_sides)), (a_fixities_levels, .inl (ka_fixities_levels, 12, .inl f_fixities_levels))]) [0, 1, 2, 3, 4] (by decide) rfl
      obtain ⟨qs, hqs⟩ := hE.msg _ (List.mem_of_getElem? (l := tx_str) (i := 2) rfl)
      exact ty_throw hx hb hnt hlocks (hl.1.trans hml.symm) hown (by decide +kernel) (by decide +kernel) (fun U hv hh => cx_xIAE (cx_hz hz hv) (hE.at hS hv hh)) (fun U hv => word_at (cx_warm hv) (zgood _ zm_543).2 (hz _ zm_543)) (fun U hv => word_at (cx_warm hv) (zgood _ zm_544).2 (hz _ zm_544)) (fun U hv => word_at (cx_warm hv) (zgood _ zm_545).2 (hz _ zm_545)) hqs d_LF_fixity_21 d_LF_fixity_24 d_LF_fixity_25 d_LF_fixity_27 d_LF_fixity_30 (covers_of_empty (B.noHandlers (hts _ List.mem_cons_self)) _) (Nat.le_of_ble_eq_true rfl) (Nat.le_of_ble_eq_true rfl) (Nat.le_of_ble_eq_true rfl) (Nat.le_of_ble_eq_true rfl) hS (Nat.le_refl _) (Nat.le_refl _) (by simp) (fun t ha h8 h9 => ⟨n_fixities_size, f_fixities_names, f_fixities_sides, f_fixities_levels, by first | omega | assumption | rfl, by first | omega | assumption | rfl, by rfl, cx_grown hP9 h9, va_K.moved ha hK, hD9⟩)
    · have p2 := h2
      refine lv_iload hx hb d_LF_fixity_9 (lv_at hl 3 rfl) ?_
      refine lv_if_lt (tgt := 21) hx hb d_LF_fixity_11 (by decide) (fun h3 => ?_) (fun h3 => ?_)
      · have hP9 := hP.sub (ws' := [(a_t, .inr (0, [.ref a_text, .ref a_fixities, .ref a_cutter, .ref a_blocks, .ref a_rows, .ref a_tokens, .ref a_counts, .int z_wrongPlace])), (a_fixities, .inr (4, [.ref a_fixities_names, .ref a_fixities_sides, .ref a_fixities_levels, .int (nI n_fixities_size)])), (a_fixities_names, .inl (ka_fixities_names, 12, .inr (.inl f_fixities_names))), (a_fixities_sides, .inl (ka_fixities_sides, 12, .inl f_fixities_sides)), (a_fixities_levels, .inl (ka_fixities_levels, 12, .inl f_fixities_levels))]) [0, 1, 2, 3, 4] rfl
        have hD9 := hD.sub (ws' := [(a_t, .inr (0, [.ref a_text, .ref a_fixities, .ref a_cutter, .ref a_blocks, .ref a_rows, .ref a_tokens, .ref a_counts, .int z_wrongPlace])), (a_fixities, .inr (4, [.ref a_fixities_names, .ref a_fixities_sides, .ref a_fixities_levels, .int (nI n_fixities_size)])), (a_fixities_names, .inl (ka_fixities_names, 12, .inr (.inl f_fixities_names))), (a_fixities_sides, .inl (ka_fixities_sides, 12, .inl f_fixities_sides)), (a_fixities_levels, .inl (ka_fixities_levels, 12, .inl f_fixities_levels))]) [0, 1, 2, 3, 4] (by decide) rfl
        obtain ⟨qs, hqs⟩ := hE.msg _ (List.mem_of_getElem? (l := tx_str) (i := 2) rfl)
        exact ty_throw hx hb hnt hlocks (hl.1.trans hml.symm) hown (by decide +kernel) (by decide +kernel) (fun U hv hh => cx_xIAE (cx_hz hz hv) (hE.at hS hv hh)) (fun U hv => word_at (cx_warm hv) (zgood _ zm_543).2 (hz _ zm_543)) (fun U hv => word_at (cx_warm hv) (zgood _ zm_544).2 (hz _ zm_544)) (fun U hv => word_at (cx_warm hv) (zgood _ zm_545).2 (hz _ zm_545)) hqs d_LF_fixity_21 d_LF_fixity_24 d_LF_fixity_25 d_LF_fixity_27 d_LF_fixity_30 (covers_of_empty (B.noHandlers (hts _ List.mem_cons_self)) _) (Nat.le_of_ble_eq_true rfl) (Nat.le_of_ble_eq_true rfl) (Nat.le_of_ble_eq_true rfl) (Nat.le_of_ble_eq_true rfl) hS (Nat.le_refl _) (Nat.le_refl _) (by simp) (fun t ha h8 h9 => ⟨n_fixities_size, f_fixities_names, f_fixities_sides, f_fixities_levels, by first | omega | assumption | rfl, by first | omega | assumption | rfl, by rfl, cx_grown hP9 h9, va_K.moved ha hK, hD9⟩)
      · have p3 := h3
        refine lv_iload hx hb d_LF_fixity_14 (lv_at hl 3 rfl) ?_
        refine lv_bipush (v := 9) hx hb d_LF_fixity_16 (by decide) ?_
        refine lv_icmp_le (tgt := 31) hx hb d_LF_fixity_18 (by decide) (fun h4 => ?_) (fun h4 => ?_)
        · exact hp0.elim (fun q9 => absurd q9 (wi_y p1 p2)) (fun q9 => absurd q9 (wi_y p3 (Int32.not_lt.mpr h4)))
        · have hP9 := hP.sub (ws' := [(a_t, .inr (0, [.ref a_text, .ref a_fixities, .ref a_cutter, .ref a_blocks, .ref a_rows, .ref a_tokens, .ref a_counts, .int z_wrongPlace])), (a_fixities, .inr (4, [.ref a_fixities_names, .ref a_fixities_sides, .ref a_fixities_levels, .int (nI n_fixities_size)])), (a_fixities_names, .inl (ka_fixities_names, 12, .inr (.inl f_fixities_names))), (a_fixities_sides, .inl (ka_fixities_sides, 12, .inl f_fixities_sides)), (a_fixities_levels, .inl (ka_fixities_levels, 12, .inl f_fixities_levels))]) [0, 1, 2, 3, 4] rfl
          have hD9 := hD.sub (ws' := [(a_t, .inr (0, [.ref a_text, .ref a_fixities, .ref a_cutter, .ref a_blocks, .ref a_rows, .ref a_tokens, .ref a_counts, .int z_wrongPlace])), (a_fixities, .inr (4, [.ref a_fixities_names, .ref a_fixities_sides, .ref a_fixities_levels, .int (nI n_fixities_size)])), (a_fixities_names, .inl (ka_fixities_names, 12, .inr (.inl f_fixities_names))), (a_fixities_sides, .inl (ka_fixities_sides, 12, .inl f_fixities_sides)), (a_fixities_levels, .inl (ka_fixities_levels, 12, .inl f_fixities_levels))]) [0, 1, 2, 3, 4] (by decide) rfl
          obtain ⟨qs, hqs⟩ := hE.msg _ (List.mem_of_getElem? (l := tx_str) (i := 2) rfl)
          exact ty_throw hx hb hnt hlocks (hl.1.trans hml.symm) hown (by decide +kernel) (by decide +kernel) (fun U hv hh => cx_xIAE (cx_hz hz hv) (hE.at hS hv hh)) (fun U hv => word_at (cx_warm hv) (zgood _ zm_543).2 (hz _ zm_543)) (fun U hv => word_at (cx_warm hv) (zgood _ zm_544).2 (hz _ zm_544)) (fun U hv => word_at (cx_warm hv) (zgood _ zm_545).2 (hz _ zm_545)) hqs d_LF_fixity_21 d_LF_fixity_24 d_LF_fixity_25 d_LF_fixity_27 d_LF_fixity_30 (covers_of_empty (B.noHandlers (hts _ List.mem_cons_self)) _) (Nat.le_of_ble_eq_true rfl) (Nat.le_of_ble_eq_true rfl) (Nat.le_of_ble_eq_true rfl) (Nat.le_of_ble_eq_true rfl) hS (Nat.le_refl _) (Nat.le_refl _) (by simp) (fun t ha h8 h9 => ⟨n_fixities_size, f_fixities_names, f_fixities_sides, f_fixities_levels, by first | omega | assumption | rfl, by first | omega | assumption | rfl, by rfl, cx_grown hP9 h9, va_K.moved ha hK, hD9⟩)
set_option maxHeartbeats 4000000 in
set_option maxRecDepth 100000 in
theorem s_LF_fixityF2 (l : Launch) (hnt : l.stackTraces = false) (dC : Nat → ClassId) (dI : Nat → Nat → Nat) (sz : Nat) (a_t : Nat) (a_text : Nat) (a_fixities : Nat) (a_fixities_names : Nat) (f_fixities_names : Nat → Int64) (a_fixities_sides : Nat) (f_fixities_sides : Nat → Int32) (a_fixities_levels : Nat) (f_fixities_levels : Nat → Int32) (n_fixities_size : Nat) (a_cutter : Nat) (a_blocks : Nat) (a_rows : Nat) (a_tokens : Nat) (a_counts : Nat) (z_wrongPlace : Int32) (y0 : Int64) (y1 : Int32) (y2 : Int32) (ka_fixities_names : ClassId) (ka_fixities_sides : ClassId) (ka_fixities_levels : ClassId) (b_fixities_size : n_fixities_size ≤ 12) (hp0 : hasN f_fixities_names y0 n_fixities_size = false) (hp1 : ¬ wi y1 0 2 = 0) (hp2 : ¬ wi y2 0 9 = 0) (hp3 : ¬ n_fixities_size < 12) : ty_Met l y_LF_fixity w_LF_fixity ({ frames := 7, cells := 1, slots := 6, locals := 120 }) (va_Pc [.ref a_t, .long y0, .int y1, .int y2] (fun U => U.heap.size = sz ∧ va_P (dC, dI) vcl [(a_t, .inr (0, [.ref a_text, .ref a_fixities, .ref a_cutter, .ref a_blocks, .ref a_rows, .ref a_tokens, .ref a_counts, .int z_wrongPlace])), (a_fixities, .inr (4, [.ref a_fixities_names, .ref a_fixities_sides, .ref a_fixities_levels, .int (nI n_fixities_size)])), (a_fixities_names, .inl (ka_fixities_names, 12, .inr (.inl f_fixities_names))), (a_fixities_sides, .inl (ka_fixities_sides, 12, .inl f_fixities_sides)), (a_fixities_levels, .inl (ka_fixities_levels, 12, .inl f_fixities_levels))] U.heap ∧ va_K (dC, dI) vcl [(ka_fixities_names, .long), (ka_fixities_sides, .int), (ka_fixities_levels, .int)] U ∧ va_D (fun _ => True) [(a_t, .inr (0, [.ref a_text, .ref a_fixities, .ref a_cutter, .ref a_blocks, .ref a_rows, .ref a_tokens, .ref a_counts, .int z_wrongPlace])), (a_fixities, .inr (4, [.ref a_fixities_names, .ref a_fixities_sides, .ref a_fixities_levels, .int (nI n_fixities_size)])), (a_fixities_names, .inl (ka_fixities_names, 12, .inr (.inl f_fixities_names))), (a_fixities_sides, .inl (ka_fixities_sides, 12, .inl f_fixities_sides)), (a_fixities_levels, .inl (ka_fixities_levels, 12, .inl f_fixities_levels))] ∧ cx_E (va_A [(a_t, .inr (0, [.ref a_text, .ref a_fixities, .ref a_cutter, .ref a_blocks, .ref a_rows, .ref a_tokens, .ref a_counts, .int z_wrongPlace])), (a_fixities, .inr (4, [.ref a_fixities_names, .ref a_fixities_sides, .ref a_fixities_levels, .int (nI n_fixities_size)])), (a_fixities_names, .inl (ka_fixities_names, 12, .inr (.inl f_fixities_names))), (a_fixities_sides, .inl (ka_fixities_sides, 12, .inl f_fixities_sides)), (a_fixities_levels, .inl (ka_fixities_levels, 12, .inl f_fixities_levels))] sz) U U.heap)) (va_Qi (fun (r : Int32) (_ : Unit) => False) (fun _ t => ∃ (w_n_fixities_size : Nat) (w_f_fixities_names : Nat → Int64) (w_f_fixities_sides : Nat → Int32) (w_f_fixities_levels : Nat → Int32), (w_n_fixities_size ≤ 12) ∧ (w_n_fixities_size = n_fixities_size) ∧ (w_f_fixities_names = f_fixities_names) ∧ va_P (dC, dI) vcl [(a_t, .inr (0, [.ref a_text, .ref a_fixities, .ref a_cutter, .ref a_blocks, .ref a_rows, .ref a_tokens, .ref a_counts, .int z_wrongPlace])), (a_fixities, .inr (4, [.ref a_fixities_names, .ref a_fixities_sides, .ref a_fixities_levels, .int (nI w_n_fixities_size)])), (a_fixities_names, .inl (ka_fixities_names, 12, .inr (.inl w_f_fixities_names))), (a_fixities_sides, .inl (ka_fixities_sides, 12, .inl w_f_fixities_sides)), (a_fixities_levels, .inl (ka_fixities_levels, 12, .inl w_f_fixities_levels))] t.heap ∧ va_K (dC, dI) vcl [(ka_fixities_names, .long), (ka_fixities_sides, .int), (ka_fixities_levels, .int)] t ∧ va_D (va_A [(a_t, .inr (0, [.ref a_text, .ref a_fixities, .ref a_cutter, .ref a_blocks, .ref a_rows, .ref a_tokens, .ref a_counts, .int z_wrongPlace])), (a_fixities, .inr (4, [.ref a_fixities_names, .ref a_fixities_sides, .ref a_fixities_levels, .int (nI n_fixities_size)])), (a_fixities_names, .inl (ka_fixities_names, 12, .inr (.inl f_fixities_names))), (a_fixities_sides, .inl (ka_fixities_sides, 12, .inl f_fixities_sides)), (a_fixities_levels, .inl (ka_fixities_levels, 12, .inl f_fixities_levels))] sz) [(a_t, .inr (0, [.ref a_text, .ref a_fixities, .ref a_cutter, .ref a_blocks, .ref a_rows, .ref a_tokens, .ref a_counts, .int z_wrongPlace])), (a_fixities, .inr (4, [.ref a_fixities_names, .ref a_fixities_sides, .ref a_fixities_levels, .int (nI w_n_fixities_size)])), (a_fixities_names, .inl (ka_fixities_names, 12, .inr (.inl w_f_fixities_names))), (a_fixities_sides, .inl (ka_fixities_sides, 12, .inl w_f_fixities_sides)), (a_fixities_levels, .inl (ka_fixities_levels, 12, .inl w_f_fixities_levels))]) (va_A [(a_t, .inr (0, [.ref a_text, .ref a_fixities, .ref a_cutter, .ref a_blocks, .ref a_rows, .ref a_tokens, .ref a_counts, .int z_wrongPlace])), (a_fixities, .inr (4, [.ref a_fixities_names, .ref a_fixities_sides, .ref a_fixities_levels, .int (nI n_fixities_size)])), (a_fixities_names, .inl (ka_fixities_names, 12, .inr (.inl f_fixities_names))), (a_fixities_sides, .inl (ka_fixities_sides, 12, .inl f_fixities_sides)), (a_fixities_levels, .inl (ka_fixities_levels, 12, .inl f_fixities_levels))] sz)) [xISE] (fun t => ∃ (w_n_fixities_size : Nat) (w_f_fixities_names : Nat → Int64) (w_f_fixities_sides : Nat → Int32) (w_f_fixities_levels : Nat → Int32), (w_n_fixities_size ≤ 12) ∧ (w_n_fixities_size = n_fixities_size) ∧ (w_f_fixities_names = f_fixities_names) ∧ va_P (dC, dI) vcl [(a_t, .inr (0, [.ref a_text, .ref a_fixities, .ref a_cutter, .ref a_blocks, .ref a_rows, .ref a_tokens, .ref a_counts, .int z_wrongPlace])), (a_fixities, .inr (4, [.ref a_fixities_names, .ref a_fixities_sides, .ref a_fixities_levels, .int (nI w_n_fixities_size)])), (a_fixities_names, .inl (ka_fixities_names, 12, .inr (.inl w_f_fixities_names))), (a_fixities_sides, .inl (ka_fixities_sides, 12, .inl w_f_fixities_sides)), (a_fixities_levels, .inl (ka_fixities_levels, 12, .inl w_f_fixities_levels))] t.heap ∧ va_K (dC, dI) vcl [(ka_fixities_names, .long), (ka_fixities_sides, .int), (ka_fixities_levels, .int)] t ∧ va_D (va_A [(a_t, .inr (0, [.ref a_text, .ref a_fixities, .ref a_cutter, .ref a_blocks, .ref a_rows, .ref a_tokens, .ref a_counts, .int z_wrongPlace])), (a_fixities, .inr (4, [.ref a_fixities_names, .ref a_fixities_sides, .ref a_fixities_levels, .int (nI n_fixities_size)])), (a_fixities_names, .inl (ka_fixities_names, 12, .inr (.inl f_fixities_names))), (a_fixities_sides, .inl (ka_fixities_sides, 12, .inl f_fixities_sides)), (a_fixities_levels, .inl (ka_fixities_levels, 12, .inl f_fixities_levels))] sz) [(a_t, .inr (0, [.ref a_text, .ref a_fixities, .ref a_cutter, .ref a_blocks, .ref a_rows, .ref a_tokens, .ref a_counts, .int z_wrongPlace])), (a_fixities, .inr (4, [.ref a_fixities_names, .ref a_fixities_sides, .ref a_fixities_levels, .int (nI w_n_fixities_size)])), (a_fixities_names, .inl (ka_fixities_names, 12, .inr (.inl w_f_fixities_names))), (a_fixities_sides, .inl (ka_fixities_sides, 12, .inl w_f_fixities_sides)), (a_fixities_levels, .inl (ka_fixities_levels, 12, .inl w_f_fixities_levels))]) (va_A [(a_t, .inr (0, [.ref a_text, .ref a_fixities, .ref a_cutter, .ref a_blocks, .ref a_rows, .ref a_tokens, .ref a_counts, .int z_wrongPlace])), (a_fixities, .inr (4, [.ref a_fixities_names, .ref a_fixities_sides, .ref a_fixities_levels, .int (nI n_fixities_size)])), (a_fixities_names, .inl (ka_fixities_names, 12, .inr (.inl f_fixities_names))), (a_fixities_sides, .inl (ka_fixities_sides, 12, .inl f_fixities_sides)), (a_fixities_levels, .inl (ka_fixities_levels, 12, .inl f_fixities_levels))] sz) 1 6 := by
  refine ty_ofW (cc := b_LF_fixity) (maxL := 5) (ret := (some .int)) (by decide) rfl ?_
  intro p e s m args below meth c s₁ B hml hv
  obtain ⟨rfl, hsz, hP, hK, hD0, hE⟩ := hv
  have hx := B.exec
  have hb := B.bytes
  have hr := B.returns
  have hts := atoms_spec (ws := w_LF_fixity) B.pre
  have hz : ∀ w ∈ wz, w.before _ s = true := fun w h => hts w (List.mem_cons_of_mem _ h)
  have hown : s.vm.findClass R_LF = some m.cls := findClass_of_methodNamed B.named
  have hlocks := B.notSynchronized
  subst hsz
  have hD := hD0.self (sz := s.heap.size)
  generalize hAe : va_A [(a_t, .inr (0, [.ref a_text, .ref a_fixities, .ref a_cutter, .ref a_blocks, .ref a_rows, .ref a_tokens, .ref a_counts, .int z_wrongPlace])), (a_fixities, .inr (4, [.ref a_fixities_names, .ref a_fixities_sides, .ref a_fixities_levels, .int (nI n_fixities_size)])), (a_fixities_names, .inl (ka_fixities_names, 12, .inr (.inl f_fixities_names))), (a_fixities_sides, .inl (ka_fixities_sides, 12, .inl f_fixities_sides)), (a_fixities_levels, .inl (ka_fixities_levels, 12, .inl f_fixities_levels))] s.heap.size = A at hD hE ⊢
  have hA : ∀ q : Nat, s.heap.size ≤ q → A q := fun q h => by rw [← hAe]; exact Or.inr h
  have hS : va_S A s.heap s.heap [] := va_S.rf
  have hP : va_P (dC, dI) vcl [(a_t, .inr (0, [.ref a_text, .ref a_fixities, .ref a_cutter, .ref a_blocks, .ref a_rows, .ref a_tokens, .ref a_counts, .int z_wrongPlace])), (a_fixities, .inr (4, [.ref a_fixities_names, .ref a_fixities_sides, .ref a_fixities_levels, .int (nI n_fixities_size)])), (a_fixities_names, .inl (ka_fixities_names, 12, .inr (.inl f_fixities_names))), (a_fixities_sides, .inl (ka_fixities_sides, 12, .inl f_fixities_sides)), (a_fixities_levels, .inl (ka_fixities_levels, 12, .inl f_fixities_levels))] s.heap := hP
  have hl := lv_entry ([.ref a_t, .long y0, .int y1, .int y2]) (n := 5) (Nat.le_of_ble_eq_true rfl)
  rw [lg_entry_eq]
  generalize (lg_sl ([.ref a_t, .long y0, .int y1, .int y2]) ++ List.replicate (5 - (lg_sl ([.ref a_t, .long y0, .int y1, .int y2])).length) Slot.unset).toArray = ls at hl ⊢
  have hl : lv_has ls 5 [(0, .ref a_t), (1, .long y0), (3, .int y1), (4, .int y2)] := hl
  refine lv_iload_n hx hb d_LF_fixity_0 rfl (lv_at hl 2 rfl) ?_
  refine lv_if_lt (tgt := 21) hx hb d_LF_fixity_1 (by decide) (fun h1 => ?_) (fun h1 => ?_)
  · exact absurd (wi_l h1) hp1
  · have p1 := h1
    refine lv_iload_n hx hb d_LF_fixity_4 rfl (lv_at hl 2 rfl) ?_
    refine lv_iconst (v := 2) hx hb d_LF_fixity_5 (by decide) ?_
    refine lv_icmp_gt (tgt := 21) hx hb d_LF_fixity_6 (by decide) (fun h2 => ?_) (fun h2 => ?_)
    · exact absurd (wi_g h2) hp1
    · have p2 := h2
      refine lv_iload hx hb d_LF_fixity_9 (lv_at hl 3 rfl) ?_
      refine lv_if_lt (tgt := 21) hx hb d_LF_fixity_11 (by decide) (fun h3 => ?_) (fun h3 => ?_)
      · exact absurd (wi_l h3) hp2
      · have p3 := h3
        refine lv_iload hx hb d_LF_fixity_14 (lv_at hl 3 rfl) ?_
        refine lv_bipush (v := 9) hx hb d_LF_fixity_16 (by decide) ?_
        refine lv_icmp_le (tgt := 31) hx hb d_LF_fixity_18 (by decide) (fun h4 => ?_) (fun h4 => ?_)
        · refine lv_aload_n hx hb d_LF_fixity_31 rfl (lv_at hl 0 rfl) ?_
          refine va_get (D := (dC, dI)) (ci := 0) (v := .ref a_fixities) (C := R_LF) (T := F_LF) (N := 8) hx hb hz zu_LF hown hK hP 0 rfl rfl 1 (by decide) (hz (.fieldLink R_LF 19 "LayoutFront" "fixities" "LLayoutFront$Fixities;") zm_509) (fun _ h9 => h9) rfl d_LF_fixity_32 ?_
          refine lv_lload_n hx hb d_LF_fixity_35 rfl (lv_at hl 1 rfl) ?_
          have hPc := hP.sub (ws' := [(a_fixities, .inr (4, [.ref a_fixities_names, .ref a_fixities_sides, .ref a_fixities_levels, .int (nI n_fixities_size)])), (a_fixities_names, .inl (ka_fixities_names, 12, .inr (.inl f_fixities_names)))]) [1, 2] rfl
          have hDc := hD.sub (ws' := [(a_fixities, .inr (4, [.ref a_fixities_names, .ref a_fixities_sides, .ref a_fixities_levels, .int (nI n_fixities_size)])), (a_fixities_names, .inl (ka_fixities_names, 12, .inr (.inl f_fixities_names)))]) [1, 2] (by decide) rfl
          have hKc := hK.sub (tys' := [(ka_fixities_names, .long)]) [0] rfl
          have hFc := va_free (wc := [(a_fixities, .inr (4, [.ref a_fixities_names, .ref a_fixities_sides, .ref a_fixities_levels, .int (nI n_fixities_size)])), (a_fixities_names, .inl (ka_fixities_names, 12, .inr (.inl f_fixities_names)))]) hD hS hA [1, 2] rfl
          refine va_calli (va_runV (As := [.long y0]) (rest := []) ⟨hx, hb, hml, hown, hz⟩ (s_Fixities_hasRoomForH l dC dI s.heap.size a_fixities a_fixities_names f_fixities_names a_fixities_sides a_fixities_levels n_fixities_size y0 ka_fixities_names (by first | omega | assumption)) (cwV 1 hz (zV zm_553 zm_554 zm_555 zm_25 zm_556) rfl rfl rfl (by decide +kernel) ⟨Nat.le_of_ble_eq_true rfl, Nat.le_of_ble_eq_true rfl⟩) ⟨fun a U g mk q => by obtain ⟨q0, q1, qP, qK, qD⟩ := q; exact ⟨q0, q1, qP, va_K.moved (u := U) (U := U.calling g mk a) (Vm.Alike.refl U.vm) qK, qD⟩, va_recv (q := (R_Fixities, F_Fixities, 4)) (q0 := 1) (ci := 4) hK hP rfl rfl, fun U hU hW => ⟨rfl, by rw [hU], by rw [hU]; exact hPc, va_K.moved hW.alike hKc, hDc.weaken (fun _ _ _ _ => trivial)⟩⟩ rfl rfl hl.1 rfl (lv_room (Nat.le_of_ble_eq_true rfl)) d_LF_fixity_36 ⟨Nat.zero_le _, Nat.zero_le _⟩) hS (fun q _ h => hFc q h) hFc (fun r u t H1 locs ht hvm hw_r hB hz1 hk1 hS => ?_)
          obtain ⟨hP1, hK1, hD1⟩ := hB
          obtain ⟨hb_r, he_r⟩ := hw_r
          subst r
          rw [ht] at hP1
          obtain ⟨hP, hD⟩ := va_join (wr := [(a_t, .inr (0, [.ref a_text, .ref a_fixities, .ref a_cutter, .ref a_blocks, .ref a_rows, .ref a_tokens, .ref a_counts, .int z_wrongPlace])), (a_fixities_sides, .inl (ka_fixities_sides, 12, .inl f_fixities_sides)), (a_fixities_levels, .inl (ka_fixities_levels, 12, .inl f_fixities_levels))]) (w1 := [(a_fixities, .inr (4, [.ref a_fixities_names, .ref a_fixities_sides, .ref a_fixities_levels, .int (nI n_fixities_size)])), (a_fixities_names, .inl (ka_fixities_names, 12, .inr (.inl f_fixities_names)))]) hP hD [1, 2] [0, 3, 4] rfl rfl (by decide) (by decide) hk1 hFc hP1 hD1
          generalize H1 = H at hP hS ⊢
          have hP : va_P (dC, dI) vcl [(a_t, .inr (0, [.ref a_text, .ref a_fixities, .ref a_cutter, .ref a_blocks, .ref a_rows, .ref a_tokens, .ref a_counts, .int z_wrongPlace])), (a_fixities_sides, .inl (ka_fixities_sides, 12, .inl f_fixities_sides)), (a_fixities_levels, .inl (ka_fixities_levels, 12, .inl f_fixities_levels)), (a_fixities, .inr (4, [.ref a_fixities_names, .ref a_fixities_sides, .ref a_fixities_levels, .int (nI n_fixities_size)])), (a_fixities_names, .inl (ka_fixities_names, 12, .inr (.inl f_fixities_names)))] H := hP
          have hD : va_D A [(a_t, .inr (0, [.ref a_text, .ref a_fixities, .ref a_cutter, .ref a_blocks, .ref a_rows, .ref a_tokens, .ref a_counts, .int z_wrongPlace])), (a_fixities_sides, .inl (ka_fixities_sides, 12, .inl f_fixities_sides)), (a_fixities_levels, .inl (ka_fixities_levels, 12, .inl f_fixities_levels)), (a_fixities, .inr (4, [.ref a_fixities_names, .ref a_fixities_sides, .ref a_fixities_levels, .int (nI n_fixities_size)])), (a_fixities_names, .inl (ka_fixities_names, 12, .inr (.inl f_fixities_names)))] := hD
          refine lv_if_ne (tgt := 52) hx hb d_LF_fixity_39 (by decide) (fun h5 => ?_) (fun h5 => ?_)
          · exact (Bool.or_eq_true_iff.mp (b01_yes h5)).elim (fun q9 => absurd (of_decide_eq_true q9) hp3) (fun q9 => yn q9 hp0)
          · have hP9 := hP.sub (ws' := [(a_t, .inr (0, [.ref a_text, .ref a_fixities, .ref a_cutter, .ref a_blocks, .ref a_rows, .ref a_tokens, .ref a_counts, .int z_wrongPlace])), (a_fixities, .inr (4, [.ref a_fixities_names, .ref a_fixities_sides, .ref a_fixities_levels, .int (nI n_fixities_size)])), (a_fixities_names, .inl (ka_fixities_names, 12, .inr (.inl f_fixities_names))), (a_fixities_sides, .inl (ka_fixities_sides, 12, .inl f_fixities_sides)), (a_fixities_levels, .inl (ka_fixities_levels, 12, .inl f_fixities_levels))]) [0, 3, 4, 1, 2] rfl
            have hD9 := hD.sub (ws' := [(a_t, .inr (0, [.ref a_text, .ref a_fixities, .ref a_cutter, .ref a_blocks, .ref a_rows, .ref a_tokens, .ref a_counts, .int z_wrongPlace])), (a_fixities, .inr (4, [.ref a_fixities_names, .ref a_fixities_sides, .ref a_fixities_levels, .int (nI n_fixities_size)])), (a_fixities_names, .inl (ka_fixities_names, 12, .inr (.inl f_fixities_names))), (a_fixities_sides, .inl (ka_fixities_sides, 12, .inl f_fixities_sides)), (a_fixities_levels, .inl (ka_fixities_levels, 12, .inl f_fixities_levels))]) [0, 3, 4, 1, 2] (by decide) rfl
            obtain ⟨qs, hqs⟩ := hE.msg _ (List.mem_of_getElem? (l := tx_str) (i := 3) rfl)
            exact ty_throw hx hb hnt hlocks (hl.1.trans hml.symm) hown (by decide +kernel) (by decide +kernel) (fun U hv hh => cx_xISE (cx_hz hz hv) (hE.at hS hv hh)) (fun U hv => word_at (cx_warm hv) (zgood _ zm_546).2 (hz _ zm_546)) (fun U hv => word_at (cx_warm hv) (zgood _ zm_547).2 (hz _ zm_547)) (fun U hv => word_at (cx_warm hv) (zgood _ zm_548).2 (hz _ zm_548)) hqs d_LF_fixity_42 d_LF_fixity_45 d_LF_fixity_46 d_LF_fixity_48 d_LF_fixity_51 (covers_of_empty (B.noHandlers (hts _ List.mem_cons_self)) _) (Nat.le_of_ble_eq_true rfl) (Nat.le_of_ble_eq_true rfl) (Nat.le_of_ble_eq_true rfl) (Nat.le_of_ble_eq_true rfl) hS (Nat.le_refl _) (Nat.le_refl _) (by simp) (fun t ha h8 h9 => ⟨n_fixities_size, f_fixities_names, f_fixities_sides, f_fixities_levels, by first | omega | assumption | rfl, by first | omega | assumption | rfl, by rfl, cx_grown hP9 h9, va_K.moved ha hK, hD9⟩)
        · exact absurd (wi_g (Int32.not_le.mp h4)) hp2
