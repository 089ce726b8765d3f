/-! the reference's small functions -/
def wi (x a b : Int32) : Int32 := if x < a then 0 else if b < x then 0 else 1
def lt_ (c : Int32) : Int32 := if ¬ wi c 97 122 = 0 then 1 else if ¬ wi c 65 90 = 0 then 1 else if c = 95 then 1 else 0
def op_ (c : Int32) : Int32 := if c = 33 then 1 else if ¬ wi c 35 38 = 0 then 1 else if c = 42 then 1 else if c = 43 then 1 else if ¬ wi c 45 47 = 0 then 1 else if c = 58 then 1 else if ¬ wi c 60 64 = 0 then 1 else if c = 92 then 1 else if c = 94 then 1 else if c = 124 then 1 else if c = 126 then 1 else 0
def sg_ (c : Int32) : Int32 := if c = 40 then 1 else if c = 41 then 1 else if c = 91 then 1 else if c = 93 then 1 else if c = 123 then 1 else if c = 125 then 1 else if c = 44 then 1 else if c = 59 then 1 else if c = 96 then 1 else 0
theorem rn_post {a k n : Nat} {m r : Int32} (h1 : a ≤ k) (h2 : k ≤ n) (h3 : k = a → m = 1 ∨ r = 0) (hx : m = 0 ∨ n ≤ k) : a + (k - a) ≤ n ∧ (a < n → ¬ r = 0 → 1 ≤ k - a) := by
  refine ⟨by omega, fun q1 q2 => ?_⟩
  rcases Nat.lt_or_ge a k with q | q
  · omega
  · rcases h3 (by omega) with e | e
    · rcases hx with e2 | e2
      · rw [e] at e2; exact absurd e2 (by decide)
      · omega
    · exact absurd e q2
theorem ds_step {f : Nat → Int32} {a k : Nat} (h : f (a + k) = 45) (h2 : ¬ k = 0 → f a = 45) : f a = 45 := by
  by_cases q : k = 0
  · rw [q] at h; exact h
  · exact h2 q
theorem mu_cut {a a' : Nat} {b b' : Int32} (hb : b = 0) (ha : a ≤ 240) (h : a < a' ∨ (a ≤ a' ∧ ¬ b' = 0)) (h' : a' ≤ 240) : (240 - a') + (if b' = 0 then 1 else 0) < (240 - a) + (if b = 0 then 1 else 0) := by
  rw [if_pos hb]
  rcases h with h | ⟨h, e⟩
  · split <;> omega
  · rw [if_neg e]; omega
theorem lx_H {a g j : Nat} {b' : Int32} (h0 : ¬ b' = 0 ∨ g = a + j) (h1 : a ≤ g) (hj : 1 ≤ j) : a < g ∨ (a ≤ g ∧ ¬ b' = 0) := by
  rcases h0 with h | h
  · exact Or.inr ⟨h1, h⟩
  · exact Or.inl (by omega)
theorem da_H {f : Nat → Int32} {a u n : Nat} (h : f a = 45) (hu : a ≤ u) (hx : n ≤ u ∨ f u = 10) (ha : a < n) : a < u := by
  rcases Nat.lt_or_ge a u with q | q
  · exact q
  · have e : u = a := by omega
    rcases hx with x | x
    · omega
    · rw [e, h] at x; exact absurd x (by decide)
def rn_ (k c : Int32) : Int32 := if k = 0 then (if ¬ lt_ c = 0 then 1 else if ¬ wi c 48 57 = 0 then 1 else if c = 39 then 1 else 0) else if k = 1 then wi c 48 57 else op_ c
theorem rn0 {x : Int32} (h : ¬ lt_ x = 0) : ¬ rn_ 0 x = 0 := by
  unfold rn_; simp [h]
theorem rn1 {x : Int32} (h : ¬ wi x 48 57 = 0) : ¬ rn_ 1 x = 0 := by
  unfold rn_; simp [h]
theorem rn2 {x : Int32} (h : ¬ op_ x = 0) : ¬ rn_ 2 x = 0 := by
  unfold rn_; simp [h]
set_option maxHeartbeats 4000000 in
set_option maxRecDepth 100000 in
theorem s_Model_fail (l : Launch) (dC : Nat → ClassId) (dI : Nat → Nat → Nat) (sz : Nat) (a_t : Nat) (z_thrown : Int32) (n_length : Nat) (a_text : Nat) (z_bad : Int32) (z_place : Int32) (n_at : Nat) (n_lexemes : Nat) (a_kind : Nat) (a_value : Nat) (a_where : Nat) (a_column : Nat) (a_leads : Nat) (n_open : Nat) (z_highest : Int32) (a_row : Nat) (n_tokens : Nat) (z_blocks : Int32) (a_sort : Nat) (a_is : Nat) (a_before : Nat) (a_behind : Nat) (a_partner : Nat) (a_done : Nat) (n_all : Nat) (a_kinds : Nat) (a_values : Nat) (z_told : Int32) (z_toldBlocks : Int32) (z_toldRows : Int32) (z_toldConflicts : Int32) (z_toldHighest : Int32) (n_set : Nat) (a_names : Nat) (a_sides : Nat) (a_levels : Nat) (n_items : Nat) (n_operands : Nat) (n_waiting : Nat) (n_pairs : Nat) (z_rows : Int32) (z_conflicts : Int32) (a_from : Nat) (a_to : Nat) (a_what : Nat) (a_left : Nat) (a_right : Nat) (a_waits : Nat) (a_opens : Nat) (a_closes : Nat) (a_waitsFor : Nat) (y0 : Int32) (b_length : n_length ≤ 240) (b_bad : z_bad = 0 ∨ z_bad = 1 ∨ z_bad = 2) (b_at : n_at ≤ 240) (b_lexemes : n_lexemes ≤ 90) (b_open : n_open ≤ 200) (b_tokens : n_tokens ≤ 600) (b_all : n_all ≤ 900) (b_set : n_set ≤ 12) (b_items : n_items ≤ 96) (b_operands : n_operands ≤ 96) (b_waiting : n_waiting ≤ 96) (b_pairs : n_pairs ≤ 96) : Met l y_Model_fail w_Model_fail ({ frames := 0, cells := 0, slots := 0, locals := 0 }) (va_Pc [.ref a_t, .int y0] (fun U => U.heap.size = sz ∧ va_P (dC, dI) vcl [(a_t, .inr (1, [.int z_thrown, .int (nI n_length), .ref a_text, .int z_bad, .int z_place, .int (nI n_at), .int (nI n_lexemes), .ref a_kind, .ref a_value, .ref a_where, .ref a_column, .ref a_leads, .int (nI n_open), .int z_highest, .ref a_row, .int (nI n_tokens), .int z_blocks, .ref a_sort, .ref a_is, .ref a_before, .ref a_behind, .ref a_partner, .ref a_done, .int (nI n_all), .ref a_kinds, .ref a_values, .int z_told, .int z_toldBlocks, .int z_toldRows, .int z_toldConflicts, .int z_toldHighest, .int (nI n_set), .ref a_names, .ref a_sides, .ref a_levels, .int (nI n_items), .int (nI n_operands), .int (nI n_waiting), .int (nI n_pairs), .int z_rows, .int z_conflicts, .ref a_from, .ref a_to, .ref a_what, .ref a_left, .ref a_right, .ref a_waits, .ref a_opens, .ref a_closes, .ref a_waitsFor]))] U.heap ∧ va_K (dC, dI) vcl [] U ∧ va_D (fun _ => True) [(a_t, .inr (1, [.int z_thrown, .int (nI n_length), .ref a_text, .int z_bad, .int z_place, .int (nI n_at), .int (nI n_lexemes), .ref a_kind, .ref a_value, .ref a_where, .ref a_column, .ref a_leads, .int (nI n_open), .int z_highest, .ref a_row, .int (nI n_tokens), .int z_blocks, .ref a_sort, .ref a_is, .ref a_before, .ref a_behind, .ref a_partner, .ref a_done, .int (nI n_all), .ref a_kinds, .ref a_values, .int z_told, .int z_toldBlocks, .int z_toldRows, .int z_toldConflicts, .int z_toldHighest, .int (nI n_set), .ref a_names, .ref a_sides, .ref a_levels, .int (nI n_items), .int (nI n_operands), .int (nI n_waiting), .int (nI n_pairs), .int z_rows, .int z_conflicts, .ref a_from, .ref a_to, .ref a_what, .ref a_left, .ref a_right, .ref a_waits, .ref a_opens, .ref a_closes, .ref a_waitsFor]))])) (va_Qi (fun (r : Int32) (_ : Unit) => True) (fun _ t => ∃ (w_z_thrown : Int32), va_P (dC, dI) vcl [(a_t, .inr (1, [.int w_z_thrown, .int (nI n_length), .ref a_text, .int z_bad, .int z_place, .int (nI n_at), .int (nI n_lexemes), .ref a_kind, .ref a_value, .ref a_where, .ref a_column, .ref a_leads, .int (nI n_open), .int z_highest, .ref a_row, .int (nI n_tokens), .int z_blocks, .ref a_sort, .ref a_is, .ref a_before, .ref a_behind, .ref a_partner, .ref a_done, .int (nI n_all), .ref a_kinds, .ref a_values, .int z_told, .int z_toldBlocks, .int z_toldRows, .int z_toldConflicts, .int z_toldHighest, .int (nI n_set), .ref a_names, .ref a_sides, .ref a_levels, .int (nI n_items), .int (nI n_operands), .int (nI n_waiting), .int (nI n_pairs), .int z_rows, .int z_conflicts, .ref a_from, .ref a_to, .ref a_what, .ref a_left, .ref a_right, .ref a_waits, .ref a_opens, .ref a_closes, .ref a_waitsFor]))] t.heap ∧ va_K (dC, dI) vcl [] t ∧ va_D (va_A [(a_t, .inr (1, [.int z_thrown, .int (nI n_length), .ref a_text, .int z_bad, .int z_place, .int (nI n_at), .int (nI n_lexemes), .ref a_kind, .ref a_value, .ref a_where, .ref a_column, .ref a_leads, .int (nI n_open), .int z_highest, .ref a_row, .int (nI n_tokens), .int z_blocks, .ref a_sort, .ref a_is, .ref a_before, .ref a_behind, .ref a_partner, .ref a_done, .int (nI n_all), .ref a_kinds, .ref a_values, .int z_told, .int z_toldBlocks, .int z_toldRows, .int z_toldConflicts, .int z_toldHighest, .int (nI n_set), .ref a_names, .ref a_sides, .ref a_levels, .int (nI n_items), .int (nI n_operands), .int (nI n_waiting), .int (nI n_pairs), .int z_rows, .int z_conflicts, .ref a_from, .ref a_to, .ref a_what, .ref a_left, .ref a_right, .ref a_waits, .ref a_opens, .ref a_closes, .ref a_waitsFor]))] sz) [(a_t, .inr (1, [.int w_z_thrown, .int (nI n_length), .ref a_text, .int z_bad, .int z_place, .int (nI n_at), .int (nI n_lexemes), .ref a_kind, .ref a_value, .ref a_where, .ref a_column, .ref a_leads, .int (nI n_open), .int z_highest, .ref a_row, .int (nI n_tokens), .int z_blocks, .ref a_sort, .ref a_is, .ref a_before, .ref a_behind, .ref a_partner, .ref a_done, .int (nI n_all), .ref a_kinds, .ref a_values, .int z_told, .int z_toldBlocks, .int z_toldRows, .int z_toldConflicts, .int z_toldHighest, .int (nI n_set), .ref a_names, .ref a_sides, .ref a_levels, .int (nI n_items), .int (nI n_operands), .int (nI n_waiting), .int (nI n_pairs), .int z_rows, .int z_conflicts, .ref a_from, .ref a_to, .ref a_what, .ref a_left, .ref a_right, .ref a_waits, .ref a_opens, .ref a_closes, .ref a_waitsFor]))]) (va_A [(a_t, .inr (1, [.int z_thrown, .int (nI n_length), .ref a_text, .int z_bad, .int z_place, .int (nI n_at), .int (nI n_lexemes), .ref a_kind, .ref a_value, .ref a_where, .ref a_column, .ref a_leads, .int (nI n_open), .int z_highest, .ref a_row, .int (nI n_tokens), .int z_blocks, .ref a_sort, .ref a_is, .ref a_before, .ref a_behind, .ref a_partner, .ref a_done, .int (nI n_all), .ref a_kinds, .ref a_values, .int z_told, .int z_toldBlocks, .int z_toldRows, .int z_toldConflicts, .int z_toldHighest, .int (nI n_set), .ref a_names, .ref a_sides, .ref a_levels, .int (nI n_items), .int (nI n_operands), .int (nI n_waiting), .int (nI n_pairs), .int z_rows, .int z_conflicts, .ref a_from, .ref a_to, .ref a_what, .ref a_left, .ref a_right, .ref a_waits, .ref a_opens, .ref a_closes, .ref a_waitsFor]))] sz)) 0 0 (va_A [(a_t, .inr (1, [.int z_thrown, .int (nI n_length), .ref a_text, .int z_bad, .int z_place, .int (nI n_at), .int (nI n_lexemes), .ref a_kind, .ref a_value, .ref a_where, .ref a_column, .ref a_leads, .int (nI n_open), .int z_highest, .ref a_row, .int (nI n_tokens), .int z_blocks, .ref a_sort, .ref a_is, .ref a_before, .ref a_behind, .ref a_partner, .ref a_done, .int (nI n_all), .ref a_kinds, .ref a_values, .int z_told, .int z_toldBlocks, .int z_toldRows, .int z_toldConflicts, .int z_toldHighest, .int (nI n_set), .ref a_names, .ref a_sides, .ref a_levels, .int (nI n_items), .int (nI n_operands), .int (nI n_waiting), .int (nI n_pairs), .int z_rows, .int z_conflicts, .ref a_from, .ref a_to, .ref a_what, .ref a_left, .ref a_right, .ref a_waits, .ref a_opens, .ref a_closes, .ref a_waitsFor]))] sz) := by
  refine Met.ofW (cc := b_Model_fail) (maxL := 2) (ret := (some .int)) (by decide) rfl ?_
  intro p e s m args below meth c s₁ B hml hv
  obtain ⟨rfl, hsz, hP, hK, hD0⟩ := hv
  have hx := B.exec
  have hb := B.bytes
  have hr := B.returns
  have hts := atoms_spec (ws := w_Model_fail) B.pre
  have hz : ∀ w ∈ wz, w.before _ s = true := fun w h => hts w (List.mem_cons_of_mem _ h)
  have hown : s.vm.findClass R_Model = some m.cls := findClass_of_methodNamed B.named
  have hlocks := B.notSynchronized
  subst hsz
  have hD := hD0.self (sz := s.heap.size)
  generalize hAe : va_A [(a_t, .inr (1, [.int z_thrown, .int (nI n_length), .ref a_text, .int z_bad, .int z_place, .int (nI n_at), .int (nI n_lexemes), .ref a_kind, .ref a_value, .ref a_where, .ref a_column, .ref a_leads, .int (nI n_open), .int z_highest, .ref a_row, .int (nI n_tokens), .int z_blocks, .ref a_sort, .ref a_is, .ref a_before, .ref a_behind, .ref a_partner, .ref a_done, .int (nI n_all), .ref a_kinds, .ref a_values, .int z_told, .int z_toldBlocks, .int z_toldRows, .int z_toldConflicts, .int z_toldHighest, .int (nI n_set), .ref a_names, .ref a_sides, .ref a_levels, .int (nI n_items), .int (nI n_operands), .int (nI n_waiting), .int (nI n_pairs), .int z_rows, .int z_conflicts, .ref a_from, .ref a_to, .ref a_what, .ref a_left, .ref a_right, .ref a_waits, .ref a_opens, .ref a_closes, .ref a_waitsFor]))] s.heap.size = A at hD ⊢
  have hA : ∀ q : Nat, s.heap.size ≤ q → A q := fun q h => by rw [← hAe]; exact Or.inr h
  have hS : va_S A s.heap s.heap [] := va_S.rf
  have hP : va_P (dC, dI) vcl [(a_t, .inr (1, [.int z_thrown, .int (nI n_length), .ref a_text, .int z_bad, .int z_place, .int (nI n_at), .int (nI n_lexemes), .ref a_kind, .ref a_value, .ref a_where, .ref a_column, .ref a_leads, .int (nI n_open), .int z_highest, .ref a_row, .int (nI n_tokens), .int z_blocks, .ref a_sort, .ref a_is, .ref a_before, .ref a_behind, .ref a_partner, .ref a_done, .int (nI n_all), .ref a_kinds, .ref a_values, .int z_told, .int z_toldBlocks, .int z_toldRows, .int z_toldConflicts, .int z_toldHighest, .int (nI n_set), .ref a_names, .ref a_sides, .ref a_levels, .int (nI n_items), .int (nI n_operands), .int (nI n_waiting), .int (nI n_pairs), .int z_rows, .int z_conflicts, .ref a_from, .ref a_to, .ref a_what, .ref a_left, .ref a_right, .ref a_waits, .ref a_opens, .ref a_closes, .ref a_waitsFor]))] s.heap := hP
  have hl := lv_entry ([.ref a_t, .int y0]) (n := 2) (Nat.le_of_ble_eq_true rfl)
  rw [lg_entry_eq]
  generalize (lg_sl ([.ref a_t, .int y0]) ++ List.replicate (2 - (lg_sl ([.ref a_t, .int y0])).length) Slot.unset).toArray = ls at hl ⊢
  have hl : lv_has ls 2 [(0, .ref a_t), (1, .int y0)] := hl
  refine lv_aload_n hx hb d_Model_fail_0 rfl (lv_at hl 0 rfl) ?_
  refine lv_iload_n hx hb d_Model_fail_1 rfl (lv_at hl 1 rfl) ?_
  refine va_put (D := (dC, dI)) (ci := 1) (v := .int y0) (ty := .int) (C := R_Model) (T := F_Model) (N := 50) hx hb hz zu_Model t_Model t_Model_ok n_Model hown hK hP hD hS 0 rfl rfl 0 (by decide) (hz (.fieldLink R_Model 97 "LayoutFrontModel" "thrown" "I") zm_652) (fun _ h9 => h9) rfl (by decide +kernel) rfl rfl (Nat.le_of_ble_eq_true rfl) d_Model_fail_2 (fun H locs hP hD hS => ?_)
  have hP : va_P (dC, dI) vcl [(a_t, .inr (1, [.int y0, .int (nI n_length), .ref a_text, .int z_bad, .int z_place, .int (nI n_at), .int (nI n_lexemes), .ref a_kind, .ref a_value, .ref a_where, .ref a_column, .ref a_leads, .int (nI n_open), .int z_highest, .ref a_row, .int (nI n_tokens), .int z_blocks, .ref a_sort, .ref a_is, .ref a_before, .ref a_behind, .ref a_partner, .ref a_done, .int (nI n_all), .ref a_kinds, .ref a_values, .int z_told, .int z_toldBlocks, .int z_toldRows, .int z_toldConflicts, .int z_toldHighest, .int (nI n_set), .ref a_names, .ref a_sides, .ref a_levels, .int (nI n_items), .int (nI n_operands), .int (nI n_waiting), .int (nI n_pairs), .int z_rows, .int z_conflicts, .ref a_from, .ref a_to, .ref a_what, .ref a_left, .ref a_right, .ref a_waits, .ref a_opens, .ref a_closes, .ref a_waitsFor]))] H := hP
  have hD : va_D A [(a_t, .inr (1, [.int y0, .int (nI n_length), .ref a_text, .int z_bad, .int z_place, .int (nI n_at), .int (nI n_lexemes), .ref a_kind, .ref a_value, .ref a_where, .ref a_column, .ref a_leads, .int (nI n_open), .int z_highest, .ref a_row, .int (nI n_tokens), .int z_blocks, .ref a_sort, .ref a_is, .ref a_before, .ref a_behind, .ref a_partner, .ref a_done, .int (nI n_all), .ref a_kinds, .ref a_values, .int z_told, .int z_toldBlocks, .int z_toldRows, .int z_toldConflicts, .int z_toldHighest, .int (nI n_set), .ref a_names, .ref a_sides, .ref a_levels, .int (nI n_items), .int (nI n_operands), .int (nI n_waiting), .int (nI n_pairs), .int z_rows, .int z_conflicts, .ref a_from, .ref a_to, .ref a_what, .ref a_left, .ref a_right, .ref a_waits, .ref a_opens, .ref a_closes, .ref a_waitsFor]))] := hD
  refine lv_iconst (v := 0) hx hb d_Model_fail_5 (by decide) ?_
  have hP9 := hP.sub (ws' := [(a_t, .inr (1, [.int y0, .int (nI n_length), .ref a_text, .int z_bad, .int z_place, .int (nI n_at), .int (nI n_lexemes), .ref a_kind, .ref a_value, .ref a_where, .ref a_column, .ref a_leads, .int (nI n_open), .int z_highest, .ref a_row, .int (nI n_tokens), .int z_blocks, .ref a_sort, .ref a_is, .ref a_before, .ref a_behind, .ref a_partner, .ref a_done, .int (nI n_all), .ref a_kinds, .ref a_values, .int z_told, .int z_toldBlocks, .int z_toldRows, .int z_toldConflicts, .int z_toldHighest, .int (nI n_set), .ref a_names, .ref a_sides, .ref a_levels, .int (nI n_items), .int (nI n_operands), .int (nI n_waiting), .int (nI n_pairs), .int z_rows, .int z_conflicts, .ref a_from, .ref a_to, .ref a_what, .ref a_left, .ref a_right, .ref a_waits, .ref a_opens, .ref a_closes, .ref a_waitsFor]))]) [0] rfl
  have hD9 := hD.sub (ws' := [(a_t, .inr (1, [.int y0, .int (nI n_length), .ref a_text, .int z_bad, .int z_place, .int (nI n_at), .int (nI n_lexemes), .ref a_kind, .ref a_value, .ref a_where, .ref a_column, .ref a_leads, .int (nI n_open), .int z_highest, .ref a_row, .int (nI n_tokens), .int z_blocks, .ref a_sort, .ref a_is, .ref a_before, .ref a_behind, .ref a_partner, .ref a_done, .int (nI n_all), .ref a_kinds, .ref a_values, .int z_told, .int z_toldBlocks, .int z_toldRows, .int z_toldConflicts, .int z_toldHighest, .int (nI n_set), .ref a_names, .ref a_sides, .ref a_levels, .int (nI n_items), .int (nI n_operands), .int (nI n_waiting), .int (nI n_pairs), .int z_rows, .int z_conflicts, .ref a_from, .ref a_to, .ref a_what, .ref a_left, .ref a_right, .ref a_waits, .ref a_opens, .ref a_closes, .ref a_waitsFor]))]) [0] (by decide) rfl
  exact W.iret (v := 0) hx hb hr (fun t ht hW => ⟨⟨0, (), rfl, trivial, y0, by rw [ht]; exact hP9, va_K.moved hW.alike hK, hD9⟩, hS.F ht⟩) hS.2.2 d_Model_fail_6
set_option maxHeartbeats 4000000 in
set_option maxRecDepth 100000 in
theorem s_Model_within (l : Launch) (dC : Nat → ClassId) (dI : Nat → Nat → Nat) (sz : Nat) (y0 : Int32) (y1 : Int32) (y2 : Int32) : Met l y_Model_within w_Model_within ({ frames := 0, cells := 0, slots := 0, locals := 0 }) (va_Pc [.int y0, .int y1, .int y2] (fun U => U.heap.size = sz ∧ va_P (dC, dI) vcl [] U.heap ∧ va_K (dC, dI) vcl [] U ∧ va_D (fun _ => True) [])) (va_Qi (fun (r : Int32) (_ : Unit) => (r = 0 ∨ r = 1) ∧ (r = wi y0 y1 y2)) (fun _ t => va_P (dC, dI) vcl [] t.heap ∧ va_K (dC, dI) vcl [] t ∧ va_D (va_A [] sz) []) (va_A [] sz)) 0 0 (va_A [] sz) := by
  refine Met.ofW (cc := b_Model_within) (maxL := 3) (ret := (some .boolean)) (by decide) rfl ?_
  intro p e s m args below meth c s₁ B hml hv
  obtain ⟨rfl, hsz, hP, hK, hD0⟩ := hv
  have hx := B.exec
  have hb := B.bytes
  have hr := B.returns
  have hts := atoms_spec (ws := w_Model_within) B.pre
  have hz : ∀ w ∈ wz, w.before _ s = true := fun w h => hts w (List.mem_cons_of_mem _ h)
  have hown : s.vm.findClass R_Model = some m.cls := findClass_of_methodNamed B.named
  have hlocks := B.notSynchronized
  subst hsz
  have hD := hD0.self (sz := s.heap.size)
  generalize hAe : va_A [] s.heap.size = A at hD ⊢
  have hA : ∀ q : Nat, s.heap.size ≤ q → A q := fun q h => by rw [← hAe]; exact Or.inr h
  have hS : va_S A s.heap s.heap [] := va_S.rf
  have hP : va_P (dC, dI) vcl [] s.heap := hP
  have hl := lv_entry ([.int y0, .int y1, .int y2]) (n := 3) (Nat.le_of_ble_eq_true rfl)
  rw [lg_entry_eq]
  generalize (lg_sl ([.int y0, .int y1, .int y2]) ++ List.replicate (3 - (lg_sl ([.int y0, .int y1, .int y2])).length) Slot.unset).toArray = ls at hl ⊢
  have hl : lv_has ls 3 [(0, .int y0), (1, .int y1), (2, .int y2)] := hl
  refine lv_iload_n hx hb d_Model_within_0 rfl (lv_at hl 0 rfl) ?_
  refine lv_iload_n hx hb d_Model_within_1 rfl (lv_at hl 1 rfl) ?_
  refine lv_icmp_lt (tgt := 14) hx hb d_Model_within_2 (by decide) (fun h1 => ?_) (fun h1 => ?_)
  · refine lv_iconst (v := 0) hx hb d_Model_within_14 (by decide) ?_
    have hP9 := hP.sub (ws' := []) [] rfl
    have hD9 := hD.sub (ws' := []) [] (by decide) rfl
    exact W.zret (v := 0) hx hb hr (by decide +kernel) (fun t ht hW => ⟨⟨0, (), rfl, ⟨(by first | assumption | exact Or.inl rfl | exact Or.inr rfl), (by unfold wi; simp [*])⟩, by rw [ht]; exact hP9, va_K.moved hW.alike hK, hD9⟩, hS.F ht⟩) hS.2.2 d_Model_within_15
  · refine lv_iload_n hx hb d_Model_within_5 rfl (lv_at hl 0 rfl) ?_
    refine lv_iload_n hx hb d_Model_within_6 rfl (lv_at hl 2 rfl) ?_
    refine lv_icmp_gt (tgt := 14) hx hb d_Model_within_7 (by decide) (fun h2 => ?_) (fun h2 => ?_)
    · refine lv_iconst (v := 0) hx hb d_Model_within_14 (by decide) ?_
      have hP9 := hP.sub (ws' := []) [] rfl
      have hD9 := hD.sub (ws' := []) [] (by decide) rfl
      exact W.zret (v := 0) hx hb hr (by decide +kernel) (fun t ht hW => ⟨⟨0, (), rfl, ⟨(by first | assumption | exact Or.inl rfl | exact Or.inr rfl), (by unfold wi; simp [*])⟩, by rw [ht]; exact hP9, va_K.moved hW.alike hK, hD9⟩, hS.F ht⟩) hS.2.2 d_Model_within_15
    · refine lv_iconst (v := 1) hx hb d_Model_within_10 (by decide) ?_
      refine lv_goto (tgt := 15) hx hb d_Model_within_11 (by decide) ?_
      have hP9 := hP.sub (ws' := []) [] rfl
      have hD9 := hD.sub (ws' := []) [] (by decide) rfl
      exact W.zret (v := 1) hx hb hr (by decide +kernel) (fun t ht hW => ⟨⟨1, (), rfl, ⟨(by first | assumption | exact Or.inl rfl | exact Or.inr rfl), (by unfold wi; simp [*])⟩, by rw [ht]; exact hP9, va_K.moved hW.alike hK, hD9⟩, hS.F ht⟩) hS.2.2 d_Model_within_15
set_option maxHeartbeats 4000000 in
set_option maxRecDepth 100000 in
theorem s_Model_letter (l : Launch) (dC : Nat → ClassId) (dI : Nat → Nat → Nat) (sz : Nat) (y0 : Int32) : Met l y_Model_letter w_Model_letter ({ frames := 1, cells := 0, slots := 0, locals := 22 }) (va_Pc [.int y0] (fun U => U.heap.size = sz ∧ va_P (dC, dI) vcl [] U.heap ∧ va_K (dC, dI) vcl [] U ∧ va_D (fun _ => True) [])) (va_Qi (fun (r : Int32) (_ : Unit) => (r = 0 ∨ r = 1) ∧ (r = lt_ y0)) (fun _ t => va_P (dC, dI) vcl [] t.heap ∧ va_K (dC, dI) vcl [] t ∧ va_D (va_A [] sz) []) (va_A [] sz)) 0 0 (va_A [] sz) := by
  refine Met.ofW (cc := b_Model_letter) (maxL := 1) (ret := (some .boolean)) (by decide) rfl ?_
  intro p e s m args below meth c s₁ B hml hv
  obtain ⟨rfl, hsz, hP, hK, hD0⟩ := hv
  have hx := B.exec
  have hb := B.bytes
  have hr := B.returns
  have hts := atoms_spec (ws := w_Model_letter) B.pre
  have hz : ∀ w ∈ wz, w.before _ s = true := fun w h => hts w (List.mem_cons_of_mem _ h)
  have hown : s.vm.findClass R_Model = some m.cls := findClass_of_methodNamed B.named
  have hlocks := B.notSynchronized
  subst hsz
  have hD := hD0.self (sz := s.heap.size)
  generalize hAe : va_A [] s.heap.size = A at hD ⊢
  have hA : ∀ q : Nat, s.heap.size ≤ q → A q := fun q h => by rw [← hAe]; exact Or.inr h
  have hS : va_S A s.heap s.heap [] := va_S.rf
  have hP : va_P (dC, dI) vcl [] s.heap := hP
  have hl := lv_entry ([.int y0]) (n := 1) (Nat.le_of_ble_eq_true rfl)
  rw [lg_entry_eq]
  generalize (lg_sl ([.int y0]) ++ List.replicate (1 - (lg_sl ([.int y0])).length) Slot.unset).toArray = ls at hl ⊢
  have hl : lv_has ls 1 [(0, .int y0)] := hl
  refine lv_iload_n hx hb d_Model_letter_0 rfl (lv_at hl 0 rfl) ?_
  refine lv_bipush (v := 97) hx hb d_Model_letter_1 (by decide) ?_
  refine lv_bipush (v := 122) hx hb d_Model_letter_3 (by decide) ?_
  have hPc := hP.sub (ws' := []) [] rfl
  have hDc := hD.sub (ws' := []) [] (by decide) rfl
  have hKc := hK.sub (tys' := []) [] rfl
  have hFc := va_free (wc := []) hD hS hA [] rfl
  refine va_calli (va_runS (As := [.int y0, .int 97, .int 122]) (rest := []) ⟨hx, hb, hml, hown, hz⟩ (s_Model_within l dC dI s.heap.size y0 97 122) (cwS 3 hz (zS zm_653 zm_654 zm_655 zm_656) rfl rfl rfl (by decide +kernel) ⟨Nat.le_of_ble_eq_true rfl, Nat.le_of_ble_eq_true rfl⟩) ⟨fun a U g mk q => by obtain ⟨q0, q1, qP, qK, qD⟩ := q; exact ⟨q0, q1, qP, va_K.moved (u := U) (U := U.calling g mk a) (Vm.Alike.refl U.vm) qK, qD⟩, fun U hU hW => ⟨rfl, by rw [hU], by rw [hU]; exact hPc, va_K.moved hW.alike hKc, hDc.weaken (fun _ _ _ _ => trivial)⟩⟩ rfl rfl hl.1 rfl (lv_room (Nat.le_of_ble_eq_true rfl)) d_Model_letter_5 ⟨Nat.zero_le _, Nat.zero_le _⟩) hS (fun q _ h => hFc q h) hFc (fun r u t H1 locs ht hvm hw_r hB hz1 hk1 hS => ?_)
  obtain ⟨hP1, hK1, hD1⟩ := hB
  obtain ⟨hb_r, he_r⟩ := hw_r
  subst r
  rw [ht] at hP1
  obtain ⟨hP, hD⟩ := va_join (wr := []) (w1 := []) hP hD [] [] rfl rfl (by decide) (by decide) hk1 hFc hP1 hD1
  generalize H1 = H at hP hS ⊢
  have hP : va_P (dC, dI) vcl [] H := hP
  have hD : va_D A [] := hD
  refine lv_if_ne (tgt := 28) hx hb d_Model_letter_8 (by decide) (fun h1 => ?_) (fun h1 => ?_)
  · refine lv_iconst (v := 1) hx hb d_Model_letter_28 (by decide) ?_
    refine lv_goto (tgt := 33) hx hb d_Model_letter_29 (by decide) ?_
    have hP9 := hP.sub (ws' := []) [] rfl
    have hD9 := hD.sub (ws' := []) [] (by decide) rfl
    exact W.zret (v := 1) hx hb hr (by decide +kernel) (fun t ht hW => ⟨⟨1, (), rfl, ⟨(by first | assumption | exact Or.inl rfl | exact Or.inr rfl), (by unfold lt_; simp [*])⟩, by rw [ht]; exact hP9, va_K.moved hW.alike hK, hD9⟩, hS.F ht⟩) hS.2.2 d_Model_letter_33
  · refine lv_iload_n hx hb d_Model_letter_11 rfl (lv_at hl 0 rfl) ?_
    refine lv_bipush (v := 65) hx hb d_Model_letter_12 (by decide) ?_
    refine lv_bipush (v := 90) hx hb d_Model_letter_14 (by decide) ?_
    have hPc := hP.sub (ws' := []) [] rfl
    have hDc := hD.sub (ws' := []) [] (by decide) rfl
    have hKc := hK.sub (tys' := []) [] rfl
    have hFc := va_free (wc := []) hD hS hA [] rfl
    refine va_calli (va_runS (As := [.int y0, .int 65, .int 90]) (rest := []) ⟨hx, hb, hml, hown, hz⟩ (s_Model_within l dC dI H.size y0 65 90) (cwS 3 hz (zS zm_653 zm_654 zm_655 zm_656) rfl rfl rfl (by decide +kernel) ⟨Nat.le_of_ble_eq_true rfl, Nat.le_of_ble_eq_true rfl⟩) ⟨fun a U g mk q => by obtain ⟨q0, q1, qP, qK, qD⟩ := q; exact ⟨q0, q1, qP, va_K.moved (u := U) (U := U.calling g mk a) (Vm.Alike.refl U.vm) qK, qD⟩, fun U hU hW => ⟨rfl, by rw [hU], by rw [hU]; exact hPc, va_K.moved hW.alike hKc, hDc.weaken (fun _ _ _ _ => trivial)⟩⟩ rfl rfl hl.1 rfl (lv_room (Nat.le_of_ble_eq_true rfl)) d_Model_letter_16 ⟨Nat.zero_le _, Nat.zero_le _⟩) hS (fun q _ h => hFc q h) hFc (fun r u t H1 locs ht hvm hw_r hB hz1 hk1 hS => ?_)
    obtain ⟨hP1, hK1, hD1⟩ := hB
    obtain ⟨hb_r, he_r⟩ := hw_r
    subst r
    rw [ht] at hP1
    obtain ⟨hP, hD⟩ := va_join (wr := []) (w1 := []) hP hD [] [] rfl rfl (by decide) (by decide) hk1 hFc hP1 hD1
    generalize H1 = H at hP hS ⊢
    have hP : va_P (dC, dI) vcl [] H := hP
    have hD : va_D A [] := hD
    refine lv_if_ne (tgt := 28) hx hb d_Model_letter_19 (by decide) (fun h2 => ?_) (fun h2 => ?_)
    · refine lv_iconst (v := 1) hx hb d_Model_letter_28 (by decide) ?_
      refine lv_goto (tgt := 33) hx hb d_Model_letter_29 (by decide) ?_
      have hP9 := hP.sub (ws' := []) [] rfl
      have hD9 := hD.sub (ws' := []) [] (by decide) rfl
      exact W.zret (v := 1) hx hb hr (by decide +kernel) (fun t ht hW => ⟨⟨1, (), rfl, ⟨(by first | assumption | exact Or.inl rfl | exact Or.inr rfl), (by unfold lt_; simp [*])⟩, by rw [ht]; exact hP9, va_K.moved hW.alike hK, hD9⟩, hS.F ht⟩) hS.2.2 d_Model_letter_33
    · refine lv_iload_n hx hb d_Model_letter_22 rfl (lv_at hl 0 rfl) ?_
      refine lv_bipush (v := 95) hx hb d_Model_letter_23 (by decide) ?_
      refine lv_icmp_ne (tgt := 32) hx hb d_Model_letter_25 (by decide) (fun h3 => ?_) (fun h3 => ?_)
      · refine lv_iconst (v := 0) hx hb d_Model_letter_32 (by decide) ?_
        have hP9 := hP.sub (ws' := []) [] rfl
        have hD9 := hD.sub (ws' := []) [] (by decide) rfl
        exact W.zret (v := 0) hx hb hr (by decide +kernel) (fun t ht hW => ⟨⟨0, (), rfl, ⟨(by first | assumption | exact Or.inl rfl | exact Or.inr rfl), (by unfold lt_; simp [*])⟩, by rw [ht]; exact hP9, va_K.moved hW.alike hK, hD9⟩, hS.F ht⟩) hS.2.2 d_Model_letter_33
      · refine lv_iconst (v := 1) hx hb d_Model_letter_28 (by decide) ?_
        refine lv_goto (tgt := 33) hx hb d_Model_letter_29 (by decide) ?_
        have hP9 := hP.sub (ws' := []) [] rfl
        have hD9 := hD.sub (ws' := []) [] (by decide) rfl
        exact W.zret (v := 1) hx hb hr (by decide +kernel) (fun t ht hW => ⟨⟨1, (), rfl, ⟨(by first | assumption | exact Or.inl rfl | exact Or.inr rfl), (by unfold lt_; simp [*])⟩, by rw [ht]; exact hP9, va_K.moved hW.alike hK, hD9⟩, hS.F ht⟩) hS.2.2 d_Model_letter_33
set_option maxHeartbeats 4000000 in
set_option maxRecDepth 100000 in
theorem s_Model_digit (l : Launch) (dC : Nat → ClassId) (dI : Nat → Nat → Nat) (sz : Nat) (y0 : Int32) : Met l y_Model_digit w_Model_digit ({ frames := 1, cells := 0, slots := 0, locals := 22 }) (va_Pc [.int y0] (fun U => U.heap.size = sz ∧ va_P (dC, dI) vcl [] U.heap ∧ va_K (dC, dI) vcl [] U ∧ va_D (fun _ => True) [])) (va_Qi (fun (r : Int32) (_ : Unit) => (r = 0 ∨ r = 1) ∧ (r = wi y0 48 57)) (fun _ t => va_P (dC, dI) vcl [] t.heap ∧ va_K (dC, dI) vcl [] t ∧ va_D (va_A [] sz) []) (va_A [] sz)) 0 0 (va_A [] sz) := by
  refine Met.ofW (cc := b_Model_digit) (maxL := 1) (ret := (some .boolean)) (by decide) rfl ?_
  intro p e s m args below meth c s₁ B hml hv
  obtain ⟨rfl, hsz, hP, hK, hD0⟩ := hv
  have hx := B.exec
  have hb := B.bytes
  have hr := B.returns
  have hts := atoms_spec (ws := w_Model_digit) B.pre
  have hz : ∀ w ∈ wz, w.before _ s = true := fun w h => hts w (List.mem_cons_of_mem _ h)
  have hown : s.vm.findClass R_Model = some m.cls := findClass_of_methodNamed B.named
  have hlocks := B.notSynchronized
  subst hsz
  have hD := hD0.self (sz := s.heap.size)
  generalize hAe : va_A [] s.heap.size = A at hD ⊢
  have hA : ∀ q : Nat, s.heap.size ≤ q → A q := fun q h => by rw [← hAe]; exact Or.inr h
  have hS : va_S A s.heap s.heap [] := va_S.rf
  have hP : va_P (dC, dI) vcl [] s.heap := hP
  have hl := lv_entry ([.int y0]) (n := 1) (Nat.le_of_ble_eq_true rfl)
  rw [lg_entry_eq]
  generalize (lg_sl ([.int y0]) ++ List.replicate (1 - (lg_sl ([.int y0])).length) Slot.unset).toArray = ls at hl ⊢
  have hl : lv_has ls 1 [(0, .int y0)] := hl
  refine lv_iload_n hx hb d_Model_digit_0 rfl (lv_at hl 0 rfl) ?_
  refine lv_bipush (v := 48) hx hb d_Model_digit_1 (by decide) ?_
  refine lv_bipush (v := 57) hx hb d_Model_digit_3 (by decide) ?_
  have hPc := hP.sub (ws' := []) [] rfl
  have hDc := hD.sub (ws' := []) [] (by decide) rfl
  have hKc := hK.sub (tys' := []) [] rfl
  have hFc := va_free (wc := []) hD hS hA [] rfl
  refine va_calli (va_runS (As := [.int y0, .int 48, .int 57]) (rest := []) ⟨hx, hb, hml, hown, hz⟩ (s_Model_within l dC dI s.heap.size y0 48 57) (cwS 3 hz (zS zm_653 zm_654 zm_655 zm_656) rfl rfl rfl (by decide +kernel) ⟨Nat.le_of_ble_eq_true rfl, Nat.le_of_ble_eq_true rfl⟩) ⟨fun a U g mk q => by obtain ⟨q0, q1, qP, qK, qD⟩ := q; exact ⟨q0, q1, qP, va_K.moved (u := U) (U := U.calling g mk a) (Vm.Alike.refl U.vm) qK, qD⟩, fun U hU hW => ⟨rfl, by rw [hU], by rw [hU]; exact hPc, va_K.moved hW.alike hKc, hDc.weaken (fun _ _ _ _ => trivial)⟩⟩ rfl rfl hl.1 rfl (lv_room (Nat.le_of_ble_eq_true rfl)) d_Model_digit_5 ⟨Nat.zero_le _, Nat.zero_le _⟩) hS (fun q _ h => hFc q h) hFc (fun r u t H1 locs ht hvm hw_r hB hz1 hk1 hS => ?_)
  obtain ⟨hP1, hK1, hD1⟩ := hB
  obtain ⟨hb_r, he_r⟩ := hw_r
  subst r
  rw [ht] at hP1
  obtain ⟨hP, hD⟩ := va_join (wr := []) (w1 := []) hP hD [] [] rfl rfl (by decide) (by decide) hk1 hFc hP1 hD1
  generalize H1 = H at hP hS ⊢
  have hP : va_P (dC, dI) vcl [] H := hP
  have hD : va_D A [] := hD
  have hP9 := hP.sub (ws' := []) [] rfl
  have hD9 := hD.sub (ws' := []) [] (by decide) rfl
  exact W.zret (v := (wi y0 48 57)) hx hb hr (xr_nb (by first | assumption | exact Or.inl rfl | exact Or.inr rfl)) (fun t ht hW => ⟨⟨(wi y0 48 57), (), rfl, ⟨(by first | assumption | exact Or.inl rfl | exact Or.inr rfl), (by rfl)⟩, by rw [ht]; exact hP9, va_K.moved hW.alike hK, hD9⟩, hS.F ht⟩) hS.2.2 d_Model_digit_8
set_option maxHeartbeats 4000000 in
set_option maxRecDepth 100000 in
theorem s_Model_operator (l : Launch) (dC : Nat → ClassId) (dI : Nat → Nat → Nat) (sz : Nat) (y0 : Int32) : Met l y_Model_operator w_Model_operator ({ frames := 1, cells := 0, slots := 0, locals := 22 }) (va_Pc [.int y0] (fun U => U.heap.size = sz ∧ va_P (dC, dI) vcl [] U.heap ∧ va_K (dC, dI) vcl [] U ∧ va_D (fun _ => True) [])) (va_Qi (fun (r : Int32) (_ : Unit) => (r = 0 ∨ r = 1) ∧ (r = op_ y0)) (fun _ t => va_P (dC, dI) vcl [] t.heap ∧ va_K (dC, dI) vcl [] t ∧ va_D (va_A [] sz) []) (va_A [] sz)) 0 0 (va_A [] sz) := by
  refine Met.ofW (cc := b_Model_operator) (maxL := 1) (ret := (some .boolean)) (by decide) rfl ?_
  intro p e s m args below meth c s₁ B hml hv
  obtain ⟨rfl, hsz, hP, hK, hD0⟩ := hv
  have hx := B.exec
  have hb := B.bytes
  have hr := B.returns
  have hts := atoms_spec (ws := w_Model_operator) B.pre
  have hz : ∀ w ∈ wz, w.before _ s = true := fun w h => hts w (List.mem_cons_of_mem _ h)
  have hown : s.vm.findClass R_Model = some m.cls := findClass_of_methodNamed B.named
  have hlocks := B.notSynchronized
  subst hsz
  have hD := hD0.self (sz := s.heap.size)
  generalize hAe : va_A [] s.heap.size = A at hD ⊢
  have hA : ∀ q : Nat, s.heap.size ≤ q → A q := fun q h => by rw [← hAe]; exact Or.inr h
  have hS : va_S A s.heap s.heap [] := va_S.rf
  have hP : va_P (dC, dI) vcl [] s.heap := hP
  have hl := lv_entry ([.int y0]) (n := 1) (Nat.le_of_ble_eq_true rfl)
  rw [lg_entry_eq]
  generalize (lg_sl ([.int y0]) ++ List.replicate (1 - (lg_sl ([.int y0])).length) Slot.unset).toArray = ls at hl ⊢
  have hl : lv_has ls 1 [(0, .int y0)] := hl
  refine lv_iload_n hx hb d_Model_operator_0 rfl (lv_at hl 0 rfl) ?_
  refine lv_bipush (v := 33) hx hb d_Model_operator_1 (by decide) ?_
  refine lv_icmp_eq (tgt := 81) hx hb d_Model_operator_3 (by decide) (fun h1 => ?_) (fun h1 => ?_)
  · refine lv_iconst (v := 1) hx hb d_Model_operator_81 (by decide) ?_
    refine lv_goto (tgt := 86) hx hb d_Model_operator_82 (by decide) ?_
    have hP9 := hP.sub (ws' := []) [] rfl
    have hD9 := hD.sub (ws' := []) [] (by decide) rfl
    exact W.zret (v := 1) hx hb hr (by decide +kernel) (fun t ht hW => ⟨⟨1, (), rfl, ⟨(by first | assumption | exact Or.inl rfl | exact Or.inr rfl), (by unfold op_; simp [*])⟩, by rw [ht]; exact hP9, va_K.moved hW.alike hK, hD9⟩, hS.F ht⟩) hS.2.2 d_Model_operator_86
  · refine lv_iload_n hx hb d_Model_operator_6 rfl (lv_at hl 0 rfl) ?_
    refine lv_bipush (v := 35) hx hb d_Model_operator_7 (by decide) ?_
    refine lv_bipush (v := 38) hx hb d_Model_operator_9 (by decide) ?_
    have hPc := hP.sub (ws' := []) [] rfl
    have hDc := hD.sub (ws' := []) [] (by decide) rfl
    have hKc := hK.sub (tys' := []) [] rfl
    have hFc := va_free (wc := []) hD hS hA [] rfl
    refine va_calli (va_runS (As := [.int y0, .int 35, .int 38]) (rest := []) ⟨hx, hb, hml, hown, hz⟩ (s_Model_within l dC dI s.heap.size y0 35 38) (cwS 3 hz (zS zm_653 zm_654 zm_655 zm_656) rfl rfl rfl (by decide +kernel) ⟨Nat.le_of_ble_eq_true rfl, Nat.le_of_ble_eq_true rfl⟩) ⟨fun a U g mk q => by obtain ⟨q0, q1, qP, qK, qD⟩ := q; exact ⟨q0, q1, qP, va_K.moved (u := U) (U := U.calling g mk a) (Vm.Alike.refl U.vm) qK, qD⟩, fun U hU hW => ⟨rfl, by rw [hU], by rw [hU]; exact hPc, va_K.moved hW.alike hKc, hDc.weaken (fun _ _ _ _ => trivial)⟩⟩ rfl rfl hl.1 rfl (lv_room (Nat.le_of_ble_eq_true rfl)) d_Model_operator_11 ⟨Nat.zero_le _, Nat.zero_le _⟩) hS (fun q _ h => hFc q h) hFc (fun r u t H1 locs ht hvm hw_r hB hz1 hk1 hS => ?_)
    obtain ⟨hP1, hK1, hD1⟩ := hB
    obtain ⟨hb_r, he_r⟩ := hw_r
    subst r
    rw [ht] at hP1
    obtain ⟨hP, hD⟩ := va_join (wr := []) (w1 := []) hP hD [] [] rfl rfl (by decide) (by decide) hk1 hFc hP1 hD1
    generalize H1 = H at hP hS ⊢
    have hP : va_P (dC, dI) vcl [] H := hP
    have hD : va_D A [] := hD
    refine lv_if_ne (tgt := 81) hx hb d_Model_operator_14 (by decide) (fun h2 => ?_) (fun h2 => ?_)
    · refine lv_iconst (v := 1) hx hb d_Model_operator_81 (by decide) ?_
      refine lv_goto (tgt := 86) hx hb d_Model_operator_82 (by decide) ?_
      have hP9 := hP.sub (ws' := []) [] rfl
      have hD9 := hD.sub (ws' := []) [] (by decide) rfl
      exact W.zret (v := 1) hx hb hr (by decide +kernel) (fun t ht hW => ⟨⟨1, (), rfl, ⟨(by first | assumption | exact Or.inl rfl | exact Or.inr rfl), (by unfold op_; simp [*])⟩, by rw [ht]; exact hP9, va_K.moved hW.alike hK, hD9⟩, hS.F ht⟩) hS.2.2 d_Model_operator_86
    · refine lv_iload_n hx hb d_Model_operator_17 rfl (lv_at hl 0 rfl) ?_
      refine lv_bipush (v := 42) hx hb d_Model_operator_18 (by decide) ?_
      refine lv_icmp_eq (tgt := 81) hx hb d_Model_operator_20 (by decide) (fun h3 => ?_) (fun h3 => ?_)
      · refine lv_iconst (v := 1) hx hb d_Model_operator_81 (by decide) ?_
        refine lv_goto (tgt := 86) hx hb d_Model_operator_82 (by decide) ?_
        have hP9 := hP.sub (ws' := []) [] rfl
        have hD9 := hD.sub (ws' := []) [] (by decide) rfl
        exact W.zret (v := 1) hx hb hr (by decide +kernel) (fun t ht hW => ⟨⟨1, (), rfl, ⟨(by first | assumption | exact Or.inl rfl | exact Or.inr rfl), (by unfold op_; simp [*])⟩, by rw [ht]; exact hP9, va_K.moved hW.alike hK, hD9⟩, hS.F ht⟩) hS.2.2 d_Model_operator_86
      · refine lv_iload_n hx hb d_Model_operator_23 rfl (lv_at hl 0 rfl) ?_
        refine lv_bipush (v := 43) hx hb d_Model_operator_24 (by decide) ?_
        refine lv_icmp_eq (tgt := 81) hx hb d_Model_operator_26 (by decide) (fun h4 => ?_) (fun h4 => ?_)
        · refine lv_iconst (v := 1) hx hb d_Model_operator_81 (by decide) ?_
          refine lv_goto (tgt := 86) hx hb d_Model_operator_82 (by decide) ?_
          have hP9 := hP.sub (ws' := []) [] rfl
          have hD9 := hD.sub (ws' := []) [] (by decide) rfl
          exact W.zret (v := 1) hx hb hr (by decide +kernel) (fun t ht hW => ⟨⟨1, (), rfl, ⟨(by first | assumption | exact Or.inl rfl | exact Or.inr rfl), (by unfold op_; simp [*])⟩, by rw [ht]; exact hP9, va_K.moved hW.alike hK, hD9⟩, hS.F ht⟩) hS.2.2 d_Model_operator_86
        · refine lv_iload_n hx hb d_Model_operator_29 rfl (lv_at hl 0 rfl) ?_
          refine lv_bipush (v := 45) hx hb d_Model_operator_30 (by decide) ?_
          refine lv_bipush (v := 47) hx hb d_Model_operator_32 (by decide) ?_
          have hPc := hP.sub (ws' := []) [] rfl
          have hDc := hD.sub (ws' := []) [] (by decide) rfl
          have hKc := hK.sub (tys' := []) [] rfl
          have hFc := va_free (wc := []) hD hS hA [] rfl
          refine va_calli (va_runS (As := [.int y0, .int 45, .int 47]) (rest := []) ⟨hx, hb, hml, hown, hz⟩ (s_Model_within l dC dI H.size y0 45 47) (cwS 3 hz (zS zm_653 zm_654 zm_655 zm_656) rfl rfl rfl (by decide +kernel) ⟨Nat.le_of_ble_eq_true rfl, Nat.le_of_ble_eq_true rfl⟩) ⟨fun a U g mk q => by obtain ⟨q0, q1, qP, qK, qD⟩ := q; exact ⟨q0, q1, qP, va_K.moved (u := U) (U := U.calling g mk a) (Vm.Alike.refl U.vm) qK, qD⟩, fun U hU hW => ⟨rfl, by rw [hU], by rw [hU]; exact hPc, va_K.moved hW.alike hKc, hDc.weaken (fun _ _ _ _ => trivial)⟩⟩ rfl rfl hl.1 rfl (lv_room (Nat.le_of_ble_eq_true rfl)) d_Model_operator_34 ⟨Nat.zero_le _, Nat.zero_le _⟩) hS (fun q _ h => hFc q h) hFc (fun r u t H1 locs ht hvm hw_r hB hz1 hk1 hS => ?_)
          obtain ⟨hP1, hK1, hD1⟩ := hB
          obtain ⟨hb_r, he_r⟩ := hw_r
          subst r
          rw [ht] at hP1
          obtain ⟨hP, hD⟩ := va_join (wr := []) (w1 := []) hP hD [] [] rfl rfl (by decide) (by decide) hk1 hFc hP1 hD1
          generalize H1 = H at hP hS ⊢
          have hP : va_P (dC, dI) vcl [] H := hP
          have hD : va_D A [] := hD
          refine lv_if_ne (tgt := 81) hx hb d_Model_operator_37 (by decide) (fun h5 => ?_) (fun h5 => ?_)
          · refine lv_iconst (v := 1) hx hb d_Model_operator_81 (by decide) ?_
            refine lv_goto (tgt := 86) hx hb d_Model_operator_82 (by decide) ?_
            have hP9 := hP.sub (ws' := []) [] rfl
            have hD9 := hD.sub (ws' := []) [] (by decide) rfl
            exact W.zret (v := 1) hx hb hr (by decide +kernel) (fun t ht hW => ⟨⟨1, (), rfl, ⟨(by first | assumption | exact Or.inl rfl | exact Or.inr rfl), (by unfold op_; simp [*])⟩, by rw [ht]; exact hP9, va_K.moved hW.alike hK, hD9⟩, hS.F ht⟩) hS.2.2 d_Model_operator_86
          · refine lv_iload_n hx hb d_Model_operator_40 rfl (lv_at hl 0 rfl) ?_
            refine lv_bipush (v := 58) hx hb d_Model_operator_41 (by decide) ?_
            refine lv_icmp_eq (tgt := 81) hx hb d_Model_operator_43 (by decide) (fun h6 => ?_) (fun h6 => ?_)
            · refine lv_iconst (v := 1) hx hb d_Model_operator_81 (by decide) ?_
              refine lv_goto (tgt := 86) hx hb d_Model_operator_82 (by decide) ?_
              have hP9 := hP.sub (ws' := []) [] rfl
              have hD9 := hD.sub (ws' := []) [] (by decide) rfl
              exact W.zret (v := 1) hx hb hr (by decide +kernel) (fun t ht hW => ⟨⟨1, (), rfl, ⟨(by first | assumption | exact Or.inl rfl | exact Or.inr rfl), (by unfold op_; simp [*])⟩, by rw [ht]; exact hP9, va_K.moved hW.alike hK, hD9⟩, hS.F ht⟩) hS.2.2 d_Model_operator_86
            · refine lv_iload_n hx hb d_Model_operator_46 rfl (lv_at hl 0 rfl) ?_
              refine lv_bipush (v := 60) hx hb d_Model_operator_47 (by decide) ?_
              refine lv_bipush (v := 64) hx hb d_Model_operator_49 (by decide) ?_
              have hPc := hP.sub (ws' := []) [] rfl
              have hDc := hD.sub (ws' := []) [] (by decide) rfl
              have hKc := hK.sub (tys' := []) [] rfl
              have hFc := va_free (wc := []) hD hS hA [] rfl
              refine va_calli (va_runS (As := [.int y0, .int 60, .int 64]) (rest := []) ⟨hx, hb, hml, hown, hz⟩ (s_Model_within l dC dI H.size y0 60 64) (cwS 3 hz (zS zm_653 zm_654 zm_655 zm_656) rfl rfl rfl (by decide +kernel) ⟨Nat.le_of_ble_eq_true rfl, Nat.le_of_ble_eq_true rfl⟩) ⟨fun a U g mk q => by obtain ⟨q0, q1, qP, qK, qD⟩ := q; exact ⟨q0, q1, qP, va_K.moved (u := U) (U := U.calling g mk a) (Vm.Alike.refl U.vm) qK, qD⟩, fun U hU hW => ⟨rfl, by rw [hU], by rw [hU]; exact hPc, va_K.moved hW.alike hKc, hDc.weaken (fun _ _ _ _ => trivial)⟩⟩ rfl rfl hl.1 rfl (lv_room (Nat.le_of_ble_eq_true rfl)) d_Model_operator_51 ⟨Nat.zero_le _, Nat.zero_le _⟩) hS (fun q _ h => hFc q h) hFc (fun r u t H1 locs ht hvm hw_r hB hz1 hk1 hS => ?_)
              obtain ⟨hP1, hK1, hD1⟩ := hB
              obtain ⟨hb_r, he_r⟩ := hw_r
              subst r
              rw [ht] at hP1
              obtain ⟨hP, hD⟩ := va_join (wr := []) (w1 := []) hP hD [] [] rfl rfl (by decide) (by decide) hk1 hFc hP1 hD1
              generalize H1 = H at hP hS ⊢
              have hP : va_P (dC, dI) vcl [] H := hP
              have hD : va_D A [] := hD
              refine lv_if_ne (tgt := 81) hx hb d_Model_operator_54 (by decide) (fun h7 => ?_) (fun h7 => ?_)
              · refine lv_iconst (v := 1) hx hb d_Model_operator_81 (by decide) ?_
                refine lv_goto (tgt := 86) hx hb d_Model_operator_82 (by decide) ?_
                have hP9 := hP.sub (ws' := []) [] rfl
                have hD9 := hD.sub (ws' := []) [] (by decide) rfl
                exact W.zret (v := 1) hx hb hr (by decide +kernel) (fun t ht hW => ⟨⟨1, (), rfl, ⟨(by first | assumption | exact Or.inl rfl | exact Or.inr rfl), (by unfold op_; simp [*])⟩, by rw [ht]; exact hP9, va_K.moved hW.alike hK, hD9⟩, hS.F ht⟩) hS.2.2 d_Model_operator_86
              · refine lv_iload_n hx hb d_Model_operator_57 rfl (lv_at hl 0 rfl) ?_
                refine lv_bipush (v := 92) hx hb d_Model_operator_58 (by decide) ?_
                refine lv_icmp_eq (tgt := 81) hx hb d_Model_operator_60 (by decide) (fun h8 => ?_) (fun h8 => ?_)
                · refine lv_iconst (v := 1) hx hb d_Model_operator_81 (by decide) ?_
                  refine lv_goto (tgt := 86) hx hb d_Model_operator_82 (by decide) ?_
                  have hP9 := hP.sub (ws' := []) [] rfl
                  have hD9 := hD.sub (ws' := []) [] (by decide) rfl
                  exact W.zret (v := 1) hx hb hr (by decide +kernel) (fun t ht hW => ⟨⟨1, (), rfl, ⟨(by first | assumption | exact Or.inl rfl | exact Or.inr rfl), (by unfold op_; simp [*])⟩, by rw [ht]; exact hP9, va_K.moved hW.alike hK, hD9⟩, hS.F ht⟩) hS.2.2 d_Model_operator_86
                · refine lv_iload_n hx hb d_Model_operator_63 rfl (lv_at hl 0 rfl) ?_
                  refine lv_bipush (v := 94) hx hb d_Model_operator_64 (by decide) ?_
                  refine lv_icmp_eq (tgt := 81) hx hb d_Model_operator_66 (by decide) (fun h9 => ?_) (fun h9 => ?_)
                  · refine lv_iconst (v := 1) hx hb d_Model_operator_81 (by decide) ?_
                    refine lv_goto (tgt := 86) hx hb d_Model_operator_82 (by decide) ?_
                    have hP9 := hP.sub (ws' := []) [] rfl
                    have hD9 := hD.sub (ws' := []) [] (by decide) rfl
                    exact W.zret (v := 1) hx hb hr (by decide +kernel) (fun t ht hW => ⟨⟨1, (), rfl, ⟨(by first | assumption | exact Or.inl rfl | exact Or.inr rfl), (by unfold op_; simp [*])⟩, by rw [ht]; exact hP9, va_K.moved hW.alike hK, hD9⟩, hS.F ht⟩) hS.2.2 d_Model_operator_86
                  · refine lv_iload_n hx hb d_Model_operator_69 rfl (lv_at hl 0 rfl) ?_
                    refine lv_bipush (v := 124) hx hb d_Model_operator_70 (by decide) ?_
                    refine lv_icmp_eq (tgt := 81) hx hb d_Model_operator_72 (by decide) (fun h10 => ?_) (fun h10 => ?_)
                    · refine lv_iconst (v := 1) hx hb d_Model_operator_81 (by decide) ?_
                      refine lv_goto (tgt := 86) hx hb d_Model_operator_82 (by decide) ?_
                      have hP9 := hP.sub (ws' := []) [] rfl
                      have hD9 := hD.sub (ws' := []) [] (by decide) rfl
                      exact W.zret (v := 1) hx hb hr (by decide +kernel) (fun t ht hW => ⟨⟨1, (), rfl, ⟨(by first | assumption | exact Or.inl rfl | exact Or.inr rfl), (by unfold op_; simp [*])⟩, by rw [ht]; exact hP9, va_K.moved hW.alike hK, hD9⟩, hS.F ht⟩) hS.2.2 d_Model_operator_86
                    · refine lv_iload_n hx hb d_Model_operator_75 rfl (lv_at hl 0 rfl) ?_
                      refine lv_bipush (v := 126) hx hb d_Model_operator_76 (by decide) ?_
                      refine lv_icmp_ne (tgt := 85) hx hb d_Model_operator_78 (by decide) (fun h11 => ?_) (fun h11 => ?_)
                      · refine lv_iconst (v := 0) hx hb d_Model_operator_85 (by decide) ?_
                        have hP9 := hP.sub (ws' := []) [] rfl
                        have hD9 := hD.sub (ws' := []) [] (by decide) rfl
                        exact W.zret (v := 0) hx hb hr (by decide +kernel) (fun t ht hW => ⟨⟨0, (), rfl, ⟨(by first | assumption | exact Or.inl rfl | exact Or.inr rfl), (by unfold op_; simp [*])⟩, by rw [ht]; exact hP9, va_K.moved hW.alike hK, hD9⟩, hS.F ht⟩) hS.2.2 d_Model_operator_86
                      · refine lv_iconst (v := 1) hx hb d_Model_operator_81 (by decide) ?_
                        refine lv_goto (tgt := 86) hx hb d_Model_operator_82 (by decide) ?_
                        have hP9 := hP.sub (ws' := []) [] rfl
                        have hD9 := hD.sub (ws' := []) [] (by decide) rfl
                        exact W.zret (v := 1) hx hb hr (by decide +kernel) (fun t ht hW => ⟨⟨1, (), rfl, ⟨(by first | assumption | exact Or.inl rfl | exact Or.inr rfl), (by unfold op_; simp [*])⟩, by rw [ht]; exact hP9, va_K.moved hW.alike hK, hD9⟩, hS.F ht⟩) hS.2.2 d_Model_operator_86
set_option maxHeartbeats 4000000 in
set_option maxRecDepth 100000 in
theorem s_Model_sign (l : Launch) (dC : Nat → ClassId) (dI : Nat → Nat → Nat) (sz : Nat) (y0 : Int32) : Met l y_Model_sign w_Model_sign ({ frames := 0, cells := 0, slots := 0, locals := 0 }) (va_Pc [.int y0] (fun U => U.heap.size = sz ∧ va_P (dC, dI) vcl [] U.heap ∧ va_K (dC, dI) vcl [] U ∧ va_D (fun _ => True) [])) (va_Qi (fun (r : Int32) (_ : Unit) => (r = 0 ∨ r = 1) ∧ (r = sg_ y0)) (fun _ t => va_P (dC, dI) vcl [] t.heap ∧ va_K (dC, dI) vcl [] t ∧ va_D (va_A [] sz) []) (va_A [] sz)) 0 0 (va_A [] sz) := by
  refine Met.ofW (cc := b_Model_sign) (maxL := 1) (ret := (some .boolean)) (by decide) rfl ?_
  intro p e s m args below meth c s₁ B hml hv
  obtain ⟨rfl, hsz, hP, hK, hD0⟩ := hv
  have hx := B.exec
  have hb := B.bytes
  have hr := B.returns
  have hts := atoms_spec (ws := w_Model_sign) B.pre
  have hz : ∀ w ∈ wz, w.before _ s = true := fun w h => hts w (List.mem_cons_of_mem _ h)
  have hown : s.vm.findClass R_Model = some m.cls := findClass_of_methodNamed B.named
  have hlocks := B.notSynchronized
  subst hsz
  have hD := hD0.self (sz := s.heap.size)
  generalize hAe : va_A [] s.heap.size = A at hD ⊢
  have hA : ∀ q : Nat, s.heap.size ≤ q → A q := fun q h => by rw [← hAe]; exact Or.inr h
  have hS : va_S A s.heap s.heap [] := va_S.rf
  have hP : va_P (dC, dI) vcl [] s.heap := hP
  have hl := lv_entry ([.int y0]) (n := 1) (Nat.le_of_ble_eq_true rfl)
  rw [lg_entry_eq]
  generalize (lg_sl ([.int y0]) ++ List.replicate (1 - (lg_sl ([.int y0])).length) Slot.unset).toArray = ls at hl ⊢
  have hl : lv_has ls 1 [(0, .int y0)] := hl
  refine lv_iload_n hx hb d_Model_sign_0 rfl (lv_at hl 0 rfl) ?_
  refine lv_bipush (v := 40) hx hb d_Model_sign_1 (by decide) ?_
  refine lv_icmp_eq (tgt := 54) hx hb d_Model_sign_3 (by decide) (fun h1 => ?_) (fun h1 => ?_)
  · refine lv_iconst (v := 1) hx hb d_Model_sign_54 (by decide) ?_
    refine lv_goto (tgt := 59) hx hb d_Model_sign_55 (by decide) ?_
    have hP9 := hP.sub (ws' := []) [] rfl
    have hD9 := hD.sub (ws' := []) [] (by decide) rfl
    exact W.zret (v := 1) hx hb hr (by decide +kernel) (fun t ht hW => ⟨⟨1, (), rfl, ⟨(by first | assumption | exact Or.inl rfl | exact Or.inr rfl), (by unfold sg_; simp [*])⟩, by rw [ht]; exact hP9, va_K.moved hW.alike hK, hD9⟩, hS.F ht⟩) hS.2.2 d_Model_sign_59
  · refine lv_iload_n hx hb d_Model_sign_6 rfl (lv_at hl 0 rfl) ?_
    refine lv_bipush (v := 41) hx hb d_Model_sign_7 (by decide) ?_
    refine lv_icmp_eq (tgt := 54) hx hb d_Model_sign_9 (by decide) (fun h2 => ?_) (fun h2 => ?_)
    · refine lv_iconst (v := 1) hx hb d_Model_sign_54 (by decide) ?_
      refine lv_goto (tgt := 59) hx hb d_Model_sign_55 (by decide) ?_
      have hP9 := hP.sub (ws' := []) [] rfl
      have hD9 := hD.sub (ws' := []) [] (by decide) rfl
      exact W.zret (v := 1) hx hb hr (by decide +kernel) (fun t ht hW => ⟨⟨1, (), rfl, ⟨(by first | assumption | exact Or.inl rfl | exact Or.inr rfl), (by unfold sg_; simp [*])⟩, by rw [ht]; exact hP9, va_K.moved hW.alike hK, hD9⟩, hS.F ht⟩) hS.2.2 d_Model_sign_59
    · refine lv_iload_n hx hb d_Model_sign_12 rfl (lv_at hl 0 rfl) ?_
      refine lv_bipush (v := 91) hx hb d_Model_sign_13 (by decide) ?_
      refine lv_icmp_eq (tgt := 54) hx hb d_Model_sign_15 (by decide) (fun h3 => ?_) (fun h3 => ?_)
      · refine lv_iconst (v := 1) hx hb d_Model_sign_54 (by decide) ?_
        refine lv_goto (tgt := 59) hx hb d_Model_sign_55 (by decide) ?_
        have hP9 := hP.sub (ws' := []) [] rfl
        have hD9 := hD.sub (ws' := []) [] (by decide) rfl
        exact W.zret (v := 1) hx hb hr (by decide +kernel) (fun t ht hW => ⟨⟨1, (), rfl, ⟨(by first | assumption | exact Or.inl rfl | exact Or.inr rfl), (by unfold sg_; simp [*])⟩, by rw [ht]; exact hP9, va_K.moved hW.alike hK, hD9⟩, hS.F ht⟩) hS.2.2 d_Model_sign_59
      · refine lv_iload_n hx hb d_Model_sign_18 rfl (lv_at hl 0 rfl) ?_
        refine lv_bipush (v := 93) hx hb d_Model_sign_19 (by decide) ?_
        refine lv_icmp_eq (tgt := 54) hx hb d_Model_sign_21 (by decide) (fun h4 => ?_) (fun h4 => ?_)
        · refine lv_iconst (v := 1) hx hb d_Model_sign_54 (by decide) ?_
          refine lv_goto (tgt := 59) hx hb d_Model_sign_55 (by decide) ?_
          have hP9 := hP.sub (ws' := []) [] rfl
          have hD9 := hD.sub (ws' := []) [] (by decide) rfl
          exact W.zret (v := 1) hx hb hr (by decide +kernel) (fun t ht hW => ⟨⟨1, (), rfl, ⟨(by first | assumption | exact Or.inl rfl | exact Or.inr rfl), (by unfold sg_; simp [*])⟩, by rw [ht]; exact hP9, va_K.moved hW.alike hK, hD9⟩, hS.F ht⟩) hS.2.2 d_Model_sign_59
        · refine lv_iload_n hx hb d_Model_sign_24 rfl (lv_at hl 0 rfl) ?_
          refine lv_bipush (v := 123) hx hb d_Model_sign_25 (by decide) ?_
          refine lv_icmp_eq (tgt := 54) hx hb d_Model_sign_27 (by decide) (fun h5 => ?_) (fun h5 => ?_)
          · refine lv_iconst (v := 1) hx hb d_Model_sign_54 (by decide) ?_
            refine lv_goto (tgt := 59) hx hb d_Model_sign_55 (by decide) ?_
            have hP9 := hP.sub (ws' := []) [] rfl
            have hD9 := hD.sub (ws' := []) [] (by decide) rfl
            exact W.zret (v := 1) hx hb hr (by decide +kernel) (fun t ht hW => ⟨⟨1, (), rfl, ⟨(by first | assumption | exact Or.inl rfl | exact Or.inr rfl), (by unfold sg_; simp [*])⟩, by rw [ht]; exact hP9, va_K.moved hW.alike hK, hD9⟩, hS.F ht⟩) hS.2.2 d_Model_sign_59
          · refine lv_iload_n hx hb d_Model_sign_30 rfl (lv_at hl 0 rfl) ?_
            refine lv_bipush (v := 125) hx hb d_Model_sign_31 (by decide) ?_
            refine lv_icmp_eq (tgt := 54) hx hb d_Model_sign_33 (by decide) (fun h6 => ?_) (fun h6 => ?_)
            · refine lv_iconst (v := 1) hx hb d_Model_sign_54 (by decide) ?_
              refine lv_goto (tgt := 59) hx hb d_Model_sign_55 (by decide) ?_
              have hP9 := hP.sub (ws' := []) [] rfl
              have hD9 := hD.sub (ws' := []) [] (by decide) rfl
              exact W.zret (v := 1) hx hb hr (by decide +kernel) (fun t ht hW => ⟨⟨1, (), rfl, ⟨(by first | assumption | exact Or.inl rfl | exact Or.inr rfl), (by unfold sg_; simp [*])⟩, by rw [ht]; exact hP9, va_K.moved hW.alike hK, hD9⟩, hS.F ht⟩) hS.2.2 d_Model_sign_59
            · refine lv_iload_n hx hb d_Model_sign_36 rfl (lv_at hl 0 rfl) ?_
              refine lv_bipush (v := 44) hx hb d_Model_sign_37 (by decide) ?_
              refine lv_icmp_eq (tgt := 54) hx hb d_Model_sign_39 (by decide) (fun h7 => ?_) (fun h7 => ?_)
              · refine lv_iconst (v := 1) hx hb d_Model_sign_54 (by decide) ?_
                refine lv_goto (tgt := 59) hx hb d_Model_sign_55 (by decide) ?_
                have hP9 := hP.sub (ws' := []) [] rfl
                have hD9 := hD.sub (ws' := []) [] (by decide) rfl
                exact W.zret (v := 1) hx hb hr (by decide +kernel) (fun t ht hW => ⟨⟨1, (), rfl, ⟨(by first | assumption | exact Or.inl rfl | exact Or.inr rfl), (by unfold sg_; simp [*])⟩, by rw [ht]; exact hP9, va_K.moved hW.alike hK, hD9⟩, hS.F ht⟩) hS.2.2 d_Model_sign_59
              · refine lv_iload_n hx hb d_Model_sign_42 rfl (lv_at hl 0 rfl) ?_
                refine lv_bipush (v := 59) hx hb d_Model_sign_43 (by decide) ?_
                refine lv_icmp_eq (tgt := 54) hx hb d_Model_sign_45 (by decide) (fun h8 => ?_) (fun h8 => ?_)
                · refine lv_iconst (v := 1) hx hb d_Model_sign_54 (by decide) ?_
                  refine lv_goto (tgt := 59) hx hb d_Model_sign_55 (by decide) ?_
                  have hP9 := hP.sub (ws' := []) [] rfl
                  have hD9 := hD.sub (ws' := []) [] (by decide) rfl
                  exact W.zret (v := 1) hx hb hr (by decide +kernel) (fun t ht hW => ⟨⟨1, (), rfl, ⟨(by first | assumption | exact Or.inl rfl | exact Or.inr rfl), (by unfold sg_; simp [*])⟩, by rw [ht]; exact hP9, va_K.moved hW.alike hK, hD9⟩, hS.F ht⟩) hS.2.2 d_Model_sign_59
                · refine lv_iload_n hx hb d_Model_sign_48 rfl (lv_at hl 0 rfl) ?_
                  refine lv_bipush (v := 96) hx hb d_Model_sign_49 (by decide) ?_
                  refine lv_icmp_ne (tgt := 58) hx hb d_Model_sign_51 (by decide) (fun h9 => ?_) (fun h9 => ?_)
                  · refine lv_iconst (v := 0) hx hb d_Model_sign_58 (by decide) ?_
                    have hP9 := hP.sub (ws' := []) [] rfl
                    have hD9 := hD.sub (ws' := []) [] (by decide) rfl
                    exact W.zret (v := 0) hx hb hr (by decide +kernel) (fun t ht hW => ⟨⟨0, (), rfl, ⟨(by first | assumption | exact Or.inl rfl | exact Or.inr rfl), (by unfold sg_; simp [*])⟩, by rw [ht]; exact hP9, va_K.moved hW.alike hK, hD9⟩, hS.F ht⟩) hS.2.2 d_Model_sign_59
                  · refine lv_iconst (v := 1) hx hb d_Model_sign_54 (by decide) ?_
                    refine lv_goto (tgt := 59) hx hb d_Model_sign_55 (by decide) ?_
                    have hP9 := hP.sub (ws' := []) [] rfl
                    have hD9 := hD.sub (ws' := []) [] (by decide) rfl
                    exact W.zret (v := 1) hx hb hr (by decide +kernel) (fun t ht hW => ⟨⟨1, (), rfl, ⟨(by first | assumption | exact Or.inl rfl | exact Or.inr rfl), (by unfold sg_; simp [*])⟩, by rw [ht]; exact hP9, va_K.moved hW.alike hK, hD9⟩, hS.F ht⟩) hS.2.2 d_Model_sign_59
set_option maxHeartbeats 4000000 in
set_option maxRecDepth 100000 in
theorem s_Model_here (l : Launch) (dC : Nat → ClassId) (dI : Nat → Nat → Nat) (sz : Nat) (a_t : Nat) (z_thrown : Int32) (n_length : Nat) (a_text : Nat) (f_text : Nat → Int32) (z_bad : Int32) (z_place : Int32) (n_at : Nat) (n_lexemes : Nat) (a_kind : Nat) (a_value : Nat) (a_where : Nat) (a_column : Nat) (a_leads : Nat) (n_open : Nat) (z_highest : Int32) (a_row : Nat) (n_tokens : Nat) (z_blocks : Int32) (a_sort : Nat) (a_is : Nat) (a_before : Nat) (a_behind : Nat) (a_partner : Nat) (a_done : Nat) (n_all : Nat) (a_kinds : Nat) (a_values : Nat) (z_told : Int32) (z_toldBlocks : Int32) (z_toldRows : Int32) (z_toldConflicts : Int32) (z_toldHighest : Int32) (n_set : Nat) (a_names : Nat) (a_sides : Nat) (a_levels : Nat) (n_items : Nat) (n_operands : Nat) (n_waiting : Nat) (n_pairs : Nat) (z_rows : Int32) (z_conflicts : Int32) (a_from : Nat) (a_to : Nat) (a_what : Nat) (a_left : Nat) (a_right : Nat) (a_waits : Nat) (a_opens : Nat) (a_closes : Nat) (a_waitsFor : Nat) (ka_text : ClassId) (b_length : n_length ≤ 240) (b_bad : z_bad = 0 ∨ z_bad = 1 ∨ z_bad = 2) (b_at : n_at ≤ 240) (b_lexemes : n_lexemes ≤ 90) (b_open : n_open ≤ 200) (b_tokens : n_tokens ≤ 600) (b_all : n_all ≤ 900) (b_set : n_set ≤ 12) (b_items : n_items ≤ 96) (b_operands : n_operands ≤ 96) (b_waiting : n_waiting ≤ 96) (b_pairs : n_pairs ≤ 96) : Met l y_Model_here w_Model_here ({ frames := 0, cells := 0, slots := 0, locals := 0 }) (va_Pc [.ref a_t] (fun U => U.heap.size = sz ∧ va_P (dC, dI) vcl [(a_t, .inr (1, [.int z_thrown, .int (nI n_length), .ref a_text, .int z_bad, .int z_place, .int (nI n_at), .int (nI n_lexemes), .ref a_kind, .ref a_value, .ref a_where, .ref a_column, .ref a_leads, .int (nI n_open), .int z_highest, .ref a_row, .int (nI n_tokens), .int z_blocks, .ref a_sort, .ref a_is, .ref a_before, .ref a_behind, .ref a_partner, .ref a_done, .int (nI n_all), .ref a_kinds, .ref a_values, .int z_told, .int z_toldBlocks, .int z_toldRows, .int z_toldConflicts, .int z_toldHighest, .int (nI n_set), .ref a_names, .ref a_sides, .ref a_levels, .int (nI n_items), .int (nI n_operands), .int (nI n_waiting), .int (nI n_pairs), .int z_rows, .int z_conflicts, .ref a_from, .ref a_to, .ref a_what, .ref a_left, .ref a_right, .ref a_waits, .ref a_opens, .ref a_closes, .ref a_waitsFor])), (a_text, .inl (ka_text, 240, .inl f_text))] U.heap ∧ va_K (dC, dI) vcl [(ka_text, .int)] U ∧ va_D (fun _ => True) [(a_t, .inr (1, [.int z_thrown, .int (nI n_length), .ref a_text, .int z_bad, .int z_place, .int (nI n_at), .int (nI n_lexemes), .ref a_kind, .ref a_value, .ref a_where, .ref a_column, .ref a_leads, .int (nI n_open), .int z_highest, .ref a_row, .int (nI n_tokens), .int z_blocks, .ref a_sort, .ref a_is, .ref a_before, .ref a_behind, .ref a_partner, .ref a_done, .int (nI n_all), .ref a_kinds, .ref a_values, .int z_told, .int z_toldBlocks, .int z_toldRows, .int z_toldConflicts, .int z_toldHighest, .int (nI n_set), .ref a_names, .ref a_sides, .ref a_levels, .int (nI n_items), .int (nI n_operands), .int (nI n_waiting), .int (nI n_pairs), .int z_rows, .int z_conflicts, .ref a_from, .ref a_to, .ref a_what, .ref a_left, .ref a_right, .ref a_waits, .ref a_opens, .ref a_closes, .ref a_waitsFor])), (a_text, .inl (ka_text, 240, .inl f_text))])) (va_Qi (fun (r : Int32) (_ : Unit) => r = if n_at < n_length then f_text n_at else (-1)) (fun _ t => va_P (dC, dI) vcl [(a_t, .inr (1, [.int z_thrown, .int (nI n_length), .ref a_text, .int z_bad, .int z_place, .int (nI n_at), .int (nI n_lexemes), .ref a_kind, .ref a_value, .ref a_where, .ref a_column, .ref a_leads, .int (nI n_open), .int z_highest, .ref a_row, .int (nI n_tokens), .int z_blocks, .ref a_sort, .ref a_is, .ref a_before, .ref a_behind, .ref a_partner, .ref a_done, .int (nI n_all), .ref a_kinds, .ref a_values, .int z_told, .int z_toldBlocks, .int z_toldRows, .int z_toldConflicts, .int z_toldHighest, .int (nI n_set), .ref a_names, .ref a_sides, .ref a_levels, .int (nI n_items), .int (nI n_operands), .int (nI n_waiting), .int (nI n_pairs), .int z_rows, .int z_conflicts, .ref a_from, .ref a_to, .ref a_what, .ref a_left, .ref a_right, .ref a_waits, .ref a_opens, .ref a_closes, .ref a_waitsFor])), (a_text, .inl (ka_text, 240, .inl f_text))] t.heap ∧ va_K (dC, dI) vcl [(ka_text, .int)] t ∧ va_D (va_A [(a_t, .inr (1, [.int z_thrown, .int (nI n_length), .ref a_text, .int z_bad, .int z_place, .int (nI n_at), .int (nI n_lexemes), .ref a_kind, .ref a_value, .ref a_where, .ref a_column, .ref a_leads, .int (nI n_open), .int z_highest, .ref a_row, .int (nI n_tokens), .int z_blocks, .ref a_sort, .ref a_is, .ref a_before, .ref a_behind, .ref a_partner, .ref a_done, .int (nI n_all), .ref a_kinds, .ref a_values, .int z_told, .int z_toldBlocks, .int z_toldRows, .int z_toldConflicts, .int z_toldHighest, .int (nI n_set), .ref a_names, .ref a_sides, .ref a_levels, .int (nI n_items), .int (nI n_operands), .int (nI n_waiting), .int (nI n_pairs), .int z_rows, .int z_conflicts, .ref a_from, .ref a_to, .ref a_what, .ref a_left, .ref a_right, .ref a_waits, .ref a_opens, .ref a_closes, .ref a_waitsFor])), (a_text, .inl (ka_text, 240, .inl f_text))] sz) [(a_t, .inr (1, [.int z_thrown, .int (nI n_length), .ref a_text, .int z_bad, .int z_place, .int (nI n_at), .int (nI n_lexemes), .ref a_kind, .ref a_value, .ref a_where, .ref a_column, .ref a_leads, .int (nI n_open), .int z_highest, .ref a_row, .int (nI n_tokens), .int z_blocks, .ref a_sort, .ref a_is, .ref a_before, .ref a_behind, .ref a_partner, .ref a_done, .int (nI n_all), .ref a_kinds, .ref a_values, .int z_told, .int z_toldBlocks, .int z_toldRows, .int z_toldConflicts, .int z_toldHighest, .int (nI n_set), .ref a_names, .ref a_sides, .ref a_levels, .int (nI n_items), .int (nI n_operands), .int (nI n_waiting), .int (nI n_pairs), .int z_rows, .int z_conflicts, .ref a_from, .ref a_to, .ref a_what, .ref a_left, .ref a_right, .ref a_waits, .ref a_opens, .ref a_closes, .ref a_waitsFor])), (a_text, .inl (ka_text, 240, .inl f_text))]) (va_A [(a_t, .inr (1, [.int z_thrown, .int (nI n_length), .ref a_text, .int z_bad, .int z_place, .int (nI n_at), .int (nI n_lexemes), .ref a_kind, .ref a_value, .ref a_where, .ref a_column, .ref a_leads, .int (nI n_open), .int z_highest, .ref a_row, .int (nI n_tokens), .int z_blocks, .ref a_sort, .ref a_is, .ref a_before, .ref a_behind, .ref a_partner, .ref a_done, .int (nI n_all), .ref a_kinds, .ref a_values, .int z_told, .int z_toldBlocks, .int z_toldRows, .int z_toldConflicts, .int z_toldHighest, .int (nI n_set), .ref a_names, .ref a_sides, .ref a_levels, .int (nI n_items), .int (nI n_operands), .int (nI n_waiting), .int (nI n_pairs), .int z_rows, .int z_conflicts, .ref a_from, .ref a_to, .ref a_what, .ref a_left, .ref a_right, .ref a_waits, .ref a_opens, .ref a_closes, .ref a_waitsFor])), (a_text, .inl (ka_text, 240, .inl f_text))] sz)) 0 0 (va_A [(a_t, .inr (1, [.int z_thrown, .int (nI n_length), .ref a_text, .int z_bad, .int z_place, .int (nI n_at), .int (nI n_lexemes), .ref a_kind, .ref a_value, .ref a_where, .ref a_column, .ref a_leads, .int (nI n_open), .int z_highest, .ref a_row, .int (nI n_tokens), .int z_blocks, .ref a_sort, .ref a_is, .ref a_before, .ref a_behind, .ref a_partner, .ref a_done, .int (nI n_all), .ref a_kinds, .ref a_values, .int z_told, .int z_toldBlocks, .int z_toldRows, .int z_toldConflicts, .int z_toldHighest, .int (nI n_set), .ref a_names, .ref a_sides, .ref a_levels, .int (nI n_items), .int (nI n_operands), .int (nI n_waiting), .int (nI n_pairs), .int z_rows, .int z_conflicts, .ref a_from, .ref a_to, .ref a_what, .ref a_left, .ref a_right, .ref a_waits, .ref a_opens, .ref a_closes, .ref a_waitsFor])), (a_text, .inl (ka_text, 240, .inl f_text))] sz) := by
  refine Met.ofW (cc := b_Model_here) (maxL := 1) (ret := (some .int)) (by decide) rfl ?_
  intro p e s m args below meth c s₁ B hml hv
  obtain ⟨rfl, hsz, hP, hK, hD0⟩ := hv
  have hx := B.exec
  have hb := B.bytes
  have hr := B.returns
  have hts := atoms_spec (ws := w_Model_here) B.pre
  have hz : ∀ w ∈ wz, w.before _ s = true := fun w h => hts w (List.mem_cons_of_mem _ h)
  have hown : s.vm.findClass R_Model = some m.cls := findClass_of_methodNamed B.named
  have hlocks := B.notSynchronized
  subst hsz
  have hD := hD0.self (sz := s.heap.size)
  generalize hAe : va_A [(a_t, .inr (1, [.int z_thrown, .int (nI n_length), .ref a_text, .int z_bad, .int z_place, .int (nI n_at), .int (nI n_lexemes), .ref a_kind, .ref a_value, .ref a_where, .ref a_column, .ref a_leads, .int (nI n_open), .int z_highest, .ref a_row, .int (nI n_tokens), .int z_blocks, .ref a_sort, .ref a_is, .ref a_before, .ref a_behind, .ref a_partner, .ref a_done, .int (nI n_all), .ref a_kinds, .ref a_values, .int z_told, .int z_toldBlocks, .int z_toldRows, .int z_toldConflicts, .int z_toldHighest, .int (nI n_set), .ref a_names, .ref a_sides, .ref a_levels, .int (nI n_items), .int (nI n_operands), .int (nI n_waiting), .int (nI n_pairs), .int z_rows, .int z_conflicts, .ref a_from, .ref a_to, .ref a_what, .ref a_left, .ref a_right, .ref a_waits, .ref a_opens, .ref a_closes, .ref a_waitsFor])), (a_text, .inl (ka_text, 240, .inl f_text))] s.heap.size = A at hD ⊢
  have hA : ∀ q : Nat, s.heap.size ≤ q → A q := fun q h => by rw [← hAe]; exact Or.inr h
  have hS : va_S A s.heap s.heap [] := va_S.rf
  have hP : va_P (dC, dI) vcl [(a_t, .inr (1, [.int z_thrown, .int (nI n_length), .ref a_text, .int z_bad, .int z_place, .int (nI n_at), .int (nI n_lexemes), .ref a_kind, .ref a_value, .ref a_where, .ref a_column, .ref a_leads, .int (nI n_open), .int z_highest, .ref a_row, .int (nI n_tokens), .int z_blocks, .ref a_sort, .ref a_is, .ref a_before, .ref a_behind, .ref a_partner, .ref a_done, .int (nI n_all), .ref a_kinds, .ref a_values, .int z_told, .int z_toldBlocks, .int z_toldRows, .int z_toldConflicts, .int z_toldHighest, .int (nI n_set), .ref a_names, .ref a_sides, .ref a_levels, .int (nI n_items), .int (nI n_operands), .int (nI n_waiting), .int (nI n_pairs), .int z_rows, .int z_conflicts, .ref a_from, .ref a_to, .ref a_what, .ref a_left, .ref a_right, .ref a_waits, .ref a_opens, .ref a_closes, .ref a_waitsFor])), (a_text, .inl (ka_text, 240, .inl f_text))] s.heap := hP
  have hl := lv_entry ([.ref a_t]) (n := 1) (Nat.le_of_ble_eq_true rfl)
  rw [lg_entry_eq]
  generalize (lg_sl ([.ref a_t]) ++ List.replicate (1 - (lg_sl ([.ref a_t])).length) Slot.unset).toArray = ls at hl ⊢
  have hl : lv_has ls 1 [(0, .ref a_t)] := hl
  refine lv_aload_n hx hb d_Model_here_0 rfl (lv_at hl 0 rfl) ?_
  refine va_get (D := (dC, dI)) (ci := 1) (v := .int (nI n_at)) (C := R_Model) (T := F_Model) (N := 50) hx hb hz zu_Model hown hK hP 0 rfl rfl 5 (by decide) (hz (.fieldLink R_Model 120 "LayoutFrontModel" "at" "I") zm_668) (fun _ h9 => h9) rfl d_Model_here_1 ?_
  refine lv_aload_n hx hb d_Model_here_4 rfl (lv_at hl 0 rfl) ?_
  refine va_get (D := (dC, dI)) (ci := 1) (v := .int (nI n_length)) (C := R_Model) (T := F_Model) (N := 50) hx hb hz zu_Model hown hK hP 0 rfl rfl 1 (by decide) (hz (.fieldLink R_Model 110 "LayoutFrontModel" "length" "I") zm_662) (fun _ h9 => h9) rfl d_Model_here_5 ?_
  refine lv_icmp_ge (tgt := 23) hx hb d_Model_here_8 (by decide) (fun h1 => ?_) (fun h1 => ?_)
  · have h1 : n_length ≤ n_at := (nI_leI (a := n_length) (b := n_at) (by omega) (by omega)).mp h1
    refine lv_iconst (v := (-1)) hx hb d_Model_here_23 (by decide) ?_
    have hP9 := hP.sub (ws' := [(a_t, .inr (1, [.int z_thrown, .int (nI n_length), .ref a_text, .int z_bad, .int z_place, .int (nI n_at), .int (nI n_lexemes), .ref a_kind, .ref a_value, .ref a_where, .ref a_column, .ref a_leads, .int (nI n_open), .int z_highest, .ref a_row, .int (nI n_tokens), .int z_blocks, .ref a_sort, .ref a_is, .ref a_before, .ref a_behind, .ref a_partner, .ref a_done, .int (nI n_all), .ref a_kinds, .ref a_values, .int z_told, .int z_toldBlocks, .int z_toldRows, .int z_toldConflicts, .int z_toldHighest, .int (nI n_set), .ref a_names, .ref a_sides, .ref a_levels, .int (nI n_items), .int (nI n_operands), .int (nI n_waiting), .int (nI n_pairs), .int z_rows, .int z_conflicts, .ref a_from, .ref a_to, .ref a_what, .ref a_left, .ref a_right, .ref a_waits, .ref a_opens, .ref a_closes, .ref a_waitsFor])), (a_text, .inl (ka_text, 240, .inl f_text))]) [0, 1] rfl
    have hD9 := hD.sub (ws' := [(a_t, .inr (1, [.int z_thrown, .int (nI n_length), .ref a_text, .int z_bad, .int z_place, .int (nI n_at), .int (nI n_lexemes), .ref a_kind, .ref a_value, .ref a_where, .ref a_column, .ref a_leads, .int (nI n_open), .int z_highest, .ref a_row, .int (nI n_tokens), .int z_blocks, .ref a_sort, .ref a_is, .ref a_before, .ref a_behind, .ref a_partner, .ref a_done, .int (nI n_all), .ref a_kinds, .ref a_values, .int z_told, .int z_toldBlocks, .int z_toldRows, .int z_toldConflicts, .int z_toldHighest, .int (nI n_set), .ref a_names, .ref a_sides, .ref a_levels, .int (nI n_items), .int (nI n_operands), .int (nI n_waiting), .int (nI n_pairs), .int z_rows, .int z_conflicts, .ref a_from, .ref a_to, .ref a_what, .ref a_left, .ref a_right, .ref a_waits, .ref a_opens, .ref a_closes, .ref a_waitsFor])), (a_text, .inl (ka_text, 240, .inl f_text))]) [0, 1] (by decide) rfl
    exact W.iret (v := (-1)) hx hb hr (fun t ht hW => ⟨⟨(-1), (), rfl, (by first | rfl | (rw [if_pos (by omega)]) | (rw [if_neg (by omega)]) | simp_all), by rw [ht]; exact hP9, va_K.moved hW.alike hK, hD9⟩, hS.F ht⟩) hS.2.2 d_Model_here_24
  · have h1 : ¬ n_length ≤ n_at := fun q => h1 ((nI_leI (a := n_length) (b := n_at) (by omega) (by omega)).mpr q)
    refine lv_aload_n hx hb d_Model_here_11 rfl (lv_at hl 0 rfl) ?_
    refine va_get (D := (dC, dI)) (ci := 1) (v := .ref a_text) (C := R_Model) (T := F_Model) (N := 50) hx hb hz zu_Model hown hK hP 0 rfl rfl 2 (by decide) (hz (.fieldLink R_Model 7 "LayoutFrontModel" "text" "[I") zm_623) (fun _ h9 => h9) rfl d_Model_here_12 ?_
    refine lv_aload_n hx hb d_Model_here_15 rfl (lv_at hl 0 rfl) ?_
    refine va_get (D := (dC, dI)) (ci := 1) (v := .int (nI n_at)) (C := R_Model) (T := F_Model) (N := 50) hx hb hz zu_Model hown hK hP 0 rfl rfl 5 (by decide) (hz (.fieldLink R_Model 120 "LayoutFrontModel" "at" "I") zm_668) (fun _ h9 => h9) rfl d_Model_here_16 ?_
    refine xr_iald (v := (f_text n_at)) hx hb hK hP 1 0 rfl rfl (vp_in_nI (by omega) (by omega)) (congrArg _ (nI_clamp (by omega))) d_Model_here_19 ?_
    refine lv_goto (tgt := 24) hx hb d_Model_here_20 (by decide) ?_
    have hP9 := hP.sub (ws' := [(a_t, .inr (1, [.int z_thrown, .int (nI n_length), .ref a_text, .int z_bad, .int z_place, .int (nI n_at), .int (nI n_lexemes), .ref a_kind, .ref a_value, .ref a_where, .ref a_column, .ref a_leads, .int (nI n_open), .int z_highest, .ref a_row, .int (nI n_tokens), .int z_blocks, .ref a_sort, .ref a_is, .ref a_before, .ref a_behind, .ref a_partner, .ref a_done, .int (nI n_all), .ref a_kinds, .ref a_values, .int z_told, .int z_toldBlocks, .int z_toldRows, .int z_toldConflicts, .int z_toldHighest, .int (nI n_set), .ref a_names, .ref a_sides, .ref a_levels, .int (nI n_items), .int (nI n_operands), .int (nI n_waiting), .int (nI n_pairs), .int z_rows, .int z_conflicts, .ref a_from, .ref a_to, .ref a_what, .ref a_left, .ref a_right, .ref a_waits, .ref a_opens, .ref a_closes, .ref a_waitsFor])), (a_text, .inl (ka_text, 240, .inl f_text))]) [0, 1] rfl
    have hD9 := hD.sub (ws' := [(a_t, .inr (1, [.int z_thrown, .int (nI n_length), .ref a_text, .int z_bad, .int z_place, .int (nI n_at), .int (nI n_lexemes), .ref a_kind, .ref a_value, .ref a_where, .ref a_column, .ref a_leads, .int (nI n_open), .int z_highest, .ref a_row, .int (nI n_tokens), .int z_blocks, .ref a_sort, .ref a_is, .ref a_before, .ref a_behind, .ref a_partner, .ref a_done, .int (nI n_all), .ref a_kinds, .ref a_values, .int z_told, .int z_toldBlocks, .int z_toldRows, .int z_toldConflicts, .int z_toldHighest, .int (nI n_set), .ref a_names, .ref a_sides, .ref a_levels, .int (nI n_items), .int (nI n_operands), .int (nI n_waiting), .int (nI n_pairs), .int z_rows, .int z_conflicts, .ref a_from, .ref a_to, .ref a_what, .ref a_left, .ref a_right, .ref a_waits, .ref a_opens, .ref a_closes, .ref a_waitsFor])), (a_text, .inl (ka_text, 240, .inl f_text))]) [0, 1] (by decide) rfl
    exact W.iret (v := (f_text n_at)) hx hb hr (fun t ht hW => ⟨⟨(f_text n_at), (), rfl, (by first | rfl | (rw [if_pos (by omega)]) | (rw [if_neg (by omega)]) | simp_all), by rw [ht]; exact hP9, va_K.moved hW.alike hK, hD9⟩, hS.F ht⟩) hS.2.2 d_Model_here_24
set_option maxHeartbeats 4000000 in
set_option maxRecDepth 100000 in
theorem s_Model_wrong (l : Launch) (dC : Nat → ClassId) (dI : Nat → Nat → Nat) (sz : Nat) (a_t : Nat) (z_thrown : Int32) (n_length : Nat) (a_text : Nat) (z_bad : Int32) (z_place : Int32) (n_at : Nat) (n_lexemes : Nat) (a_kind : Nat) (a_value : Nat) (a_where : Nat) (a_column : Nat) (a_leads : Nat) (n_open : Nat) (z_highest : Int32) (a_row : Nat) (n_tokens : Nat) (z_blocks : Int32) (a_sort : Nat) (a_is : Nat) (a_before : Nat) (a_behind : Nat) (a_partner : Nat) (a_done : Nat) (n_all : Nat) (a_kinds : Nat) (a_values : Nat) (z_told : Int32) (z_toldBlocks : Int32) (z_toldRows : Int32) (z_toldConflicts : Int32) (z_toldHighest : Int32) (n_set : Nat) (a_names : Nat) (a_sides : Nat) (a_levels : Nat) (n_items : Nat) (n_operands : Nat) (n_waiting : Nat) (n_pairs : Nat) (z_rows : Int32) (z_conflicts : Int32) (a_from : Nat) (a_to : Nat) (a_what : Nat) (a_left : Nat) (a_right : Nat) (a_waits : Nat) (a_opens : Nat) (a_closes : Nat) (a_waitsFor : Nat) (y0 : Int32) (y1 : Int32) (b_length : n_length ≤ 240) (b_bad : z_bad = 0 ∨ z_bad = 1 ∨ z_bad = 2) (b_at : n_at ≤ 240) (b_lexemes : n_lexemes ≤ 90) (b_open : n_open ≤ 200) (b_tokens : n_tokens ≤ 600) (b_all : n_all ≤ 900) (b_set : n_set ≤ 12) (b_items : n_items ≤ 96) (b_operands : n_operands ≤ 96) (b_waiting : n_waiting ≤ 96) (b_pairs : n_pairs ≤ 96) (hp0 : y0 = 1 ∨ y0 = 2) : Met l y_Model_wrong w_Model_wrong ({ frames := 0, cells := 0, slots := 0, locals := 0 }) (va_Pc [.ref a_t, .int y0, .int y1] (fun U => U.heap.size = sz ∧ va_P (dC, dI) vcl [(a_t, .inr (1, [.int z_thrown, .int (nI n_length), .ref a_text, .int z_bad, .int z_place, .int (nI n_at), .int (nI n_lexemes), .ref a_kind, .ref a_value, .ref a_where, .ref a_column, .ref a_leads, .int (nI n_open), .int z_highest, .ref a_row, .int (nI n_tokens), .int z_blocks, .ref a_sort, .ref a_is, .ref a_before, .ref a_behind, .ref a_partner, .ref a_done, .int (nI n_all), .ref a_kinds, .ref a_values, .int z_told, .int z_toldBlocks, .int z_toldRows, .int z_toldConflicts, .int z_toldHighest, .int (nI n_set), .ref a_names, .ref a_sides, .ref a_levels, .int (nI n_items), .int (nI n_operands), .int (nI n_waiting), .int (nI n_pairs), .int z_rows, .int z_conflicts, .ref a_from, .ref a_to, .ref a_what, .ref a_left, .ref a_right, .ref a_waits, .ref a_opens, .ref a_closes, .ref a_waitsFor]))] U.heap ∧ va_K (dC, dI) vcl [] U ∧ va_D (fun _ => True) [(a_t, .inr (1, [.int z_thrown, .int (nI n_length), .ref a_text, .int z_bad, .int z_place, .int (nI n_at), .int (nI n_lexemes), .ref a_kind, .ref a_value, .ref a_where, .ref a_column, .ref a_leads, .int (nI n_open), .int z_highest, .ref a_row, .int (nI n_tokens), .int z_blocks, .ref a_sort, .ref a_is, .ref a_before, .ref a_behind, .ref a_partner, .ref a_done, .int (nI n_all), .ref a_kinds, .ref a_values, .int z_told, .int z_toldBlocks, .int z_toldRows, .int z_toldConflicts, .int z_toldHighest, .int (nI n_set), .ref a_names, .ref a_sides, .ref a_levels, .int (nI n_items), .int (nI n_operands), .int (nI n_waiting), .int (nI n_pairs), .int z_rows, .int z_conflicts, .ref a_from, .ref a_to, .ref a_what, .ref a_left, .ref a_right, .ref a_waits, .ref a_opens, .ref a_closes, .ref a_waitsFor]))])) (va_Qv (fun (_ : Unit) => True) (fun _ t => ∃ (w_z_bad : Int32) (w_z_place : Int32), (w_z_bad = 0 ∨ w_z_bad = 1 ∨ w_z_bad = 2) ∧ (z_bad = 0 → w_z_bad = y0) ∧ (¬ z_bad = 0 → w_z_bad = z_bad) ∧ (z_bad = 0 → w_z_place = y1) ∧ va_P (dC, dI) vcl [(a_t, .inr (1, [.int z_thrown, .int (nI n_length), .ref a_text, .int w_z_bad, .int w_z_place, .int (nI n_at), .int (nI n_lexemes), .ref a_kind, .ref a_value, .ref a_where, .ref a_column, .ref a_leads, .int (nI n_open), .int z_highest, .ref a_row, .int (nI n_tokens), .int z_blocks, .ref a_sort, .ref a_is, .ref a_before, .ref a_behind, .ref a_partner, .ref a_done, .int (nI n_all), .ref a_kinds, .ref a_values, .int z_told, .int z_toldBlocks, .int z_toldRows, .int z_toldConflicts, .int z_toldHighest, .int (nI n_set), .ref a_names, .ref a_sides, .ref a_levels, .int (nI n_items), .int (nI n_operands), .int (nI n_waiting), .int (nI n_pairs), .int z_rows, .int z_conflicts, .ref a_from, .ref a_to, .ref a_what, .ref a_left, .ref a_right, .ref a_waits, .ref a_opens, .ref a_closes, .ref a_waitsFor]))] t.heap ∧ va_K (dC, dI) vcl [] t ∧ va_D (va_A [(a_t, .inr (1, [.int z_thrown, .int (nI n_length), .ref a_text, .int z_bad, .int z_place, .int (nI n_at), .int (nI n_lexemes), .ref a_kind, .ref a_value, .ref a_where, .ref a_column, .ref a_leads, .int (nI n_open), .int z_highest, .ref a_row, .int (nI n_tokens), .int z_blocks, .ref a_sort, .ref a_is, .ref a_before, .ref a_behind, .ref a_partner, .ref a_done, .int (nI n_all), .ref a_kinds, .ref a_values, .int z_told, .int z_toldBlocks, .int z_toldRows, .int z_toldConflicts, .int z_toldHighest, .int (nI n_set), .ref a_names, .ref a_sides, .ref a_levels, .int (nI n_items), .int (nI n_operands), .int (nI n_waiting), .int (nI n_pairs), .int z_rows, .int z_conflicts, .ref a_from, .ref a_to, .ref a_what, .ref a_left, .ref a_right, .ref a_waits, .ref a_opens, .ref a_closes, .ref a_waitsFor]))] sz) [(a_t, .inr (1, [.int z_thrown, .int (nI n_length), .ref a_text, .int w_z_bad, .int w_z_place, .int (nI n_at), .int (nI n_lexemes), .ref a_kind, .ref a_value, .ref a_where, .ref a_column, .ref a_leads, .int (nI n_open), .int z_highest, .ref a_row, .int (nI n_tokens), .int z_blocks, .ref a_sort, .ref a_is, .ref a_before, .ref a_behind, .ref a_partner, .ref a_done, .int (nI n_all), .ref a_kinds, .ref a_values, .int z_told, .int z_toldBlocks, .int z_toldRows, .int z_toldConflicts, .int z_toldHighest, .int (nI n_set), .ref a_names, .ref a_sides, .ref a_levels, .int (nI n_items), .int (nI n_operands), .int (nI n_waiting), .int (nI n_pairs), .int z_rows, .int z_conflicts, .ref a_from, .ref a_to, .ref a_what, .ref a_left, .ref a_right, .ref a_waits, .ref a_opens, .ref a_closes, .ref a_waitsFor]))]) (va_A [(a_t, .inr (1, [.int z_thrown, .int (nI n_length), .ref a_text, .int z_bad, .int z_place, .int (nI n_at), .int (nI n_lexemes), .ref a_kind, .ref a_value, .ref a_where, .ref a_column, .ref a_leads, .int (nI n_open), .int z_highest, .ref a_row, .int (nI n_tokens), .int z_blocks, .ref a_sort, .ref a_is, .ref a_before, .ref a_behind, .ref a_partner, .ref a_done, .int (nI n_all), .ref a_kinds, .ref a_values, .int z_told, .int z_toldBlocks, .int z_toldRows, .int z_toldConflicts, .int z_toldHighest, .int (nI n_set), .ref a_names, .ref a_sides, .ref a_levels, .int (nI n_items), .int (nI n_operands), .int (nI n_waiting), .int (nI n_pairs), .int z_rows, .int z_conflicts, .ref a_from, .ref a_to, .ref a_what, .ref a_left, .ref a_right, .ref a_waits, .ref a_opens, .ref a_closes, .ref a_waitsFor]))] sz)) 0 0 (va_A [(a_t, .inr (1, [.int z_thrown, .int (nI n_length), .ref a_text, .int z_bad, .int z_place, .int (nI n_at), .int (nI n_lexemes), .ref a_kind, .ref a_value, .ref a_where, .ref a_column, .ref a_leads, .int (nI n_open), .int z_highest, .ref a_row, .int (nI n_tokens), .int z_blocks, .ref a_sort, .ref a_is, .ref a_before, .ref a_behind, .ref a_partner, .ref a_done, .int (nI n_all), .ref a_kinds, .ref a_values, .int z_told, .int z_toldBlocks, .int z_toldRows, .int z_toldConflicts, .int z_toldHighest, .int (nI n_set), .ref a_names, .ref a_sides, .ref a_levels, .int (nI n_items), .int (nI n_operands), .int (nI n_waiting), .int (nI n_pairs), .int z_rows, .int z_conflicts, .ref a_from, .ref a_to, .ref a_what, .ref a_left, .ref a_right, .ref a_waits, .ref a_opens, .ref a_closes, .ref a_waitsFor]))] sz) := by
  refine Met.ofW (cc := b_Model_wrong) (maxL := 3) (ret := none) (by decide) rfl ?_
  intro p e s m args below meth c s₁ B hml hv
  obtain ⟨rfl, hsz, hP, hK, hD0⟩ := hv
  have hx := B.exec
  have hb := B.bytes
  have hr := B.returns
  have hts := atoms_spec (ws := w_Model_wrong) B.pre
  have hz : ∀ w ∈ wz, w.before _ s = true := fun w h => hts w (List.mem_cons_of_mem _ h)
  have hown : s.vm.findClass R_Model = some m.cls := findClass_of_methodNamed B.named
  have hlocks := B.notSynchronized
  subst hsz
  have hD := hD0.self (sz := s.heap.size)
  generalize hAe : va_A [(a_t, .inr (1, [.int z_thrown, .int (nI n_length), .ref a_text, .int z_bad, .int z_place, .int (nI n_at), .int (nI n_lexemes), .ref a_kind, .ref a_value, .ref a_where, .ref a_column, .ref a_leads, .int (nI n_open), .int z_highest, .ref a_row, .int (nI n_tokens), .int z_blocks, .ref a_sort, .ref a_is, .ref a_before, .ref a_behind, .ref a_partner, .ref a_done, .int (nI n_all), .ref a_kinds, .ref a_values, .int z_told, .int z_toldBlocks, .int z_toldRows, .int z_toldConflicts, .int z_toldHighest, .int (nI n_set), .ref a_names, .ref a_sides, .ref a_levels, .int (nI n_items), .int (nI n_operands), .int (nI n_waiting), .int (nI n_pairs), .int z_rows, .int z_conflicts, .ref a_from, .ref a_to, .ref a_what, .ref a_left, .ref a_right, .ref a_waits, .ref a_opens, .ref a_closes, .ref a_waitsFor]))] s.heap.size = A at hD ⊢
  have hA : ∀ q : Nat, s.heap.size ≤ q → A q := fun q h => by rw [← hAe]; exact Or.inr h
  have hS : va_S A s.heap s.heap [] := va_S.rf
  have hP : va_P (dC, dI) vcl [(a_t, .inr (1, [.int z_thrown, .int (nI n_length), .ref a_text, .int z_bad, .int z_place, .int (nI n_at), .int (nI n_lexemes), .ref a_kind, .ref a_value, .ref a_where, .ref a_column, .ref a_leads, .int (nI n_open), .int z_highest, .ref a_row, .int (nI n_tokens), .int z_blocks, .ref a_sort, .ref a_is, .ref a_before, .ref a_behind, .ref a_partner, .ref a_done, .int (nI n_all), .ref a_kinds, .ref a_values, .int z_told, .int z_toldBlocks, .int z_toldRows, .int z_toldConflicts, .int z_toldHighest, .int (nI n_set), .ref a_names, .ref a_sides, .ref a_levels, .int (nI n_items), .int (nI n_operands), .int (nI n_waiting), .int (nI n_pairs), .int z_rows, .int z_conflicts, .ref a_from, .ref a_to, .ref a_what, .ref a_left, .ref a_right, .ref a_waits, .ref a_opens, .ref a_closes, .ref a_waitsFor]))] s.heap := hP
  have hl := lv_entry ([.ref a_t, .int y0, .int y1]) (n := 3) (Nat.le_of_ble_eq_true rfl)
  rw [lg_entry_eq]
  generalize (lg_sl ([.ref a_t, .int y0, .int y1]) ++ List.replicate (3 - (lg_sl ([.ref a_t, .int y0, .int y1])).length) Slot.unset).toArray = ls at hl ⊢
  have hl : lv_has ls 3 [(0, .ref a_t), (1, .int y0), (2, .int y1)] := hl
  refine lv_aload_n hx hb d_Model_wrong_0 rfl (lv_at hl 0 rfl) ?_
  refine va_get (D := (dC, dI)) (ci := 1) (v := .int z_bad) (C := R_Model) (T := F_Model) (N := 50) hx hb hz zu_Model hown hK hP 0 rfl rfl 3 (by decide) (hz (.fieldLink R_Model 123 "LayoutFrontModel" "bad" "I") zm_669) (fun _ h9 => h9) rfl d_Model_wrong_1 ?_
  refine lv_if_ne (tgt := 17) hx hb d_Model_wrong_4 (by decide) (fun h1 => ?_) (fun h1 => ?_)
  · have hP9 := hP.sub (ws' := [(a_t, .inr (1, [.int z_thrown, .int (nI n_length), .ref a_text, .int z_bad, .int z_place, .int (nI n_at), .int (nI n_lexemes), .ref a_kind, .ref a_value, .ref a_where, .ref a_column, .ref a_leads, .int (nI n_open), .int z_highest, .ref a_row, .int (nI n_tokens), .int z_blocks, .ref a_sort, .ref a_is, .ref a_before, .ref a_behind, .ref a_partner, .ref a_done, .int (nI n_all), .ref a_kinds, .ref a_values, .int z_told, .int z_toldBlocks, .int z_toldRows, .int z_toldConflicts, .int z_toldHighest, .int (nI n_set), .ref a_names, .ref a_sides, .ref a_levels, .int (nI n_items), .int (nI n_operands), .int (nI n_waiting), .int (nI n_pairs), .int z_rows, .int z_conflicts, .ref a_from, .ref a_to, .ref a_what, .ref a_left, .ref a_right, .ref a_waits, .ref a_opens, .ref a_closes, .ref a_waitsFor]))]) [0] rfl
    have hD9 := hD.sub (ws' := [(a_t, .inr (1, [.int z_thrown, .int (nI n_length), .ref a_text, .int z_bad, .int z_place, .int (nI n_at), .int (nI n_lexemes), .ref a_kind, .ref a_value, .ref a_where, .ref a_column, .ref a_leads, .int (nI n_open), .int z_highest, .ref a_row, .int (nI n_tokens), .int z_blocks, .ref a_sort, .ref a_is, .ref a_before, .ref a_behind, .ref a_partner, .ref a_done, .int (nI n_all), .ref a_kinds, .ref a_values, .int z_told, .int z_toldBlocks, .int z_toldRows, .int z_toldConflicts, .int z_toldHighest, .int (nI n_set), .ref a_names, .ref a_sides, .ref a_levels, .int (nI n_items), .int (nI n_operands), .int (nI n_waiting), .int (nI n_pairs), .int z_rows, .int z_conflicts, .ref a_from, .ref a_to, .ref a_what, .ref a_left, .ref a_right, .ref a_waits, .ref a_opens, .ref a_closes, .ref a_waitsFor]))]) [0] (by decide) rfl
    exact W.vret hx hb hr (fun t ht hW => ⟨⟨(), rfl, trivial, z_bad, z_place, by first | assumption | exact Or.inl rfl | exact Or.inr (Or.inl rfl) | exact Or.inr (Or.inr rfl) | exact Or.inr (by assumption), by first | (intro _; rfl) | (intro hh; exact absurd hh ‹_›) | (intro hh; exact absurd ‹_› hh) | omega | assumption | exact Or.inl rfl | exact Or.inr rfl, by first | (intro _; rfl) | (intro hh; exact absurd hh ‹_›) | (intro hh; exact absurd ‹_› hh) | omega | assumption | exact Or.inl rfl | exact Or.inr rfl, by (intro hh; exact absurd hh (by assumption)), by rw [ht]; exact hP9, va_K.moved hW.alike hK, hD9⟩, hS.F ht⟩) hS.2.2 d_Model_wrong_17
  · refine lv_aload_n hx hb d_Model_wrong_7 rfl (lv_at hl 0 rfl) ?_
    refine lv_iload_n hx hb d_Model_wrong_8 rfl (lv_at hl 1 rfl) ?_
    refine va_put (D := (dC, dI)) (ci := 1) (v := .int y0) (ty := .int) (C := R_Model) (T := F_Model) (N := 50) hx hb hz zu_Model t_Model t_Model_ok n_Model hown hK hP hD hS 0 rfl rfl 3 (by decide) (hz (.fieldLink R_Model 123 "LayoutFrontModel" "bad" "I") zm_669) (fun _ h9 => h9) rfl (by decide +kernel) rfl rfl (Nat.le_of_ble_eq_true rfl) d_Model_wrong_9 (fun H locs hP hD hS => ?_)
    have hP : va_P (dC, dI) vcl [(a_t, .inr (1, [.int z_thrown, .int (nI n_length), .ref a_text, .int y0, .int z_place, .int (nI n_at), .int (nI n_lexemes), .ref a_kind, .ref a_value, .ref a_where, .ref a_column, .ref a_leads, .int (nI n_open), .int z_highest, .ref a_row, .int (nI n_tokens), .int z_blocks, .ref a_sort, .ref a_is, .ref a_before, .ref a_behind, .ref a_partner, .ref a_done, .int (nI n_all), .ref a_kinds, .ref a_values, .int z_told, .int z_toldBlocks, .int z_toldRows, .int z_toldConflicts, .int z_toldHighest, .int (nI n_set), .ref a_names, .ref a_sides, .ref a_levels, .int (nI n_items), .int (nI n_operands), .int (nI n_waiting), .int (nI n_pairs), .int z_rows, .int z_conflicts, .ref a_from, .ref a_to, .ref a_what, .ref a_left, .ref a_right, .ref a_waits, .ref a_opens, .ref a_closes, .ref a_waitsFor]))] H := hP
    have hD : va_D A [(a_t, .inr (1, [.int z_thrown, .int (nI n_length), .ref a_text, .int y0, .int z_place, .int (nI n_at), .int (nI n_lexemes), .ref a_kind, .ref a_value, .ref a_where, .ref a_column, .ref a_leads, .int (nI n_open), .int z_highest, .ref a_row, .int (nI n_tokens), .int z_blocks, .ref a_sort, .ref a_is, .ref a_before, .ref a_behind, .ref a_partner, .ref a_done, .int (nI n_all), .ref a_kinds, .ref a_values, .int z_told, .int z_toldBlocks, .int z_toldRows, .int z_toldConflicts, .int z_toldHighest, .int (nI n_set), .ref a_names, .ref a_sides, .ref a_levels, .int (nI n_items), .int (nI n_operands), .int (nI n_waiting), .int (nI n_pairs), .int z_rows, .int z_conflicts, .ref a_from, .ref a_to, .ref a_what, .ref a_left, .ref a_right, .ref a_waits, .ref a_opens, .ref a_closes, .ref a_waitsFor]))] := hD
    refine lv_aload_n hx hb d_Model_wrong_12 rfl (lv_at hl 0 rfl) ?_
    refine lv_iload_n hx hb d_Model_wrong_13 rfl (lv_at hl 2 rfl) ?_
    refine va_put (D := (dC, dI)) (ci := 1) (v := .int y1) (ty := .int) (C := R_Model) (T := F_Model) (N := 50) hx hb hz zu_Model t_Model t_Model_ok n_Model hown hK hP hD hS 0 rfl rfl 4 (by decide) (hz (.fieldLink R_Model 13 "LayoutFrontModel" "place" "I") zm_624) (fun _ h9 => h9) rfl (by decide +kernel) rfl rfl (Nat.le_of_ble_eq_true rfl) d_Model_wrong_14 (fun H locs hP hD hS => ?_)
    have hP : va_P (dC, dI) vcl [(a_t, .inr (1, [.int z_thrown, .int (nI n_length), .ref a_text, .int y0, .int y1, .int (nI n_at), .int (nI n_lexemes), .ref a_kind, .ref a_value, .ref a_where, .ref a_column, .ref a_leads, .int (nI n_open), .int z_highest, .ref a_row, .int (nI n_tokens), .int z_blocks, .ref a_sort, .ref a_is, .ref a_before, .ref a_behind, .ref a_partner, .ref a_done, .int (nI n_all), .ref a_kinds, .ref a_values, .int z_told, .int z_toldBlocks, .int z_toldRows, .int z_toldConflicts, .int z_toldHighest, .int (nI n_set), .ref a_names, .ref a_sides, .ref a_levels, .int (nI n_items), .int (nI n_operands), .int (nI n_waiting), .int (nI n_pairs), .int z_rows, .int z_conflicts, .ref a_from, .ref a_to, .ref a_what, .ref a_left, .ref a_right, .ref a_waits, .ref a_opens, .ref a_closes, .ref a_waitsFor]))] H := hP
    have hD : va_D A [(a_t, .inr (1, [.int z_thrown, .int (nI n_length), .ref a_text, .int y0, .int y1, .int (nI n_at), .int (nI n_lexemes), .ref a_kind, .ref a_value, .ref a_where, .ref a_column, .ref a_leads, .int (nI n_open), .int z_highest, .ref a_row, .int (nI n_tokens), .int z_blocks, .ref a_sort, .ref a_is, .ref a_before, .ref a_behind, .ref a_partner, .ref a_done, .int (nI n_all), .ref a_kinds, .ref a_values, .int z_told, .int z_toldBlocks, .int z_toldRows, .int z_toldConflicts, .int z_toldHighest, .int (nI n_set), .ref a_names, .ref a_sides, .ref a_levels, .int (nI n_items), .int (nI n_operands), .int (nI n_waiting), .int (nI n_pairs), .int z_rows, .int z_conflicts, .ref a_from, .ref a_to, .ref a_what, .ref a_left, .ref a_right, .ref a_waits, .ref a_opens, .ref a_closes, .ref a_waitsFor]))] := hD
    have hP9 := hP.sub (ws' := [(a_t, .inr (1, [.int z_thrown, .int (nI n_length), .ref a_text, .int y0, .int y1, .int (nI n_at), .int (nI n_lexemes), .ref a_kind, .ref a_value, .ref a_where, .ref a_column, .ref a_leads, .int (nI n_open), .int z_highest, .ref a_row, .int (nI n_tokens), .int z_blocks, .ref a_sort, .ref a_is, .ref a_before, .ref a_behind, .ref a_partner, .ref a_done, .int (nI n_all), .ref a_kinds, .ref a_values, .int z_told, .int z_toldBlocks, .int z_toldRows, .int z_toldConflicts, .int z_toldHighest, .int (nI n_set), .ref a_names, .ref a_sides, .ref a_levels, .int (nI n_items), .int (nI n_operands), .int (nI n_waiting), .int (nI n_pairs), .int z_rows, .int z_conflicts, .ref a_from, .ref a_to, .ref a_what, .ref a_left, .ref a_right, .ref a_waits, .ref a_opens, .ref a_closes, .ref a_waitsFor]))]) [0] rfl
    have hD9 := hD.sub (ws' := [(a_t, .inr (1, [.int z_thrown, .int (nI n_length), .ref a_text, .int y0, .int y1, .int (nI n_at), .int (nI n_lexemes), .ref a_kind, .ref a_value, .ref a_where, .ref a_column, .ref a_leads, .int (nI n_open), .int z_highest, .ref a_row, .int (nI n_tokens), .int z_blocks, .ref a_sort, .ref a_is, .ref a_before, .ref a_behind, .ref a_partner, .ref a_done, .int (nI n_all), .ref a_kinds, .ref a_values, .int z_told, .int z_toldBlocks, .int z_toldRows, .int z_toldConflicts, .int z_toldHighest, .int (nI n_set), .ref a_names, .ref a_sides, .ref a_levels, .int (nI n_items), .int (nI n_operands), .int (nI n_waiting), .int (nI n_pairs), .int z_rows, .int z_conflicts, .ref a_from, .ref a_to, .ref a_what, .ref a_left, .ref a_right, .ref a_waits, .ref a_opens, .ref a_closes, .ref a_waitsFor]))]) [0] (by decide) rfl
    exact W.vret hx hb hr (fun t ht hW => ⟨⟨(), rfl, trivial, y0, y1, by first | assumption | exact Or.inl rfl | exact Or.inr (Or.inl rfl) | exact Or.inr (Or.inr rfl) | exact Or.inr (by assumption), by first | (intro _; rfl) | (intro hh; exact absurd hh ‹_›) | (intro hh; exact absurd ‹_› hh) | omega | assumption | exact Or.inl rfl | exact Or.inr rfl, by first | (intro _; rfl) | (intro hh; exact absurd hh ‹_›) | (intro hh; exact absurd ‹_› hh) | omega | assumption | exact Or.inl rfl | exact Or.inr rfl, by (intro _; rfl), by rw [ht]; exact hP9, va_K.moved hW.alike hK, hD9⟩, hS.F ht⟩) hS.2.2 d_Model_wrong_17
