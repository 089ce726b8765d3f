set_option maxHeartbeats 4000000 in
set_option maxRecDepth 100000 in
theorem s_Rows_putRowTogether7 (l : Launch) (dC : Nat → ClassId) (dI : Nat → Nat → Nat) (sz : Nat) (a_t : Nat) (a_closers : Nat) (a_openers : Nat) (a_opened : Nat) (a_closed : Nat) (a_row : Nat) (a_row_parts : Nat) (f_row_parts : Nat → Int32) (a_row_firsts : Nat) (f_row_firsts : Nat → Int32) (a_row_lasts : Nat) (f_row_lasts : Nat → Int32) (n_row_size : Nat) (z_row_operates : Int32) (z_row_lacksOperand : Int32) (a_resolver : Nat) (a_resolver_pairFirsts : Nat) (f_resolver_pairFirsts : Nat → Int32) (a_resolver_pairLasts : Nat) (f_resolver_pairLasts : Nat → Int32) (n_resolver_pairs : Nat) (n_resolver_pairsBefore : Nat) (a_resolver_firsts : Nat) (f_resolver_firsts : Nat → Int32) (a_resolver_lasts : Nat) (f_resolver_lasts : Nat → Int32) (n_resolver_operands : Nat) (a_resolver_levels : Nat) (f_resolver_levels : Nat → Int32) (a_resolver_sides : Nat) (f_resolver_sides : Nat → Int32) (a_resolver_minusPlaces : Nat) (f_resolver_minusPlaces : Nat → Int32) (n_resolver_waiting : Nat) (z_together : Int32) (z_inConflict : Int32) (a_y0 : Nat) (a_y0_kinds : Nat) (a_y0_values : Nat) (f_y0_values : Nat → Int64) (n_y0_size : Nat) (a_y1 : Nat) (a_y1_names : Nat) (f_y1_names : Nat → Int64) (a_y1_sides : Nat) (f_y1_sides : Nat → Int32) (a_y1_levels : Nat) (f_y1_levels : Nat → Int32) (n_y1_size : Nat) (ka_row_parts : ClassId) (ka_row_firsts : ClassId) (ka_row_lasts : ClassId) (ka_resolver_pairFirsts : ClassId) (ka_resolver_pairLasts : ClassId) (ka_resolver_firsts : ClassId) (ka_resolver_lasts : ClassId) (ka_resolver_levels : ClassId) (ka_resolver_sides : ClassId) (ka_resolver_minusPlaces : ClassId) (ka_y0_values : ClassId) (ka_y1_names : ClassId) (ka_y1_sides : ClassId) (ka_y1_levels : ClassId) (b_row_size : n_row_size ≤ 90) (b_resolver_pairs : n_resolver_pairs ≤ 90) (b_resolver_pairsBefore : n_resolver_pairsBefore ≤ 90) (b_resolver_operands : n_resolver_operands ≤ 90) (b_resolver_waiting : n_resolver_waiting ≤ 90) (b_y0_size : n_y0_size ≤ 362) (b_y1_size : n_y1_size ≤ 12) (hp0 : ITM f_row_firsts f_row_lasts n_row_size n_y0_size) (hp1 : RV f_row_parts n_row_size) (hp2 : eo7 (z3 f_row_firsts f_row_lasts f_row_parts n_row_size) = true) (hp3 : n_resolver_pairs + n_row_size ≤ 90) : Met l y_Rows_putRowTogether w_Rows_putRowTogether ({ frames := 3, cells := 0, slots := 0, locals := 74 }) (va_Pc [.ref a_t, .ref a_y0, .ref a_y1] (fun U => U.heap.size = sz ∧ va_P (dC, dI) vcl [(a_t, .inr (9, [.ref a_closers, .ref a_openers, .ref a_opened, .ref a_closed, .ref a_row, .ref a_resolver, .int z_together, .int z_inConflict])), (a_row, .inr (8, [.ref a_row_parts, .ref a_row_firsts, .ref a_row_lasts, .int (nI n_row_size), .int z_row_operates, .int z_row_lacksOperand])), (a_row_parts, .inl (ka_row_parts, 90, .inl f_row_parts)), (a_row_firsts, .inl (ka_row_firsts, 90, .inl f_row_firsts)), (a_row_lasts, .inl (ka_row_lasts, 90, .inl f_row_lasts)), (a_resolver, .inr (7, [.ref a_resolver_pairFirsts, .ref a_resolver_pairLasts, .int (nI n_resolver_pairs), .int (nI n_resolver_pairsBefore), .ref a_resolver_firsts, .ref a_resolver_lasts, .int (nI n_resolver_operands), .ref a_resolver_levels, .ref a_resolver_sides, .ref a_resolver_minusPlaces, .int (nI n_resolver_waiting)])), (a_resolver_pairFirsts, .inl (ka_resolver_pairFirsts, 90, .inl f_resolver_pairFirsts)), (a_resolver_pairLasts, .inl (ka_resolver_pairLasts, 90, .inl f_resolver_pairLasts)), (a_resolver_firsts, .inl (ka_resolver_firsts, 90, .inl f_resolver_firsts)), (a_resolver_lasts, .inl (ka_resolver_lasts, 90, .inl f_resolver_lasts)), (a_resolver_levels, .inl (ka_resolver_levels, 90, .inl f_resolver_levels)), (a_resolver_sides, .inl (ka_resolver_sides, 90, .inl f_resolver_sides)), (a_resolver_minusPlaces, .inl (ka_resolver_minusPlaces, 90, .inl f_resolver_minusPlaces)), (a_y0, .inr (11, [.ref a_y0_kinds, .ref a_y0_values, .int (nI n_y0_size)])), (a_y0_values, .inl (ka_y0_values, 362, .inr (.inl f_y0_values))), (a_y1, .inr (4, [.ref a_y1_names, .ref a_y1_sides, .ref a_y1_levels, .int (nI n_y1_size)])), (a_y1_names, .inl (ka_y1_names, 12, .inr (.inl f_y1_names))), (a_y1_sides, .inl (ka_y1_sides, 12, .inl f_y1_sides)), (a_y1_levels, .inl (ka_y1_levels, 12, .inl f_y1_levels))] U.heap ∧ va_K (dC, dI) vcl [(ka_row_parts, .int), (ka_row_firsts, .int), (ka_row_lasts, .int), (ka_resolver_pairFirsts, .int), (ka_resolver_pairLasts, .int), (ka_resolver_firsts, .int), (ka_resolver_lasts, .int), (ka_resolver_levels, .int), (ka_resolver_sides, .int), (ka_resolver_minusPlaces, .int), (ka_y0_values, .long), (ka_y1_names, .long), (ka_y1_sides, .int), (ka_y1_levels, .int)] U ∧ va_D (fun _ => True) [(a_t, .inr (9, [.ref a_closers, .ref a_openers, .ref a_opened, .ref a_closed, .ref a_row, .ref a_resolver, .int z_together, .int z_inConflict])), (a_row, .inr (8, [.ref a_row_parts, .ref a_row_firsts, .ref a_row_lasts, .int (nI n_row_size), .int z_row_operates, .int z_row_lacksOperand])), (a_row_parts, .inl (ka_row_parts, 90, .inl f_row_parts)), (a_row_firsts, .inl (ka_row_firsts, 90, .inl f_row_firsts)), (a_row_lasts, .inl (ka_row_lasts, 90, .inl f_row_lasts)), (a_resolver, .inr (7, [.ref a_resolver_pairFirsts, .ref a_resolver_pairLasts, .int (nI n_resolver_pairs), .int (nI n_resolver_pairsBefore), .ref a_resolver_firsts, .ref a_resolver_lasts, .int (nI n_resolver_operands), .ref a_resolver_levels, .ref a_resolver_sides, .ref a_resolver_minusPlaces, .int (nI n_resolver_waiting)])), (a_resolver_pairFirsts, .inl (ka_resolver_pairFirsts, 90, .inl f_resolver_pairFirsts)), (a_resolver_pairLasts, .inl (ka_resolver_pairLasts, 90, .inl f_resolver_pairLasts)), (a_resolver_firsts, .inl (ka_resolver_firsts, 90, .inl f_resolver_firsts)), (a_resolver_lasts, .inl (ka_resolver_lasts, 90, .inl f_resolver_lasts)), (a_resolver_levels, .inl (ka_resolver_levels, 90, .inl f_resolver_levels)), (a_resolver_sides, .inl (ka_resolver_sides, 90, .inl f_resolver_sides)), (a_resolver_minusPlaces, .inl (ka_resolver_minusPlaces, 90, .inl f_resolver_minusPlaces)), (a_y0, .inr (11, [.ref a_y0_kinds, .ref a_y0_values, .int (nI n_y0_size)])), (a_y0_values, .inl (ka_y0_values, 362, .inr (.inl f_y0_values))), (a_y1, .inr (4, [.ref a_y1_names, .ref a_y1_sides, .ref a_y1_levels, .int (nI n_y1_size)])), (a_y1_names, .inl (ka_y1_names, 12, .inr (.inl f_y1_names))), (a_y1_sides, .inl (ka_y1_sides, 12, .inl f_y1_sides)), (a_y1_levels, .inl (ka_y1_levels, 12, .inl f_y1_levels))])) (va_Qv (fun (_ : Unit) => True) (fun _ t => ∃ (w_z_together : Int32) (w_z_inConflict : Int32) (w_n_resolver_pairs : Nat) (w_n_resolver_pairsBefore : Nat) (w_n_resolver_operands : Nat) (w_n_resolver_waiting : Nat) (w_f_resolver_pairFirsts : Nat → Int32) (w_f_resolver_pairLasts : Nat → Int32) (w_f_resolver_firsts : Nat → Int32) (w_f_resolver_lasts : Nat → Int32) (w_f_resolver_levels : Nat → Int32) (w_f_resolver_sides : Nat → Int32) (w_f_resolver_minusPlaces : Nat → Int32), (w_n_resolver_pairs ≤ 90) ∧ (w_n_resolver_pairsBefore ≤ 90) ∧ (w_n_resolver_operands ≤ 90) ∧ (w_n_resolver_waiting ≤ 90) ∧ (rs7 f_y0_values (lvC f_y1_names f_y1_levels n_y1_size 9) (lvC f_y1_names f_y1_sides n_y1_size 0) (z2 f_resolver_pairFirsts f_resolver_pairLasts n_resolver_pairs) (z3 f_row_firsts f_row_lasts f_row_parts n_row_size) = none → (w_n_resolver_pairs = n_resolver_pairs ∧ w_z_inConflict = z_inConflict + 1 ∧ w_z_together = z_together)) ∧ (∀ x9, rs7 f_y0_values (lvC f_y1_names f_y1_levels n_y1_size 9) (lvC f_y1_names f_y1_sides n_y1_size 0) (z2 f_resolver_pairFirsts f_resolver_pairLasts n_resolver_pairs) (z3 f_row_firsts f_row_lasts f_row_parts n_row_size) = some x9 → (z2 w_f_resolver_pairFirsts w_f_resolver_pairLasts w_n_resolver_pairs = (fin7 x9).2.2 ∧ w_z_together = z_together + 1 ∧ w_z_inConflict = z_inConflict)) ∧ (∀ j, j < n_resolver_pairs → w_f_resolver_pairFirsts j = f_resolver_pairFirsts j ∧ w_f_resolver_pairLasts j = f_resolver_pairLasts j) ∧ (w_n_resolver_pairs ≤ n_resolver_pairs + n_row_size) ∧ (n_resolver_pairs ≤ w_n_resolver_pairs) ∧ va_P (dC, dI) vcl [(a_t, .inr (9, [.ref a_closers, .ref a_openers, .ref a_opened, .ref a_closed, .ref a_row, .ref a_resolver, .int w_z_together, .int w_z_inConflict])), (a_row, .inr (8, [.ref a_row_parts, .ref a_row_firsts, .ref a_row_lasts, .int (nI n_row_size), .int z_row_operates, .int z_row_lacksOperand])), (a_row_parts, .inl (ka_row_parts, 90, .inl f_row_parts)), (a_row_firsts, .inl (ka_row_firsts, 90, .inl f_row_firsts)), (a_row_lasts, .inl (ka_row_lasts, 90, .inl f_row_lasts)), (a_resolver, .inr (7, [.ref a_resolver_pairFirsts, .ref a_resolver_pairLasts, .int (nI w_n_resolver_pairs), .int (nI w_n_resolver_pairsBefore), .ref a_resolver_firsts, .ref a_resolver_lasts, .int (nI w_n_resolver_operands), .ref a_resolver_levels, .ref a_resolver_sides, .ref a_resolver_minusPlaces, .int (nI w_n_resolver_waiting)])), (a_resolver_pairFirsts, .inl (ka_resolver_pairFirsts, 90, .inl w_f_resolver_pairFirsts)), (a_resolver_pairLasts, .inl (ka_resolver_pairLasts, 90, .inl w_f_resolver_pairLasts)), (a_resolver_firsts, .inl (ka_resolver_firsts, 90, .inl w_f_resolver_firsts)), (a_resolver_lasts, .inl (ka_resolver_lasts, 90, .inl w_f_resolver_lasts)), (a_resolver_levels, .inl (ka_resolver_levels, 90, .inl w_f_resolver_levels)), (a_resolver_sides, .inl (ka_resolver_sides, 90, .inl w_f_resolver_sides)), (a_resolver_minusPlaces, .inl (ka_resolver_minusPlaces, 90, .inl w_f_resolver_minusPlaces)), (a_y0, .inr (11, [.ref a_y0_kinds, .ref a_y0_values, .int (nI n_y0_size)])), (a_y0_values, .inl (ka_y0_values, 362, .inr (.inl f_y0_values))), (a_y1, .inr (4, [.ref a_y1_names, .ref a_y1_sides, .ref a_y1_levels, .int (nI n_y1_size)])), (a_y1_names, .inl (ka_y1_names, 12, .inr (.inl f_y1_names))), (a_y1_sides, .inl (ka_y1_sides, 12, .inl f_y1_sides)), (a_y1_levels, .inl (ka_y1_levels, 12, .inl f_y1_levels))] t.heap ∧ va_K (dC, dI) vcl [(ka_row_parts, .int), (ka_row_firsts, .int), (ka_row_lasts, .int), (ka_resolver_pairFirsts, .int), (ka_resolver_pairLasts, .int), (ka_resolver_firsts, .int), (ka_resolver_lasts, .int), (ka_resolver_levels, .int), (ka_resolver_sides, .int), (ka_resolver_minusPlaces, .int), (ka_y0_values, .long), (ka_y1_names, .long), (ka_y1_sides, .int), (ka_y1_levels, .int)] t ∧ va_D (va_A [(a_t, .inr (9, [.ref a_closers, .ref a_openers, .ref a_opened, .ref a_closed, .ref a_row, .ref a_resolver, .int z_together, .int z_inConflict])), (a_row, .inr (8, [.ref a_row_parts, .ref a_row_firsts, .ref a_row_lasts, .int (nI n_row_size), .int z_row_operates, .int z_row_lacksOperand])), (a_row_parts, .inl (ka_row_parts, 90, .inl f_row_parts)), (a_row_firsts, .inl (ka_row_firsts, 90, .inl f_row_firsts)), (a_row_lasts, .inl (ka_row_lasts, 90, .inl f_row_lasts)), (a_resolver, .inr (7, [.ref a_resolver_pairFirsts, .ref a_resolver_pairLasts, .int (nI n_resolver_pairs), .int (nI n_resolver_pairsBefore), .ref a_resolver_firsts, .ref a_resolver_lasts, .int (nI n_resolver_operands), .ref a_resolver_levels, .ref a_resolver_sides, .ref a_resolver_minusPlaces, .int (nI n_resolver_waiting)])), (a_resolver_pairFirsts, .inl (ka_resolver_pairFirsts, 90, .inl f_resolver_pairFirsts)), (a_resolver_pairLasts, .inl (ka_resolver_pairLasts, 90, .inl f_resolver_pairLasts)), (a_resolver_firsts, .inl (ka_resolver_firsts, 90, .inl f_resolver_firsts)), (a_resolver_lasts, .inl (ka_resolver_lasts, 90, .inl f_resolver_lasts)), (a_resolver_levels, .inl (ka_resolver_levels, 90, .inl f_resolver_levels)), (a_resolver_sides, .inl (ka_resolver_sides, 90, .inl f_resolver_sides)), (a_resolver_minusPlaces, .inl (ka_resolver_minusPlaces, 90, .inl f_resolver_minusPlaces)), (a_y0, .inr (11, [.ref a_y0_kinds, .ref a_y0_values, .int (nI n_y0_size)])), (a_y0_values, .inl (ka_y0_values, 362, .inr (.inl f_y0_values))), (a_y1, .inr (4, [.ref a_y1_names, .ref a_y1_sides, .ref a_y1_levels, .int (nI n_y1_size)])), (a_y1_names, .inl (ka_y1_names, 12, .inr (.inl f_y1_names))), (a_y1_sides, .inl (ka_y1_sides, 12, .inl f_y1_sides)), (a_y1_levels, .inl (ka_y1_levels, 12, .inl f_y1_levels))] sz) [(a_t, .inr (9, [.ref a_closers, .ref a_openers, .ref a_opened, .ref a_closed, .ref a_row, .ref a_resolver, .int w_z_together, .int w_z_inConflict])), (a_row, .inr (8, [.ref a_row_parts, .ref a_row_firsts, .ref a_row_lasts, .int (nI n_row_size), .int z_row_operates, .int z_row_lacksOperand])), (a_row_parts, .inl (ka_row_parts, 90, .inl f_row_parts)), (a_row_firsts, .inl (ka_row_firsts, 90, .inl f_row_firsts)), (a_row_lasts, .inl (ka_row_lasts, 90, .inl f_row_lasts)), (a_resolver, .inr (7, [.ref a_resolver_pairFirsts, .ref a_resolver_pairLasts, .int (nI w_n_resolver_pairs), .int (nI w_n_resolver_pairsBefore), .ref a_resolver_firsts, .ref a_resolver_lasts, .int (nI w_n_resolver_operands), .ref a_resolver_levels, .ref a_resolver_sides, .ref a_resolver_minusPlaces, .int (nI w_n_resolver_waiting)])), (a_resolver_pairFirsts, .inl (ka_resolver_pairFirsts, 90, .inl w_f_resolver_pairFirsts)), (a_resolver_pairLasts, .inl (ka_resolver_pairLasts, 90, .inl w_f_resolver_pairLasts)), (a_resolver_firsts, .inl (ka_resolver_firsts, 90, .inl w_f_resolver_firsts)), (a_resolver_lasts, .inl (ka_resolver_lasts, 90, .inl w_f_resolver_lasts)), (a_resolver_levels, .inl (ka_resolver_levels, 90, .inl w_f_resolver_levels)), (a_resolver_sides, .inl (ka_resolver_sides, 90, .inl w_f_resolver_sides)), (a_resolver_minusPlaces, .inl (ka_resolver_minusPlaces, 90, .inl w_f_resolver_minusPlaces)), (a_y0, .inr (11, [.ref a_y0_kinds, .ref a_y0_values, .int (nI n_y0_size)])), (a_y0_values, .inl (ka_y0_values, 362, .inr (.inl f_y0_values))), (a_y1, .inr (4, [.ref a_y1_names, .ref a_y1_sides, .ref a_y1_levels, .int (nI n_y1_size)])), (a_y1_names, .inl (ka_y1_names, 12, .inr (.inl f_y1_names))), (a_y1_sides, .inl (ka_y1_sides, 12, .inl f_y1_sides)), (a_y1_levels, .inl (ka_y1_levels, 12, .inl f_y1_levels))]) (va_A [(a_t, .inr (9, [.ref a_closers, .ref a_openers, .ref a_opened, .ref a_closed, .ref a_row, .ref a_resolver, .int z_together, .int z_inConflict])), (a_row, .inr (8, [.ref a_row_parts, .ref a_row_firsts, .ref a_row_lasts, .int (nI n_row_size), .int z_row_operates, .int z_row_lacksOperand])), (a_row_parts, .inl (ka_row_parts, 90, .inl f_row_parts)), (a_row_firsts, .inl (ka_row_firsts, 90, .inl f_row_firsts)), (a_row_lasts, .inl (ka_row_lasts, 90, .inl f_row_lasts)), (a_resolver, .inr (7, [.ref a_resolver_pairFirsts, .ref a_resolver_pairLasts, .int (nI n_resolver_pairs), .int (nI n_resolver_pairsBefore), .ref a_resolver_firsts, .ref a_resolver_lasts, .int (nI n_resolver_operands), .ref a_resolver_levels, .ref a_resolver_sides, .ref a_resolver_minusPlaces, .int (nI n_resolver_waiting)])), (a_resolver_pairFirsts, .inl (ka_resolver_pairFirsts, 90, .inl f_resolver_pairFirsts)), (a_resolver_pairLasts, .inl (ka_resolver_pairLasts, 90, .inl f_resolver_pairLasts)), (a_resolver_firsts, .inl (ka_resolver_firsts, 90, .inl f_resolver_firsts)), (a_resolver_lasts, .inl (ka_resolver_lasts, 90, .inl f_resolver_lasts)), (a_resolver_levels, .inl (ka_resolver_levels, 90, .inl f_resolver_levels)), (a_resolver_sides, .inl (ka_resolver_sides, 90, .inl f_resolver_sides)), (a_resolver_minusPlaces, .inl (ka_resolver_minusPlaces, 90, .inl f_resolver_minusPlaces)), (a_y0, .inr (11, [.ref a_y0_kinds, .ref a_y0_values, .int (nI n_y0_size)])), (a_y0_values, .inl (ka_y0_values, 362, .inr (.inl f_y0_values))), (a_y1, .inr (4, [.ref a_y1_names, .ref a_y1_sides, .ref a_y1_levels, .int (nI n_y1_size)])), (a_y1_names, .inl (ka_y1_names, 12, .inr (.inl f_y1_names))), (a_y1_sides, .inl (ka_y1_sides, 12, .inl f_y1_sides)), (a_y1_levels, .inl (ka_y1_levels, 12, .inl f_y1_levels))] sz)) 0 0 (va_A [(a_t, .inr (9, [.ref a_closers, .ref a_openers, .ref a_opened, .ref a_closed, .ref a_row, .ref a_resolver, .int z_together, .int z_inConflict])), (a_row, .inr (8, [.ref a_row_parts, .ref a_row_firsts, .ref a_row_lasts, .int (nI n_row_size), .int z_row_operates, .int z_row_lacksOperand])), (a_row_parts, .inl (ka_row_parts, 90, .inl f_row_parts)), (a_row_firsts, .inl (ka_row_firsts, 90, .inl f_row_firsts)), (a_row_lasts, .inl (ka_row_lasts, 90, .inl f_row_lasts)), (a_resolver, .inr (7, [.ref a_resolver_pairFirsts, .ref a_resolver_pairLasts, .int (nI n_resolver_pairs), .int (nI n_resolver_pairsBefore), .ref a_resolver_firsts, .ref a_resolver_lasts, .int (nI n_resolver_operands), .ref a_resolver_levels, .ref a_resolver_sides, .ref a_resolver_minusPlaces, .int (nI n_resolver_waiting)])), (a_resolver_pairFirsts, .inl (ka_resolver_pairFirsts, 90, .inl f_resolver_pairFirsts)), (a_resolver_pairLasts, .inl (ka_resolver_pairLasts, 90, .inl f_resolver_pairLasts)), (a_resolver_firsts, .inl (ka_resolver_firsts, 90, .inl f_resolver_firsts)), (a_resolver_lasts, .inl (ka_resolver_lasts, 90, .inl f_resolver_lasts)), (a_resolver_levels, .inl (ka_resolver_levels, 90, .inl f_resolver_levels)), (a_resolver_sides, .inl (ka_resolver_sides, 90, .inl f_resolver_sides)), (a_resolver_minusPlaces, .inl (ka_resolver_minusPlaces, 90, .inl f_resolver_minusPlaces)), (a_y0, .inr (11, [.ref a_y0_kinds, .ref a_y0_values, .int (nI n_y0_size)])), (a_y0_values, .inl (ka_y0_values, 362, .inr (.inl f_y0_values))), (a_y1, .inr (4, [.ref a_y1_names, .ref a_y1_sides, .ref a_y1_levels, .int (nI n_y1_size)])), (a_y1_names, .inl (ka_y1_names, 12, .inr (.inl f_y1_names))), (a_y1_sides, .inl (ka_y1_sides, 12, .inl f_y1_sides)), (a_y1_levels, .inl (ka_y1_levels, 12, .inl f_y1_levels))] sz) := by
  refine Met.ofW (cc := b_Rows_putRowTogether) (maxL := 4) (ret := none) (by decide) rfl ?_
  intro p e s m args below meth c s₁ B hml hv
  obtain ⟨rfl, hsz, hP, hK, hD0⟩ := hv
  have hx := B.exec
  have hb := B.bytes
  have hr := B.returns
  have hts := atoms_spec (ws := w_Rows_putRowTogether) B.pre
  have hz : ∀ w ∈ wz, w.before _ s = true := fun w h => hts w (List.mem_cons_of_mem _ h)
  have hown : s.vm.findClass R_Rows = some m.cls := findClass_of_methodNamed B.named
  have hlocks := B.notSynchronized
  subst hsz
  have hD := hD0.self (sz := s.heap.size)
  generalize hAe : va_A [(a_t, .inr (9, [.ref a_closers, .ref a_openers, .ref a_opened, .ref a_closed, .ref a_row, .ref a_resolver, .int z_together, .int z_inConflict])), (a_row, .inr (8, [.ref a_row_parts, .ref a_row_firsts, .ref a_row_lasts, .int (nI n_row_size), .int z_row_operates, .int z_row_lacksOperand])), (a_row_parts, .inl (ka_row_parts, 90, .inl f_row_parts)), (a_row_firsts, .inl (ka_row_firsts, 90, .inl f_row_firsts)), (a_row_lasts, .inl (ka_row_lasts, 90, .inl f_row_lasts)), (a_resolver, .inr (7, [.ref a_resolver_pairFirsts, .ref a_resolver_pairLasts, .int (nI n_resolver_pairs), .int (nI n_resolver_pairsBefore), .ref a_resolver_firsts, .ref a_resolver_lasts, .int (nI n_resolver_operands), .ref a_resolver_levels, .ref a_resolver_sides, .ref a_resolver_minusPlaces, .int (nI n_resolver_waiting)])), (a_resolver_pairFirsts, .inl (ka_resolver_pairFirsts, 90, .inl f_resolver_pairFirsts)), (a_resolver_pairLasts, .inl (ka_resolver_pairLasts, 90, .inl f_resolver_pairLasts)), (a_resolver_firsts, .inl (ka_resolver_firsts, 90, .inl f_resolver_firsts)), (a_resolver_lasts, .inl (ka_resolver_lasts, 90, .inl f_resolver_lasts)), (a_resolver_levels, .inl (ka_resolver_levels, 90, .inl f_resolver_levels)), (a_resolver_sides, .inl (ka_resolver_sides, 90, .inl f_resolver_sides)), (a_resolver_minusPlaces, .inl (ka_resolver_minusPlaces, 90, .inl f_resolver_minusPlaces)), (a_y0, .inr (11, [.ref a_y0_kinds, .ref a_y0_values, .int (nI n_y0_size)])), (a_y0_values, .inl (ka_y0_values, 362, .inr (.inl f_y0_values))), (a_y1, .inr (4, [.ref a_y1_names, .ref a_y1_sides, .ref a_y1_levels, .int (nI n_y1_size)])), (a_y1_names, .inl (ka_y1_names, 12, .inr (.inl f_y1_names))), (a_y1_sides, .inl (ka_y1_sides, 12, .inl f_y1_sides)), (a_y1_levels, .inl (ka_y1_levels, 12, .inl f_y1_levels))] s.heap.size = A at hD ⊢
  have hA : ∀ q : Nat, s.heap.size ≤ q → A q := fun q h => by rw [← hAe]; exact Or.inr h
  have hS : va_S A s.heap s.heap [] := va_S.rf
  have hP : va_P (dC, dI) vcl [(a_t, .inr (9, [.ref a_closers, .ref a_openers, .ref a_opened, .ref a_closed, .ref a_row, .ref a_resolver, .int z_together, .int z_inConflict])), (a_row, .inr (8, [.ref a_row_parts, .ref a_row_firsts, .ref a_row_lasts, .int (nI n_row_size), .int z_row_operates, .int z_row_lacksOperand])), (a_row_parts, .inl (ka_row_parts, 90, .inl f_row_parts)), (a_row_firsts, .inl (ka_row_firsts, 90, .inl f_row_firsts)), (a_row_lasts, .inl (ka_row_lasts, 90, .inl f_row_lasts)), (a_resolver, .inr (7, [.ref a_resolver_pairFirsts, .ref a_resolver_pairLasts, .int (nI n_resolver_pairs), .int (nI n_resolver_pairsBefore), .ref a_resolver_firsts, .ref a_resolver_lasts, .int (nI n_resolver_operands), .ref a_resolver_levels, .ref a_resolver_sides, .ref a_resolver_minusPlaces, .int (nI n_resolver_waiting)])), (a_resolver_pairFirsts, .inl (ka_resolver_pairFirsts, 90, .inl f_resolver_pairFirsts)), (a_resolver_pairLasts, .inl (ka_resolver_pairLasts, 90, .inl f_resolver_pairLasts)), (a_resolver_firsts, .inl (ka_resolver_firsts, 90, .inl f_resolver_firsts)), (a_resolver_lasts, .inl (ka_resolver_lasts, 90, .inl f_resolver_lasts)), (a_resolver_levels, .inl (ka_resolver_levels, 90, .inl f_resolver_levels)), (a_resolver_sides, .inl (ka_resolver_sides, 90, .inl f_resolver_sides)), (a_resolver_minusPlaces, .inl (ka_resolver_minusPlaces, 90, .inl f_resolver_minusPlaces)), (a_y0, .inr (11, [.ref a_y0_kinds, .ref a_y0_values, .int (nI n_y0_size)])), (a_y0_values, .inl (ka_y0_values, 362, .inr (.inl f_y0_values))), (a_y1, .inr (4, [.ref a_y1_names, .ref a_y1_sides, .ref a_y1_levels, .int (nI n_y1_size)])), (a_y1_names, .inl (ka_y1_names, 12, .inr (.inl f_y1_names))), (a_y1_sides, .inl (ka_y1_sides, 12, .inl f_y1_sides)), (a_y1_levels, .inl (ka_y1_levels, 12, .inl f_y1_levels))] s.heap := hP
  have hl := lv_entry ([.ref a_t, .ref a_y0, .ref a_y1]) (n := 4) (Nat.le_of_ble_eq_true rfl)
  rw [lg_entry_eq]
  generalize (lg_sl ([.ref a_t, .ref a_y0, .ref a_y1]) ++ List.replicate (4 - (lg_sl ([.ref a_t, .ref a_y0, .ref a_y1])).length) Slot.unset).toArray = ls at hl ⊢
  have hl : lv_has ls 4 [(0, .ref a_t), (1, .ref a_y0), (2, .ref a_y1)] := hl
  refine lv_aload_n hx hb d_Rows_putRowTogether_0 rfl (lv_at hl 0 rfl) ?_
  refine va_get (D := (dC, dI)) (ci := 9) (v := .ref a_resolver) (C := R_Rows) (T := F_Rows) (N := 8) hx hb hz zu_Rows hown hK hP 0 rfl rfl 5 (by decide) (hz (.fieldLink R_Rows 34 "LayoutFront$Rows" "resolver" "LLayoutFront$Resolver;") zm_366) (fun _ h9 => h9) rfl d_Rows_putRowTogether_1 ?_
  have hPc := hP.sub (ws' := [(a_resolver, .inr (7, [.ref a_resolver_pairFirsts, .ref a_resolver_pairLasts, .int (nI n_resolver_pairs), .int (nI n_resolver_pairsBefore), .ref a_resolver_firsts, .ref a_resolver_lasts, .int (nI n_resolver_operands), .ref a_resolver_levels, .ref a_resolver_sides, .ref a_resolver_minusPlaces, .int (nI n_resolver_waiting)]))]) [5] rfl
  have hDc := hD.sub (ws' := [(a_resolver, .inr (7, [.ref a_resolver_pairFirsts, .ref a_resolver_pairLasts, .int (nI n_resolver_pairs), .int (nI n_resolver_pairsBefore), .ref a_resolver_firsts, .ref a_resolver_lasts, .int (nI n_resolver_operands), .ref a_resolver_levels, .ref a_resolver_sides, .ref a_resolver_minusPlaces, .int (nI n_resolver_waiting)]))]) [5] (by decide) rfl
  have hKc := hK.sub (tys' := []) [] rfl
  have hFc := va_free (wc := [(a_resolver, .inr (7, [.ref a_resolver_pairFirsts, .ref a_resolver_pairLasts, .int (nI n_resolver_pairs), .int (nI n_resolver_pairsBefore), .ref a_resolver_firsts, .ref a_resolver_lasts, .int (nI n_resolver_operands), .ref a_resolver_levels, .ref a_resolver_sides, .ref a_resolver_minusPlaces, .int (nI n_resolver_waiting)]))]) hD hS hA [5] rfl
  refine va_callv (va_runV (As := []) (rest := []) ⟨hx, hb, hml, hown, hz⟩ (s_Resolver_startRow7 l dC dI s.heap.size a_resolver a_resolver_pairFirsts a_resolver_pairLasts n_resolver_pairs n_resolver_pairsBefore a_resolver_firsts a_resolver_lasts n_resolver_operands a_resolver_levels a_resolver_sides a_resolver_minusPlaces n_resolver_waiting (by first | omega | assumption | exact Or.inl rfl | exact Or.inr rfl | decide) (by first | omega | assumption | exact Or.inl rfl | exact Or.inr rfl | decide) (by first | omega | assumption | exact Or.inl rfl | exact Or.inr rfl | decide) (by first | omega | assumption | exact Or.inl rfl | exact Or.inr rfl | decide)) (cwV 0 hz (zV zm_451 zm_338 zm_339 zm_340 zm_341) rfl rfl rfl (by decide +kernel) ⟨Nat.le_of_ble_eq_true rfl, Nat.le_of_ble_eq_true rfl⟩) ⟨fun a U g mk q => by obtain ⟨q0, q1, qP, qK, qD⟩ := q; exact ⟨q0, q1, qP, va_K.moved (u := U) (U := U.calling g mk a) (Vm.Alike.refl U.vm) qK, qD⟩, va_recv (q := (R_Resolver, F_Resolver, 11)) (q0 := 5) (ci := 7) hK hP rfl rfl, fun U hU hW => ⟨rfl, by rw [hU], by rw [hU]; exact hPc, va_K.moved hW.alike hKc, hDc.weaken (fun _ _ _ _ => trivial)⟩⟩ rfl rfl hl.1 rfl (lv_room (Nat.le_of_ble_eq_true rfl)) d_Rows_putRowTogether_4 ⟨Nat.zero_le _, Nat.zero_le _⟩) hS (fun q _ h => hFc q h) hFc (fun u t H1 locs ht hvm hw hB hz1 hk1 hS => ?_)
  obtain ⟨g1, g2, g3, hb_g1, hb_g2, hb_g3, hq0_4, hq1_4, hq2_4, hP1, hK1, hD1⟩ := hB
  subst g1
  subst g2
  subst g3
  rw [ht] at hP1
  obtain ⟨hP, hD⟩ := va_join (wr := [(a_t, .inr (9, [.ref a_closers, .ref a_openers, .ref a_opened, .ref a_closed, .ref a_row, .ref a_resolver, .int z_together, .int z_inConflict])), (a_row, .inr (8, [.ref a_row_parts, .ref a_row_firsts, .ref a_row_lasts, .int (nI n_row_size), .int z_row_operates, .int z_row_lacksOperand])), (a_row_parts, .inl (ka_row_parts, 90, .inl f_row_parts)), (a_row_firsts, .inl (ka_row_firsts, 90, .inl f_row_firsts)), (a_row_lasts, .inl (ka_row_lasts, 90, .inl f_row_lasts)), (a_resolver_pairFirsts, .inl (ka_resolver_pairFirsts, 90, .inl f_resolver_pairFirsts)), (a_resolver_pairLasts, .inl (ka_resolver_pairLasts, 90, .inl f_resolver_pairLasts)), (a_resolver_firsts, .inl (ka_resolver_firsts, 90, .inl f_resolver_firsts)), (a_resolver_lasts, .inl (ka_resolver_lasts, 90, .inl f_resolver_lasts)), (a_resolver_levels, .inl (ka_resolver_levels, 90, .inl f_resolver_levels)), (a_resolver_sides, .inl (ka_resolver_sides, 90, .inl f_resolver_sides)), (a_resolver_minusPlaces, .inl (ka_resolver_minusPlaces, 90, .inl f_resolver_minusPlaces)), (a_y0, .inr (11, [.ref a_y0_kinds, .ref a_y0_values, .int (nI n_y0_size)])), (a_y0_values, .inl (ka_y0_values, 362, .inr (.inl f_y0_values))), (a_y1, .inr (4, [.ref a_y1_names, .ref a_y1_sides, .ref a_y1_levels, .int (nI n_y1_size)])), (a_y1_names, .inl (ka_y1_names, 12, .inr (.inl f_y1_names))), (a_y1_sides, .inl (ka_y1_sides, 12, .inl f_y1_sides)), (a_y1_levels, .inl (ka_y1_levels, 12, .inl f_y1_levels))]) (w1 := [(a_resolver, .inr (7, [.ref a_resolver_pairFirsts, .ref a_resolver_pairLasts, .int (nI n_resolver_pairs), .int (nI (n_resolver_pairs)), .ref a_resolver_firsts, .ref a_resolver_lasts, .int (nI (0)), .ref a_resolver_levels, .ref a_resolver_sides, .ref a_resolver_minusPlaces, .int (nI (0))]))]) hP hD [5] [0, 1, 2, 3, 4, 6, 7, 8, 9, 10, 11, 12, 13, 14, 15, 16, 17, 18] rfl rfl (by decide) (by decide) hk1 hFc hP1 hD1
  generalize H1 = H at hP hS ⊢
  have hP : va_P (dC, dI) vcl [(a_t, .inr (9, [.ref a_closers, .ref a_openers, .ref a_opened, .ref a_closed, .ref a_row, .ref a_resolver, .int z_together, .int z_inConflict])), (a_row, .inr (8, [.ref a_row_parts, .ref a_row_firsts, .ref a_row_lasts, .int (nI n_row_size), .int z_row_operates, .int z_row_lacksOperand])), (a_row_parts, .inl (ka_row_parts, 90, .inl f_row_parts)), (a_row_firsts, .inl (ka_row_firsts, 90, .inl f_row_firsts)), (a_row_lasts, .inl (ka_row_lasts, 90, .inl f_row_lasts)), (a_resolver_pairFirsts, .inl (ka_resolver_pairFirsts, 90, .inl f_resolver_pairFirsts)), (a_resolver_pairLasts, .inl (ka_resolver_pairLasts, 90, .inl f_resolver_pairLasts)), (a_resolver_firsts, .inl (ka_resolver_firsts, 90, .inl f_resolver_firsts)), (a_resolver_lasts, .inl (ka_resolver_lasts, 90, .inl f_resolver_lasts)), (a_resolver_levels, .inl (ka_resolver_levels, 90, .inl f_resolver_levels)), (a_resolver_sides, .inl (ka_resolver_sides, 90, .inl f_resolver_sides)), (a_resolver_minusPlaces, .inl (ka_resolver_minusPlaces, 90, .inl f_resolver_minusPlaces)), (a_y0, .inr (11, [.ref a_y0_kinds, .ref a_y0_values, .int (nI n_y0_size)])), (a_y0_values, .inl (ka_y0_values, 362, .inr (.inl f_y0_values))), (a_y1, .inr (4, [.ref a_y1_names, .ref a_y1_sides, .ref a_y1_levels, .int (nI n_y1_size)])), (a_y1_names, .inl (ka_y1_names, 12, .inr (.inl f_y1_names))), (a_y1_sides, .inl (ka_y1_sides, 12, .inl f_y1_sides)), (a_y1_levels, .inl (ka_y1_levels, 12, .inl f_y1_levels)), (a_resolver, .inr (7, [.ref a_resolver_pairFirsts, .ref a_resolver_pairLasts, .int (nI n_resolver_pairs), .int (nI (n_resolver_pairs)), .ref a_resolver_firsts, .ref a_resolver_lasts, .int (nI (0)), .ref a_resolver_levels, .ref a_resolver_sides, .ref a_resolver_minusPlaces, .int (nI (0))]))] H := hP
  have hD : va_D A [(a_t, .inr (9, [.ref a_closers, .ref a_openers, .ref a_opened, .ref a_closed, .ref a_row, .ref a_resolver, .int z_together, .int z_inConflict])), (a_row, .inr (8, [.ref a_row_parts, .ref a_row_firsts, .ref a_row_lasts, .int (nI n_row_size), .int z_row_operates, .int z_row_lacksOperand])), (a_row_parts, .inl (ka_row_parts, 90, .inl f_row_parts)), (a_row_firsts, .inl (ka_row_firsts, 90, .inl f_row_firsts)), (a_row_lasts, .inl (ka_row_lasts, 90, .inl f_row_lasts)), (a_resolver_pairFirsts, .inl (ka_resolver_pairFirsts, 90, .inl f_resolver_pairFirsts)), (a_resolver_pairLasts, .inl (ka_resolver_pairLasts, 90, .inl f_resolver_pairLasts)), (a_resolver_firsts, .inl (ka_resolver_firsts, 90, .inl f_resolver_firsts)), (a_resolver_lasts, .inl (ka_resolver_lasts, 90, .inl f_resolver_lasts)), (a_resolver_levels, .inl (ka_resolver_levels, 90, .inl f_resolver_levels)), (a_resolver_sides, .inl (ka_resolver_sides, 90, .inl f_resolver_sides)), (a_resolver_minusPlaces, .inl (ka_resolver_minusPlaces, 90, .inl f_resolver_minusPlaces)), (a_y0, .inr (11, [.ref a_y0_kinds, .ref a_y0_values, .int (nI n_y0_size)])), (a_y0_values, .inl (ka_y0_values, 362, .inr (.inl f_y0_values))), (a_y1, .inr (4, [.ref a_y1_names, .ref a_y1_sides, .ref a_y1_levels, .int (nI n_y1_size)])), (a_y1_names, .inl (ka_y1_names, 12, .inr (.inl f_y1_names))), (a_y1_sides, .inl (ka_y1_sides, 12, .inl f_y1_sides)), (a_y1_levels, .inl (ka_y1_levels, 12, .inl f_y1_levels)), (a_resolver, .inr (7, [.ref a_resolver_pairFirsts, .ref a_resolver_pairLasts, .int (nI n_resolver_pairs), .int (nI (n_resolver_pairs)), .ref a_resolver_firsts, .ref a_resolver_lasts, .int (nI (0)), .ref a_resolver_levels, .ref a_resolver_sides, .ref a_resolver_minusPlaces, .int (nI (0))]))] := hD
  refine lv_iconst (v := 0) hx hb d_Rows_putRowTogether_7 (by decide) ?_
  refine lv_istore_n hx hb d_Rows_putRowTogether_8 rfl hl (by decide) rfl (fun ls hl => ?_)
  have hl : lv_has ls 4 [(3, .int 0), (0, .ref a_t), (1, .ref a_y0), (2, .ref a_y1)] := hl
  refine xr_loop (α := (Nat) × (Nat) × (Nat) × (Nat) × (Nat → Int32) × (Nat → Int32) × (Nat → Int32) × (Nat → Int32) × (Nat → Int32) × (Nat → Int32) × (Nat → Int32)) (fun a => (fun (k3 : Nat) (v_a_resolver_10 : Nat) (v_a_resolver_2 : Nat) (v_a_resolver_6 : Nat) (v_a_resolver_firsts : Nat → Int32) (v_a_resolver_lasts : Nat → Int32) (v_a_resolver_levels : Nat → Int32) (v_a_resolver_minusPlaces : Nat → Int32) (v_a_resolver_pairFirsts : Nat → Int32) (v_a_resolver_pairLasts : Nat → Int32) (v_a_resolver_sides : Nat → Int32) => 90 - k3) a.1 a.2.1 a.2.2.1 a.2.2.2.1 a.2.2.2.2.1 a.2.2.2.2.2.1 a.2.2.2.2.2.2.1 a.2.2.2.2.2.2.2.1 a.2.2.2.2.2.2.2.2.1 a.2.2.2.2.2.2.2.2.2.1 a.2.2.2.2.2.2.2.2.2.2) (fun a H locs ls => (fun (k3 : Nat) (v_a_resolver_10 : Nat) (v_a_resolver_2 : Nat) (v_a_resolver_6 : Nat) (v_a_resolver_firsts : Nat → Int32) (v_a_resolver_lasts : Nat → Int32) (v_a_resolver_levels : Nat → Int32) (v_a_resolver_minusPlaces : Nat → Int32) (v_a_resolver_pairFirsts : Nat → Int32) (v_a_resolver_pairLasts : Nat → Int32) (v_a_resolver_sides : Nat → Int32) => (k3 ≤ 90) ∧ (v_a_resolver_10 ≤ 90) ∧ (v_a_resolver_2 ≤ 90) ∧ (v_a_resolver_6 ≤ 90) ∧ (k3 ≤ n_row_size) ∧ (rs7 f_y0_values (lvC f_y1_names f_y1_levels n_y1_size 9) (lvC f_y1_names f_y1_sides n_y1_size 0) (z2 f_resolver_pairFirsts f_resolver_pairLasts n_resolver_pairs) (z3 f_row_firsts f_row_lasts f_row_parts k3) = some (z3 v_a_resolver_levels v_a_resolver_sides v_a_resolver_minusPlaces v_a_resolver_10, z2 v_a_resolver_firsts v_a_resolver_lasts v_a_resolver_6, z2 v_a_resolver_pairFirsts v_a_resolver_pairLasts v_a_resolver_2)) ∧ (v_a_resolver_6 ≤ k3) ∧ (v_a_resolver_2 + v_a_resolver_10 ≤ n_resolver_pairs + k3) ∧ (n_resolver_pairs ≤ v_a_resolver_2) ∧ (1 ≤ k3 → f_row_parts (k3 - 1) = 0 → 1 ≤ v_a_resolver_6) ∧ (∀ j, j < n_resolver_pairs → v_a_resolver_pairFirsts j = f_resolver_pairFirsts j ∧ v_a_resolver_pairLasts j = f_resolver_pairLasts j) ∧ lv_has ls 4 [(3, .int (nI k3)), (0, .ref a_t), (1, .ref a_y0), (2, .ref a_y1)] ∧ va_P (dC, dI) vcl [(a_t, .inr (9, [.ref a_closers, .ref a_openers, .ref a_opened, .ref a_closed, .ref a_row, .ref a_resolver, .int z_together, .int z_inConflict])), (a_row, .inr (8, [.ref a_row_parts, .ref a_row_firsts, .ref a_row_lasts, .int (nI n_row_size), .int z_row_operates, .int z_row_lacksOperand])), (a_row_parts, .inl (ka_row_parts, 90, .inl f_row_parts)), (a_row_firsts, .inl (ka_row_firsts, 90, .inl f_row_firsts)), (a_row_lasts, .inl (ka_row_lasts, 90, .inl f_row_lasts)), (a_resolver_pairFirsts, .inl (ka_resolver_pairFirsts, 90, .inl v_a_resolver_pairFirsts)), (a_resolver_pairLasts, .inl (ka_resolver_pairLasts, 90, .inl v_a_resolver_pairLasts)), (a_resolver_firsts, .inl (ka_resolver_firsts, 90, .inl v_a_resolver_firsts)), (a_resolver_lasts, .inl (ka_resolver_lasts, 90, .inl v_a_resolver_lasts)), (a_resolver_levels, .inl (ka_resolver_levels, 90, .inl v_a_resolver_levels)), (a_resolver_sides, .inl (ka_resolver_sides, 90, .inl v_a_resolver_sides)), (a_resolver_minusPlaces, .inl (ka_resolver_minusPlaces, 90, .inl v_a_resolver_minusPlaces)), (a_y0, .inr (11, [.ref a_y0_kinds, .ref a_y0_values, .int (nI n_y0_size)])), (a_y0_values, .inl (ka_y0_values, 362, .inr (.inl f_y0_values))), (a_y1, .inr (4, [.ref a_y1_names, .ref a_y1_sides, .ref a_y1_levels, .int (nI n_y1_size)])), (a_y1_names, .inl (ka_y1_names, 12, .inr (.inl f_y1_names))), (a_y1_sides, .inl (ka_y1_sides, 12, .inl f_y1_sides)), (a_y1_levels, .inl (ka_y1_levels, 12, .inl f_y1_levels)), (a_resolver, .inr (7, [.ref a_resolver_pairFirsts, .ref a_resolver_pairLasts, .int (nI v_a_resolver_2), .int (nI (n_resolver_pairs)), .ref a_resolver_firsts, .ref a_resolver_lasts, .int (nI v_a_resolver_6), .ref a_resolver_levels, .ref a_resolver_sides, .ref a_resolver_minusPlaces, .int (nI v_a_resolver_10)]))] H ∧ va_D A [(a_t, .inr (9, [.ref a_closers, .ref a_openers, .ref a_opened, .ref a_closed, .ref a_row, .ref a_resolver, .int z_together, .int z_inConflict])), (a_row, .inr (8, [.ref a_row_parts, .ref a_row_firsts, .ref a_row_lasts, .int (nI n_row_size), .int z_row_operates, .int z_row_lacksOperand])), (a_row_parts, .inl (ka_row_parts, 90, .inl f_row_parts)), (a_row_firsts, .inl (ka_row_firsts, 90, .inl f_row_firsts)), (a_row_lasts, .inl (ka_row_lasts, 90, .inl f_row_lasts)), (a_resolver_pairFirsts, .inl (ka_resolver_pairFirsts, 90, .inl v_a_resolver_pairFirsts)), (a_resolver_pairLasts, .inl (ka_resolver_pairLasts, 90, .inl v_a_resolver_pairLasts)), (a_resolver_firsts, .inl (ka_resolver_firsts, 90, .inl v_a_resolver_firsts)), (a_resolver_lasts, .inl (ka_resolver_lasts, 90, .inl v_a_resolver_lasts)), (a_resolver_levels, .inl (ka_resolver_levels, 90, .inl v_a_resolver_levels)), (a_resolver_sides, .inl (ka_resolver_sides, 90, .inl v_a_resolver_sides)), (a_resolver_minusPlaces, .inl (ka_resolver_minusPlaces, 90, .inl v_a_resolver_minusPlaces)), (a_y0, .inr (11, [.ref a_y0_kinds, .ref a_y0_values, .int (nI n_y0_size)])), (a_y0_values, .inl (ka_y0_values, 362, .inr (.inl f_y0_values))), (a_y1, .inr (4, [.ref a_y1_names, .ref a_y1_sides, .ref a_y1_levels, .int (nI n_y1_size)])), (a_y1_names, .inl (ka_y1_names, 12, .inr (.inl f_y1_names))), (a_y1_sides, .inl (ka_y1_sides, 12, .inl f_y1_sides)), (a_y1_levels, .inl (ka_y1_levels, 12, .inl f_y1_levels)), (a_resolver, .inr (7, [.ref a_resolver_pairFirsts, .ref a_resolver_pairLasts, .int (nI v_a_resolver_2), .int (nI (n_resolver_pairs)), .ref a_resolver_firsts, .ref a_resolver_lasts, .int (nI v_a_resolver_6), .ref a_resolver_levels, .ref a_resolver_sides, .ref a_resolver_minusPlaces, .int (nI v_a_resolver_10)]))] ∧ va_S A s.heap H locs) a.1 a.2.1 a.2.2.1 a.2.2.2.1 a.2.2.2.2.1 a.2.2.2.2.2.1 a.2.2.2.2.2.2.1 a.2.2.2.2.2.2.2.1 a.2.2.2.2.2.2.2.2.1 a.2.2.2.2.2.2.2.2.2.1 a.2.2.2.2.2.2.2.2.2.2) (fun a ih9 H locs ls hI => ?_) (0, (0), n_resolver_pairs, (0), f_resolver_firsts, f_resolver_lasts, f_resolver_levels, f_resolver_minusPlaces, f_resolver_pairFirsts, f_resolver_pairLasts, f_resolver_sides) _ _ _ ⟨by show 0 ≤ 90; first | omega | assumption | exact Or.inl rfl | exact Or.inr rfl | decide, by show ((0)) ≤ 90; first | omega | assumption | exact Or.inl rfl | exact Or.inr rfl | decide, by show n_resolver_pairs ≤ 90; first | omega | assumption | exact Or.inl rfl | exact Or.inr rfl | decide, by show ((0)) ≤ 90; first | omega | assumption | exact Or.inl rfl | exact Or.inr rfl | decide, by show 0 ≤ n_row_size; first | omega | assumption | exact Or.inl rfl | exact Or.inr rfl | decide, by show rs7 f_y0_values (lvC f_y1_names f_y1_levels n_y1_size 9) (lvC f_y1_names f_y1_sides n_y1_size 0) (z2 f_resolver_pairFirsts f_resolver_pairLasts n_resolver_pairs) (z3 f_row_firsts f_row_lasts f_row_parts 0) = some (z3 f_resolver_levels f_resolver_sides f_resolver_minusPlaces ((0)), z2 f_resolver_firsts f_resolver_lasts ((0)), z2 f_resolver_pairFirsts f_resolver_pairLasts n_resolver_pairs); rfl, by show ((0)) ≤ 0; first | omega | assumption | exact Or.inl rfl | exact Or.inr rfl | decide, by show n_resolver_pairs + ((0)) ≤ n_resolver_pairs + 0; first | omega | assumption | exact Or.inl rfl | exact Or.inr rfl | decide, by show n_resolver_pairs ≤ n_resolver_pairs; first | omega | assumption | exact Or.inl rfl | exact Or.inr rfl | decide, by show 1 ≤ 0 → f_row_parts (0 - 1) = 0 → 1 ≤ ((0)); (intro z9; exact absurd z9 (by decide)), by show ∀ j, j < n_resolver_pairs → f_resolver_pairFirsts j = f_resolver_pairFirsts j ∧ f_resolver_pairLasts j = f_resolver_pairLasts j; exact fun j hj => ⟨rfl, rfl⟩, hl, hP, hD, hS⟩
  obtain ⟨k3, v_a_resolver_10, v_a_resolver_2, v_a_resolver_6, v_a_resolver_firsts, v_a_resolver_lasts, v_a_resolver_levels, v_a_resolver_minusPlaces, v_a_resolver_pairFirsts, v_a_resolver_pairLasts, v_a_resolver_sides⟩ := a
  obtain ⟨bl0, bl1, bl2, bl3, bl4, bl5, bl6, bl7, bl8, bl9, bl10, hl, hP, hD, hS⟩ := hI
  have bl0 : k3 ≤ 90 := bl0
  have bl1 : v_a_resolver_10 ≤ 90 := bl1
  have bl2 : v_a_resolver_2 ≤ 90 := bl2
  have bl3 : v_a_resolver_6 ≤ 90 := bl3
  have bl4 : k3 ≤ n_row_size := bl4
  have iK := bl4
  have bl5 : rs7 f_y0_values (lvC f_y1_names f_y1_levels n_y1_size 9) (lvC f_y1_names f_y1_sides n_y1_size 0) (z2 f_resolver_pairFirsts f_resolver_pairLasts n_resolver_pairs) (z3 f_row_firsts f_row_lasts f_row_parts k3) = some (z3 v_a_resolver_levels v_a_resolver_sides v_a_resolver_minusPlaces v_a_resolver_10, z2 v_a_resolver_firsts v_a_resolver_lasts v_a_resolver_6, z2 v_a_resolver_pairFirsts v_a_resolver_pairLasts v_a_resolver_2) := bl5
  have iE := bl5
  have bl6 : v_a_resolver_6 ≤ k3 := bl6
  have iA := bl6
  have bl7 : v_a_resolver_2 + v_a_resolver_10 ≤ n_resolver_pairs + k3 := bl7
  have iB := bl7
  have bl8 : n_resolver_pairs ≤ v_a_resolver_2 := bl8
  have iC := bl8
  have bl9 : 1 ≤ k3 → f_row_parts (k3 - 1) = 0 → 1 ≤ v_a_resolver_6 := bl9
  have iO := bl9
  have bl10 : ∀ j, j < n_resolver_pairs → v_a_resolver_pairFirsts j = f_resolver_pairFirsts j ∧ v_a_resolver_pairLasts j = f_resolver_pairLasts j := bl10
  have iF := bl10
  have hl : lv_has ls 4 [(3, .int (nI k3)), (0, .ref a_t), (1, .ref a_y0), (2, .ref a_y1)] := hl
  have hP : va_P (dC, dI) vcl [(a_t, .inr (9, [.ref a_closers, .ref a_openers, .ref a_opened, .ref a_closed, .ref a_row, .ref a_resolver, .int z_together, .int z_inConflict])), (a_row, .inr (8, [.ref a_row_parts, .ref a_row_firsts, .ref a_row_lasts, .int (nI n_row_size), .int z_row_operates, .int z_row_lacksOperand])), (a_row_parts, .inl (ka_row_parts, 90, .inl f_row_parts)), (a_row_firsts, .inl (ka_row_firsts, 90, .inl f_row_firsts)), (a_row_lasts, .inl (ka_row_lasts, 90, .inl f_row_lasts)), (a_resolver_pairFirsts, .inl (ka_resolver_pairFirsts, 90, .inl v_a_resolver_pairFirsts)), (a_resolver_pairLasts, .inl (ka_resolver_pairLasts, 90, .inl v_a_resolver_pairLasts)), (a_resolver_firsts, .inl (ka_resolver_firsts, 90, .inl v_a_resolver_firsts)), (a_resolver_lasts, .inl (ka_resolver_lasts, 90, .inl v_a_resolver_lasts)), (a_resolver_levels, .inl (ka_resolver_levels, 90, .inl v_a_resolver_levels)), (a_resolver_sides, .inl (ka_resolver_sides, 90, .inl v_a_resolver_sides)), (a_resolver_minusPlaces, .inl (ka_resolver_minusPlaces, 90, .inl v_a_resolver_minusPlaces)), (a_y0, .inr (11, [.ref a_y0_kinds, .ref a_y0_values, .int (nI n_y0_size)])), (a_y0_values, .inl (ka_y0_values, 362, .inr (.inl f_y0_values))), (a_y1, .inr (4, [.ref a_y1_names, .ref a_y1_sides, .ref a_y1_levels, .int (nI n_y1_size)])), (a_y1_names, .inl (ka_y1_names, 12, .inr (.inl f_y1_names))), (a_y1_sides, .inl (ka_y1_sides, 12, .inl f_y1_sides)), (a_y1_levels, .inl (ka_y1_levels, 12, .inl f_y1_levels)), (a_resolver, .inr (7, [.ref a_resolver_pairFirsts, .ref a_resolver_pairLasts, .int (nI v_a_resolver_2), .int (nI (n_resolver_pairs)), .ref a_resolver_firsts, .ref a_resolver_lasts, .int (nI v_a_resolver_6), .ref a_resolver_levels, .ref a_resolver_sides, .ref a_resolver_minusPlaces, .int (nI v_a_resolver_10)]))] H := hP
  have hD : va_D A [(a_t, .inr (9, [.ref a_closers, .ref a_openers, .ref a_opened, .ref a_closed, .ref a_row, .ref a_resolver, .int z_together, .int z_inConflict])), (a_row, .inr (8, [.ref a_row_parts, .ref a_row_firsts, .ref a_row_lasts, .int (nI n_row_size), .int z_row_operates, .int z_row_lacksOperand])), (a_row_parts, .inl (ka_row_parts, 90, .inl f_row_parts)), (a_row_firsts, .inl (ka_row_firsts, 90, .inl f_row_firsts)), (a_row_lasts, .inl (ka_row_lasts, 90, .inl f_row_lasts)), (a_resolver_pairFirsts, .inl (ka_resolver_pairFirsts, 90, .inl v_a_resolver_pairFirsts)), (a_resolver_pairLasts, .inl (ka_resolver_pairLasts, 90, .inl v_a_resolver_pairLasts)), (a_resolver_firsts, .inl (ka_resolver_firsts, 90, .inl v_a_resolver_firsts)), (a_resolver_lasts, .inl (ka_resolver_lasts, 90, .inl v_a_resolver_lasts)), (a_resolver_levels, .inl (ka_resolver_levels, 90, .inl v_a_resolver_levels)), (a_resolver_sides, .inl (ka_resolver_sides, 90, .inl v_a_resolver_sides)), (a_resolver_minusPlaces, .inl (ka_resolver_minusPlaces, 90, .inl v_a_resolver_minusPlaces)), (a_y0, .inr (11, [.ref a_y0_kinds, .ref a_y0_values, .int (nI n_y0_size)])), (a_y0_values, .inl (ka_y0_values, 362, .inr (.inl f_y0_values))), (a_y1, .inr (4, [.ref a_y1_names, .ref a_y1_sides, .ref a_y1_levels, .int (nI n_y1_size)])), (a_y1_names, .inl (ka_y1_names, 12, .inr (.inl f_y1_names))), (a_y1_sides, .inl (ka_y1_sides, 12, .inl f_y1_sides)), (a_y1_levels, .inl (ka_y1_levels, 12, .inl f_y1_levels)), (a_resolver, .inr (7, [.ref a_resolver_pairFirsts, .ref a_resolver_pairLasts, .int (nI v_a_resolver_2), .int (nI (n_resolver_pairs)), .ref a_resolver_firsts, .ref a_resolver_lasts, .int (nI v_a_resolver_6), .ref a_resolver_levels, .ref a_resolver_sides, .ref a_resolver_minusPlaces, .int (nI v_a_resolver_10)]))] := hD
  refine lv_iload_n hx hb d_Rows_putRowTogether_9 rfl (lv_at hl 0 rfl) ?_
  refine lv_aload_n hx hb d_Rows_putRowTogether_10 rfl (lv_at hl 1 rfl) ?_
  refine va_get (D := (dC, dI)) (ci := 9) (v := .ref a_row) (C := R_Rows) (T := F_Rows) (N := 8) hx hb hz zu_Rows hown hK hP 0 rfl rfl 4 (by decide) (hz (.fieldLink R_Rows 27 "LayoutFront$Rows" "row" "LLayoutFront$Row;") zm_361) (fun _ h9 => h9) rfl d_Rows_putRowTogether_11 ?_
  have hPc := hP.sub (ws' := [(a_row, .inr (8, [.ref a_row_parts, .ref a_row_firsts, .ref a_row_lasts, .int (nI n_row_size), .int z_row_operates, .int z_row_lacksOperand]))]) [1] rfl
  have hDc := hD.sub (ws' := [(a_row, .inr (8, [.ref a_row_parts, .ref a_row_firsts, .ref a_row_lasts, .int (nI n_row_size), .int z_row_operates, .int z_row_lacksOperand]))]) [1] (by decide) rfl
  have hKc := hK.sub (tys' := []) [] rfl
  have hFc := va_free (wc := [(a_row, .inr (8, [.ref a_row_parts, .ref a_row_firsts, .ref a_row_lasts, .int (nI n_row_size), .int z_row_operates, .int z_row_lacksOperand]))]) hD hS hA [1] rfl
  refine va_calli (va_runV (As := []) (rest := [.int (nI k3)]) ⟨hx, hb, hml, hown, hz⟩ (s_Row_size l dC dI H.size a_row a_row_parts a_row_firsts a_row_lasts n_row_size z_row_operates z_row_lacksOperand (by first | omega | assumption | exact Or.inl rfl | exact Or.inr rfl | decide)) (cwV 0 hz (zV zm_452 zm_453 zm_454 zm_318 zm_455) rfl rfl rfl (by decide +kernel) ⟨Nat.le_of_ble_eq_true rfl, Nat.le_of_ble_eq_true rfl⟩) ⟨fun a U g mk q => by obtain ⟨q0, q1, qP, qK, qD⟩ := q; exact ⟨q0, q1, qP, va_K.moved (u := U) (U := U.calling g mk a) (Vm.Alike.refl U.vm) qK, qD⟩, va_recv (q := (R_Row, F_Row, 6)) (q0 := 1) (ci := 8) hK hP rfl rfl, fun U hU hW => ⟨rfl, by rw [hU], by rw [hU]; exact hPc, va_K.moved hW.alike hKc, hDc.weaken (fun _ _ _ _ => trivial)⟩⟩ rfl rfl hl.1 rfl (lv_room (Nat.le_of_ble_eq_true rfl)) d_Rows_putRowTogether_14 ⟨Nat.zero_le _, Nat.zero_le _⟩) hS (fun q _ h => hFc q h) hFc (fun r u t H1 locs ht hvm hw hB hz1 hk1 hS => ?_)
  obtain ⟨hP1, hK1, hD1⟩ := hB
  subst r
  rw [ht] at hP1
  obtain ⟨hP, hD⟩ := va_join (wr := [(a_t, .inr (9, [.ref a_closers, .ref a_openers, .ref a_opened, .ref a_closed, .ref a_row, .ref a_resolver, .int z_together, .int z_inConflict])), (a_row_parts, .inl (ka_row_parts, 90, .inl f_row_parts)), (a_row_firsts, .inl (ka_row_firsts, 90, .inl f_row_firsts)), (a_row_lasts, .inl (ka_row_lasts, 90, .inl f_row_lasts)), (a_resolver_pairFirsts, .inl (ka_resolver_pairFirsts, 90, .inl v_a_resolver_pairFirsts)), (a_resolver_pairLasts, .inl (ka_resolver_pairLasts, 90, .inl v_a_resolver_pairLasts)), (a_resolver_firsts, .inl (ka_resolver_firsts, 90, .inl v_a_resolver_firsts)), (a_resolver_lasts, .inl (ka_resolver_lasts, 90, .inl v_a_resolver_lasts)), (a_resolver_levels, .inl (ka_resolver_levels, 90, .inl v_a_resolver_levels)), (a_resolver_sides, .inl (ka_resolver_sides, 90, .inl v_a_resolver_sides)), (a_resolver_minusPlaces, .inl (ka_resolver_minusPlaces, 90, .inl v_a_resolver_minusPlaces)), (a_y0, .inr (11, [.ref a_y0_kinds, .ref a_y0_values, .int (nI n_y0_size)])), (a_y0_values, .inl (ka_y0_values, 362, .inr (.inl f_y0_values))), (a_y1, .inr (4, [.ref a_y1_names, .ref a_y1_sides, .ref a_y1_levels, .int (nI n_y1_size)])), (a_y1_names, .inl (ka_y1_names, 12, .inr (.inl f_y1_names))), (a_y1_sides, .inl (ka_y1_sides, 12, .inl f_y1_sides)), (a_y1_levels, .inl (ka_y1_levels, 12, .inl f_y1_levels)), (a_resolver, .inr (7, [.ref a_resolver_pairFirsts, .ref a_resolver_pairLasts, .int (nI v_a_resolver_2), .int (nI (n_resolver_pairs)), .ref a_resolver_firsts, .ref a_resolver_lasts, .int (nI v_a_resolver_6), .ref a_resolver_levels, .ref a_resolver_sides, .ref a_resolver_minusPlaces, .int (nI v_a_resolver_10)]))]) (w1 := [(a_row, .inr (8, [.ref a_row_parts, .ref a_row_firsts, .ref a_row_lasts, .int (nI n_row_size), .int z_row_operates, .int z_row_lacksOperand]))]) hP hD [1] [0, 2, 3, 4, 5, 6, 7, 8, 9, 10, 11, 12, 13, 14, 15, 16, 17, 18] rfl rfl (by decide) (by decide) hk1 hFc hP1 hD1
  generalize H1 = H at hP hS ⊢
  have hP : va_P (dC, dI) vcl [(a_t, .inr (9, [.ref a_closers, .ref a_openers, .ref a_opened, .ref a_closed, .ref a_row, .ref a_resolver, .int z_together, .int z_inConflict])), (a_row_parts, .inl (ka_row_parts, 90, .inl f_row_parts)), (a_row_firsts, .inl (ka_row_firsts, 90, .inl f_row_firsts)), (a_row_lasts, .inl (ka_row_lasts, 90, .inl f_row_lasts)), (a_resolver_pairFirsts, .inl (ka_resolver_pairFirsts, 90, .inl v_a_resolver_pairFirsts)), (a_resolver_pairLasts, .inl (ka_resolver_pairLasts, 90, .inl v_a_resolver_pairLasts)), (a_resolver_firsts, .inl (ka_resolver_firsts, 90, .inl v_a_resolver_firsts)), (a_resolver_lasts, .inl (ka_resolver_lasts, 90, .inl v_a_resolver_lasts)), (a_resolver_levels, .inl (ka_resolver_levels, 90, .inl v_a_resolver_levels)), (a_resolver_sides, .inl (ka_resolver_sides, 90, .inl v_a_resolver_sides)), (a_resolver_minusPlaces, .inl (ka_resolver_minusPlaces, 90, .inl v_a_resolver_minusPlaces)), (a_y0, .inr (11, [.ref a_y0_kinds, .ref a_y0_values, .int (nI n_y0_size)])), (a_y0_values, .inl (ka_y0_values, 362, .inr (.inl f_y0_values))), (a_y1, .inr (4, [.ref a_y1_names, .ref a_y1_sides, .ref a_y1_levels, .int (nI n_y1_size)])), (a_y1_names, .inl (ka_y1_names, 12, .inr (.inl f_y1_names))), (a_y1_sides, .inl (ka_y1_sides, 12, .inl f_y1_sides)), (a_y1_levels, .inl (ka_y1_levels, 12, .inl f_y1_levels)), (a_resolver, .inr (7, [.ref a_resolver_pairFirsts, .ref a_resolver_pairLasts, .int (nI v_a_resolver_2), .int (nI (n_resolver_pairs)), .ref a_resolver_firsts, .ref a_resolver_lasts, .int (nI v_a_resolver_6), .ref a_resolver_levels, .ref a_resolver_sides, .ref a_resolver_minusPlaces, .int (nI v_a_resolver_10)])), (a_row, .inr (8, [.ref a_row_parts, .ref a_row_firsts, .ref a_row_lasts, .int (nI n_row_size), .int z_row_operates, .int z_row_lacksOperand]))] H := hP
  have hD : va_D A [(a_t, .inr (9, [.ref a_closers, .ref a_openers, .ref a_opened, .ref a_closed, .ref a_row, .ref a_resolver, .int z_together, .int z_inConflict])), (a_row_parts, .inl (ka_row_parts, 90, .inl f_row_parts)), (a_row_firsts, .inl (ka_row_firsts, 90, .inl f_row_firsts)), (a_row_lasts, .inl (ka_row_lasts, 90, .inl f_row_lasts)), (a_resolver_pairFirsts, .inl (ka_resolver_pairFirsts, 90, .inl v_a_resolver_pairFirsts)), (a_resolver_pairLasts, .inl (ka_resolver_pairLasts, 90, .inl v_a_resolver_pairLasts)), (a_resolver_firsts, .inl (ka_resolver_firsts, 90, .inl v_a_resolver_firsts)), (a_resolver_lasts, .inl (ka_resolver_lasts, 90, .inl v_a_resolver_lasts)), (a_resolver_levels, .inl (ka_resolver_levels, 90, .inl v_a_resolver_levels)), (a_resolver_sides, .inl (ka_resolver_sides, 90, .inl v_a_resolver_sides)), (a_resolver_minusPlaces, .inl (ka_resolver_minusPlaces, 90, .inl v_a_resolver_minusPlaces)), (a_y0, .inr (11, [.ref a_y0_kinds, .ref a_y0_values, .int (nI n_y0_size)])), (a_y0_values, .inl (ka_y0_values, 362, .inr (.inl f_y0_values))), (a_y1, .inr (4, [.ref a_y1_names, .ref a_y1_sides, .ref a_y1_levels, .int (nI n_y1_size)])), (a_y1_names, .inl (ka_y1_names, 12, .inr (.inl f_y1_names))), (a_y1_sides, .inl (ka_y1_sides, 12, .inl f_y1_sides)), (a_y1_levels, .inl (ka_y1_levels, 12, .inl f_y1_levels)), (a_resolver, .inr (7, [.ref a_resolver_pairFirsts, .ref a_resolver_pairLasts, .int (nI v_a_resolver_2), .int (nI (n_resolver_pairs)), .ref a_resolver_firsts, .ref a_resolver_lasts, .int (nI v_a_resolver_6), .ref a_resolver_levels, .ref a_resolver_sides, .ref a_resolver_minusPlaces, .int (nI v_a_resolver_10)])), (a_row, .inr (8, [.ref a_row_parts, .ref a_row_firsts, .ref a_row_lasts, .int (nI n_row_size), .int z_row_operates, .int z_row_lacksOperand]))] := hD
  refine lv_icmp_ge (tgt := 54) hx hb d_Rows_putRowTogether_17 (by decide) (fun h4 => ?_) (fun h4 => ?_)
  · have h4 : n_row_size ≤ k3 := (nI_leI (a := n_row_size) (b := k3) (by omega) (by omega)).mp h4
    have ks : k3 = n_row_size := (by omega)
    have o1 := iO (by have z9 := (eo_y hp2).1; omega) (by rw [ks]; exact (eo_y hp2).2)
    refine lv_aload_n hx hb d_Rows_putRowTogether_54 rfl (lv_at hl 1 rfl) ?_
    refine va_get (D := (dC, dI)) (ci := 9) (v := .ref a_resolver) (C := R_Rows) (T := F_Rows) (N := 8) hx hb hz zu_Rows hown hK hP 0 rfl rfl 5 (by decide) (hz (.fieldLink R_Rows 34 "LayoutFront$Rows" "resolver" "LLayoutFront$Resolver;") zm_366) (fun _ h9 => h9) rfl d_Rows_putRowTogether_55 ?_
    have hPc := hP.sub (ws' := [(a_resolver, .inr (7, [.ref a_resolver_pairFirsts, .ref a_resolver_pairLasts, .int (nI v_a_resolver_2), .int (nI (n_resolver_pairs)), .ref a_resolver_firsts, .ref a_resolver_lasts, .int (nI v_a_resolver_6), .ref a_resolver_levels, .ref a_resolver_sides, .ref a_resolver_minusPlaces, .int (nI v_a_resolver_10)])), (a_resolver_pairFirsts, .inl (ka_resolver_pairFirsts, 90, .inl v_a_resolver_pairFirsts)), (a_resolver_pairLasts, .inl (ka_resolver_pairLasts, 90, .inl v_a_resolver_pairLasts)), (a_resolver_firsts, .inl (ka_resolver_firsts, 90, .inl v_a_resolver_firsts)), (a_resolver_lasts, .inl (ka_resolver_lasts, 90, .inl v_a_resolver_lasts)), (a_resolver_minusPlaces, .inl (ka_resolver_minusPlaces, 90, .inl v_a_resolver_minusPlaces))]) [17, 4, 5, 6, 7, 10] rfl
    have hDc := hD.sub (ws' := [(a_resolver, .inr (7, [.ref a_resolver_pairFirsts, .ref a_resolver_pairLasts, .int (nI v_a_resolver_2), .int (nI (n_resolver_pairs)), .ref a_resolver_firsts, .ref a_resolver_lasts, .int (nI v_a_resolver_6), .ref a_resolver_levels, .ref a_resolver_sides, .ref a_resolver_minusPlaces, .int (nI v_a_resolver_10)])), (a_resolver_pairFirsts, .inl (ka_resolver_pairFirsts, 90, .inl v_a_resolver_pairFirsts)), (a_resolver_pairLasts, .inl (ka_resolver_pairLasts, 90, .inl v_a_resolver_pairLasts)), (a_resolver_firsts, .inl (ka_resolver_firsts, 90, .inl v_a_resolver_firsts)), (a_resolver_lasts, .inl (ka_resolver_lasts, 90, .inl v_a_resolver_lasts)), (a_resolver_minusPlaces, .inl (ka_resolver_minusPlaces, 90, .inl v_a_resolver_minusPlaces))]) [17, 4, 5, 6, 7, 10] (by decide) rfl
    have hKc := hK.sub (tys' := [(ka_resolver_pairFirsts, .int), (ka_resolver_pairLasts, .int), (ka_resolver_firsts, .int), (ka_resolver_lasts, .int), (ka_resolver_minusPlaces, .int)]) [3, 4, 5, 6, 9] rfl
    have hFc := va_free (wc := [(a_resolver, .inr (7, [.ref a_resolver_pairFirsts, .ref a_resolver_pairLasts, .int (nI v_a_resolver_2), .int (nI (n_resolver_pairs)), .ref a_resolver_firsts, .ref a_resolver_lasts, .int (nI v_a_resolver_6), .ref a_resolver_levels, .ref a_resolver_sides, .ref a_resolver_minusPlaces, .int (nI v_a_resolver_10)])), (a_resolver_pairFirsts, .inl (ka_resolver_pairFirsts, 90, .inl v_a_resolver_pairFirsts)), (a_resolver_pairLasts, .inl (ka_resolver_pairLasts, 90, .inl v_a_resolver_pairLasts)), (a_resolver_firsts, .inl (ka_resolver_firsts, 90, .inl v_a_resolver_firsts)), (a_resolver_lasts, .inl (ka_resolver_lasts, 90, .inl v_a_resolver_lasts)), (a_resolver_minusPlaces, .inl (ka_resolver_minusPlaces, 90, .inl v_a_resolver_minusPlaces))]) hD hS hA [17, 4, 5, 6, 7, 10] rfl
    refine va_callv (va_runV (As := []) (rest := []) ⟨hx, hb, hml, hown, hz⟩ (s_Resolver_finishRow7 l dC dI H.size a_resolver a_resolver_pairFirsts v_a_resolver_pairFirsts a_resolver_pairLasts v_a_resolver_pairLasts v_a_resolver_2 ((n_resolver_pairs)) a_resolver_firsts v_a_resolver_firsts a_resolver_lasts v_a_resolver_lasts v_a_resolver_6 a_resolver_levels v_a_resolver_levels a_resolver_sides v_a_resolver_sides a_resolver_minusPlaces v_a_resolver_minusPlaces v_a_resolver_10 ka_resolver_pairFirsts ka_resolver_pairLasts ka_resolver_firsts ka_resolver_lasts ka_resolver_minusPlaces (by first | omega | assumption | exact Or.inl rfl | exact Or.inr rfl | decide) (by first | omega | assumption | exact Or.inl rfl | exact Or.inr rfl | decide) (by first | omega | assumption | exact Or.inl rfl | exact Or.inr rfl | decide) (by first | omega | assumption | exact Or.inl rfl | exact Or.inr rfl | decide) (by first | omega | assumption | exact Or.inl rfl | exact Or.inr rfl | decide) (by first | omega | assumption | exact Or.inl rfl | exact Or.inr rfl | decide)) (cwV 0 hz (zV zm_464 zm_465 zm_466 zm_340 zm_467) rfl rfl rfl (by decide +kernel) ⟨Nat.le_of_ble_eq_true rfl, Nat.le_of_ble_eq_true rfl⟩) ⟨fun a U g mk q => by obtain ⟨q0, q1, qP, qK, qD⟩ := q; exact ⟨q0, q1, qP, va_K.moved (u := U) (U := U.calling g mk a) (Vm.Alike.refl U.vm) qK, qD⟩, va_recv (q := (R_Resolver, F_Resolver, 11)) (q0 := 17) (ci := 7) hK hP rfl rfl, fun U hU hW => ⟨rfl, by rw [hU], by rw [hU]; exact hPc, va_K.moved hW.alike hKc, hDc.weaken (fun _ _ _ _ => trivial)⟩⟩ rfl rfl hl.1 rfl (lv_room (Nat.le_of_ble_eq_true rfl)) d_Rows_putRowTogether_58 ⟨Nat.zero_le _, Nat.zero_le _⟩) hS (fun q _ h => hFc q h) hFc (fun u t H1 locs ht hvm hw hB hz1 hk1 hS => ?_)
    obtain ⟨g5, g6, g7, g8, g9, g10, g11, hb_g5, hb_g6, hb_g7, hq0_58, hq1_58, hq2_58, hP1, hK1, hD1⟩ := hB
    rw [ht] at hP1
    obtain ⟨hP, hD⟩ := va_join (wr := [(a_t, .inr (9, [.ref a_closers, .ref a_openers, .ref a_opened, .ref a_closed, .ref a_row, .ref a_resolver, .int z_together, .int z_inConflict])), (a_row_parts, .inl (ka_row_parts, 90, .inl f_row_parts)), (a_row_firsts, .inl (ka_row_firsts, 90, .inl f_row_firsts)), (a_row_lasts, .inl (ka_row_lasts, 90, .inl f_row_lasts)), (a_resolver_levels, .inl (ka_resolver_levels, 90, .inl v_a_resolver_levels)), (a_resolver_sides, .inl (ka_resolver_sides, 90, .inl v_a_resolver_sides)), (a_y0, .inr (11, [.ref a_y0_kinds, .ref a_y0_values, .int (nI n_y0_size)])), (a_y0_values, .inl (ka_y0_values, 362, .inr (.inl f_y0_values))), (a_y1, .inr (4, [.ref a_y1_names, .ref a_y1_sides, .ref a_y1_levels, .int (nI n_y1_size)])), (a_y1_names, .inl (ka_y1_names, 12, .inr (.inl f_y1_names))), (a_y1_sides, .inl (ka_y1_sides, 12, .inl f_y1_sides)), (a_y1_levels, .inl (ka_y1_levels, 12, .inl f_y1_levels)), (a_row, .inr (8, [.ref a_row_parts, .ref a_row_firsts, .ref a_row_lasts, .int (nI n_row_size), .int z_row_operates, .int z_row_lacksOperand]))]) (w1 := [(a_resolver, .inr (7, [.ref a_resolver_pairFirsts, .ref a_resolver_pairLasts, .int (nI g5), .int (nI (n_resolver_pairs)), .ref a_resolver_firsts, .ref a_resolver_lasts, .int (nI g6), .ref a_resolver_levels, .ref a_resolver_sides, .ref a_resolver_minusPlaces, .int (nI g7)])), (a_resolver_pairFirsts, .inl (ka_resolver_pairFirsts, 90, .inl g8)), (a_resolver_pairLasts, .inl (ka_resolver_pairLasts, 90, .inl g9)), (a_resolver_firsts, .inl (ka_resolver_firsts, 90, .inl g10)), (a_resolver_lasts, .inl (ka_resolver_lasts, 90, .inl g11)), (a_resolver_minusPlaces, .inl (ka_resolver_minusPlaces, 90, .inl v_a_resolver_minusPlaces))]) hP hD [17, 4, 5, 6, 7, 10] [0, 1, 2, 3, 8, 9, 11, 12, 13, 14, 15, 16, 18] rfl rfl (by decide) (by decide) hk1 hFc hP1 hD1
    generalize H1 = H at hP hS ⊢
    have hP : va_P (dC, dI) vcl [(a_t, .inr (9, [.ref a_closers, .ref a_openers, .ref a_opened, .ref a_closed, .ref a_row, .ref a_resolver, .int z_together, .int z_inConflict])), (a_row_parts, .inl (ka_row_parts, 90, .inl f_row_parts)), (a_row_firsts, .inl (ka_row_firsts, 90, .inl f_row_firsts)), (a_row_lasts, .inl (ka_row_lasts, 90, .inl f_row_lasts)), (a_resolver_levels, .inl (ka_resolver_levels, 90, .inl v_a_resolver_levels)), (a_resolver_sides, .inl (ka_resolver_sides, 90, .inl v_a_resolver_sides)), (a_y0, .inr (11, [.ref a_y0_kinds, .ref a_y0_values, .int (nI n_y0_size)])), (a_y0_values, .inl (ka_y0_values, 362, .inr (.inl f_y0_values))), (a_y1, .inr (4, [.ref a_y1_names, .ref a_y1_sides, .ref a_y1_levels, .int (nI n_y1_size)])), (a_y1_names, .inl (ka_y1_names, 12, .inr (.inl f_y1_names))), (a_y1_sides, .inl (ka_y1_sides, 12, .inl f_y1_sides)), (a_y1_levels, .inl (ka_y1_levels, 12, .inl f_y1_levels)), (a_row, .inr (8, [.ref a_row_parts, .ref a_row_firsts, .ref a_row_lasts, .int (nI n_row_size), .int z_row_operates, .int z_row_lacksOperand])), (a_resolver, .inr (7, [.ref a_resolver_pairFirsts, .ref a_resolver_pairLasts, .int (nI g5), .int (nI (n_resolver_pairs)), .ref a_resolver_firsts, .ref a_resolver_lasts, .int (nI g6), .ref a_resolver_levels, .ref a_resolver_sides, .ref a_resolver_minusPlaces, .int (nI g7)])), (a_resolver_pairFirsts, .inl (ka_resolver_pairFirsts, 90, .inl g8)), (a_resolver_pairLasts, .inl (ka_resolver_pairLasts, 90, .inl g9)), (a_resolver_firsts, .inl (ka_resolver_firsts, 90, .inl g10)), (a_resolver_lasts, .inl (ka_resolver_lasts, 90, .inl g11)), (a_resolver_minusPlaces, .inl (ka_resolver_minusPlaces, 90, .inl v_a_resolver_minusPlaces))] H := hP
    have hD : va_D A [(a_t, .inr (9, [.ref a_closers, .ref a_openers, .ref a_opened, .ref a_closed, .ref a_row, .ref a_resolver, .int z_together, .int z_inConflict])), (a_row_parts, .inl (ka_row_parts, 90, .inl f_row_parts)), (a_row_firsts, .inl (ka_row_firsts, 90, .inl f_row_firsts)), (a_row_lasts, .inl (ka_row_lasts, 90, .inl f_row_lasts)), (a_resolver_levels, .inl (ka_resolver_levels, 90, .inl v_a_resolver_levels)), (a_resolver_sides, .inl (ka_resolver_sides, 90, .inl v_a_resolver_sides)), (a_y0, .inr (11, [.ref a_y0_kinds, .ref a_y0_values, .int (nI n_y0_size)])), (a_y0_values, .inl (ka_y0_values, 362, .inr (.inl f_y0_values))), (a_y1, .inr (4, [.ref a_y1_names, .ref a_y1_sides, .ref a_y1_levels, .int (nI n_y1_size)])), (a_y1_names, .inl (ka_y1_names, 12, .inr (.inl f_y1_names))), (a_y1_sides, .inl (ka_y1_sides, 12, .inl f_y1_sides)), (a_y1_levels, .inl (ka_y1_levels, 12, .inl f_y1_levels)), (a_row, .inr (8, [.ref a_row_parts, .ref a_row_firsts, .ref a_row_lasts, .int (nI n_row_size), .int z_row_operates, .int z_row_lacksOperand])), (a_resolver, .inr (7, [.ref a_resolver_pairFirsts, .ref a_resolver_pairLasts, .int (nI g5), .int (nI (n_resolver_pairs)), .ref a_resolver_firsts, .ref a_resolver_lasts, .int (nI g6), .ref a_resolver_levels, .ref a_resolver_sides, .ref a_resolver_minusPlaces, .int (nI g7)])), (a_resolver_pairFirsts, .inl (ka_resolver_pairFirsts, 90, .inl g8)), (a_resolver_pairLasts, .inl (ka_resolver_pairLasts, 90, .inl g9)), (a_resolver_firsts, .inl (ka_resolver_firsts, 90, .inl g10)), (a_resolver_lasts, .inl (ka_resolver_lasts, 90, .inl g11)), (a_resolver_minusPlaces, .inl (ka_resolver_minusPlaces, 90, .inl v_a_resolver_minusPlaces))] := hD
    refine lv_aload_n hx hb d_Rows_putRowTogether_61 rfl (lv_at hl 1 rfl) ?_
    refine lv_dup hx hb d_Rows_putRowTogether_62 rfl ?_
    refine va_get (D := (dC, dI)) (ci := 9) (v := .int z_together) (C := R_Rows) (T := F_Rows) (N := 8) hx hb hz zu_Rows hown hK hP 0 rfl rfl 6 (by decide) (hz (.fieldLink R_Rows 38 "LayoutFront$Rows" "together" "I") zm_368) (fun _ h9 => h9) rfl d_Rows_putRowTogether_63 ?_
    refine lv_iconst (v := 1) hx hb d_Rows_putRowTogether_66 (by decide) ?_
    refine xr_iadd (v := (z_together + 1)) hx hb d_Rows_putRowTogether_67 rfl ?_
    refine va_put (D := (dC, dI)) (ci := 9) (v := .int (z_together + 1)) (ty := .int) (C := R_Rows) (T := F_Rows) (N := 8) hx hb hz zu_Rows t_Rows t_Rows_ok n_Rows hown hK hP hD hS 0 rfl rfl 6 (by decide) (hz (.fieldLink R_Rows 38 "LayoutFront$Rows" "together" "I") zm_368) (fun _ h9 => h9) rfl (by decide +kernel) rfl rfl (Nat.le_of_ble_eq_true rfl) d_Rows_putRowTogether_68 (fun H locs hP hD hS => ?_)
    have hP : va_P (dC, dI) vcl [(a_t, .inr (9, [.ref a_closers, .ref a_openers, .ref a_opened, .ref a_closed, .ref a_row, .ref a_resolver, .int (z_together + 1), .int z_inConflict])), (a_row_parts, .inl (ka_row_parts, 90, .inl f_row_parts)), (a_row_firsts, .inl (ka_row_firsts, 90, .inl f_row_firsts)), (a_row_lasts, .inl (ka_row_lasts, 90, .inl f_row_lasts)), (a_resolver_levels, .inl (ka_resolver_levels, 90, .inl v_a_resolver_levels)), (a_resolver_sides, .inl (ka_resolver_sides, 90, .inl v_a_resolver_sides)), (a_y0, .inr (11, [.ref a_y0_kinds, .ref a_y0_values, .int (nI n_y0_size)])), (a_y0_values, .inl (ka_y0_values, 362, .inr (.inl f_y0_values))), (a_y1, .inr (4, [.ref a_y1_names, .ref a_y1_sides, .ref a_y1_levels, .int (nI n_y1_size)])), (a_y1_names, .inl (ka_y1_names, 12, .inr (.inl f_y1_names))), (a_y1_sides, .inl (ka_y1_sides, 12, .inl f_y1_sides)), (a_y1_levels, .inl (ka_y1_levels, 12, .inl f_y1_levels)), (a_row, .inr (8, [.ref a_row_parts, .ref a_row_firsts, .ref a_row_lasts, .int (nI n_row_size), .int z_row_operates, .int z_row_lacksOperand])), (a_resolver, .inr (7, [.ref a_resolver_pairFirsts, .ref a_resolver_pairLasts, .int (nI g5), .int (nI (n_resolver_pairs)), .ref a_resolver_firsts, .ref a_resolver_lasts, .int (nI g6), .ref a_resolver_levels, .ref a_resolver_sides, .ref a_resolver_minusPlaces, .int (nI g7)])), (a_resolver_pairFirsts, .inl (ka_resolver_pairFirsts, 90, .inl g8)), (a_resolver_pairLasts, .inl (ka_resolver_pairLasts, 90, .inl g9)), (a_resolver_firsts, .inl (ka_resolver_firsts, 90, .inl g10)), (a_resolver_lasts, .inl (ka_resolver_lasts, 90, .inl g11)), (a_resolver_minusPlaces, .inl (ka_resolver_minusPlaces, 90, .inl v_a_resolver_minusPlaces))] H := hP
    have hD : va_D A [(a_t, .inr (9, [.ref a_closers, .ref a_openers, .ref a_opened, .ref a_closed, .ref a_row, .ref a_resolver, .int (z_together + 1), .int z_inConflict])), (a_row_parts, .inl (ka_row_parts, 90, .inl f_row_parts)), (a_row_firsts, .inl (ka_row_firsts, 90, .inl f_row_firsts)), (a_row_lasts, .inl (ka_row_lasts, 90, .inl f_row_lasts)), (a_resolver_levels, .inl (ka_resolver_levels, 90, .inl v_a_resolver_levels)), (a_resolver_sides, .inl (ka_resolver_sides, 90, .inl v_a_resolver_sides)), (a_y0, .inr (11, [.ref a_y0_kinds, .ref a_y0_values, .int (nI n_y0_size)])), (a_y0_values, .inl (ka_y0_values, 362, .inr (.inl f_y0_values))), (a_y1, .inr (4, [.ref a_y1_names, .ref a_y1_sides, .ref a_y1_levels, .int (nI n_y1_size)])), (a_y1_names, .inl (ka_y1_names, 12, .inr (.inl f_y1_names))), (a_y1_sides, .inl (ka_y1_sides, 12, .inl f_y1_sides)), (a_y1_levels, .inl (ka_y1_levels, 12, .inl f_y1_levels)), (a_row, .inr (8, [.ref a_row_parts, .ref a_row_firsts, .ref a_row_lasts, .int (nI n_row_size), .int z_row_operates, .int z_row_lacksOperand])), (a_resolver, .inr (7, [.ref a_resolver_pairFirsts, .ref a_resolver_pairLasts, .int (nI g5), .int (nI (n_resolver_pairs)), .ref a_resolver_firsts, .ref a_resolver_lasts, .int (nI g6), .ref a_resolver_levels, .ref a_resolver_sides, .ref a_resolver_minusPlaces, .int (nI g7)])), (a_resolver_pairFirsts, .inl (ka_resolver_pairFirsts, 90, .inl g8)), (a_resolver_pairLasts, .inl (ka_resolver_pairLasts, 90, .inl g9)), (a_resolver_firsts, .inl (ka_resolver_firsts, 90, .inl g10)), (a_resolver_lasts, .inl (ka_resolver_lasts, 90, .inl g11)), (a_resolver_minusPlaces, .inl (ka_resolver_minusPlaces, 90, .inl v_a_resolver_minusPlaces))] := hD
    have hP9 := hP.sub (ws' := [(a_t, .inr (9, [.ref a_closers, .ref a_openers, .ref a_opened, .ref a_closed, .ref a_row, .ref a_resolver, .int (z_together + 1), .int z_inConflict])), (a_row, .inr (8, [.ref a_row_parts, .ref a_row_firsts, .ref a_row_lasts, .int (nI n_row_size), .int z_row_operates, .int z_row_lacksOperand])), (a_row_parts, .inl (ka_row_parts, 90, .inl f_row_parts)), (a_row_firsts, .inl (ka_row_firsts, 90, .inl f_row_firsts)), (a_row_lasts, .inl (ka_row_lasts, 90, .inl f_row_lasts)), (a_resolver, .inr (7, [.ref a_resolver_pairFirsts, .ref a_resolver_pairLasts, .int (nI g5), .int (nI (n_resolver_pairs)), .ref a_resolver_firsts, .ref a_resolver_lasts, .int (nI g6), .ref a_resolver_levels, .ref a_resolver_sides, .ref a_resolver_minusPlaces, .int (nI g7)])), (a_resolver_pairFirsts, .inl (ka_resolver_pairFirsts, 90, .inl g8)), (a_resolver_pairLasts, .inl (ka_resolver_pairLasts, 90, .inl g9)), (a_resolver_firsts, .inl (ka_resolver_firsts, 90, .inl g10)), (a_resolver_lasts, .inl (ka_resolver_lasts, 90, .inl g11)), (a_resolver_levels, .inl (ka_resolver_levels, 90, .inl v_a_resolver_levels)), (a_resolver_sides, .inl (ka_resolver_sides, 90, .inl v_a_resolver_sides)), (a_resolver_minusPlaces, .inl (ka_resolver_minusPlaces, 90, .inl v_a_resolver_minusPlaces)), (a_y0, .inr (11, [.ref a_y0_kinds, .ref a_y0_values, .int (nI n_y0_size)])), (a_y0_values, .inl (ka_y0_values, 362, .inr (.inl f_y0_values))), (a_y1, .inr (4, [.ref a_y1_names, .ref a_y1_sides, .ref a_y1_levels, .int (nI n_y1_size)])), (a_y1_names, .inl (ka_y1_names, 12, .inr (.inl f_y1_names))), (a_y1_sides, .inl (ka_y1_sides, 12, .inl f_y1_sides)), (a_y1_levels, .inl (ka_y1_levels, 12, .inl f_y1_levels))]) [0, 12, 1, 2, 3, 13, 14, 15, 16, 17, 4, 5, 18, 6, 7, 8, 9, 10, 11] rfl
    have hD9 := hD.sub (ws' := [(a_t, .inr (9, [.ref a_closers, .ref a_openers, .ref a_opened, .ref a_closed, .ref a_row, .ref a_resolver, .int (z_together + 1), .int z_inConflict])), (a_row, .inr (8, [.ref a_row_parts, .ref a_row_firsts, .ref a_row_lasts, .int (nI n_row_size), .int z_row_operates, .int z_row_lacksOperand])), (a_row_parts, .inl (ka_row_parts, 90, .inl f_row_parts)), (a_row_firsts, .inl (ka_row_firsts, 90, .inl f_row_firsts)), (a_row_lasts, .inl (ka_row_lasts, 90, .inl f_row_lasts)), (a_resolver, .inr (7, [.ref a_resolver_pairFirsts, .ref a_resolver_pairLasts, .int (nI g5), .int (nI (n_resolver_pairs)), .ref a_resolver_firsts, .ref a_resolver_lasts, .int (nI g6), .ref a_resolver_levels, .ref a_resolver_sides, .ref a_resolver_minusPlaces, .int (nI g7)])), (a_resolver_pairFirsts, .inl (ka_resolver_pairFirsts, 90, .inl g8)), (a_resolver_pairLasts, .inl (ka_resolver_pairLasts, 90, .inl g9)), (a_resolver_firsts, .inl (ka_resolver_firsts, 90, .inl g10)), (a_resolver_lasts, .inl (ka_resolver_lasts, 90, .inl g11)), (a_resolver_levels, .inl (ka_resolver_levels, 90, .inl v_a_resolver_levels)), (a_resolver_sides, .inl (ka_resolver_sides, 90, .inl v_a_resolver_sides)), (a_resolver_minusPlaces, .inl (ka_resolver_minusPlaces, 90, .inl v_a_resolver_minusPlaces)), (a_y0, .inr (11, [.ref a_y0_kinds, .ref a_y0_values, .int (nI n_y0_size)])), (a_y0_values, .inl (ka_y0_values, 362, .inr (.inl f_y0_values))), (a_y1, .inr (4, [.ref a_y1_names, .ref a_y1_sides, .ref a_y1_levels, .int (nI n_y1_size)])), (a_y1_names, .inl (ka_y1_names, 12, .inr (.inl f_y1_names))), (a_y1_sides, .inl (ka_y1_sides, 12, .inl f_y1_sides)), (a_y1_levels, .inl (ka_y1_levels, 12, .inl f_y1_levels))]) [0, 12, 1, 2, 3, 13, 14, 15, 16, 17, 4, 5, 18, 6, 7, 8, 9, 10, 11] (by decide) rfl
    exact W.vret hx hb hr (fun t ht hW => ⟨⟨(), rfl, trivial, ((z_together + 1)), z_inConflict, g5, ((n_resolver_pairs)), g6, g7, g8, g9, g10, g11, v_a_resolver_levels, v_a_resolver_sides, v_a_resolver_minusPlaces, by first | omega | assumption | exact Or.inl rfl | exact Or.inr rfl | decide, by first | omega | assumption | exact Or.inl rfl | exact Or.inr rfl | decide, by first | omega | assumption | exact Or.inl rfl | exact Or.inr rfl | decide, by first | omega | assumption | exact Or.inl rfl | exact Or.inr rfl | decide, by (intro hh; rw [← ks, iE] at hh; cases hh), by (intro x9 hh; rw [← ks, iE] at hh; cases hh; exact ⟨congrArg (fun z => z.2.2) hq0_58, rfl, rfl⟩), by exact pf_t iF hq1_58 (by omega), by first | omega | assumption | exact Or.inl rfl | exact Or.inr rfl | decide, by first | omega | assumption | exact Or.inl rfl | exact Or.inr rfl | decide, by rw [ht]; exact hP9, va_K.moved hW.alike hK, hD9⟩, hS.F ht⟩) hS.2.2 d_Rows_putRowTogether_71
  · have h4 : ¬ n_row_size ≤ k3 := fun q => h4 ((nI_leI (a := n_row_size) (b := k3) (by omega) (by omega)).mpr q)
    refine lv_aload_n hx hb d_Rows_putRowTogether_20 rfl (lv_at hl 1 rfl) ?_
    refine lv_aload_n hx hb d_Rows_putRowTogether_21 rfl (lv_at hl 2 rfl) ?_
    refine lv_iload_n hx hb d_Rows_putRowTogether_22 rfl (lv_at hl 0 rfl) ?_
    refine lv_aload_n hx hb d_Rows_putRowTogether_23 rfl (lv_at hl 3 rfl) ?_
    have hPc := hP.sub (ws' := [(a_t, .inr (9, [.ref a_closers, .ref a_openers, .ref a_opened, .ref a_closed, .ref a_row, .ref a_resolver, .int z_together, .int z_inConflict])), (a_row, .inr (8, [.ref a_row_parts, .ref a_row_firsts, .ref a_row_lasts, .int (nI n_row_size), .int z_row_operates, .int z_row_lacksOperand])), (a_row_parts, .inl (ka_row_parts, 90, .inl f_row_parts)), (a_row_firsts, .inl (ka_row_firsts, 90, .inl f_row_firsts)), (a_row_lasts, .inl (ka_row_lasts, 90, .inl f_row_lasts)), (a_resolver, .inr (7, [.ref a_resolver_pairFirsts, .ref a_resolver_pairLasts, .int (nI v_a_resolver_2), .int (nI (n_resolver_pairs)), .ref a_resolver_firsts, .ref a_resolver_lasts, .int (nI v_a_resolver_6), .ref a_resolver_levels, .ref a_resolver_sides, .ref a_resolver_minusPlaces, .int (nI v_a_resolver_10)])), (a_resolver_pairFirsts, .inl (ka_resolver_pairFirsts, 90, .inl v_a_resolver_pairFirsts)), (a_resolver_pairLasts, .inl (ka_resolver_pairLasts, 90, .inl v_a_resolver_pairLasts)), (a_resolver_firsts, .inl (ka_resolver_firsts, 90, .inl v_a_resolver_firsts)), (a_resolver_lasts, .inl (ka_resolver_lasts, 90, .inl v_a_resolver_lasts)), (a_resolver_levels, .inl (ka_resolver_levels, 90, .inl v_a_resolver_levels)), (a_resolver_sides, .inl (ka_resolver_sides, 90, .inl v_a_resolver_sides)), (a_resolver_minusPlaces, .inl (ka_resolver_minusPlaces, 90, .inl v_a_resolver_minusPlaces)), (a_y0, .inr (11, [.ref a_y0_kinds, .ref a_y0_values, .int (nI n_y0_size)])), (a_y0_values, .inl (ka_y0_values, 362, .inr (.inl f_y0_values))), (a_y1, .inr (4, [.ref a_y1_names, .ref a_y1_sides, .ref a_y1_levels, .int (nI n_y1_size)])), (a_y1_names, .inl (ka_y1_names, 12, .inr (.inl f_y1_names))), (a_y1_sides, .inl (ka_y1_sides, 12, .inl f_y1_sides)), (a_y1_levels, .inl (ka_y1_levels, 12, .inl f_y1_levels))]) [0, 18, 1, 2, 3, 17, 4, 5, 6, 7, 8, 9, 10, 11, 12, 13, 14, 15, 16] rfl
    have hDc := hD.sub (ws' := [(a_t, .inr (9, [.ref a_closers, .ref a_openers, .ref a_opened, .ref a_closed, .ref a_row, .ref a_resolver, .int z_together, .int z_inConflict])), (a_row, .inr (8, [.ref a_row_parts, .ref a_row_firsts, .ref a_row_lasts, .int (nI n_row_size), .int z_row_operates, .int z_row_lacksOperand])), (a_row_parts, .inl (ka_row_parts, 90, .inl f_row_parts)), (a_row_firsts, .inl (ka_row_firsts, 90, .inl f_row_firsts)), (a_row_lasts, .inl (ka_row_lasts, 90, .inl f_row_lasts)), (a_resolver, .inr (7, [.ref a_resolver_pairFirsts, .ref a_resolver_pairLasts, .int (nI v_a_resolver_2), .int (nI (n_resolver_pairs)), .ref a_resolver_firsts, .ref a_resolver_lasts, .int (nI v_a_resolver_6), .ref a_resolver_levels, .ref a_resolver_sides, .ref a_resolver_minusPlaces, .int (nI v_a_resolver_10)])), (a_resolver_pairFirsts, .inl (ka_resolver_pairFirsts, 90, .inl v_a_resolver_pairFirsts)), (a_resolver_pairLasts, .inl (ka_resolver_pairLasts, 90, .inl v_a_resolver_pairLasts)), (a_resolver_firsts, .inl (ka_resolver_firsts, 90, .inl v_a_resolver_firsts)), (a_resolver_lasts, .inl (ka_resolver_lasts, 90, .inl v_a_resolver_lasts)), (a_resolver_levels, .inl (ka_resolver_levels, 90, .inl v_a_resolver_levels)), (a_resolver_sides, .inl (ka_resolver_sides, 90, .inl v_a_resolver_sides)), (a_resolver_minusPlaces, .inl (ka_resolver_minusPlaces, 90, .inl v_a_resolver_minusPlaces)), (a_y0, .inr (11, [.ref a_y0_kinds, .ref a_y0_values, .int (nI n_y0_size)])), (a_y0_values, .inl (ka_y0_values, 362, .inr (.inl f_y0_values))), (a_y1, .inr (4, [.ref a_y1_names, .ref a_y1_sides, .ref a_y1_levels, .int (nI n_y1_size)])), (a_y1_names, .inl (ka_y1_names, 12, .inr (.inl f_y1_names))), (a_y1_sides, .inl (ka_y1_sides, 12, .inl f_y1_sides)), (a_y1_levels, .inl (ka_y1_levels, 12, .inl f_y1_levels))]) [0, 18, 1, 2, 3, 17, 4, 5, 6, 7, 8, 9, 10, 11, 12, 13, 14, 15, 16] (by decide) rfl
    have hKc := hK.sub (tys' := [(ka_row_parts, .int), (ka_row_firsts, .int), (ka_row_lasts, .int), (ka_resolver_pairFirsts, .int), (ka_resolver_pairLasts, .int), (ka_resolver_firsts, .int), (ka_resolver_lasts, .int), (ka_resolver_levels, .int), (ka_resolver_sides, .int), (ka_resolver_minusPlaces, .int), (ka_y0_values, .long), (ka_y1_names, .long), (ka_y1_sides, .int), (ka_y1_levels, .int)]) [0, 1, 2, 3, 4, 5, 6, 7, 8, 9, 10, 11, 12, 13] rfl
    have hFc := va_free (wc := [(a_t, .inr (9, [.ref a_closers, .ref a_openers, .ref a_opened, .ref a_closed, .ref a_row, .ref a_resolver, .int z_together, .int z_inConflict])), (a_row, .inr (8, [.ref a_row_parts, .ref a_row_firsts, .ref a_row_lasts, .int (nI n_row_size), .int z_row_operates, .int z_row_lacksOperand])), (a_row_parts, .inl (ka_row_parts, 90, .inl f_row_parts)), (a_row_firsts, .inl (ka_row_firsts, 90, .inl f_row_firsts)), (a_row_lasts, .inl (ka_row_lasts, 90, .inl f_row_lasts)), (a_resolver, .inr (7, [.ref a_resolver_pairFirsts, .ref a_resolver_pairLasts, .int (nI v_a_resolver_2), .int (nI (n_resolver_pairs)), .ref a_resolver_firsts, .ref a_resolver_lasts, .int (nI v_a_resolver_6), .ref a_resolver_levels, .ref a_resolver_sides, .ref a_resolver_minusPlaces, .int (nI v_a_resolver_10)])), (a_resolver_pairFirsts, .inl (ka_resolver_pairFirsts, 90, .inl v_a_resolver_pairFirsts)), (a_resolver_pairLasts, .inl (ka_resolver_pairLasts, 90, .inl v_a_resolver_pairLasts)), (a_resolver_firsts, .inl (ka_resolver_firsts, 90, .inl v_a_resolver_firsts)), (a_resolver_lasts, .inl (ka_resolver_lasts, 90, .inl v_a_resolver_lasts)), (a_resolver_levels, .inl (ka_resolver_levels, 90, .inl v_a_resolver_levels)), (a_resolver_sides, .inl (ka_resolver_sides, 90, .inl v_a_resolver_sides)), (a_resolver_minusPlaces, .inl (ka_resolver_minusPlaces, 90, .inl v_a_resolver_minusPlaces)), (a_y0, .inr (11, [.ref a_y0_kinds, .ref a_y0_values, .int (nI n_y0_size)])), (a_y0_values, .inl (ka_y0_values, 362, .inr (.inl f_y0_values))), (a_y1, .inr (4, [.ref a_y1_names, .ref a_y1_sides, .ref a_y1_levels, .int (nI n_y1_size)])), (a_y1_names, .inl (ka_y1_names, 12, .inr (.inl f_y1_names))), (a_y1_sides, .inl (ka_y1_sides, 12, .inl f_y1_sides)), (a_y1_levels, .inl (ka_y1_levels, 12, .inl f_y1_levels))]) hD hS hA [0, 18, 1, 2, 3, 17, 4, 5, 6, 7, 8, 9, 10, 11, 12, 13, 14, 15, 16] rfl
    refine va_calli (va_runV (As := [.ref a_y0, .int (nI k3), .ref a_y1]) (rest := []) ⟨hx, hb, hml, hown, hz⟩ (s_Rows_take7 l dC dI H.size a_t a_closers a_openers a_opened a_closed a_row a_row_parts f_row_parts a_row_firsts f_row_firsts a_row_lasts f_row_lasts n_row_size z_row_operates z_row_lacksOperand a_resolver a_resolver_pairFirsts v_a_resolver_pairFirsts a_resolver_pairLasts v_a_resolver_pairLasts v_a_resolver_2 ((n_resolver_pairs)) a_resolver_firsts v_a_resolver_firsts a_resolver_lasts v_a_resolver_lasts v_a_resolver_6 a_resolver_levels v_a_resolver_levels a_resolver_sides v_a_resolver_sides a_resolver_minusPlaces v_a_resolver_minusPlaces v_a_resolver_10 z_together z_inConflict a_y0 a_y0_kinds a_y0_values f_y0_values n_y0_size k3 a_y1 a_y1_names f_y1_names a_y1_sides f_y1_sides a_y1_levels f_y1_levels n_y1_size ka_row_parts ka_row_firsts ka_row_lasts ka_resolver_pairFirsts ka_resolver_pairLasts ka_resolver_firsts ka_resolver_lasts ka_resolver_levels ka_resolver_sides ka_resolver_minusPlaces ka_y0_values ka_y1_names ka_y1_sides ka_y1_levels (by first | omega | assumption | exact Or.inl rfl | exact Or.inr rfl | decide) (by first | omega | assumption | exact Or.inl rfl | exact Or.inr rfl | decide) (by first | omega | assumption | exact Or.inl rfl | exact Or.inr rfl | decide) (by first | omega | assumption | exact Or.inl rfl | exact Or.inr rfl | decide) (by first | omega | assumption | exact Or.inl rfl | exact Or.inr rfl | decide) (by first | omega | assumption | exact Or.inl rfl | exact Or.inr rfl | decide) (by first | omega | assumption | exact Or.inl rfl | exact Or.inr rfl | decide) (by first | omega | assumption | exact Or.inl rfl | exact Or.inr rfl | decide) (by first | omega | assumption | exact Or.inl rfl | exact Or.inr rfl | decide) (by (intro z9; obtain ⟨q1, q2⟩ := hp1 k3 (by omega) z9; exact iO q1 q2)) (by first | omega | assumption | exact Or.inl rfl | exact Or.inr rfl | decide) (by first | omega | assumption | exact Or.inl rfl | exact Or.inr rfl | decide) (by first | omega | assumption | exact Or.inl rfl | exact Or.inr rfl | decide) (by first | omega | assumption | exact Or.inl rfl | exact Or.inr rfl | decide)) (cwV 3 hz (zV zm_456 zm_457 zm_458 zm_377 zm_459) rfl rfl rfl (by decide +kernel) ⟨Nat.le_of_ble_eq_true rfl, Nat.le_of_ble_eq_true rfl⟩) ⟨fun a U g mk q => by obtain ⟨q0, q1, qP, qK, qD⟩ := q; exact ⟨q0, q1, qP, va_K.moved (u := U) (U := U.calling g mk a) (Vm.Alike.refl U.vm) qK, qD⟩, va_recv (q := (R_Rows, F_Rows, 8)) (q0 := 0) (ci := 9) hK hP rfl rfl, fun U hU hW => ⟨rfl, by rw [hU], by rw [hU]; exact hPc, va_K.moved hW.alike hKc, hDc.weaken (fun _ _ _ _ => trivial)⟩⟩ rfl rfl hl.1 rfl (lv_room (Nat.le_of_ble_eq_true rfl)) d_Rows_putRowTogether_24 ⟨Nat.zero_le _, Nat.zero_le _⟩) hS (fun q _ h => hFc q h) hFc (fun r u t H1 locs ht hvm hw_r hB hz1 hk1 hS => ?_)
    obtain ⟨g12, g13, g14, g15, g16, g17, g18, g19, g20, g21, hb_g12, hb_g13, hb_g14, hq0_24, hq1_24, hq2_24, hq3_24, hq4_24, hq5_24, hP1, hK1, hD1⟩ := hB
    obtain ⟨hb_r, he_r⟩ := hw_r
    subst r
    rw [ht] at hP1
    obtain ⟨hP, hD⟩ := va_join (wr := []) (w1 := [(a_t, .inr (9, [.ref a_closers, .ref a_openers, .ref a_opened, .ref a_closed, .ref a_row, .ref a_resolver, .int z_together, .int z_inConflict])), (a_row, .inr (8, [.ref a_row_parts, .ref a_row_firsts, .ref a_row_lasts, .int (nI n_row_size), .int z_row_operates, .int z_row_lacksOperand])), (a_row_parts, .inl (ka_row_parts, 90, .inl f_row_parts)), (a_row_firsts, .inl (ka_row_firsts, 90, .inl f_row_firsts)), (a_row_lasts, .inl (ka_row_lasts, 90, .inl f_row_lasts)), (a_resolver, .inr (7, [.ref a_resolver_pairFirsts, .ref a_resolver_pairLasts, .int (nI g12), .int (nI (n_resolver_pairs)), .ref a_resolver_firsts, .ref a_resolver_lasts, .int (nI g13), .ref a_resolver_levels, .ref a_resolver_sides, .ref a_resolver_minusPlaces, .int (nI g14)])), (a_resolver_pairFirsts, .inl (ka_resolver_pairFirsts, 90, .inl g15)), (a_resolver_pairLasts, .inl (ka_resolver_pairLasts, 90, .inl g16)), (a_resolver_firsts, .inl (ka_resolver_firsts, 90, .inl g17)), (a_resolver_lasts, .inl (ka_resolver_lasts, 90, .inl g18)), (a_resolver_levels, .inl (ka_resolver_levels, 90, .inl g19)), (a_resolver_sides, .inl (ka_resolver_sides, 90, .inl g20)), (a_resolver_minusPlaces, .inl (ka_resolver_minusPlaces, 90, .inl g21)), (a_y0, .inr (11, [.ref a_y0_kinds, .ref a_y0_values, .int (nI n_y0_size)])), (a_y0_values, .inl (ka_y0_values, 362, .inr (.inl f_y0_values))), (a_y1, .inr (4, [.ref a_y1_names, .ref a_y1_sides, .ref a_y1_levels, .int (nI n_y1_size)])), (a_y1_names, .inl (ka_y1_names, 12, .inr (.inl f_y1_names))), (a_y1_sides, .inl (ka_y1_sides, 12, .inl f_y1_sides)), (a_y1_levels, .inl (ka_y1_levels, 12, .inl f_y1_levels))]) hP hD [0, 18, 1, 2, 3, 17, 4, 5, 6, 7, 8, 9, 10, 11, 12, 13, 14, 15, 16] [] rfl rfl (by decide) (by decide) hk1 hFc hP1 hD1
    generalize H1 = H at hP hS ⊢
    have hP : va_P (dC, dI) vcl [(a_t, .inr (9, [.ref a_closers, .ref a_openers, .ref a_opened, .ref a_closed, .ref a_row, .ref a_resolver, .int z_together, .int z_inConflict])), (a_row, .inr (8, [.ref a_row_parts, .ref a_row_firsts, .ref a_row_lasts, .int (nI n_row_size), .int z_row_operates, .int z_row_lacksOperand])), (a_row_parts, .inl (ka_row_parts, 90, .inl f_row_parts)), (a_row_firsts, .inl (ka_row_firsts, 90, .inl f_row_firsts)), (a_row_lasts, .inl (ka_row_lasts, 90, .inl f_row_lasts)), (a_resolver, .inr (7, [.ref a_resolver_pairFirsts, .ref a_resolver_pairLasts, .int (nI g12), .int (nI (n_resolver_pairs)), .ref a_resolver_firsts, .ref a_resolver_lasts, .int (nI g13), .ref a_resolver_levels, .ref a_resolver_sides, .ref a_resolver_minusPlaces, .int (nI g14)])), (a_resolver_pairFirsts, .inl (ka_resolver_pairFirsts, 90, .inl g15)), (a_resolver_pairLasts, .inl (ka_resolver_pairLasts, 90, .inl g16)), (a_resolver_firsts, .inl (ka_resolver_firsts, 90, .inl g17)), (a_resolver_lasts, .inl (ka_resolver_lasts, 90, .inl g18)), (a_resolver_levels, .inl (ka_resolver_levels, 90, .inl g19)), (a_resolver_sides, .inl (ka_resolver_sides, 90, .inl g20)), (a_resolver_minusPlaces, .inl (ka_resolver_minusPlaces, 90, .inl g21)), (a_y0, .inr (11, [.ref a_y0_kinds, .ref a_y0_values, .int (nI n_y0_size)])), (a_y0_values, .inl (ka_y0_values, 362, .inr (.inl f_y0_values))), (a_y1, .inr (4, [.ref a_y1_names, .ref a_y1_sides, .ref a_y1_levels, .int (nI n_y1_size)])), (a_y1_names, .inl (ka_y1_names, 12, .inr (.inl f_y1_names))), (a_y1_sides, .inl (ka_y1_sides, 12, .inl f_y1_sides)), (a_y1_levels, .inl (ka_y1_levels, 12, .inl f_y1_levels))] H := hP
    have hD : va_D A [(a_t, .inr (9, [.ref a_closers, .ref a_openers, .ref a_opened, .ref a_closed, .ref a_row, .ref a_resolver, .int z_together, .int z_inConflict])), (a_row, .inr (8, [.ref a_row_parts, .ref a_row_firsts, .ref a_row_lasts, .int (nI n_row_size), .int z_row_operates, .int z_row_lacksOperand])), (a_row_parts, .inl (ka_row_parts, 90, .inl f_row_parts)), (a_row_firsts, .inl (ka_row_firsts, 90, .inl f_row_firsts)), (a_row_lasts, .inl (ka_row_lasts, 90, .inl f_row_lasts)), (a_resolver, .inr (7, [.ref a_resolver_pairFirsts, .ref a_resolver_pairLasts, .int (nI g12), .int (nI (n_resolver_pairs)), .ref a_resolver_firsts, .ref a_resolver_lasts, .int (nI g13), .ref a_resolver_levels, .ref a_resolver_sides, .ref a_resolver_minusPlaces, .int (nI g14)])), (a_resolver_pairFirsts, .inl (ka_resolver_pairFirsts, 90, .inl g15)), (a_resolver_pairLasts, .inl (ka_resolver_pairLasts, 90, .inl g16)), (a_resolver_firsts, .inl (ka_resolver_firsts, 90, .inl g17)), (a_resolver_lasts, .inl (ka_resolver_lasts, 90, .inl g18)), (a_resolver_levels, .inl (ka_resolver_levels, 90, .inl g19)), (a_resolver_sides, .inl (ka_resolver_sides, 90, .inl g20)), (a_resolver_minusPlaces, .inl (ka_resolver_minusPlaces, 90, .inl g21)), (a_y0, .inr (11, [.ref a_y0_kinds, .ref a_y0_values, .int (nI n_y0_size)])), (a_y0_values, .inl (ka_y0_values, 362, .inr (.inl f_y0_values))), (a_y1, .inr (4, [.ref a_y1_names, .ref a_y1_sides, .ref a_y1_levels, .int (nI n_y1_size)])), (a_y1_names, .inl (ka_y1_names, 12, .inr (.inl f_y1_names))), (a_y1_sides, .inl (ka_y1_sides, 12, .inl f_y1_sides)), (a_y1_levels, .inl (ka_y1_levels, 12, .inl f_y1_levels))] := hD
    refine lv_if_ne (tgt := 48) hx hb d_Rows_putRowTogether_27 (by decide) (fun h22 => ?_) (fun h22 => ?_)
    · have e27 := h22
      obtain ⟨x8, hs8⟩ := some_y h22
      refine lv_iinc (k := 0) (v := (nI (k3 + 1))) hx hb d_Rows_putRowTogether_48 hl rfl (nI_1 k3) (by decide) rfl (fun ls hl => ?_)
      have hl : lv_has ls 4 [(3, .int (nI (k3 + 1))), (0, .ref a_t), (1, .ref a_y0), (2, .ref a_y1)] := hl
      refine lv_goto (tgt := 9) hx hb d_Rows_putRowTogether_51 (by decide) ?_
      have hP9 := hP.sub (ws' := [(a_t, .inr (9, [.ref a_closers, .ref a_openers, .ref a_opened, .ref a_closed, .ref a_row, .ref a_resolver, .int z_together, .int z_inConflict])), (a_row, .inr (8, [.ref a_row_parts, .ref a_row_firsts, .ref a_row_lasts, .int (nI n_row_size), .int z_row_operates, .int z_row_lacksOperand])), (a_row_parts, .inl (ka_row_parts, 90, .inl f_row_parts)), (a_row_firsts, .inl (ka_row_firsts, 90, .inl f_row_firsts)), (a_row_lasts, .inl (ka_row_lasts, 90, .inl f_row_lasts)), (a_resolver_pairFirsts, .inl (ka_resolver_pairFirsts, 90, .inl g15)), (a_resolver_pairLasts, .inl (ka_resolver_pairLasts, 90, .inl g16)), (a_resolver_firsts, .inl (ka_resolver_firsts, 90, .inl g17)), (a_resolver_lasts, .inl (ka_resolver_lasts, 90, .inl g18)), (a_resolver_levels, .inl (ka_resolver_levels, 90, .inl g19)), (a_resolver_sides, .inl (ka_resolver_sides, 90, .inl g20)), (a_resolver_minusPlaces, .inl (ka_resolver_minusPlaces, 90, .inl g21)), (a_y0, .inr (11, [.ref a_y0_kinds, .ref a_y0_values, .int (nI n_y0_size)])), (a_y0_values, .inl (ka_y0_values, 362, .inr (.inl f_y0_values))), (a_y1, .inr (4, [.ref a_y1_names, .ref a_y1_sides, .ref a_y1_levels, .int (nI n_y1_size)])), (a_y1_names, .inl (ka_y1_names, 12, .inr (.inl f_y1_names))), (a_y1_sides, .inl (ka_y1_sides, 12, .inl f_y1_sides)), (a_y1_levels, .inl (ka_y1_levels, 12, .inl f_y1_levels)), (a_resolver, .inr (7, [.ref a_resolver_pairFirsts, .ref a_resolver_pairLasts, .int (nI g12), .int (nI (n_resolver_pairs)), .ref a_resolver_firsts, .ref a_resolver_lasts, .int (nI g13), .ref a_resolver_levels, .ref a_resolver_sides, .ref a_resolver_minusPlaces, .int (nI g14)]))]) [0, 1, 2, 3, 4, 6, 7, 8, 9, 10, 11, 12, 13, 14, 15, 16, 17, 18, 5] rfl
      have hD9 := hD.sub (ws' := [(a_t, .inr (9, [.ref a_closers, .ref a_openers, .ref a_opened, .ref a_closed, .ref a_row, .ref a_resolver, .int z_together, .int z_inConflict])), (a_row, .inr (8, [.ref a_row_parts, .ref a_row_firsts, .ref a_row_lasts, .int (nI n_row_size), .int z_row_operates, .int z_row_lacksOperand])), (a_row_parts, .inl (ka_row_parts, 90, .inl f_row_parts)), (a_row_firsts, .inl (ka_row_firsts, 90, .inl f_row_firsts)), (a_row_lasts, .inl (ka_row_lasts, 90, .inl f_row_lasts)), (a_resolver_pairFirsts, .inl (ka_resolver_pairFirsts, 90, .inl g15)), (a_resolver_pairLasts, .inl (ka_resolver_pairLasts, 90, .inl g16)), (a_resolver_firsts, .inl (ka_resolver_firsts, 90, .inl g17)), (a_resolver_lasts, .inl (ka_resolver_lasts, 90, .inl g18)), (a_resolver_levels, .inl (ka_resolver_levels, 90, .inl g19)), (a_resolver_sides, .inl (ka_resolver_sides, 90, .inl g20)), (a_resolver_minusPlaces, .inl (ka_resolver_minusPlaces, 90, .inl g21)), (a_y0, .inr (11, [.ref a_y0_kinds, .ref a_y0_values, .int (nI n_y0_size)])), (a_y0_values, .inl (ka_y0_values, 362, .inr (.inl f_y0_values))), (a_y1, .inr (4, [.ref a_y1_names, .ref a_y1_sides, .ref a_y1_levels, .int (nI n_y1_size)])), (a_y1_names, .inl (ka_y1_names, 12, .inr (.inl f_y1_names))), (a_y1_sides, .inl (ka_y1_sides, 12, .inl f_y1_sides)), (a_y1_levels, .inl (ka_y1_levels, 12, .inl f_y1_levels)), (a_resolver, .inr (7, [.ref a_resolver_pairFirsts, .ref a_resolver_pairLasts, .int (nI g12), .int (nI (n_resolver_pairs)), .ref a_resolver_firsts, .ref a_resolver_lasts, .int (nI g13), .ref a_resolver_levels, .ref a_resolver_sides, .ref a_resolver_minusPlaces, .int (nI g14)]))]) [0, 1, 2, 3, 4, 6, 7, 8, 9, 10, 11, 12, 13, 14, 15, 16, 17, 18, 5] (by decide) rfl
      exact ih9 ((k3 + 1), g14, g12, g13, g17, g18, g19, g21, g15, g16, g20) (by show 90 - ((k3 + 1)) < 90 - k3; omega) _ _ _ ⟨by show ((k3 + 1)) ≤ 90; first | omega | assumption | exact Or.inl rfl | exact Or.inr rfl | decide, by show g14 ≤ 90; first | omega | assumption | exact Or.inl rfl | exact Or.inr rfl | decide, by show g12 ≤ 90; first | omega | assumption | exact Or.inl rfl | exact Or.inr rfl | decide, by show g13 ≤ 90; first | omega | assumption | exact Or.inl rfl | exact Or.inr rfl | decide, by show ((k3 + 1)) ≤ n_row_size; first | omega | assumption | exact Or.inl rfl | exact Or.inr rfl | decide, by show rs7 f_y0_values (lvC f_y1_names f_y1_levels n_y1_size 9) (lvC f_y1_names f_y1_sides n_y1_size 0) (z2 f_resolver_pairFirsts f_resolver_pairLasts n_resolver_pairs) (z3 f_row_firsts f_row_lasts f_row_parts ((k3 + 1))) = some (z3 g19 g20 g21 g14, z2 g17 g18 g13, z2 g15 g16 g12); exact rs_s iE (hs8.trans (congrArg some (hq0_24 x8 hs8).symm)), by show g13 ≤ ((k3 + 1)); first | omega | assumption | exact Or.inl rfl | exact Or.inr rfl | decide, by show g12 + g14 ≤ n_resolver_pairs + ((k3 + 1)); first | omega | assumption | exact Or.inl rfl | exact Or.inr rfl | decide, by show n_resolver_pairs ≤ g12; first | omega | assumption | exact Or.inl rfl | exact Or.inr rfl | decide, by show 1 ≤ ((k3 + 1)) → f_row_parts (((k3 + 1)) - 1) = 0 → 1 ≤ g13; (intro _ z9; exact hq5_24 z9), by show ∀ j, j < n_resolver_pairs → g15 j = f_resolver_pairFirsts j ∧ g16 j = f_resolver_pairLasts j; exact pf_t iF hq1_24 (by omega), hl, hP9, hD9, hS⟩
    · have e27 := h22
      refine lv_aload_n hx hb d_Rows_putRowTogether_30 rfl (lv_at hl 1 rfl) ?_
      refine va_get (D := (dC, dI)) (ci := 9) (v := .ref a_resolver) (C := R_Rows) (T := F_Rows) (N := 8) hx hb hz zu_Rows hown hK hP 0 rfl rfl 5 (by decide) (hz (.fieldLink R_Rows 34 "LayoutFront$Rows" "resolver" "LLayoutFront$Resolver;") zm_366) (fun _ h9 => h9) rfl d_Rows_putRowTogether_31 ?_
      have hPc := hP.sub (ws' := [(a_resolver, .inr (7, [.ref a_resolver_pairFirsts, .ref a_resolver_pairLasts, .int (nI g12), .int (nI (n_resolver_pairs)), .ref a_resolver_firsts, .ref a_resolver_lasts, .int (nI g13), .ref a_resolver_levels, .ref a_resolver_sides, .ref a_resolver_minusPlaces, .int (nI g14)]))]) [5] rfl
      have hDc := hD.sub (ws' := [(a_resolver, .inr (7, [.ref a_resolver_pairFirsts, .ref a_resolver_pairLasts, .int (nI g12), .int (nI (n_resolver_pairs)), .ref a_resolver_firsts, .ref a_resolver_lasts, .int (nI g13), .ref a_resolver_levels, .ref a_resolver_sides, .ref a_resolver_minusPlaces, .int (nI g14)]))]) [5] (by decide) rfl
      have hKc := hK.sub (tys' := []) [] rfl
      have hFc := va_free (wc := [(a_resolver, .inr (7, [.ref a_resolver_pairFirsts, .ref a_resolver_pairLasts, .int (nI g12), .int (nI (n_resolver_pairs)), .ref a_resolver_firsts, .ref a_resolver_lasts, .int (nI g13), .ref a_resolver_levels, .ref a_resolver_sides, .ref a_resolver_minusPlaces, .int (nI g14)]))]) hD hS hA [5] rfl
      refine va_callv (va_runV (As := []) (rest := []) ⟨hx, hb, hml, hown, hz⟩ (s_Resolver_giveUpRow7 l dC dI H.size a_resolver a_resolver_pairFirsts a_resolver_pairLasts g12 ((n_resolver_pairs)) a_resolver_firsts a_resolver_lasts g13 a_resolver_levels a_resolver_sides a_resolver_minusPlaces g14 (by first | omega | assumption | exact Or.inl rfl | exact Or.inr rfl | decide) (by first | omega | assumption | exact Or.inl rfl | exact Or.inr rfl | decide) (by first | omega | assumption | exact Or.inl rfl | exact Or.inr rfl | decide) (by first | omega | assumption | exact Or.inl rfl | exact Or.inr rfl | decide)) (cwV 0 hz (zV zm_460 zm_461 zm_462 zm_340 zm_463) rfl rfl rfl (by decide +kernel) ⟨Nat.le_of_ble_eq_true rfl, Nat.le_of_ble_eq_true rfl⟩) ⟨fun a U g mk q => by obtain ⟨q0, q1, qP, qK, qD⟩ := q; exact ⟨q0, q1, qP, va_K.moved (u := U) (U := U.calling g mk a) (Vm.Alike.refl U.vm) qK, qD⟩, va_recv (q := (R_Resolver, F_Resolver, 11)) (q0 := 5) (ci := 7) hK hP rfl rfl, fun U hU hW => ⟨rfl, by rw [hU], by rw [hU]; exact hPc, va_K.moved hW.alike hKc, hDc.weaken (fun _ _ _ _ => trivial)⟩⟩ rfl rfl hl.1 rfl (lv_room (Nat.le_of_ble_eq_true rfl)) d_Rows_putRowTogether_34 ⟨Nat.zero_le _, Nat.zero_le _⟩) hS (fun q _ h => hFc q h) hFc (fun u t H1 locs ht hvm hw hB hz1 hk1 hS => ?_)
      obtain ⟨g23, hb_g23, hq0_34, hP1, hK1, hD1⟩ := hB
      subst g23
      rw [ht] at hP1
      obtain ⟨hP, hD⟩ := va_join (wr := [(a_t, .inr (9, [.ref a_closers, .ref a_openers, .ref a_opened, .ref a_closed, .ref a_row, .ref a_resolver, .int z_together, .int z_inConflict])), (a_row, .inr (8, [.ref a_row_parts, .ref a_row_firsts, .ref a_row_lasts, .int (nI n_row_size), .int z_row_operates, .int z_row_lacksOperand])), (a_row_parts, .inl (ka_row_parts, 90, .inl f_row_parts)), (a_row_firsts, .inl (ka_row_firsts, 90, .inl f_row_firsts)), (a_row_lasts, .inl (ka_row_lasts, 90, .inl f_row_lasts)), (a_resolver_pairFirsts, .inl (ka_resolver_pairFirsts, 90, .inl g15)), (a_resolver_pairLasts, .inl (ka_resolver_pairLasts, 90, .inl g16)), (a_resolver_firsts, .inl (ka_resolver_firsts, 90, .inl g17)), (a_resolver_lasts, .inl (ka_resolver_lasts, 90, .inl g18)), (a_resolver_levels, .inl (ka_resolver_levels, 90, .inl g19)), (a_resolver_sides, .inl (ka_resolver_sides, 90, .inl g20)), (a_resolver_minusPlaces, .inl (ka_resolver_minusPlaces, 90, .inl g21)), (a_y0, .inr (11, [.ref a_y0_kinds, .ref a_y0_values, .int (nI n_y0_size)])), (a_y0_values, .inl (ka_y0_values, 362, .inr (.inl f_y0_values))), (a_y1, .inr (4, [.ref a_y1_names, .ref a_y1_sides, .ref a_y1_levels, .int (nI n_y1_size)])), (a_y1_names, .inl (ka_y1_names, 12, .inr (.inl f_y1_names))), (a_y1_sides, .inl (ka_y1_sides, 12, .inl f_y1_sides)), (a_y1_levels, .inl (ka_y1_levels, 12, .inl f_y1_levels))]) (w1 := [(a_resolver, .inr (7, [.ref a_resolver_pairFirsts, .ref a_resolver_pairLasts, .int (nI (((n_resolver_pairs)))), .int (nI (n_resolver_pairs)), .ref a_resolver_firsts, .ref a_resolver_lasts, .int (nI g13), .ref a_resolver_levels, .ref a_resolver_sides, .ref a_resolver_minusPlaces, .int (nI g14)]))]) hP hD [5] [0, 1, 2, 3, 4, 6, 7, 8, 9, 10, 11, 12, 13, 14, 15, 16, 17, 18] rfl rfl (by decide) (by decide) hk1 hFc hP1 hD1
      generalize H1 = H at hP hS ⊢
      have hP : va_P (dC, dI) vcl [(a_t, .inr (9, [.ref a_closers, .ref a_openers, .ref a_opened, .ref a_closed, .ref a_row, .ref a_resolver, .int z_together, .int z_inConflict])), (a_row, .inr (8, [.ref a_row_parts, .ref a_row_firsts, .ref a_row_lasts, .int (nI n_row_size), .int z_row_operates, .int z_row_lacksOperand])), (a_row_parts, .inl (ka_row_parts, 90, .inl f_row_parts)), (a_row_firsts, .inl (ka_row_firsts, 90, .inl f_row_firsts)), (a_row_lasts, .inl (ka_row_lasts, 90, .inl f_row_lasts)), (a_resolver_pairFirsts, .inl (ka_resolver_pairFirsts, 90, .inl g15)), (a_resolver_pairLasts, .inl (ka_resolver_pairLasts, 90, .inl g16)), (a_resolver_firsts, .inl (ka_resolver_firsts, 90, .inl g17)), (a_resolver_lasts, .inl (ka_resolver_lasts, 90, .inl g18)), (a_resolver_levels, .inl (ka_resolver_levels, 90, .inl g19)), (a_resolver_sides, .inl (ka_resolver_sides, 90, .inl g20)), (a_resolver_minusPlaces, .inl (ka_resolver_minusPlaces, 90, .inl g21)), (a_y0, .inr (11, [.ref a_y0_kinds, .ref a_y0_values, .int (nI n_y0_size)])), (a_y0_values, .inl (ka_y0_values, 362, .inr (.inl f_y0_values))), (a_y1, .inr (4, [.ref a_y1_names, .ref a_y1_sides, .ref a_y1_levels, .int (nI n_y1_size)])), (a_y1_names, .inl (ka_y1_names, 12, .inr (.inl f_y1_names))), (a_y1_sides, .inl (ka_y1_sides, 12, .inl f_y1_sides)), (a_y1_levels, .inl (ka_y1_levels, 12, .inl f_y1_levels)), (a_resolver, .inr (7, [.ref a_resolver_pairFirsts, .ref a_resolver_pairLasts, .int (nI (((n_resolver_pairs)))), .int (nI (n_resolver_pairs)), .ref a_resolver_firsts, .ref a_resolver_lasts, .int (nI g13), .ref a_resolver_levels, .ref a_resolver_sides, .ref a_resolver_minusPlaces, .int (nI g14)]))] H := hP
      have hD : va_D A [(a_t, .inr (9, [.ref a_closers, .ref a_openers, .ref a_opened, .ref a_closed, .ref a_row, .ref a_resolver, .int z_together, .int z_inConflict])), (a_row, .inr (8, [.ref a_row_parts, .ref a_row_firsts, .ref a_row_lasts, .int (nI n_row_size), .int z_row_operates, .int z_row_lacksOperand])), (a_row_parts, .inl (ka_row_parts, 90, .inl f_row_parts)), (a_row_firsts, .inl (ka_row_firsts, 90, .inl f_row_firsts)), (a_row_lasts, .inl (ka_row_lasts, 90, .inl f_row_lasts)), (a_resolver_pairFirsts, .inl (ka_resolver_pairFirsts, 90, .inl g15)), (a_resolver_pairLasts, .inl (ka_resolver_pairLasts, 90, .inl g16)), (a_resolver_firsts, .inl (ka_resolver_firsts, 90, .inl g17)), (a_resolver_lasts, .inl (ka_resolver_lasts, 90, .inl g18)), (a_resolver_levels, .inl (ka_resolver_levels, 90, .inl g19)), (a_resolver_sides, .inl (ka_resolver_sides, 90, .inl g20)), (a_resolver_minusPlaces, .inl (ka_resolver_minusPlaces, 90, .inl g21)), (a_y0, .inr (11, [.ref a_y0_kinds, .ref a_y0_values, .int (nI n_y0_size)])), (a_y0_values, .inl (ka_y0_values, 362, .inr (.inl f_y0_values))), (a_y1, .inr (4, [.ref a_y1_names, .ref a_y1_sides, .ref a_y1_levels, .int (nI n_y1_size)])), (a_y1_names, .inl (ka_y1_names, 12, .inr (.inl f_y1_names))), (a_y1_sides, .inl (ka_y1_sides, 12, .inl f_y1_sides)), (a_y1_levels, .inl (ka_y1_levels, 12, .inl f_y1_levels)), (a_resolver, .inr (7, [.ref a_resolver_pairFirsts, .ref a_resolver_pairLasts, .int (nI (((n_resolver_pairs)))), .int (nI (n_resolver_pairs)), .ref a_resolver_firsts, .ref a_resolver_lasts, .int (nI g13), .ref a_resolver_levels, .ref a_resolver_sides, .ref a_resolver_minusPlaces, .int (nI g14)]))] := hD
      refine lv_aload_n hx hb d_Rows_putRowTogether_37 rfl (lv_at hl 1 rfl) ?_
      refine lv_dup hx hb d_Rows_putRowTogether_38 rfl ?_
      refine va_get (D := (dC, dI)) (ci := 9) (v := .int z_inConflict) (C := R_Rows) (T := F_Rows) (N := 8) hx hb hz zu_Rows hown hK hP 0 rfl rfl 7 (by decide) (hz (.fieldLink R_Rows 42 "LayoutFront$Rows" "inConflict" "I") zm_369) (fun _ h9 => h9) rfl d_Rows_putRowTogether_39 ?_
      refine lv_iconst (v := 1) hx hb d_Rows_putRowTogether_42 (by decide) ?_
      refine xr_iadd (v := (z_inConflict + 1)) hx hb d_Rows_putRowTogether_43 rfl ?_
      refine va_put (D := (dC, dI)) (ci := 9) (v := .int (z_inConflict + 1)) (ty := .int) (C := R_Rows) (T := F_Rows) (N := 8) hx hb hz zu_Rows t_Rows t_Rows_ok n_Rows hown hK hP hD hS 0 rfl rfl 7 (by decide) (hz (.fieldLink R_Rows 42 "LayoutFront$Rows" "inConflict" "I") zm_369) (fun _ h9 => h9) rfl (by decide +kernel) rfl rfl (Nat.le_of_ble_eq_true rfl) d_Rows_putRowTogether_44 (fun H locs hP hD hS => ?_)
      have hP : va_P (dC, dI) vcl [(a_t, .inr (9, [.ref a_closers, .ref a_openers, .ref a_opened, .ref a_closed, .ref a_row, .ref a_resolver, .int z_together, .int (z_inConflict + 1)])), (a_row, .inr (8, [.ref a_row_parts, .ref a_row_firsts, .ref a_row_lasts, .int (nI n_row_size), .int z_row_operates, .int z_row_lacksOperand])), (a_row_parts, .inl (ka_row_parts, 90, .inl f_row_parts)), (a_row_firsts, .inl (ka_row_firsts, 90, .inl f_row_firsts)), (a_row_lasts, .inl (ka_row_lasts, 90, .inl f_row_lasts)), (a_resolver_pairFirsts, .inl (ka_resolver_pairFirsts, 90, .inl g15)), (a_resolver_pairLasts, .inl (ka_resolver_pairLasts, 90, .inl g16)), (a_resolver_firsts, .inl (ka_resolver_firsts, 90, .inl g17)), (a_resolver_lasts, .inl (ka_resolver_lasts, 90, .inl g18)), (a_resolver_levels, .inl (ka_resolver_levels, 90, .inl g19)), (a_resolver_sides, .inl (ka_resolver_sides, 90, .inl g20)), (a_resolver_minusPlaces, .inl (ka_resolver_minusPlaces, 90, .inl g21)), (a_y0, .inr (11, [.ref a_y0_kinds, .ref a_y0_values, .int (nI n_y0_size)])), (a_y0_values, .inl (ka_y0_values, 362, .inr (.inl f_y0_values))), (a_y1, .inr (4, [.ref a_y1_names, .ref a_y1_sides, .ref a_y1_levels, .int (nI n_y1_size)])), (a_y1_names, .inl (ka_y1_names, 12, .inr (.inl f_y1_names))), (a_y1_sides, .inl (ka_y1_sides, 12, .inl f_y1_sides)), (a_y1_levels, .inl (ka_y1_levels, 12, .inl f_y1_levels)), (a_resolver, .inr (7, [.ref a_resolver_pairFirsts, .ref a_resolver_pairLasts, .int (nI (((n_resolver_pairs)))), .int (nI (n_resolver_pairs)), .ref a_resolver_firsts, .ref a_resolver_lasts, .int (nI g13), .ref a_resolver_levels, .ref a_resolver_sides, .ref a_resolver_minusPlaces, .int (nI g14)]))] H := hP
      have hD : va_D A [(a_t, .inr (9, [.ref a_closers, .ref a_openers, .ref a_opened, .ref a_closed, .ref a_row, .ref a_resolver, .int z_together, .int (z_inConflict + 1)])), (a_row, .inr (8, [.ref a_row_parts, .ref a_row_firsts, .ref a_row_lasts, .int (nI n_row_size), .int z_row_operates, .int z_row_lacksOperand])), (a_row_parts, .inl (ka_row_parts, 90, .inl f_row_parts)), (a_row_firsts, .inl (ka_row_firsts, 90, .inl f_row_firsts)), (a_row_lasts, .inl (ka_row_lasts, 90, .inl f_row_lasts)), (a_resolver_pairFirsts, .inl (ka_resolver_pairFirsts, 90, .inl g15)), (a_resolver_pairLasts, .inl (ka_resolver_pairLasts, 90, .inl g16)), (a_resolver_firsts, .inl (ka_resolver_firsts, 90, .inl g17)), (a_resolver_lasts, .inl (ka_resolver_lasts, 90, .inl g18)), (a_resolver_levels, .inl (ka_resolver_levels, 90, .inl g19)), (a_resolver_sides, .inl (ka_resolver_sides, 90, .inl g20)), (a_resolver_minusPlaces, .inl (ka_resolver_minusPlaces, 90, .inl g21)), (a_y0, .inr (11, [.ref a_y0_kinds, .ref a_y0_values, .int (nI n_y0_size)])), (a_y0_values, .inl (ka_y0_values, 362, .inr (.inl f_y0_values))), (a_y1, .inr (4, [.ref a_y1_names, .ref a_y1_sides, .ref a_y1_levels, .int (nI n_y1_size)])), (a_y1_names, .inl (ka_y1_names, 12, .inr (.inl f_y1_names))), (a_y1_sides, .inl (ka_y1_sides, 12, .inl f_y1_sides)), (a_y1_levels, .inl (ka_y1_levels, 12, .inl f_y1_levels)), (a_resolver, .inr (7, [.ref a_resolver_pairFirsts, .ref a_resolver_pairLasts, .int (nI (((n_resolver_pairs)))), .int (nI (n_resolver_pairs)), .ref a_resolver_firsts, .ref a_resolver_lasts, .int (nI g13), .ref a_resolver_levels, .ref a_resolver_sides, .ref a_resolver_minusPlaces, .int (nI g14)]))] := hD
      have hP9 := hP.sub (ws' := [(a_t, .inr (9, [.ref a_closers, .ref a_openers, .ref a_opened, .ref a_closed, .ref a_row, .ref a_resolver, .int z_together, .int (z_inConflict + 1)])), (a_row, .inr (8, [.ref a_row_parts, .ref a_row_firsts, .ref a_row_lasts, .int (nI n_row_size), .int z_row_operates, .int z_row_lacksOperand])), (a_row_parts, .inl (ka_row_parts, 90, .inl f_row_parts)), (a_row_firsts, .inl (ka_row_firsts, 90, .inl f_row_firsts)), (a_row_lasts, .inl (ka_row_lasts, 90, .inl f_row_lasts)), (a_resolver, .inr (7, [.ref a_resolver_pairFirsts, .ref a_resolver_pairLasts, .int (nI (((n_resolver_pairs)))), .int (nI (n_resolver_pairs)), .ref a_resolver_firsts, .ref a_resolver_lasts, .int (nI g13), .ref a_resolver_levels, .ref a_resolver_sides, .ref a_resolver_minusPlaces, .int (nI g14)])), (a_resolver_pairFirsts, .inl (ka_resolver_pairFirsts, 90, .inl g15)), (a_resolver_pairLasts, .inl (ka_resolver_pairLasts, 90, .inl g16)), (a_resolver_firsts, .inl (ka_resolver_firsts, 90, .inl g17)), (a_resolver_lasts, .inl (ka_resolver_lasts, 90, .inl g18)), (a_resolver_levels, .inl (ka_resolver_levels, 90, .inl g19)), (a_resolver_sides, .inl (ka_resolver_sides, 90, .inl g20)), (a_resolver_minusPlaces, .inl (ka_resolver_minusPlaces, 90, .inl g21)), (a_y0, .inr (11, [.ref a_y0_kinds, .ref a_y0_values, .int (nI n_y0_size)])), (a_y0_values, .inl (ka_y0_values, 362, .inr (.inl f_y0_values))), (a_y1, .inr (4, [.ref a_y1_names, .ref a_y1_sides, .ref a_y1_levels, .int (nI n_y1_size)])), (a_y1_names, .inl (ka_y1_names, 12, .inr (.inl f_y1_names))), (a_y1_sides, .inl (ka_y1_sides, 12, .inl f_y1_sides)), (a_y1_levels, .inl (ka_y1_levels, 12, .inl f_y1_levels))]) [0, 1, 2, 3, 4, 18, 5, 6, 7, 8, 9, 10, 11, 12, 13, 14, 15, 16, 17] rfl
      have hD9 := hD.sub (ws' := [(a_t, .inr (9, [.ref a_closers, .ref a_openers, .ref a_opened, .ref a_closed, .ref a_row, .ref a_resolver, .int z_together, .int (z_inConflict + 1)])), (a_row, .inr (8, [.ref a_row_parts, .ref a_row_firsts, .ref a_row_lasts, .int (nI n_row_size), .int z_row_operates, .int z_row_lacksOperand])), (a_row_parts, .inl (ka_row_parts, 90, .inl f_row_parts)), (a_row_firsts, .inl (ka_row_firsts, 90, .inl f_row_firsts)), (a_row_lasts, .inl (ka_row_lasts, 90, .inl f_row_lasts)), (a_resolver, .inr (7, [.ref a_resolver_pairFirsts, .ref a_resolver_pairLasts, .int (nI (((n_resolver_pairs)))), .int (nI (n_resolver_pairs)), .ref a_resolver_firsts, .ref a_resolver_lasts, .int (nI g13), .ref a_resolver_levels, .ref a_resolver_sides, .ref a_resolver_minusPlaces, .int (nI g14)])), (a_resolver_pairFirsts, .inl (ka_resolver_pairFirsts, 90, .inl g15)), (a_resolver_pairLasts, .inl (ka_resolver_pairLasts, 90, .inl g16)), (a_resolver_firsts, .inl (ka_resolver_firsts, 90, .inl g17)), (a_resolver_lasts, .inl (ka_resolver_lasts, 90, .inl g18)), (a_resolver_levels, .inl (ka_resolver_levels, 90, .inl g19)), (a_resolver_sides, .inl (ka_resolver_sides, 90, .inl g20)), (a_resolver_minusPlaces, .inl (ka_resolver_minusPlaces, 90, .inl g21)), (a_y0, .inr (11, [.ref a_y0_kinds, .ref a_y0_values, .int (nI n_y0_size)])), (a_y0_values, .inl (ka_y0_values, 362, .inr (.inl f_y0_values))), (a_y1, .inr (4, [.ref a_y1_names, .ref a_y1_sides, .ref a_y1_levels, .int (nI n_y1_size)])), (a_y1_names, .inl (ka_y1_names, 12, .inr (.inl f_y1_names))), (a_y1_sides, .inl (ka_y1_sides, 12, .inl f_y1_sides)), (a_y1_levels, .inl (ka_y1_levels, 12, .inl f_y1_levels))]) [0, 1, 2, 3, 4, 18, 5, 6, 7, 8, 9, 10, 11, 12, 13, 14, 15, 16, 17] (by decide) rfl
      exact W.vret hx hb hr (fun t ht hW => ⟨⟨(), rfl, trivial, z_together, ((z_inConflict + 1)), ((((n_resolver_pairs)))), ((n_resolver_pairs)), g13, g14, g15, g16, g17, g18, g19, g20, g21, by first | omega | assumption | exact Or.inl rfl | exact Or.inr rfl | decide, by first | omega | assumption | exact Or.inl rfl | exact Or.inr rfl | decide, by first | omega | assumption | exact Or.inl rfl | exact Or.inr rfl | decide, by first | omega | assumption | exact Or.inl rfl | exact Or.inr rfl | decide, by (intro _; exact ⟨rfl, rfl, rfl⟩), by (intro x9 hh; rw [rs_n (rs_s iE (some_n e27)) n_row_size (by omega)] at hh; cases hh), by exact pf_t iF hq1_24 (by omega), by first | omega | assumption | exact Or.inl rfl | exact Or.inr rfl | decide, by first | omega | assumption | exact Or.inl rfl | exact Or.inr rfl | decide, by rw [ht]; exact hP9, va_K.moved hW.alike hK, hD9⟩, hS.F ht⟩) hS.2.2 d_Rows_putRowTogether_47
/-! what a token is, as the class asks -/
section RWG
theorem wx_t (v : Int64) : ixE wWd v 9 0 = if (7628140 : Int64) = v then 0 else if (435710945399 : Int64) = v then 1 else if (28516 : Int64) = v then 2 else if (26223 : Int64) = v then 3 else if (28265 : Int64) = v then 4 else if (26217 : Int64) = v then 5 else if (1852139636 : Int64) = v then 6 else if (1702063205 : Int64) = v then 7 else if (1702060387 : Int64) = v then 8 else -1 := rfl
theorem wx_ix (v : Int64) : (ixE wWd v 9 0 = -1) ↔ wdB v = false := by
  rw [wx_t]
  by_cases h0 : (7628140 : Int64) = v
  · subst h0; exact ⟨fun h => absurd h (by decide), fun h => absurd h (by decide)⟩
  by_cases h1 : (435710945399 : Int64) = v
  · subst h1; exact ⟨fun h => absurd h (by decide), fun h => absurd h (by decide)⟩
  by_cases h2 : (28516 : Int64) = v
  · subst h2; exact ⟨fun h => absurd h (by decide), fun h => absurd h (by decide)⟩
  by_cases h3 : (26223 : Int64) = v
  · subst h3; exact ⟨fun h => absurd h (by decide), fun h => absurd h (by decide)⟩
  by_cases h4 : (28265 : Int64) = v
  · subst h4; exact ⟨fun h => absurd h (by decide), fun h => absurd h (by decide)⟩
  by_cases h5 : (26217 : Int64) = v
  · subst h5; exact ⟨fun h => absurd h (by decide), fun h => absurd h (by decide)⟩
  by_cases h6 : (1852139636 : Int64) = v
  · subst h6; exact ⟨fun h => absurd h (by decide), fun h => absurd h (by decide)⟩
  by_cases h7 : (1702063205 : Int64) = v
  · subst h7; exact ⟨fun h => absurd h (by decide), fun h => absurd h (by decide)⟩
  by_cases h8 : (1702060387 : Int64) = v
  · subst h8; exact ⟨fun h => absurd h (by decide), fun h => absurd h (by decide)⟩
  rw [if_neg h0, if_neg h1, if_neg h2, if_neg h3, if_neg h4, if_neg h5, if_neg h6, if_neg h7, if_neg h8]
  have g0 : ¬ v = (7628140 : Int64) := fun q => h0 q.symm
  have g1 : ¬ v = (435710945399 : Int64) := fun q => h1 q.symm
  have g2 : ¬ v = (28516 : Int64) := fun q => h2 q.symm
  have g3 : ¬ v = (26223 : Int64) := fun q => h3 q.symm
  have g4 : ¬ v = (28265 : Int64) := fun q => h4 q.symm
  have g5 : ¬ v = (26217 : Int64) := fun q => h5 q.symm
  have g6 : ¬ v = (1852139636 : Int64) := fun q => h6 q.symm
  have g7 : ¬ v = (1702063205 : Int64) := fun q => h7 q.symm
  have g8 : ¬ v = (1702060387 : Int64) := fun q => h8 q.symm
  exact ⟨fun _ => by simp [wdB, g0, g1, g2, g3, g4, g5, g6, g7, g8], fun _ => rfl⟩
theorem rx_t (v : Int64) : ixE wRs v 10 0 = if (61 : Int64) = v then 0 else if (15917 : Int64) = v then 1 else if (11580 : Int64) = v then 2 else if (124 : Int64) = v then 3 else if (14906 : Int64) = v then 4 else if (15933 : Int64) = v then 5 else if (92 : Int64) = v then 6 else if (64 : Int64) = v then 7 else if (126 : Int64) = v then 8 else if (11822 : Int64) = v then 9 else -1 := rfl
theorem rx_ix (v : Int64) : (ixE wRs v 10 0 = -1) ↔ rsB v = false := by
  rw [rx_t]
  by_cases h0 : (61 : Int64) = v
  · subst h0; exact ⟨fun h => absurd h (by decide), fun h => absurd h (by decide)⟩
  by_cases h1 : (15917 : Int64) = v
  · subst h1; exact ⟨fun h => absurd h (by decide), fun h => absurd h (by decide)⟩
  by_cases h2 : (11580 : Int64) = v
  · subst h2; exact ⟨fun h => absurd h (by decide), fun h => absurd h (by decide)⟩
  by_cases h3 : (124 : Int64) = v
  · subst h3; exact ⟨fun h => absurd h (by decide), fun h => absurd h (by decide)⟩
  by_cases h4 : (14906 : Int64) = v
  · subst h4; exact ⟨fun h => absurd h (by decide), fun h => absurd h (by decide)⟩
  by_cases h5 : (15933 : Int64) = v
  · subst h5; exact ⟨fun h => absurd h (by decide), fun h => absurd h (by decide)⟩
  by_cases h6 : (92 : Int64) = v
  · subst h6; exact ⟨fun h => absurd h (by decide), fun h => absurd h (by decide)⟩
  by_cases h7 : (64 : Int64) = v
  · subst h7; exact ⟨fun h => absurd h (by decide), fun h => absurd h (by decide)⟩
  by_cases h8 : (126 : Int64) = v
  · subst h8; exact ⟨fun h => absurd h (by decide), fun h => absurd h (by decide)⟩
  by_cases h9 : (11822 : Int64) = v
  · subst h9; exact ⟨fun h => absurd h (by decide), fun h => absurd h (by decide)⟩
  rw [if_neg h0, if_neg h1, if_neg h2, if_neg h3, if_neg h4, if_neg h5, if_neg h6, if_neg h7, if_neg h8, if_neg h9]
  have g0 : ¬ v = (61 : Int64) := fun q => h0 q.symm
  have g1 : ¬ v = (15917 : Int64) := fun q => h1 q.symm
  have g2 : ¬ v = (11580 : Int64) := fun q => h2 q.symm
  have g3 : ¬ v = (124 : Int64) := fun q => h3 q.symm
  have g4 : ¬ v = (14906 : Int64) := fun q => h4 q.symm
  have g5 : ¬ v = (15933 : Int64) := fun q => h5 q.symm
  have g6 : ¬ v = (92 : Int64) := fun q => h6 q.symm
  have g7 : ¬ v = (64 : Int64) := fun q => h7 q.symm
  have g8 : ¬ v = (126 : Int64) := fun q => h8 q.symm
  have g9 : ¬ v = (11822 : Int64) := fun q => h9 q.symm
  exact ⟨fun _ => by simp [rsB, g0, g1, g2, g3, g4, g5, g6, g7, g8, g9], fun _ => rfl⟩
variable {kd : Nat → Int32} {vl : Nat → Int64} {n i : Nat}
def obB (kd : Nat → Int32) (vl : Nat → Int64) (n i : Nat) : Bool := decide (i < n) && opn (kd i) (vl i)
def cbB (kd : Nat → Int32) (vl : Nat → Int64) (n i : Nat) : Bool := decide (i < n) && clo (kd i) (vl i)
def foB (kd : Nat → Int32) (vl : Nat → Int64) (n i : Nat) : Bool := decide (i < n) && (kd i == 2 && !rsB (vl i))
theorem i6_40 : i6 40 = 40 := by decide
theorem i6_91 : i6 91 = 91 := by decide
theorem i6_41 : i6 41 = 41 := by decide
theorem i6_93 : i6 93 = 93 := by decide
theorem i6_96 : i6 96 = 96 := by decide
theorem ob_e : obB kd vl n i = (sgB kd vl n i 40 || sgB kd vl n i 91) := by
  unfold obB sgB opn
  rw [i6_40, i6_91]
  cases decide (i < n) <;> cases kd i == 3 <;> cases vl i == 40 <;> cases vl i == 91 <;> rfl
theorem cb_e : cbB kd vl n i = (sgB kd vl n i 41 || sgB kd vl n i 93) := by
  unfold cbB sgB clo
  rw [i6_41, i6_93]
  cases decide (i < n) <;> cases kd i == 3 <;> cases vl i == 41 <;> cases vl i == 93 <;> rfl
theorem ob_a (h : sgB kd vl n i 40 = true) : (1 : Int32) = b01 (obB kd vl n i) := by rw [ob_e, h]; rfl
theorem ob_b (h : sgB kd vl n i 91 = true) : (1 : Int32) = b01 (obB kd vl n i) := by rw [ob_e, h, Bool.or_true]; rfl
theorem ob_n (h : sgB kd vl n i 40 = false) (h2 : sgB kd vl n i 91 = false) : (0 : Int32) = b01 (obB kd vl n i) := by rw [ob_e, h, h2]; rfl
theorem cb_a (h : sgB kd vl n i 41 = true) : (1 : Int32) = b01 (cbB kd vl n i) := by rw [cb_e, h]; rfl
theorem cb_b (h : sgB kd vl n i 93 = true) : (1 : Int32) = b01 (cbB kd vl n i) := by rw [cb_e, h, Bool.or_true]; rfl
theorem cb_n (h : sgB kd vl n i 41 = false) (h2 : sgB kd vl n i 93 = false) : (0 : Int32) = b01 (cbB kd vl n i) := by rw [cb_e, h, h2]; rfl
theorem fn_1 (h : ¬ i < n) : (0 : Int32) = b01 (nmB wdB kd vl n i) := by unfold nmB; rw [decide_eq_false h]; rfl
theorem fn_2 (q : ¬ kd i = 0) : (0 : Int32) = b01 (nmB wdB kd vl n i) := by unfold nmB; simp [q, b01]
theorem fn_3 (q : ¬ ixE wWd (vl i) 9 0 = -1) : (0 : Int32) = b01 (nmB wdB kd vl n i) := by
  have e : wdB (vl i) = true := by
    cases z : wdB (vl i)
    · exact absurd ((wx_ix _).mpr z) q
    · rfl
  unfold nmB; simp [e, b01]
theorem fn_4 (h : i < n) (q : kd i = 0) (r : ixE wWd (vl i) 9 0 = -1) : (1 : Int32) = b01 (nmB wdB kd vl n i) := by
  unfold nmB; simp [h, q, (wx_ix _).mp r, b01]
theorem fo_1 (h : ¬ i < n) : (0 : Int32) = b01 (foB kd vl n i) := by unfold foB; rw [decide_eq_false h]; rfl
theorem fo_2 (q : ¬ kd i = 2) : (0 : Int32) = b01 (foB kd vl n i) := by unfold foB; simp [q, b01]
theorem fo_3 (q : ¬ ixE wRs (vl i) 10 0 = -1) : (0 : Int32) = b01 (foB kd vl n i) := by
  have e : rsB (vl i) = true := by
    cases z : rsB (vl i)
    · exact absurd ((rx_ix _).mpr z) q
    · rfl
  unfold foB; simp [e, b01]
theorem fo_4 (h : i < n) (q : kd i = 2) (r : ixE wRs (vl i) 10 0 = -1) : (1 : Int32) = b01 (foB kd vl n i) := by
  unfold foB; simp [h, q, (rx_ix _).mp r, b01]
end RWG
set_option maxHeartbeats 4000000 in
set_option maxRecDepth 100000 in
theorem s_Tokens_opensBracket7 (l : Launch) (dC : Nat → ClassId) (dI : Nat → Nat → Nat) (sz : Nat) (cap : Nat) (a_t : Nat) (a_kinds : Nat) (f_kinds : Nat → Int32) (a_values : Nat) (f_values : Nat → Int64) (n_size : Nat) (y0 : Nat) (ka_kinds : ClassId) (ka_values : ClassId) (bcap : cap ≤ 600) (b_size : n_size ≤ cap) (by0 : y0 ≤ 600) : Met l y_Tokens_opensBracket w_Tokens_opensBracket ({ frames := 1, cells := 0, slots := 0, locals := 22 }) (va_Pc [.ref a_t, .int (nI y0)] (fun U => U.heap.size = sz ∧ va_P (dC, dI) vcl [(a_t, .inr (11, [.ref a_kinds, .ref a_values, .int (nI n_size)])), (a_kinds, .inl (ka_kinds, cap, .inl f_kinds)), (a_values, .inl (ka_values, cap, .inr (.inl f_values)))] U.heap ∧ va_K (dC, dI) vcl [(ka_kinds, .int), (ka_values, .long)] U ∧ va_D (fun _ => True) [(a_t, .inr (11, [.ref a_kinds, .ref a_values, .int (nI n_size)])), (a_kinds, .inl (ka_kinds, cap, .inl f_kinds)), (a_values, .inl (ka_values, cap, .inr (.inl f_values)))])) (va_Qi (fun (r : Int32) (_ : Unit) => (r = 0 ∨ r = 1) ∧ (r = b01 (obB f_kinds f_values n_size y0))) (fun _ t => va_P (dC, dI) vcl [(a_t, .inr (11, [.ref a_kinds, .ref a_values, .int (nI n_size)])), (a_kinds, .inl (ka_kinds, cap, .inl f_kinds)), (a_values, .inl (ka_values, cap, .inr (.inl f_values)))] t.heap ∧ va_K (dC, dI) vcl [(ka_kinds, .int), (ka_values, .long)] t ∧ va_D (va_A [(a_t, .inr (11, [.ref a_kinds, .ref a_values, .int (nI n_size)])), (a_kinds, .inl (ka_kinds, cap, .inl f_kinds)), (a_values, .inl (ka_values, cap, .inr (.inl f_values)))] sz) [(a_t, .inr (11, [.ref a_kinds, .ref a_values, .int (nI n_size)])), (a_kinds, .inl (ka_kinds, cap, .inl f_kinds)), (a_values, .inl (ka_values, cap, .inr (.inl f_values)))]) (va_A [(a_t, .inr (11, [.ref a_kinds, .ref a_values, .int (nI n_size)])), (a_kinds, .inl (ka_kinds, cap, .inl f_kinds)), (a_values, .inl (ka_values, cap, .inr (.inl f_values)))] sz)) 0 0 (va_A [(a_t, .inr (11, [.ref a_kinds, .ref a_values, .int (nI n_size)])), (a_kinds, .inl (ka_kinds, cap, .inl f_kinds)), (a_values, .inl (ka_values, cap, .inr (.inl f_values)))] sz) := by
  refine Met.ofW (cc := b_Tokens_opensBracket) (maxL := 2) (ret := (some .boolean)) (by decide) rfl ?_
  intro p e s m args below meth c s₁ B hml hv
  obtain ⟨rfl, hsz, hP, hK, hD0⟩ := hv
  have hx := B.exec
  have hb := B.bytes
  have hr := B.returns
  have hts := atoms_spec (ws := w_Tokens_opensBracket) B.pre
  have hz : ∀ w ∈ wz, w.before _ s = true := fun w h => hts w (List.mem_cons_of_mem _ h)
  have hown : s.vm.findClass R_Tokens = some m.cls := findClass_of_methodNamed B.named
  have hlocks := B.notSynchronized
  subst hsz
  have hD := hD0.self (sz := s.heap.size)
  generalize hAe : va_A [(a_t, .inr (11, [.ref a_kinds, .ref a_values, .int (nI n_size)])), (a_kinds, .inl (ka_kinds, cap, .inl f_kinds)), (a_values, .inl (ka_values, cap, .inr (.inl f_values)))] s.heap.size = A at hD ⊢
  have hA : ∀ q : Nat, s.heap.size ≤ q → A q := fun q h => by rw [← hAe]; exact Or.inr h
  have hS : va_S A s.heap s.heap [] := va_S.rf
  have hP : va_P (dC, dI) vcl [(a_t, .inr (11, [.ref a_kinds, .ref a_values, .int (nI n_size)])), (a_kinds, .inl (ka_kinds, cap, .inl f_kinds)), (a_values, .inl (ka_values, cap, .inr (.inl f_values)))] s.heap := hP
  have hl := lv_entry ([.ref a_t, .int (nI y0)]) (n := 2) (Nat.le_of_ble_eq_true rfl)
  rw [lg_entry_eq]
  generalize (lg_sl ([.ref a_t, .int (nI y0)]) ++ List.replicate (2 - (lg_sl ([.ref a_t, .int (nI y0)])).length) Slot.unset).toArray = ls at hl ⊢
  have hl : lv_has ls 2 [(0, .ref a_t), (1, .int (nI y0))] := hl
  refine lv_aload_n hx hb d_Tokens_opensBracket_0 rfl (lv_at hl 0 rfl) ?_
  refine lv_iload_n hx hb d_Tokens_opensBracket_1 rfl (lv_at hl 1 rfl) ?_
  refine lv_bipush (v := 40) hx hb d_Tokens_opensBracket_2 (by decide) ?_
  have hPc := hP.sub (ws' := [(a_t, .inr (11, [.ref a_kinds, .ref a_values, .int (nI n_size)])), (a_kinds, .inl (ka_kinds, cap, .inl f_kinds)), (a_values, .inl (ka_values, cap, .inr (.inl f_values)))]) [0, 1, 2] rfl
  have hDc := hD.sub (ws' := [(a_t, .inr (11, [.ref a_kinds, .ref a_values, .int (nI n_size)])), (a_kinds, .inl (ka_kinds, cap, .inl f_kinds)), (a_values, .inl (ka_values, cap, .inr (.inl f_values)))]) [0, 1, 2] (by decide) rfl
  have hKc := hK.sub (tys' := [(ka_kinds, .int), (ka_values, .long)]) [0, 1] rfl
  have hFc := va_free (wc := [(a_t, .inr (11, [.ref a_kinds, .ref a_values, .int (nI n_size)])), (a_kinds, .inl (ka_kinds, cap, .inl f_kinds)), (a_values, .inl (ka_values, cap, .inr (.inl f_values)))]) hD hS hA [0, 1, 2] rfl
  refine va_calli (va_runV (As := [.int (nI y0), .int 40]) (rest := []) ⟨hx, hb, hml, hown, hz⟩ (s_Tokens_isSign6 l dC dI s.heap.size cap a_t a_kinds f_kinds a_values f_values n_size y0 40 ka_kinds ka_values (by first | omega | assumption | exact Or.inl rfl | exact Or.inr rfl | decide) (by first | omega | assumption | exact Or.inl rfl | exact Or.inr rfl | decide) (by first | omega | assumption | exact Or.inl rfl | exact Or.inr rfl | decide)) (cwV 2 hz (zV zm_41 zm_42 zm_43 zm_35 zm_44) rfl rfl rfl (by decide +kernel) ⟨Nat.le_of_ble_eq_true rfl, Nat.le_of_ble_eq_true rfl⟩) ⟨fun a U g mk q => by obtain ⟨q0, q1, qP, qK, qD⟩ := q; exact ⟨q0, q1, qP, va_K.moved (u := U) (U := U.calling g mk a) (Vm.Alike.refl U.vm) qK, qD⟩, va_recv (q := (R_Tokens, F_Tokens, 3)) (q0 := 0) (ci := 11) hK hP rfl rfl, fun U hU hW => ⟨rfl, by rw [hU], by rw [hU]; exact hPc, va_K.moved hW.alike hKc, hDc.weaken (fun _ _ _ _ => trivial)⟩⟩ rfl rfl hl.1 rfl (lv_room (Nat.le_of_ble_eq_true rfl)) d_Tokens_opensBracket_4 ⟨Nat.zero_le _, Nat.zero_le _⟩) hS (fun q _ h => hFc q h) hFc (fun r u t H1 locs ht hvm hw_r hB hz1 hk1 hS => ?_)
  obtain ⟨hP1, hK1, hD1⟩ := hB
  obtain ⟨hb_r, he_r⟩ := hw_r
  subst r
  rw [ht] at hP1
  obtain ⟨hP, hD⟩ := va_join (wr := []) (w1 := [(a_t, .inr (11, [.ref a_kinds, .ref a_values, .int (nI n_size)])), (a_kinds, .inl (ka_kinds, cap, .inl f_kinds)), (a_values, .inl (ka_values, cap, .inr (.inl f_values)))]) hP hD [0, 1, 2] [] rfl rfl (by decide) (by decide) hk1 hFc hP1 hD1
  generalize H1 = H at hP hS ⊢
  have hP : va_P (dC, dI) vcl [(a_t, .inr (11, [.ref a_kinds, .ref a_values, .int (nI n_size)])), (a_kinds, .inl (ka_kinds, cap, .inl f_kinds)), (a_values, .inl (ka_values, cap, .inr (.inl f_values)))] H := hP
  have hD : va_D A [(a_t, .inr (11, [.ref a_kinds, .ref a_values, .int (nI n_size)])), (a_kinds, .inl (ka_kinds, cap, .inl f_kinds)), (a_values, .inl (ka_values, cap, .inr (.inl f_values)))] := hD
  refine lv_if_ne (tgt := 20) hx hb d_Tokens_opensBracket_7 (by decide) (fun h1 => ?_) (fun h1 => ?_)
  · have e7 := h1
    refine lv_iconst (v := 1) hx hb d_Tokens_opensBracket_20 (by decide) ?_
    refine lv_goto (tgt := 25) hx hb d_Tokens_opensBracket_21 (by decide) ?_
    have hP9 := hP.sub (ws' := [(a_t, .inr (11, [.ref a_kinds, .ref a_values, .int (nI n_size)])), (a_kinds, .inl (ka_kinds, cap, .inl f_kinds)), (a_values, .inl (ka_values, cap, .inr (.inl f_values)))]) [0, 1, 2] rfl
    have hD9 := hD.sub (ws' := [(a_t, .inr (11, [.ref a_kinds, .ref a_values, .int (nI n_size)])), (a_kinds, .inl (ka_kinds, cap, .inl f_kinds)), (a_values, .inl (ka_values, cap, .inr (.inl f_values)))]) [0, 1, 2] (by decide) rfl
    exact W.zret (v := 1) hx hb hr (by decide +kernel) (fun t ht hW => ⟨⟨1, (), rfl, ⟨(by first | assumption | exact Or.inl rfl | exact Or.inr rfl), (by exact ob_a (b01_yes e7))⟩, by rw [ht]; exact hP9, va_K.moved hW.alike hK, hD9⟩, hS.F ht⟩) hS.2.2 d_Tokens_opensBracket_25
  · have e7 := h1
    refine lv_aload_n hx hb d_Tokens_opensBracket_10 rfl (lv_at hl 0 rfl) ?_
    refine lv_iload_n hx hb d_Tokens_opensBracket_11 rfl (lv_at hl 1 rfl) ?_
    refine lv_bipush (v := 91) hx hb d_Tokens_opensBracket_12 (by decide) ?_
    have hPc := hP.sub (ws' := [(a_t, .inr (11, [.ref a_kinds, .ref a_values, .int (nI n_size)])), (a_kinds, .inl (ka_kinds, cap, .inl f_kinds)), (a_values, .inl (ka_values, cap, .inr (.inl f_values)))]) [0, 1, 2] rfl
    have hDc := hD.sub (ws' := [(a_t, .inr (11, [.ref a_kinds, .ref a_values, .int (nI n_size)])), (a_kinds, .inl (ka_kinds, cap, .inl f_kinds)), (a_values, .inl (ka_values, cap, .inr (.inl f_values)))]) [0, 1, 2] (by decide) rfl
    have hKc := hK.sub (tys' := [(ka_kinds, .int), (ka_values, .long)]) [0, 1] rfl
    have hFc := va_free (wc := [(a_t, .inr (11, [.ref a_kinds, .ref a_values, .int (nI n_size)])), (a_kinds, .inl (ka_kinds, cap, .inl f_kinds)), (a_values, .inl (ka_values, cap, .inr (.inl f_values)))]) hD hS hA [0, 1, 2] rfl
    refine va_calli (va_runV (As := [.int (nI y0), .int 91]) (rest := []) ⟨hx, hb, hml, hown, hz⟩ (s_Tokens_isSign6 l dC dI H.size cap a_t a_kinds f_kinds a_values f_values n_size y0 91 ka_kinds ka_values (by first | omega | assumption | exact Or.inl rfl | exact Or.inr rfl | decide) (by first | omega | assumption | exact Or.inl rfl | exact Or.inr rfl | decide) (by first | omega | assumption | exact Or.inl rfl | exact Or.inr rfl | decide)) (cwV 2 hz (zV zm_41 zm_42 zm_43 zm_35 zm_44) rfl rfl rfl (by decide +kernel) ⟨Nat.le_of_ble_eq_true rfl, Nat.le_of_ble_eq_true rfl⟩) ⟨fun a U g mk q => by obtain ⟨q0, q1, qP, qK, qD⟩ := q; exact ⟨q0, q1, qP, va_K.moved (u := U) (U := U.calling g mk a) (Vm.Alike.refl U.vm) qK, qD⟩, va_recv (q := (R_Tokens, F_Tokens, 3)) (q0 := 0) (ci := 11) hK hP rfl rfl, fun U hU hW => ⟨rfl, by rw [hU], by rw [hU]; exact hPc, va_K.moved hW.alike hKc, hDc.weaken (fun _ _ _ _ => trivial)⟩⟩ rfl rfl hl.1 rfl (lv_room (Nat.le_of_ble_eq_true rfl)) d_Tokens_opensBracket_14 ⟨Nat.zero_le _, Nat.zero_le _⟩) hS (fun q _ h => hFc q h) hFc (fun r u t H1 locs ht hvm hw_r hB hz1 hk1 hS => ?_)
    obtain ⟨hP1, hK1, hD1⟩ := hB
    obtain ⟨hb_r, he_r⟩ := hw_r
    subst r
    rw [ht] at hP1
    obtain ⟨hP, hD⟩ := va_join (wr := []) (w1 := [(a_t, .inr (11, [.ref a_kinds, .ref a_values, .int (nI n_size)])), (a_kinds, .inl (ka_kinds, cap, .inl f_kinds)), (a_values, .inl (ka_values, cap, .inr (.inl f_values)))]) hP hD [0, 1, 2] [] rfl rfl (by decide) (by decide) hk1 hFc hP1 hD1
    generalize H1 = H at hP hS ⊢
    have hP : va_P (dC, dI) vcl [(a_t, .inr (11, [.ref a_kinds, .ref a_values, .int (nI n_size)])), (a_kinds, .inl (ka_kinds, cap, .inl f_kinds)), (a_values, .inl (ka_values, cap, .inr (.inl f_values)))] H := hP
    have hD : va_D A [(a_t, .inr (11, [.ref a_kinds, .ref a_values, .int (nI n_size)])), (a_kinds, .inl (ka_kinds, cap, .inl f_kinds)), (a_values, .inl (ka_values, cap, .inr (.inl f_values)))] := hD
    refine lv_if_eq (tgt := 24) hx hb d_Tokens_opensBracket_17 (by decide) (fun h2 => ?_) (fun h2 => ?_)
    · have e17 := h2
      refine lv_iconst (v := 0) hx hb d_Tokens_opensBracket_24 (by decide) ?_
      have hP9 := hP.sub (ws' := [(a_t, .inr (11, [.ref a_kinds, .ref a_values, .int (nI n_size)])), (a_kinds, .inl (ka_kinds, cap, .inl f_kinds)), (a_values, .inl (ka_values, cap, .inr (.inl f_values)))]) [0, 1, 2] rfl
      have hD9 := hD.sub (ws' := [(a_t, .inr (11, [.ref a_kinds, .ref a_values, .int (nI n_size)])), (a_kinds, .inl (ka_kinds, cap, .inl f_kinds)), (a_values, .inl (ka_values, cap, .inr (.inl f_values)))]) [0, 1, 2] (by decide) rfl
      exact W.zret (v := 0) hx hb hr (by decide +kernel) (fun t ht hW => ⟨⟨0, (), rfl, ⟨(by first | assumption | exact Or.inl rfl | exact Or.inr rfl), (by exact ob_n (b01_no e7) (b01_no e17))⟩, by rw [ht]; exact hP9, va_K.moved hW.alike hK, hD9⟩, hS.F ht⟩) hS.2.2 d_Tokens_opensBracket_25
    · have e17 := h2
      refine lv_iconst (v := 1) hx hb d_Tokens_opensBracket_20 (by decide) ?_
      refine lv_goto (tgt := 25) hx hb d_Tokens_opensBracket_21 (by decide) ?_
      have hP9 := hP.sub (ws' := [(a_t, .inr (11, [.ref a_kinds, .ref a_values, .int (nI n_size)])), (a_kinds, .inl (ka_kinds, cap, .inl f_kinds)), (a_values, .inl (ka_values, cap, .inr (.inl f_values)))]) [0, 1, 2] rfl
      have hD9 := hD.sub (ws' := [(a_t, .inr (11, [.ref a_kinds, .ref a_values, .int (nI n_size)])), (a_kinds, .inl (ka_kinds, cap, .inl f_kinds)), (a_values, .inl (ka_values, cap, .inr (.inl f_values)))]) [0, 1, 2] (by decide) rfl
      exact W.zret (v := 1) hx hb hr (by decide +kernel) (fun t ht hW => ⟨⟨1, (), rfl, ⟨(by first | assumption | exact Or.inl rfl | exact Or.inr rfl), (by exact ob_b (b01_yes e17))⟩, by rw [ht]; exact hP9, va_K.moved hW.alike hK, hD9⟩, hS.F ht⟩) hS.2.2 d_Tokens_opensBracket_25
set_option maxHeartbeats 4000000 in
set_option maxRecDepth 100000 in
theorem s_Tokens_closesBracket7 (l : Launch) (dC : Nat → ClassId) (dI : Nat → Nat → Nat) (sz : Nat) (cap : Nat) (a_t : Nat) (a_kinds : Nat) (f_kinds : Nat → Int32) (a_values : Nat) (f_values : Nat → Int64) (n_size : Nat) (y0 : Nat) (ka_kinds : ClassId) (ka_values : ClassId) (bcap : cap ≤ 600) (b_size : n_size ≤ cap) (by0 : y0 ≤ 600) : Met l y_Tokens_closesBracket w_Tokens_closesBracket ({ frames := 1, cells := 0, slots := 0, locals := 22 }) (va_Pc [.ref a_t, .int (nI y0)] (fun U => U.heap.size = sz ∧ va_P (dC, dI) vcl [(a_t, .inr (11, [.ref a_kinds, .ref a_values, .int (nI n_size)])), (a_kinds, .inl (ka_kinds, cap, .inl f_kinds)), (a_values, .inl (ka_values, cap, .inr (.inl f_values)))] U.heap ∧ va_K (dC, dI) vcl [(ka_kinds, .int), (ka_values, .long)] U ∧ va_D (fun _ => True) [(a_t, .inr (11, [.ref a_kinds, .ref a_values, .int (nI n_size)])), (a_kinds, .inl (ka_kinds, cap, .inl f_kinds)), (a_values, .inl (ka_values, cap, .inr (.inl f_values)))])) (va_Qi (fun (r : Int32) (_ : Unit) => (r = 0 ∨ r = 1) ∧ (r = b01 (cbB f_kinds f_values n_size y0))) (fun _ t => va_P (dC, dI) vcl [(a_t, .inr (11, [.ref a_kinds, .ref a_values, .int (nI n_size)])), (a_kinds, .inl (ka_kinds, cap, .inl f_kinds)), (a_values, .inl (ka_values, cap, .inr (.inl f_values)))] t.heap ∧ va_K (dC, dI) vcl [(ka_kinds, .int), (ka_values, .long)] t ∧ va_D (va_A [(a_t, .inr (11, [.ref a_kinds, .ref a_values, .int (nI n_size)])), (a_kinds, .inl (ka_kinds, cap, .inl f_kinds)), (a_values, .inl (ka_values, cap, .inr (.inl f_values)))] sz) [(a_t, .inr (11, [.ref a_kinds, .ref a_values, .int (nI n_size)])), (a_kinds, .inl (ka_kinds, cap, .inl f_kinds)), (a_values, .inl (ka_values, cap, .inr (.inl f_values)))]) (va_A [(a_t, .inr (11, [.ref a_kinds, .ref a_values, .int (nI n_size)])), (a_kinds, .inl (ka_kinds, cap, .inl f_kinds)), (a_values, .inl (ka_values, cap, .inr (.inl f_values)))] sz)) 0 0 (va_A [(a_t, .inr (11, [.ref a_kinds, .ref a_values, .int (nI n_size)])), (a_kinds, .inl (ka_kinds, cap, .inl f_kinds)), (a_values, .inl (ka_values, cap, .inr (.inl f_values)))] sz) := by
  refine Met.ofW (cc := b_Tokens_closesBracket) (maxL := 2) (ret := (some .boolean)) (by decide) rfl ?_
  intro p e s m args below meth c s₁ B hml hv
  obtain ⟨rfl, hsz, hP, hK, hD0⟩ := hv
  have hx := B.exec
  have hb := B.bytes
  have hr := B.returns
  have hts := atoms_spec (ws := w_Tokens_closesBracket) B.pre
  have hz : ∀ w ∈ wz, w.before _ s = true := fun w h => hts w (List.mem_cons_of_mem _ h)
  have hown : s.vm.findClass R_Tokens = some m.cls := findClass_of_methodNamed B.named
  have hlocks := B.notSynchronized
  subst hsz
  have hD := hD0.self (sz := s.heap.size)
  generalize hAe : va_A [(a_t, .inr (11, [.ref a_kinds, .ref a_values, .int (nI n_size)])), (a_kinds, .inl (ka_kinds, cap, .inl f_kinds)), (a_values, .inl (ka_values, cap, .inr (.inl f_values)))] s.heap.size = A at hD ⊢
  have hA : ∀ q : Nat, s.heap.size ≤ q → A q := fun q h => by rw [← hAe]; exact Or.inr h
  have hS : va_S A s.heap s.heap [] := va_S.rf
  have hP : va_P (dC, dI) vcl [(a_t, .inr (11, [.ref a_kinds, .ref a_values, .int (nI n_size)])), (a_kinds, .inl (ka_kinds, cap, .inl f_kinds)), (a_values, .inl (ka_values, cap, .inr (.inl f_values)))] s.heap := hP
  have hl := lv_entry ([.ref a_t, .int (nI y0)]) (n := 2) (Nat.le_of_ble_eq_true rfl)
  rw [lg_entry_eq]
  generalize (lg_sl ([.ref a_t, .int (nI y0)]) ++ List.replicate (2 - (lg_sl ([.ref a_t, .int (nI y0)])).length) Slot.unset).toArray = ls at hl ⊢
  have hl : lv_has ls 2 [(0, .ref a_t), (1, .int (nI y0))] := hl
  refine lv_aload_n hx hb d_Tokens_closesBracket_0 rfl (lv_at hl 0 rfl) ?_
  refine lv_iload_n hx hb d_Tokens_closesBracket_1 rfl (lv_at hl 1 rfl) ?_
  refine lv_bipush (v := 41) hx hb d_Tokens_closesBracket_2 (by decide) ?_
  have hPc := hP.sub (ws' := [(a_t, .inr (11, [.ref a_kinds, .ref a_values, .int (nI n_size)])), (a_kinds, .inl (ka_kinds, cap, .inl f_kinds)), (a_values, .inl (ka_values, cap, .inr (.inl f_values)))]) [0, 1, 2] rfl
  have hDc := hD.sub (ws' := [(a_t, .inr (11, [.ref a_kinds, .ref a_values, .int (nI n_size)])), (a_kinds, .inl (ka_kinds, cap, .inl f_kinds)), (a_values, .inl (ka_values, cap, .inr (.inl f_values)))]) [0, 1, 2] (by decide) rfl
  have hKc := hK.sub (tys' := [(ka_kinds, .int), (ka_values, .long)]) [0, 1] rfl
  have hFc := va_free (wc := [(a_t, .inr (11, [.ref a_kinds, .ref a_values, .int (nI n_size)])), (a_kinds, .inl (ka_kinds, cap, .inl f_kinds)), (a_values, .inl (ka_values, cap, .inr (.inl f_values)))]) hD hS hA [0, 1, 2] rfl
  refine va_calli (va_runV (As := [.int (nI y0), .int 41]) (rest := []) ⟨hx, hb, hml, hown, hz⟩ (s_Tokens_isSign6 l dC dI s.heap.size cap a_t a_kinds f_kinds a_values f_values n_size y0 41 ka_kinds ka_values (by first | omega | assumption | exact Or.inl rfl | exact Or.inr rfl | decide) (by first | omega | assumption | exact Or.inl rfl | exact Or.inr rfl | decide) (by first | omega | assumption | exact Or.inl rfl | exact Or.inr rfl | decide)) (cwV 2 hz (zV zm_41 zm_42 zm_43 zm_35 zm_44) rfl rfl rfl (by decide +kernel) ⟨Nat.le_of_ble_eq_true rfl, Nat.le_of_ble_eq_true rfl⟩) ⟨fun a U g mk q => by obtain ⟨q0, q1, qP, qK, qD⟩ := q; exact ⟨q0, q1, qP, va_K.moved (u := U) (U := U.calling g mk a) (Vm.Alike.refl U.vm) qK, qD⟩, va_recv (q := (R_Tokens, F_Tokens, 3)) (q0 := 0) (ci := 11) hK hP rfl rfl, fun U hU hW => ⟨rfl, by rw [hU], by rw [hU]; exact hPc, va_K.moved hW.alike hKc, hDc.weaken (fun _ _ _ _ => trivial)⟩⟩ rfl rfl hl.1 rfl (lv_room (Nat.le_of_ble_eq_true rfl)) d_Tokens_closesBracket_4 ⟨Nat.zero_le _, Nat.zero_le _⟩) hS (fun q _ h => hFc q h) hFc (fun r u t H1 locs ht hvm hw_r hB hz1 hk1 hS => ?_)
  obtain ⟨hP1, hK1, hD1⟩ := hB
  obtain ⟨hb_r, he_r⟩ := hw_r
  subst r
  rw [ht] at hP1
  obtain ⟨hP, hD⟩ := va_join (wr := []) (w1 := [(a_t, .inr (11, [.ref a_kinds, .ref a_values, .int (nI n_size)])), (a_kinds, .inl (ka_kinds, cap, .inl f_kinds)), (a_values, .inl (ka_values, cap, .inr (.inl f_values)))]) hP hD [0, 1, 2] [] rfl rfl (by decide) (by decide) hk1 hFc hP1 hD1
  generalize H1 = H at hP hS ⊢
  have hP : va_P (dC, dI) vcl [(a_t, .inr (11, [.ref a_kinds, .ref a_values, .int (nI n_size)])), (a_kinds, .inl (ka_kinds, cap, .inl f_kinds)), (a_values, .inl (ka_values, cap, .inr (.inl f_values)))] H := hP
  have hD : va_D A [(a_t, .inr (11, [.ref a_kinds, .ref a_values, .int (nI n_size)])), (a_kinds, .inl (ka_kinds, cap, .inl f_kinds)), (a_values, .inl (ka_values, cap, .inr (.inl f_values)))] := hD
  refine lv_if_ne (tgt := 20) hx hb d_Tokens_closesBracket_7 (by decide) (fun h1 => ?_) (fun h1 => ?_)
  · have e7 := h1
    refine lv_iconst (v := 1) hx hb d_Tokens_closesBracket_20 (by decide) ?_
    refine lv_goto (tgt := 25) hx hb d_Tokens_closesBracket_21 (by decide) ?_
    have hP9 := hP.sub (ws' := [(a_t, .inr (11, [.ref a_kinds, .ref a_values, .int (nI n_size)])), (a_kinds, .inl (ka_kinds, cap, .inl f_kinds)), (a_values, .inl (ka_values, cap, .inr (.inl f_values)))]) [0, 1, 2] rfl
    have hD9 := hD.sub (ws' := [(a_t, .inr (11, [.ref a_kinds, .ref a_values, .int (nI n_size)])), (a_kinds, .inl (ka_kinds, cap, .inl f_kinds)), (a_values, .inl (ka_values, cap, .inr (.inl f_values)))]) [0, 1, 2] (by decide) rfl
    exact W.zret (v := 1) hx hb hr (by decide +kernel) (fun t ht hW => ⟨⟨1, (), rfl, ⟨(by first | assumption | exact Or.inl rfl | exact Or.inr rfl), (by exact cb_a (b01_yes e7))⟩, by rw [ht]; exact hP9, va_K.moved hW.alike hK, hD9⟩, hS.F ht⟩) hS.2.2 d_Tokens_closesBracket_25
  · have e7 := h1
    refine lv_aload_n hx hb d_Tokens_closesBracket_10 rfl (lv_at hl 0 rfl) ?_
    refine lv_iload_n hx hb d_Tokens_closesBracket_11 rfl (lv_at hl 1 rfl) ?_
    refine lv_bipush (v := 93) hx hb d_Tokens_closesBracket_12 (by decide) ?_
    have hPc := hP.sub (ws' := [(a_t, .inr (11, [.ref a_kinds, .ref a_values, .int (nI n_size)])), (a_kinds, .inl (ka_kinds, cap, .inl f_kinds)), (a_values, .inl (ka_values, cap, .inr (.inl f_values)))]) [0, 1, 2] rfl
    have hDc := hD.sub (ws' := [(a_t, .inr (11, [.ref a_kinds, .ref a_values, .int (nI n_size)])), (a_kinds, .inl (ka_kinds, cap, .inl f_kinds)), (a_values, .inl (ka_values, cap, .inr (.inl f_values)))]) [0, 1, 2] (by decide) rfl
    have hKc := hK.sub (tys' := [(ka_kinds, .int), (ka_values, .long)]) [0, 1] rfl
    have hFc := va_free (wc := [(a_t, .inr (11, [.ref a_kinds, .ref a_values, .int (nI n_size)])), (a_kinds, .inl (ka_kinds, cap, .inl f_kinds)), (a_values, .inl (ka_values, cap, .inr (.inl f_values)))]) hD hS hA [0, 1, 2] rfl
    refine va_calli (va_runV (As := [.int (nI y0), .int 93]) (rest := []) ⟨hx, hb, hml, hown, hz⟩ (s_Tokens_isSign6 l dC dI H.size cap a_t a_kinds f_kinds a_values f_values n_size y0 93 ka_kinds ka_values (by first | omega | assumption | exact Or.inl rfl | exact Or.inr rfl | decide) (by first | omega | assumption | exact Or.inl rfl | exact Or.inr rfl | decide) (by first | omega | assumption | exact Or.inl rfl | exact Or.inr rfl | decide)) (cwV 2 hz (zV zm_41 zm_42 zm_43 zm_35 zm_44) rfl rfl rfl (by decide +kernel) ⟨Nat.le_of_ble_eq_true rfl, Nat.le_of_ble_eq_true rfl⟩) ⟨fun a U g mk q => by obtain ⟨q0, q1, qP, qK, qD⟩ := q; exact ⟨q0, q1, qP, va_K.moved (u := U) (U := U.calling g mk a) (Vm.Alike.refl U.vm) qK, qD⟩, va_recv (q := (R_Tokens, F_Tokens, 3)) (q0 := 0) (ci := 11) hK hP rfl rfl, fun U hU hW => ⟨rfl, by rw [hU], by rw [hU]; exact hPc, va_K.moved hW.alike hKc, hDc.weaken (fun _ _ _ _ => trivial)⟩⟩ rfl rfl hl.1 rfl (lv_room (Nat.le_of_ble_eq_true rfl)) d_Tokens_closesBracket_14 ⟨Nat.zero_le _, Nat.zero_le _⟩) hS (fun q _ h => hFc q h) hFc (fun r u t H1 locs ht hvm hw_r hB hz1 hk1 hS => ?_)
    obtain ⟨hP1, hK1, hD1⟩ := hB
    obtain ⟨hb_r, he_r⟩ := hw_r
    subst r
    rw [ht] at hP1
    obtain ⟨hP, hD⟩ := va_join (wr := []) (w1 := [(a_t, .inr (11, [.ref a_kinds, .ref a_values, .int (nI n_size)])), (a_kinds, .inl (ka_kinds, cap, .inl f_kinds)), (a_values, .inl (ka_values, cap, .inr (.inl f_values)))]) hP hD [0, 1, 2] [] rfl rfl (by decide) (by decide) hk1 hFc hP1 hD1
    generalize H1 = H at hP hS ⊢
    have hP : va_P (dC, dI) vcl [(a_t, .inr (11, [.ref a_kinds, .ref a_values, .int (nI n_size)])), (a_kinds, .inl (ka_kinds, cap, .inl f_kinds)), (a_values, .inl (ka_values, cap, .inr (.inl f_values)))] H := hP
    have hD : va_D A [(a_t, .inr (11, [.ref a_kinds, .ref a_values, .int (nI n_size)])), (a_kinds, .inl (ka_kinds, cap, .inl f_kinds)), (a_values, .inl (ka_values, cap, .inr (.inl f_values)))] := hD
    refine lv_if_eq (tgt := 24) hx hb d_Tokens_closesBracket_17 (by decide) (fun h2 => ?_) (fun h2 => ?_)
    · have e17 := h2
      refine lv_iconst (v := 0) hx hb d_Tokens_closesBracket_24 (by decide) ?_
      have hP9 := hP.sub (ws' := [(a_t, .inr (11, [.ref a_kinds, .ref a_values, .int (nI n_size)])), (a_kinds, .inl (ka_kinds, cap, .inl f_kinds)), (a_values, .inl (ka_values, cap, .inr (.inl f_values)))]) [0, 1, 2] rfl
      have hD9 := hD.sub (ws' := [(a_t, .inr (11, [.ref a_kinds, .ref a_values, .int (nI n_size)])), (a_kinds, .inl (ka_kinds, cap, .inl f_kinds)), (a_values, .inl (ka_values, cap, .inr (.inl f_values)))]) [0, 1, 2] (by decide) rfl
      exact W.zret (v := 0) hx hb hr (by decide +kernel) (fun t ht hW => ⟨⟨0, (), rfl, ⟨(by first | assumption | exact Or.inl rfl | exact Or.inr rfl), (by exact cb_n (b01_no e7) (b01_no e17))⟩, by rw [ht]; exact hP9, va_K.moved hW.alike hK, hD9⟩, hS.F ht⟩) hS.2.2 d_Tokens_closesBracket_25
    · have e17 := h2
      refine lv_iconst (v := 1) hx hb d_Tokens_closesBracket_20 (by decide) ?_
      refine lv_goto (tgt := 25) hx hb d_Tokens_closesBracket_21 (by decide) ?_
      have hP9 := hP.sub (ws' := [(a_t, .inr (11, [.ref a_kinds, .ref a_values, .int (nI n_size)])), (a_kinds, .inl (ka_kinds, cap, .inl f_kinds)), (a_values, .inl (ka_values, cap, .inr (.inl f_values)))]) [0, 1, 2] rfl
      have hD9 := hD.sub (ws' := [(a_t, .inr (11, [.ref a_kinds, .ref a_values, .int (nI n_size)])), (a_kinds, .inl (ka_kinds, cap, .inl f_kinds)), (a_values, .inl (ka_values, cap, .inr (.inl f_values)))]) [0, 1, 2] (by decide) rfl
      exact W.zret (v := 1) hx hb hr (by decide +kernel) (fun t ht hW => ⟨⟨1, (), rfl, ⟨(by first | assumption | exact Or.inl rfl | exact Or.inr rfl), (by exact cb_b (b01_yes e17))⟩, by rw [ht]; exact hP9, va_K.moved hW.alike hK, hD9⟩, hS.F ht⟩) hS.2.2 d_Tokens_closesBracket_25
set_option maxHeartbeats 4000000 in
set_option maxRecDepth 100000 in
theorem s_Tokens_isFreeName7 (l : Launch) (dC : Nat → ClassId) (dI : Nat → Nat → Nat) (sz : Nat) (cap : Nat) (a_t : Nat) (a_kinds : Nat) (f_kinds : Nat → Int32) (a_values : Nat) (f_values : Nat → Int64) (n_size : Nat) (y0 : Nat) (ka_kinds : ClassId) (ka_values : ClassId) (bcap : cap ≤ 600) (b_size : n_size ≤ cap) (by0 : y0 ≤ 600) : Met l y_Tokens_isFreeName w_Tokens_isFreeName ({ frames := 1, cells := 0, slots := 0, locals := 23 }) (va_Pc [.ref a_t, .int (nI y0)] (fun U => U.heap.size = sz ∧ va_P (dC, dI) vcl [(a_t, .inr (11, [.ref a_kinds, .ref a_values, .int (nI n_size)])), (a_kinds, .inl (ka_kinds, cap, .inl f_kinds)), (a_values, .inl (ka_values, cap, .inr (.inl f_values)))] U.heap ∧ va_K (dC, dI) vcl [(ka_kinds, .int), (ka_values, .long)] U ∧ va_D (fun _ => True) [(a_t, .inr (11, [.ref a_kinds, .ref a_values, .int (nI n_size)])), (a_kinds, .inl (ka_kinds, cap, .inl f_kinds)), (a_values, .inl (ka_values, cap, .inr (.inl f_values)))] ∧ cx_E (va_A [(a_t, .inr (11, [.ref a_kinds, .ref a_values, .int (nI n_size)])), (a_kinds, .inl (ka_kinds, cap, .inl f_kinds)), (a_values, .inl (ka_values, cap, .inr (.inl f_values)))] sz) U U.heap)) (va_Qi (fun (r : Int32) (_ : Unit) => (r = 0 ∨ r = 1) ∧ (r = b01 (nmB wdB f_kinds f_values n_size y0))) (fun _ t => va_P (dC, dI) vcl [(a_t, .inr (11, [.ref a_kinds, .ref a_values, .int (nI n_size)])), (a_kinds, .inl (ka_kinds, cap, .inl f_kinds)), (a_values, .inl (ka_values, cap, .inr (.inl f_values)))] t.heap ∧ va_K (dC, dI) vcl [(ka_kinds, .int), (ka_values, .long)] t ∧ va_D (va_A [(a_t, .inr (11, [.ref a_kinds, .ref a_values, .int (nI n_size)])), (a_kinds, .inl (ka_kinds, cap, .inl f_kinds)), (a_values, .inl (ka_values, cap, .inr (.inl f_values)))] sz) [(a_t, .inr (11, [.ref a_kinds, .ref a_values, .int (nI n_size)])), (a_kinds, .inl (ka_kinds, cap, .inl f_kinds)), (a_values, .inl (ka_values, cap, .inr (.inl f_values)))]) (va_A [(a_t, .inr (11, [.ref a_kinds, .ref a_values, .int (nI n_size)])), (a_kinds, .inl (ka_kinds, cap, .inl f_kinds)), (a_values, .inl (ka_values, cap, .inr (.inl f_values)))] sz)) 0 0 (va_A [(a_t, .inr (11, [.ref a_kinds, .ref a_values, .int (nI n_size)])), (a_kinds, .inl (ka_kinds, cap, .inl f_kinds)), (a_values, .inl (ka_values, cap, .inr (.inl f_values)))] sz) := by
  refine Met.ofW (cc := b_Tokens_isFreeName) (maxL := 2) (ret := (some .boolean)) (by decide) rfl ?_
  intro p e s m args below meth c s₁ B hml hv
  obtain ⟨rfl, hsz, hP, hK, hD0, hE⟩ := hv
  have hx := B.exec
  have hb := B.bytes
  have hr := B.returns
  have hts := atoms_spec (ws := w_Tokens_isFreeName) B.pre
  have hz : ∀ w ∈ wz, w.before _ s = true := fun w h => hts w (List.mem_cons_of_mem _ h)
  have hown : s.vm.findClass R_Tokens = some m.cls := findClass_of_methodNamed B.named
  have hlocks := B.notSynchronized
  subst hsz
  have hD := hD0.self (sz := s.heap.size)
  generalize hAe : va_A [(a_t, .inr (11, [.ref a_kinds, .ref a_values, .int (nI n_size)])), (a_kinds, .inl (ka_kinds, cap, .inl f_kinds)), (a_values, .inl (ka_values, cap, .inr (.inl f_values)))] s.heap.size = A at hD hE ⊢
  have hA : ∀ q : Nat, s.heap.size ≤ q → A q := fun q h => by rw [← hAe]; exact Or.inr h
  have hS : va_S A s.heap s.heap [] := va_S.rf
  have hP : va_P (dC, dI) vcl [(a_t, .inr (11, [.ref a_kinds, .ref a_values, .int (nI n_size)])), (a_kinds, .inl (ka_kinds, cap, .inl f_kinds)), (a_values, .inl (ka_values, cap, .inr (.inl f_values)))] s.heap := hP
  have hl := lv_entry ([.ref a_t, .int (nI y0)]) (n := 2) (Nat.le_of_ble_eq_true rfl)
  rw [lg_entry_eq]
  generalize (lg_sl ([.ref a_t, .int (nI y0)]) ++ List.replicate (2 - (lg_sl ([.ref a_t, .int (nI y0)])).length) Slot.unset).toArray = ls at hl ⊢
  have hl : lv_has ls 2 [(0, .ref a_t), (1, .int (nI y0))] := hl
  refine lv_aload_n hx hb d_Tokens_isFreeName_0 rfl (lv_at hl 0 rfl) ?_
  refine lv_iload_n hx hb d_Tokens_isFreeName_1 rfl (lv_at hl 1 rfl) ?_
  have hPc := hP.sub (ws' := [(a_t, .inr (11, [.ref a_kinds, .ref a_values, .int (nI n_size)]))]) [0] rfl
  have hDc := hD.sub (ws' := [(a_t, .inr (11, [.ref a_kinds, .ref a_values, .int (nI n_size)]))]) [0] (by decide) rfl
  have hKc := hK.sub (tys' := []) [] rfl
  have hFc := va_free (wc := [(a_t, .inr (11, [.ref a_kinds, .ref a_values, .int (nI n_size)]))]) hD hS hA [0] rfl
  refine va_calli (va_runV (As := [.int (nI y0)]) (rest := []) ⟨hx, hb, hml, hown, hz⟩ (s_Tokens_has6 l dC dI s.heap.size a_t a_kinds a_values n_size ((nI y0))) (cwV 1 hz (zV zm_37 zm_38 zm_39 zm_35 zm_40) rfl rfl rfl (by decide +kernel) ⟨Nat.le_of_ble_eq_true rfl, Nat.le_of_ble_eq_true rfl⟩) ⟨fun a U g mk q => by obtain ⟨q0, q1, qP, qK, qD⟩ := q; exact ⟨q0, q1, qP, va_K.moved (u := U) (U := U.calling g mk a) (Vm.Alike.refl U.vm) qK, qD⟩, va_recv (q := (R_Tokens, F_Tokens, 3)) (q0 := 0) (ci := 11) hK hP rfl rfl, fun U hU hW => ⟨rfl, by rw [hU], by rw [hU]; exact hPc, va_K.moved hW.alike hKc, hDc.weaken (fun _ _ _ _ => trivial)⟩⟩ rfl rfl hl.1 rfl (lv_room (Nat.le_of_ble_eq_true rfl)) d_Tokens_isFreeName_2 ⟨Nat.zero_le _, Nat.zero_le _⟩) hS (fun q _ h => hFc q h) hFc (fun r u t H1 locs ht hvm hw_r hB hz1 hk1 hS => ?_)
  obtain ⟨hP1, hK1, hD1⟩ := hB
  obtain ⟨hb_r, he_r⟩ := hw_r
  subst r
  rw [ht] at hP1
  obtain ⟨hP, hD⟩ := va_join (wr := [(a_kinds, .inl (ka_kinds, cap, .inl f_kinds)), (a_values, .inl (ka_values, cap, .inr (.inl f_values)))]) (w1 := [(a_t, .inr (11, [.ref a_kinds, .ref a_values, .int (nI n_size)]))]) hP hD [0] [1, 2] rfl rfl (by decide) (by decide) hk1 hFc hP1 hD1
  generalize H1 = H at hP hS ⊢
  have hP : va_P (dC, dI) vcl [(a_kinds, .inl (ka_kinds, cap, .inl f_kinds)), (a_values, .inl (ka_values, cap, .inr (.inl f_values))), (a_t, .inr (11, [.ref a_kinds, .ref a_values, .int (nI n_size)]))] H := hP
  have hD : va_D A [(a_kinds, .inl (ka_kinds, cap, .inl f_kinds)), (a_values, .inl (ka_values, cap, .inr (.inl f_values))), (a_t, .inr (11, [.ref a_kinds, .ref a_values, .int (nI n_size)]))] := hD
  refine lv_if_eq (tgt := 37) hx hb d_Tokens_isFreeName_5 (by decide) (fun h1 => ?_) (fun h1 => ?_)
  · have e5 := hs_no h1 (by omega) (by omega)
    refine lv_iconst (v := 0) hx hb d_Tokens_isFreeName_37 (by decide) ?_
    have hP9 := hP.sub (ws' := [(a_t, .inr (11, [.ref a_kinds, .ref a_values, .int (nI n_size)])), (a_kinds, .inl (ka_kinds, cap, .inl f_kinds)), (a_values, .inl (ka_values, cap, .inr (.inl f_values)))]) [2, 0, 1] rfl
    have hD9 := hD.sub (ws' := [(a_t, .inr (11, [.ref a_kinds, .ref a_values, .int (nI n_size)])), (a_kinds, .inl (ka_kinds, cap, .inl f_kinds)), (a_values, .inl (ka_values, cap, .inr (.inl f_values)))]) [2, 0, 1] (by decide) rfl
    exact W.zret (v := 0) hx hb hr (by decide +kernel) (fun t ht hW => ⟨⟨0, (), rfl, ⟨(by first | assumption | exact Or.inl rfl | exact Or.inr rfl), (by exact fn_1 e5)⟩, by rw [ht]; exact hP9, va_K.moved hW.alike hK, hD9⟩, hS.F ht⟩) hS.2.2 d_Tokens_isFreeName_38
  · have e5 := hs_yes h1 (by omega) (by omega)
    refine lv_aload_n hx hb d_Tokens_isFreeName_8 rfl (lv_at hl 0 rfl) ?_
    refine va_get (D := (dC, dI)) (ci := 11) (v := .ref a_kinds) (C := R_Tokens) (T := F_Tokens) (N := 3) hx hb hz zu_Tokens hown hK hP 2 rfl rfl 0 (by decide) (hz (.fieldLink R_Tokens 9 "LayoutFront$Tokens" "kinds" "[I") zm_28) (fun _ h9 => h9) rfl d_Tokens_isFreeName_9 ?_
    refine lv_iload_n hx hb d_Tokens_isFreeName_12 rfl (lv_at hl 1 rfl) ?_
    refine xr_iald (v := (f_kinds y0)) hx hb hK hP 0 0 rfl rfl (vp_in_nI (by omega) (by omega)) (congrArg f_kinds (nI_clamp (by omega))) d_Tokens_isFreeName_13 ?_
    refine lv_if_ne (tgt := 37) hx hb d_Tokens_isFreeName_14 (by decide) (fun h3 => ?_) (fun h3 => ?_)
    · have e14 := h3
      refine lv_iconst (v := 0) hx hb d_Tokens_isFreeName_37 (by decide) ?_
      have hP9 := hP.sub (ws' := [(a_t, .inr (11, [.ref a_kinds, .ref a_values, .int (nI n_size)])), (a_kinds, .inl (ka_kinds, cap, .inl f_kinds)), (a_values, .inl (ka_values, cap, .inr (.inl f_values)))]) [2, 0, 1] rfl
      have hD9 := hD.sub (ws' := [(a_t, .inr (11, [.ref a_kinds, .ref a_values, .int (nI n_size)])), (a_kinds, .inl (ka_kinds, cap, .inl f_kinds)), (a_values, .inl (ka_values, cap, .inr (.inl f_values)))]) [2, 0, 1] (by decide) rfl
      exact W.zret (v := 0) hx hb hr (by decide +kernel) (fun t ht hW => ⟨⟨0, (), rfl, ⟨(by first | assumption | exact Or.inl rfl | exact Or.inr rfl), (by exact fn_2 e14)⟩, by rw [ht]; exact hP9, va_K.moved hW.alike hK, hD9⟩, hS.F ht⟩) hS.2.2 d_Tokens_isFreeName_38
    · have e14 := h3
      obtain ⟨aW, hN_aW, hZ_aW, hT_aW⟩ := hE.words
      refine va_getsN hx hb hZ_aW hS hown (va_Nw.use rfl hN_aW) (fun _ h9 => h9) d_Tokens_isFreeName_17 ?_
      refine lv_aload_n hx hb d_Tokens_isFreeName_20 rfl (lv_at hl 0 rfl) ?_
      refine va_get (D := (dC, dI)) (ci := 11) (v := .ref a_values) (C := R_Tokens) (T := F_Tokens) (N := 3) hx hb hz zu_Tokens hown hK hP 2 rfl rfl 1 (by decide) (hz (.fieldLink R_Tokens 15 "LayoutFront$Tokens" "values" "[J") zm_29) (fun _ h9 => h9) rfl d_Tokens_isFreeName_21 ?_
      refine lv_iload_n hx hb d_Tokens_isFreeName_24 rfl (lv_at hl 1 rfl) ?_
      refine xr_lald (v := (f_values y0)) hx hb hK hP 1 1 rfl rfl (vp_in_nI (by omega) (by omega)) (congrArg f_values (nI_clamp (by omega))) d_Tokens_isFreeName_25 ?_
      have hPc := hP.sub (ws' := []) [] rfl
      have hDc := hD.sub (ws' := []) [] (by decide) rfl
      have hKc := hK.sub (tys' := []) [] rfl
      have hFc := va_free (wc := []) hD hS hA [] rfl
      refine va_calli (va_runS (As := [.ref aW, .long (f_values y0)]) (rest := []) ⟨hx, hb, hml, hown, hz⟩ (s_Tokens_findC6 l dC dI H.size aW 9 wWd ((f_values y0)) (by first | omega | assumption | exact Or.inl rfl | exact Or.inr rfl | decide)) (cwS 2 hz (zS zm_45 zm_46 zm_35 zm_47) rfl rfl rfl (by decide +kernel) ⟨Nat.le_of_ble_eq_true rfl, Nat.le_of_ble_eq_true rfl⟩) ⟨fun a U g mk q => by obtain ⟨q0, q1, qP, qK, qD, qx0⟩ := q; exact ⟨q0, q1, qP, va_K.moved (u := U) (U := U.calling g mk a) (Vm.Alike.refl U.vm) qK, qD, cx_T.same (u := U) (U := U.calling g mk a) rfl qx0⟩, fun U hU hW => ⟨rfl, by rw [hU], by rw [hU]; exact hPc, va_K.moved hW.alike hKc, hDc.weaken (fun _ _ _ _ => trivial), by rw [hU]; exact cx_T.to hW hS hFc hT_aW⟩⟩ rfl rfl hl.1 rfl (lv_room (Nat.le_of_ble_eq_true rfl)) d_Tokens_isFreeName_26 ⟨Nat.zero_le _, Nat.zero_le _⟩) hS (fun q _ h => hFc q h) hFc (fun r u t H1 locs ht hvm hw hB hz1 hk1 hS => ?_)
      obtain ⟨hP1, hK1, hD1⟩ := hB
      subst r
      rw [ht] at hP1
      obtain ⟨hP, hD⟩ := va_join (wr := [(a_kinds, .inl (ka_kinds, cap, .inl f_kinds)), (a_values, .inl (ka_values, cap, .inr (.inl f_values))), (a_t, .inr (11, [.ref a_kinds, .ref a_values, .int (nI n_size)]))]) (w1 := []) hP hD [] [0, 1, 2] rfl rfl (by decide) (by decide) hk1 hFc hP1 hD1
      generalize H1 = H at hP hS ⊢
      have hP : va_P (dC, dI) vcl [(a_kinds, .inl (ka_kinds, cap, .inl f_kinds)), (a_values, .inl (ka_values, cap, .inr (.inl f_values))), (a_t, .inr (11, [.ref a_kinds, .ref a_values, .int (nI n_size)]))] H := hP
      have hD : va_D A [(a_kinds, .inl (ka_kinds, cap, .inl f_kinds)), (a_values, .inl (ka_values, cap, .inr (.inl f_values))), (a_t, .inr (11, [.ref a_kinds, .ref a_values, .int (nI n_size)]))] := hD
      refine lv_iconst (v := (-1)) hx hb d_Tokens_isFreeName_29 (by decide) ?_
      refine lv_icmp_ne (tgt := 37) hx hb d_Tokens_isFreeName_30 (by decide) (fun h5 => ?_) (fun h5 => ?_)
      · have e30 := h5
        refine lv_iconst (v := 0) hx hb d_Tokens_isFreeName_37 (by decide) ?_
        have hP9 := hP.sub (ws' := [(a_t, .inr (11, [.ref a_kinds, .ref a_values, .int (nI n_size)])), (a_kinds, .inl (ka_kinds, cap, .inl f_kinds)), (a_values, .inl (ka_values, cap, .inr (.inl f_values)))]) [2, 0, 1] rfl
        have hD9 := hD.sub (ws' := [(a_t, .inr (11, [.ref a_kinds, .ref a_values, .int (nI n_size)])), (a_kinds, .inl (ka_kinds, cap, .inl f_kinds)), (a_values, .inl (ka_values, cap, .inr (.inl f_values)))]) [2, 0, 1] (by decide) rfl
        exact W.zret (v := 0) hx hb hr (by decide +kernel) (fun t ht hW => ⟨⟨0, (), rfl, ⟨(by first | assumption | exact Or.inl rfl | exact Or.inr rfl), (by exact fn_3 e30)⟩, by rw [ht]; exact hP9, va_K.moved hW.alike hK, hD9⟩, hS.F ht⟩) hS.2.2 d_Tokens_isFreeName_38
      · have e30 := h5
        refine lv_iconst (v := 1) hx hb d_Tokens_isFreeName_33 (by decide) ?_
        refine lv_goto (tgt := 38) hx hb d_Tokens_isFreeName_34 (by decide) ?_
        have hP9 := hP.sub (ws' := [(a_t, .inr (11, [.ref a_kinds, .ref a_values, .int (nI n_size)])), (a_kinds, .inl (ka_kinds, cap, .inl f_kinds)), (a_values, .inl (ka_values, cap, .inr (.inl f_values)))]) [2, 0, 1] rfl
        have hD9 := hD.sub (ws' := [(a_t, .inr (11, [.ref a_kinds, .ref a_values, .int (nI n_size)])), (a_kinds, .inl (ka_kinds, cap, .inl f_kinds)), (a_values, .inl (ka_values, cap, .inr (.inl f_values)))]) [2, 0, 1] (by decide) rfl
        exact W.zret (v := 1) hx hb hr (by decide +kernel) (fun t ht hW => ⟨⟨1, (), rfl, ⟨(by first | assumption | exact Or.inl rfl | exact Or.inr rfl), (by exact fn_4 e5 e14 e30)⟩, by rw [ht]; exact hP9, va_K.moved hW.alike hK, hD9⟩, hS.F ht⟩) hS.2.2 d_Tokens_isFreeName_38
set_option maxHeartbeats 4000000 in
set_option maxRecDepth 100000 in
theorem s_Tokens_isFreeOperator7 (l : Launch) (dC : Nat → ClassId) (dI : Nat → Nat → Nat) (sz : Nat) (cap : Nat) (a_t : Nat) (a_kinds : Nat) (f_kinds : Nat → Int32) (a_values : Nat) (f_values : Nat → Int64) (n_size : Nat) (y0 : Nat) (ka_kinds : ClassId) (ka_values : ClassId) (bcap : cap ≤ 600) (b_size : n_size ≤ cap) (by0 : y0 ≤ 600) : Met l y_Tokens_isFreeOperator w_Tokens_isFreeOperator ({ frames := 1, cells := 0, slots := 0, locals := 23 }) (va_Pc [.ref a_t, .int (nI y0)] (fun U => U.heap.size = sz ∧ va_P (dC, dI) vcl [(a_t, .inr (11, [.ref a_kinds, .ref a_values, .int (nI n_size)])), (a_kinds, .inl (ka_kinds, cap, .inl f_kinds)), (a_values, .inl (ka_values, cap, .inr (.inl f_values)))] U.heap ∧ va_K (dC, dI) vcl [(ka_kinds, .int), (ka_values, .long)] U ∧ va_D (fun _ => True) [(a_t, .inr (11, [.ref a_kinds, .ref a_values, .int (nI n_size)])), (a_kinds, .inl (ka_kinds, cap, .inl f_kinds)), (a_values, .inl (ka_values, cap, .inr (.inl f_values)))] ∧ cx_E (va_A [(a_t, .inr (11, [.ref a_kinds, .ref a_values, .int (nI n_size)])), (a_kinds, .inl (ka_kinds, cap, .inl f_kinds)), (a_values, .inl (ka_values, cap, .inr (.inl f_values)))] sz) U U.heap)) (va_Qi (fun (r : Int32) (_ : Unit) => (r = 0 ∨ r = 1) ∧ (r = b01 (foB f_kinds f_values n_size y0))) (fun _ t => va_P (dC, dI) vcl [(a_t, .inr (11, [.ref a_kinds, .ref a_values, .int (nI n_size)])), (a_kinds, .inl (ka_kinds, cap, .inl f_kinds)), (a_values, .inl (ka_values, cap, .inr (.inl f_values)))] t.heap ∧ va_K (dC, dI) vcl [(ka_kinds, .int), (ka_values, .long)] t ∧ va_D (va_A [(a_t, .inr (11, [.ref a_kinds, .ref a_values, .int (nI n_size)])), (a_kinds, .inl (ka_kinds, cap, .inl f_kinds)), (a_values, .inl (ka_values, cap, .inr (.inl f_values)))] sz) [(a_t, .inr (11, [.ref a_kinds, .ref a_values, .int (nI n_size)])), (a_kinds, .inl (ka_kinds, cap, .inl f_kinds)), (a_values, .inl (ka_values, cap, .inr (.inl f_values)))]) (va_A [(a_t, .inr (11, [.ref a_kinds, .ref a_values, .int (nI n_size)])), (a_kinds, .inl (ka_kinds, cap, .inl f_kinds)), (a_values, .inl (ka_values, cap, .inr (.inl f_values)))] sz)) 0 0 (va_A [(a_t, .inr (11, [.ref a_kinds, .ref a_values, .int (nI n_size)])), (a_kinds, .inl (ka_kinds, cap, .inl f_kinds)), (a_values, .inl (ka_values, cap, .inr (.inl f_values)))] sz) := by
  refine Met.ofW (cc := b_Tokens_isFreeOperator) (maxL := 2) (ret := (some .boolean)) (by decide) rfl ?_
  intro p e s m args below meth c s₁ B hml hv
  obtain ⟨rfl, hsz, hP, hK, hD0, hE⟩ := hv
  have hx := B.exec
  have hb := B.bytes
  have hr := B.returns
  have hts := atoms_spec (ws := w_Tokens_isFreeOperator) B.pre
  have hz : ∀ w ∈ wz, w.before _ s = true := fun w h => hts w (List.mem_cons_of_mem _ h)
  have hown : s.vm.findClass R_Tokens = some m.cls := findClass_of_methodNamed B.named
  have hlocks := B.notSynchronized
  subst hsz
  have hD := hD0.self (sz := s.heap.size)
  generalize hAe : va_A [(a_t, .inr (11, [.ref a_kinds, .ref a_values, .int (nI n_size)])), (a_kinds, .inl (ka_kinds, cap, .inl f_kinds)), (a_values, .inl (ka_values, cap, .inr (.inl f_values)))] s.heap.size = A at hD hE ⊢
  have hA : ∀ q : Nat, s.heap.size ≤ q → A q := fun q h => by rw [← hAe]; exact Or.inr h
  have hS : va_S A s.heap s.heap [] := va_S.rf
  have hP : va_P (dC, dI) vcl [(a_t, .inr (11, [.ref a_kinds, .ref a_values, .int (nI n_size)])), (a_kinds, .inl (ka_kinds, cap, .inl f_kinds)), (a_values, .inl (ka_values, cap, .inr (.inl f_values)))] s.heap := hP
  have hl := lv_entry ([.ref a_t, .int (nI y0)]) (n := 2) (Nat.le_of_ble_eq_true rfl)
  rw [lg_entry_eq]
  generalize (lg_sl ([.ref a_t, .int (nI y0)]) ++ List.replicate (2 - (lg_sl ([.ref a_t, .int (nI y0)])).length) Slot.unset).toArray = ls at hl ⊢
  have hl : lv_has ls 2 [(0, .ref a_t), (1, .int (nI y0))] := hl
  refine lv_aload_n hx hb d_Tokens_isFreeOperator_0 rfl (lv_at hl 0 rfl) ?_
  refine lv_iload_n hx hb d_Tokens_isFreeOperator_1 rfl (lv_at hl 1 rfl) ?_
  have hPc := hP.sub (ws' := [(a_t, .inr (11, [.ref a_kinds, .ref a_values, .int (nI n_size)]))]) [0] rfl
  have hDc := hD.sub (ws' := [(a_t, .inr (11, [.ref a_kinds, .ref a_values, .int (nI n_size)]))]) [0] (by decide) rfl
  have hKc := hK.sub (tys' := []) [] rfl
  have hFc := va_free (wc := [(a_t, .inr (11, [.ref a_kinds, .ref a_values, .int (nI n_size)]))]) hD hS hA [0] rfl
  refine va_calli (va_runV (As := [.int (nI y0)]) (rest := []) ⟨hx, hb, hml, hown, hz⟩ (s_Tokens_has6 l dC dI s.heap.size a_t a_kinds a_values n_size ((nI y0))) (cwV 1 hz (zV zm_37 zm_38 zm_39 zm_35 zm_40) rfl rfl rfl (by decide +kernel) ⟨Nat.le_of_ble_eq_true rfl, Nat.le_of_ble_eq_true rfl⟩) ⟨fun a U g mk q => by obtain ⟨q0, q1, qP, qK, qD⟩ := q; exact ⟨q0, q1, qP, va_K.moved (u := U) (U := U.calling g mk a) (Vm.Alike.refl U.vm) qK, qD⟩, va_recv (q := (R_Tokens, F_Tokens, 3)) (q0 := 0) (ci := 11) hK hP rfl rfl, fun U hU hW => ⟨rfl, by rw [hU], by rw [hU]; exact hPc, va_K.moved hW.alike hKc, hDc.weaken (fun _ _ _ _ => trivial)⟩⟩ rfl rfl hl.1 rfl (lv_room (Nat.le_of_ble_eq_true rfl)) d_Tokens_isFreeOperator_2 ⟨Nat.zero_le _, Nat.zero_le _⟩) hS (fun q _ h => hFc q h) hFc (fun r u t H1 locs ht hvm hw_r hB hz1 hk1 hS => ?_)
  obtain ⟨hP1, hK1, hD1⟩ := hB
  obtain ⟨hb_r, he_r⟩ := hw_r
  subst r
  rw [ht] at hP1
  obtain ⟨hP, hD⟩ := va_join (wr := [(a_kinds, .inl (ka_kinds, cap, .inl f_kinds)), (a_values, .inl (ka_values, cap, .inr (.inl f_values)))]) (w1 := [(a_t, .inr (11, [.ref a_kinds, .ref a_values, .int (nI n_size)]))]) hP hD [0] [1, 2] rfl rfl (by decide) (by decide) hk1 hFc hP1 hD1
  generalize H1 = H at hP hS ⊢
  have hP : va_P (dC, dI) vcl [(a_kinds, .inl (ka_kinds, cap, .inl f_kinds)), (a_values, .inl (ka_values, cap, .inr (.inl f_values))), (a_t, .inr (11, [.ref a_kinds, .ref a_values, .int (nI n_size)]))] H := hP
  have hD : va_D A [(a_kinds, .inl (ka_kinds, cap, .inl f_kinds)), (a_values, .inl (ka_values, cap, .inr (.inl f_values))), (a_t, .inr (11, [.ref a_kinds, .ref a_values, .int (nI n_size)]))] := hD
  refine lv_if_eq (tgt := 38) hx hb d_Tokens_isFreeOperator_5 (by decide) (fun h1 => ?_) (fun h1 => ?_)
  · have e5 := hs_no h1 (by omega) (by omega)
    refine lv_iconst (v := 0) hx hb d_Tokens_isFreeOperator_38 (by decide) ?_
    have hP9 := hP.sub (ws' := [(a_t, .inr (11, [.ref a_kinds, .ref a_values, .int (nI n_size)])), (a_kinds, .inl (ka_kinds, cap, .inl f_kinds)), (a_values, .inl (ka_values, cap, .inr (.inl f_values)))]) [2, 0, 1] rfl
    have hD9 := hD.sub (ws' := [(a_t, .inr (11, [.ref a_kinds, .ref a_values, .int (nI n_size)])), (a_kinds, .inl (ka_kinds, cap, .inl f_kinds)), (a_values, .inl (ka_values, cap, .inr (.inl f_values)))]) [2, 0, 1] (by decide) rfl
    exact W.zret (v := 0) hx hb hr (by decide +kernel) (fun t ht hW => ⟨⟨0, (), rfl, ⟨(by first | assumption | exact Or.inl rfl | exact Or.inr rfl), (by exact fo_1 e5)⟩, by rw [ht]; exact hP9, va_K.moved hW.alike hK, hD9⟩, hS.F ht⟩) hS.2.2 d_Tokens_isFreeOperator_39
  · have e5 := hs_yes h1 (by omega) (by omega)
    refine lv_aload_n hx hb d_Tokens_isFreeOperator_8 rfl (lv_at hl 0 rfl) ?_
    refine va_get (D := (dC, dI)) (ci := 11) (v := .ref a_kinds) (C := R_Tokens) (T := F_Tokens) (N := 3) hx hb hz zu_Tokens hown hK hP 2 rfl rfl 0 (by decide) (hz (.fieldLink R_Tokens 9 "LayoutFront$Tokens" "kinds" "[I") zm_28) (fun _ h9 => h9) rfl d_Tokens_isFreeOperator_9 ?_
    refine lv_iload_n hx hb d_Tokens_isFreeOperator_12 rfl (lv_at hl 1 rfl) ?_
    refine xr_iald (v := (f_kinds y0)) hx hb hK hP 0 0 rfl rfl (vp_in_nI (by omega) (by omega)) (congrArg f_kinds (nI_clamp (by omega))) d_Tokens_isFreeOperator_13 ?_
    refine lv_iconst (v := 2) hx hb d_Tokens_isFreeOperator_14 (by decide) ?_
    refine lv_icmp_ne (tgt := 38) hx hb d_Tokens_isFreeOperator_15 (by decide) (fun h3 => ?_) (fun h3 => ?_)
    · have e15 := h3
      refine lv_iconst (v := 0) hx hb d_Tokens_isFreeOperator_38 (by decide) ?_
      have hP9 := hP.sub (ws' := [(a_t, .inr (11, [.ref a_kinds, .ref a_values, .int (nI n_size)])), (a_kinds, .inl (ka_kinds, cap, .inl f_kinds)), (a_values, .inl (ka_values, cap, .inr (.inl f_values)))]) [2, 0, 1] rfl
      have hD9 := hD.sub (ws' := [(a_t, .inr (11, [.ref a_kinds, .ref a_values, .int (nI n_size)])), (a_kinds, .inl (ka_kinds, cap, .inl f_kinds)), (a_values, .inl (ka_values, cap, .inr (.inl f_values)))]) [2, 0, 1] (by decide) rfl
      exact W.zret (v := 0) hx hb hr (by decide +kernel) (fun t ht hW => ⟨⟨0, (), rfl, ⟨(by first | assumption | exact Or.inl rfl | exact Or.inr rfl), (by exact fo_2 e15)⟩, by rw [ht]; exact hP9, va_K.moved hW.alike hK, hD9⟩, hS.F ht⟩) hS.2.2 d_Tokens_isFreeOperator_39
    · have e15 := h3
      obtain ⟨aR, hN_aR, hZ_aR, hT_aR⟩ := hE.reserved
      refine va_getsN hx hb hZ_aR hS hown (va_Nw.use rfl hN_aR) (fun _ h9 => h9) d_Tokens_isFreeOperator_18 ?_
      refine lv_aload_n hx hb d_Tokens_isFreeOperator_21 rfl (lv_at hl 0 rfl) ?_
      refine va_get (D := (dC, dI)) (ci := 11) (v := .ref a_values) (C := R_Tokens) (T := F_Tokens) (N := 3) hx hb hz zu_Tokens hown hK hP 2 rfl rfl 1 (by decide) (hz (.fieldLink R_Tokens 15 "LayoutFront$Tokens" "values" "[J") zm_29) (fun _ h9 => h9) rfl d_Tokens_isFreeOperator_22 ?_
      refine lv_iload_n hx hb d_Tokens_isFreeOperator_25 rfl (lv_at hl 1 rfl) ?_
      refine xr_lald (v := (f_values y0)) hx hb hK hP 1 1 rfl rfl (vp_in_nI (by omega) (by omega)) (congrArg f_values (nI_clamp (by omega))) d_Tokens_isFreeOperator_26 ?_
      have hPc := hP.sub (ws' := []) [] rfl
      have hDc := hD.sub (ws' := []) [] (by decide) rfl
      have hKc := hK.sub (tys' := []) [] rfl
      have hFc := va_free (wc := []) hD hS hA [] rfl
      refine va_calli (va_runS (As := [.ref aR, .long (f_values y0)]) (rest := []) ⟨hx, hb, hml, hown, hz⟩ (s_Tokens_findC6 l dC dI H.size aR 10 wRs ((f_values y0)) (by first | omega | assumption | exact Or.inl rfl | exact Or.inr rfl | decide)) (cwS 2 hz (zS zm_45 zm_46 zm_35 zm_47) rfl rfl rfl (by decide +kernel) ⟨Nat.le_of_ble_eq_true rfl, Nat.le_of_ble_eq_true rfl⟩) ⟨fun a U g mk q => by obtain ⟨q0, q1, qP, qK, qD, qx0⟩ := q; exact ⟨q0, q1, qP, va_K.moved (u := U) (U := U.calling g mk a) (Vm.Alike.refl U.vm) qK, qD, cx_T.same (u := U) (U := U.calling g mk a) rfl qx0⟩, fun U hU hW => ⟨rfl, by rw [hU], by rw [hU]; exact hPc, va_K.moved hW.alike hKc, hDc.weaken (fun _ _ _ _ => trivial), by rw [hU]; exact cx_T.to hW hS hFc hT_aR⟩⟩ rfl rfl hl.1 rfl (lv_room (Nat.le_of_ble_eq_true rfl)) d_Tokens_isFreeOperator_27 ⟨Nat.zero_le _, Nat.zero_le _⟩) hS (fun q _ h => hFc q h) hFc (fun r u t H1 locs ht hvm hw hB hz1 hk1 hS => ?_)
      obtain ⟨hP1, hK1, hD1⟩ := hB
      subst r
      rw [ht] at hP1
      obtain ⟨hP, hD⟩ := va_join (wr := [(a_kinds, .inl (ka_kinds, cap, .inl f_kinds)), (a_values, .inl (ka_values, cap, .inr (.inl f_values))), (a_t, .inr (11, [.ref a_kinds, .ref a_values, .int (nI n_size)]))]) (w1 := []) hP hD [] [0, 1, 2] rfl rfl (by decide) (by decide) hk1 hFc hP1 hD1
      generalize H1 = H at hP hS ⊢
      have hP : va_P (dC, dI) vcl [(a_kinds, .inl (ka_kinds, cap, .inl f_kinds)), (a_values, .inl (ka_values, cap, .inr (.inl f_values))), (a_t, .inr (11, [.ref a_kinds, .ref a_values, .int (nI n_size)]))] H := hP
      have hD : va_D A [(a_kinds, .inl (ka_kinds, cap, .inl f_kinds)), (a_values, .inl (ka_values, cap, .inr (.inl f_values))), (a_t, .inr (11, [.ref a_kinds, .ref a_values, .int (nI n_size)]))] := hD
      refine lv_iconst (v := (-1)) hx hb d_Tokens_isFreeOperator_30 (by decide) ?_
      refine lv_icmp_ne (tgt := 38) hx hb d_Tokens_isFreeOperator_31 (by decide) (fun h5 => ?_) (fun h5 => ?_)
      · have e31 := h5
        refine lv_iconst (v := 0) hx hb d_Tokens_isFreeOperator_38 (by decide) ?_
        have hP9 := hP.sub (ws' := [(a_t, .inr (11, [.ref a_kinds, .ref a_values, .int (nI n_size)])), (a_kinds, .inl (ka_kinds, cap, .inl f_kinds)), (a_values, .inl (ka_values, cap, .inr (.inl f_values)))]) [2, 0, 1] rfl
        have hD9 := hD.sub (ws' := [(a_t, .inr (11, [.ref a_kinds, .ref a_values, .int (nI n_size)])), (a_kinds, .inl (ka_kinds, cap, .inl f_kinds)), (a_values, .inl (ka_values, cap, .inr (.inl f_values)))]) [2, 0, 1] (by decide) rfl
        exact W.zret (v := 0) hx hb hr (by decide +kernel) (fun t ht hW => ⟨⟨0, (), rfl, ⟨(by first | assumption | exact Or.inl rfl | exact Or.inr rfl), (by exact fo_3 e31)⟩, by rw [ht]; exact hP9, va_K.moved hW.alike hK, hD9⟩, hS.F ht⟩) hS.2.2 d_Tokens_isFreeOperator_39
      · have e31 := h5
        refine lv_iconst (v := 1) hx hb d_Tokens_isFreeOperator_34 (by decide) ?_
        refine lv_goto (tgt := 39) hx hb d_Tokens_isFreeOperator_35 (by decide) ?_
        have hP9 := hP.sub (ws' := [(a_t, .inr (11, [.ref a_kinds, .ref a_values, .int (nI n_size)])), (a_kinds, .inl (ka_kinds, cap, .inl f_kinds)), (a_values, .inl (ka_values, cap, .inr (.inl f_values)))]) [2, 0, 1] rfl
        have hD9 := hD.sub (ws' := [(a_t, .inr (11, [.ref a_kinds, .ref a_values, .int (nI n_size)])), (a_kinds, .inl (ka_kinds, cap, .inl f_kinds)), (a_values, .inl (ka_values, cap, .inr (.inl f_values)))]) [2, 0, 1] (by decide) rfl
        exact W.zret (v := 1) hx hb hr (by decide +kernel) (fun t ht hW => ⟨⟨1, (), rfl, ⟨(by first | assumption | exact Or.inl rfl | exact Or.inr rfl), (by exact fo_4 e5 e15 e31)⟩, by rw [ht]; exact hP9, va_K.moved hW.alike hK, hD9⟩, hS.F ht⟩) hS.2.2 d_Tokens_isFreeOperator_39
/-! brackets matched by the class; where an item ends -/
section RWH
variable {s : Nat → Int32} {v : Nat → Int64} {P op P' : Nat → Int32} {n k q d j : Nat}
theorem sk_out : ∀ m, k ≤ m → q < k → q ∉ sk s v k → q ∉ sk s v m
  | 0, h, _, z => by rw [Nat.le_zero.mp h] at z; exact z
  | m + 1, h, hq, z => by
    by_cases e : k = m + 1
    · rw [e] at z; exact z
    · have ih := sk_out m (by omega) hq z
      by_cases o : opn (s m) (v m) = true
      · rw [sk_o o]
        intro w
        rcases List.mem_cons.mp w with w | w
        · omega
        · exact ih w
      · by_cases c : clo (s m) (v m) = true
        · rw [sk_c c]; exact fun w => ih (List.mem_of_mem_tail w)
        · rw [sk_n (by simpa using o) (by simpa using c)]; exact ih
theorem sk_pw : ∀ k, (sk s v k).Pairwise (fun a b => b < a)
  | 0 => List.Pairwise.nil
  | k + 1 => by
    have ih := sk_pw k
    by_cases o : opn (s k) (v k) = true
    · rw [sk_o o]; exact List.Pairwise.cons (fun x hx => sk_lt k x hx) ih
    · by_cases c : clo (s k) (v k) = true
      · rw [sk_c c]
        cases hk : sk s v k with
        | nil => exact List.Pairwise.nil
        | cons a T => rw [hk] at ih; exact (List.pairwise_cons.mp ih).2
      · rw [sk_n (by simpa using o) (by simpa using c)]; exact ih
theorem sk_top (h : (sk s v k).head? = some q) : sk s v k = q :: sk s v q := by
  cases hs : sk s v k with
  | nil => rw [hs] at h; cases h
  | cons a T =>
    rw [hs] at h
    have e : a = q := by simpa using h
    subst e
    obtain ⟨L, hL⟩ := sk_suf (s := s) (v := v) k a (by rw [hs]; exact List.mem_cons_self)
    cases L with
    | nil => rw [← hs]; exact hL
    | cons b L =>
      exfalso
      rw [hs] at hL
      have h2 := List.cons.inj hL
      have h3 : a ∈ T := by rw [h2.2]; exact List.mem_append_right _ List.mem_cons_self
      have pw := sk_pw (s := s) (v := v) k
      rw [hs] at pw
      exact absurd ((List.pairwise_cons.mp pw).1 a h3) (Nat.lt_irrefl _)
/-- the class's loop: openers are the open brackets, closers tell those that are closed -/
def MB (s : Nat → Int32) (v : Nat → Int64) (op P : Nat → Int32) (d k : Nat) : Prop := stk op d = (sk s v k).map nI ∧ PN s v P k
theorem mb_0 : MB s v op P 0 0 := ⟨rfl, fun p q h => absurd h (Nat.not_lt_zero _)⟩
theorem mb_d (h : MB s v op P d k) : d = (sk s v k).length := by
  have e := congrArg List.length h.1
  rw [stk_len, List.length_map] at e; exact e
theorem mb_few (h : MB s v op P d k) (hb : bl7 s v n) (hk : k < n) (ho : opn (s k) (v k) = true) (hc : cn s n ≤ 90) : d < 90 := by
  have h1 := mb_d h
  have h2 := sk_len (s := s) (v := v) (k + 1) (fun p hp => hb.1 p (by omega))
  rw [sk_o ho, List.length_cons] at h2
  have h3 := dep_le_cn (s := s) (v := v) (k + 1)
  have h4 := cn_mono (s := s) (k + 1) n (by omega)
  omega
theorem mb_pos (h : MB s v op P d k) (hb : bl7 s v n) (hk : k < n) (hc : clo (s k) (v k) = true) : 1 ≤ d := by
  have h1 := mb_d h
  have h2 := sk_len (s := s) (v := v) k (fun p hp => hb.1 p (by omega))
  have h3 := hb.1 (k + 1) (by omega)
  rw [dep] at h3
  simp only [dlt, clo_opn hc, hc, if_true] at h3
  simp at h3
  omega
theorem pn_up (hk : k ≤ 600) (h : PN s v P k) (x : Int32) : PN s v (upd P k x) k := by
  intro p q h1 h2 h3
  have hq := sk_lt p q (by rw [sk_top h3]; exact List.mem_cons_self)
  rw [show upd P k x q = P q from if_neg (by omega)]
  exact h p q h1 h2 h3
theorem pn_nc (h : PN s v P k) (hc : clo (s k) (v k) = false) : PN s v P (k + 1) := by
  intro p q h1 h2 h3
  by_cases e : p = k
  · rw [e, hc] at h2; cases h2
  · exact h p q (by omega) h2 h3
theorem mb_o (hk : k ≤ 600) (h : MB s v op P d k) (ho : opn (s k) (v k) = true) (e1 : upd P k (nI k) = P') {op' : Nat → Int32} (e2 : upd op d (nI k) = op') : MB s v op' P' (d + 1) (k + 1) := by
  subst e1; subst e2
  refine ⟨?_, pn_nc (pn_up hk h.2 _) (opn_clo ho)⟩
  rw [stk_push, h.1, sk_o ho]; rfl
theorem mb_n (hk : k ≤ 600) (h : MB s v op P d k) (ho : opn (s k) (v k) = false) (hc : clo (s k) (v k) = false) (e1 : upd P k (nI k) = P') : MB s v op P' d (k + 1) := by
  subst e1
  refine ⟨?_, pn_nc (pn_up hk h.2 _) hc⟩
  rw [h.1, sk_n ho hc]
theorem mb_c {P'' : Nat → Int32} (hk : k ≤ 600) (hd : 1 ≤ d) (h : MB s v op P d k) (hc : clo (s k) (v k) = true) (ej : op (d - 1) = nI j) (hj : j ≤ 600) (e1 : upd P k (nI k) = P') (e2 : upd P' j (nI k) = P'') : MB s v op P'' (d - 1) (k + 1) := by
  subst e1; subst e2
  have h1 := h.1
  rw [stk_pop hd] at h1
  cases hs : sk s v k with
  | nil => rw [hs] at h1; cases h1
  | cons q T =>
    rw [hs] at h1
    have h2 := List.cons.inj h1
    have hq := sk_lt k q (by rw [hs]; exact List.mem_cons_self)
    have eq : j = q := (nI_eq (a := j) (b := q) (by omega) (by omega)).mp (ej.symm.trans h2.1)
    subst eq
    refine ⟨by rw [sk_c hc, hs]; exact h2.2, fun p r p1 p2 p3 => ?_⟩
    by_cases e : p = k
    · subst e
      rw [hs] at p3
      have : j = r := by simpa using p3
      rw [← this]
      exact if_pos rfl
    · have hr := sk_top p3
      have hn : ¬ r = j := by
        intro z
        have z1 : r ∉ sk s v (p + 1) := by
          rw [sk_c p2, hr]
          exact fun w => absurd (sk_lt r r w) (Nat.lt_irrefl _)
        have z2 := sk_out (s := s) (v := v) (k := p + 1) (q := r) k (by omega) (by have := sk_lt p r (by rw [hr]; exact List.mem_cons_self); omega) z1
        exact z2 (by rw [hs, z]; exact List.mem_cons_self)
      rw [show upd (upd P k (nI k)) j (nI k) r = upd P k (nI k) r from if_neg hn]
      exact pn_up hk h.2 (nI k) p r (by omega) p2 p3
/-- where an operand, an operation ends -/
def bA (s : Nat → Int32) (v : Nat → Int64) (P : Nat → Int32) (n k : Nat) : Nat := if opB s v n k = true then 0 else e7 s v P n k
def bO (s : Nat → Int32) (v : Nat → Int64) (P : Nat → Int32) (n k : Nat) : Nat := if opB s v n k = true then e7 s v P n k else 0
theorem ob_y (h : obB s v n k = true) : k < n ∧ opn (s k) (v k) = true := by
  simp only [obB, Bool.and_eq_true, decide_eq_true_eq] at h; exact h
theorem ob_no (hk : k < n) (h : obB s v n k = false) : opn (s k) (v k) = false := by
  cases z : opn (s k) (v k)
  · rfl
  · simp [obB, hk, z] at h
theorem cb_y (h : cbB s v n k = true) : k < n ∧ clo (s k) (v k) = true := by
  simp only [cbB, Bool.and_eq_true, decide_eq_true_eq] at h; exact h
theorem cb_no (hk : k < n) (h : cbB s v n k = false) : clo (s k) (v k) = false := by
  cases z : clo (s k) (v k)
  · rfl
  · simp [cbB, hk, z] at h
theorem opB_br (ho : opn (s k) (v k) = true) : opB s v n k = false := by
  have b := br_no (Or.inl ho)
  unfold opB tkB
  simp [b.1, b.2]
theorem opB_s (h : s k = 0 ∨ s k = 1) : opB s v n k = false := by
  unfold opB tkB
  rcases h with h | h <;> simp [h]
theorem ba_1 (hb : bl7 s v n) (hn : n ≤ 600) (hP : PN s v P n) (h : obB s v n k = true) (hj : j < 600) (e : P k = nI j) : j + 1 = k + bA s v P n k := by
  obtain ⟨hk, ho⟩ := ob_y h
  obtain ⟨p, p1, p2, p3, p4, -, p6⟩ := op_ex hb hn hP hk ho
  have := (nI_eq (a := j) (b := p) (by omega) (by omega)).mp (e.symm.trans p4)
  unfold bA
  rw [if_neg (by rw [opB_br ho]; decide), p6]; omega
theorem ba_2 (h : nmB wdB s v n k = true) : k + 1 = k + bA s v P n k := by
  have hs := nmB_s h
  unfold bA
  rw [if_neg (by rw [opB_s (Or.inl hs)]; decide)]
  have hk : k < n := by
    simp only [nmB, Bool.and_eq_true, decide_eq_true_eq] at h; exact h.1
  have : e7 s v P n k = 1 := by
    unfold e7 exN
    rw [if_neg (by omega), if_pos (by rw [h]; rfl)]
  omega
theorem ba_3 (hk : k < n) (h : s k = 1) : k + 1 = k + bA s v P n k := by
  unfold bA
  rw [if_neg (by rw [opB_s (Or.inr h)]; decide)]
  have : e7 s v P n k = 1 := by
    unfold e7 exN
    rw [if_neg (by omega), if_pos (by rw [h]; simp)]
  omega
theorem ba_0 (hk : k < n) (h1 : obB s v n k = false) (h2 : nmB wdB s v n k = false) (h3 : ¬ s k = 1) : k = k + bA s v P n k := by
  unfold bA
  by_cases z : opB s v n k = true
  · rw [if_pos z]; rfl
  · rw [if_neg z]
    have z' : ¬ s k = 2 ∧ tkB s v n k = false := by
      unfold opB at z
      simp only [Bool.or_eq_true, beq_iff_eq, not_or] at z
      exact ⟨z.1, by simpa using z.2⟩
    have : e7 s v P n k = 0 := by
      unfold e7 exN
      rw [if_neg (by omega), if_neg (by rw [h2]; simpa using h3), if_neg (by rw [ob_no hk h1]; decide), if_neg (by simpa using z'.1), if_neg (by rw [z'.2]; simp)]
    omega
theorem tk_sg : sgB s v n k 96 = tkB s v n k := by unfold sgB tkB; rw [i6_96]
theorem bo_3 (h1 : tkB s v n k = true) (h2 : nmB wdB s v n (k + 1) = true) (h3 : tkB s v n (k + 2) = true) : k + 3 = k + bO s v P n k := by
  have z := tkB_s h1
  have hk : k < n := by
    simp only [tkB, Bool.and_eq_true, decide_eq_true_eq] at h1; exact h1.1
  have t : t3 s v n k = true := by unfold t3; rw [h1, h2, h3]; rfl
  have : e7 s v P n k = 3 := by
    unfold e7 exN
    rw [if_neg (by omega), if_neg (by simp [nmB, z.1]), if_neg (by rw [(no_br (a := s k) (Or.inr z.2)).1]; decide), if_neg (by rw [z.1]; decide)]
    exact if_pos t
  unfold bO
  rw [if_pos (by unfold opB; rw [h1]; simp)]; omega
theorem bo_1 (h : foB s v n k = true) : k + 1 = k + bO s v P n k := by
  simp only [foB, Bool.and_eq_true, decide_eq_true_eq, beq_iff_eq] at h
  obtain ⟨hk, hs, hr⟩ := h
  have hr' : rsB (v k) = false := by simpa using hr
  have : e7 s v P n k = 1 := by
    unfold e7 exN
    rw [if_neg (by omega), if_neg (by simp [nmB, hs]), if_neg (by rw [(no_br (a := s k) (b := v k) (Or.inl (by rw [hs]; decide))).1]; decide), if_pos (by rw [hs]; rfl), if_neg (by rw [hr']; decide)]
  unfold bO
  rw [if_pos (by unfold opB; rw [hs]; rfl)]; omega
theorem bo_0 (hk : k < n) (h1 : tkB s v n k = false ∨ nmB wdB s v n (k + 1) = false ∨ tkB s v n (k + 2) = false) (h2 : foB s v n k = false) : k = k + bO s v P n k := by
  unfold bO
  by_cases z : opB s v n k = true
  · rw [if_pos z]
    have : e7 s v P n k = 0 := by
      unfold opB at z
      rcases Bool.or_eq_true_iff.mp z with z | z
      · have hs : s k = 2 := by simpa using z
        have hr : rsB (v k) = true := by
          cases w : rsB (v k)
          · simp [foB, hk, hs, w] at h2
          · rfl
        unfold e7 exN
        rw [if_neg (by omega), if_neg (by simp [nmB, hs]), if_neg (by rw [(no_br (a := s k) (b := v k) (Or.inl (by rw [hs]; decide))).1]; decide), if_pos (by rw [hs]; rfl), if_pos hr]
      · have w := tkB_s z
        unfold e7 exN
        rw [if_neg (by omega), if_neg (by simp [nmB, w.1]), if_neg (by rw [(no_br (a := s k) (Or.inr w.2)).1]; decide), if_neg (by rw [w.1]; decide), if_neg]
        rw [z]
        rcases h1 with h | h | h
        · rw [z] at h; cases h
        · rw [h]; simp
        · rw [h]; simp
    omega
  · rw [if_neg z]; rfl
end RWH
set_option maxHeartbeats 4000000 in
set_option maxRecDepth 100000 in
theorem s_Rows_matchBrackets7 (l : Launch) (dC : Nat → ClassId) (dI : Nat → Nat → Nat) (sz : Nat) (a_t : Nat) (a_closers : Nat) (f_closers : Nat → Int32) (a_openers : Nat) (f_openers : Nat → Int32) (a_opened : Nat) (a_closed : Nat) (a_row : Nat) (a_resolver : Nat) (z_together : Int32) (z_inConflict : Int32) (a_y0 : Nat) (a_y0_kinds : Nat) (f_y0_kinds : Nat → Int32) (a_y0_values : Nat) (f_y0_values : Nat → Int64) (n_y0_size : Nat) (ka_closers : ClassId) (ka_openers : ClassId) (ka_y0_kinds : ClassId) (ka_y0_values : ClassId) (c_closers : ∀ j, ∃ q, q < 362 ∧ f_closers j = nI q) (c_openers : ∀ j, ∃ q, q < 362 ∧ f_openers j = nI q) (b_y0_size : n_y0_size ≤ 362) (hp0 : bl7 f_y0_kinds f_y0_values n_y0_size) (hp1 : cn f_y0_kinds n_y0_size ≤ 90) : Met l y_Rows_matchBrackets w_Rows_matchBrackets ({ frames := 2, cells := 0, slots := 0, locals := 43 }) (va_Pc [.ref a_t, .ref a_y0] (fun U => U.heap.size = sz ∧ va_P (dC, dI) vcl [(a_t, .inr (9, [.ref a_closers, .ref a_openers, .ref a_opened, .ref a_closed, .ref a_row, .ref a_resolver, .int z_together, .int z_inConflict])), (a_closers, .inl (ka_closers, 362, .inl f_closers)), (a_openers, .inl (ka_openers, 90, .inl f_openers)), (a_y0, .inr (11, [.ref a_y0_kinds, .ref a_y0_values, .int (nI n_y0_size)])), (a_y0_kinds, .inl (ka_y0_kinds, 362, .inl f_y0_kinds)), (a_y0_values, .inl (ka_y0_values, 362, .inr (.inl f_y0_values)))] U.heap ∧ va_K (dC, dI) vcl [(ka_closers, .int), (ka_openers, .int), (ka_y0_kinds, .int), (ka_y0_values, .long)] U ∧ va_D (fun _ => True) [(a_t, .inr (9, [.ref a_closers, .ref a_openers, .ref a_opened, .ref a_closed, .ref a_row, .ref a_resolver, .int z_together, .int z_inConflict])), (a_closers, .inl (ka_closers, 362, .inl f_closers)), (a_openers, .inl (ka_openers, 90, .inl f_openers)), (a_y0, .inr (11, [.ref a_y0_kinds, .ref a_y0_values, .int (nI n_y0_size)])), (a_y0_kinds, .inl (ka_y0_kinds, 362, .inl f_y0_kinds)), (a_y0_values, .inl (ka_y0_values, 362, .inr (.inl f_y0_values)))])) (va_Qv (fun (_ : Unit) => True) (fun _ t => ∃ (w_f_closers : Nat → Int32) (w_f_openers : Nat → Int32), (∀ j, ∃ q, q < 362 ∧ w_f_closers j = nI q) ∧ (∀ j, ∃ q, q < 362 ∧ w_f_openers j = nI q) ∧ (PN f_y0_kinds f_y0_values w_f_closers n_y0_size) ∧ va_P (dC, dI) vcl [(a_t, .inr (9, [.ref a_closers, .ref a_openers, .ref a_opened, .ref a_closed, .ref a_row, .ref a_resolver, .int z_together, .int z_inConflict])), (a_closers, .inl (ka_closers, 362, .inl w_f_closers)), (a_openers, .inl (ka_openers, 90, .inl w_f_openers)), (a_y0, .inr (11, [.ref a_y0_kinds, .ref a_y0_values, .int (nI n_y0_size)])), (a_y0_kinds, .inl (ka_y0_kinds, 362, .inl f_y0_kinds)), (a_y0_values, .inl (ka_y0_values, 362, .inr (.inl f_y0_values)))] t.heap ∧ va_K (dC, dI) vcl [(ka_closers, .int), (ka_openers, .int), (ka_y0_kinds, .int), (ka_y0_values, .long)] t ∧ va_D (va_A [(a_t, .inr (9, [.ref a_closers, .ref a_openers, .ref a_opened, .ref a_closed, .ref a_row, .ref a_resolver, .int z_together, .int z_inConflict])), (a_closers, .inl (ka_closers, 362, .inl f_closers)), (a_openers, .inl (ka_openers, 90, .inl f_openers)), (a_y0, .inr (11, [.ref a_y0_kinds, .ref a_y0_values, .int (nI n_y0_size)])), (a_y0_kinds, .inl (ka_y0_kinds, 362, .inl f_y0_kinds)), (a_y0_values, .inl (ka_y0_values, 362, .inr (.inl f_y0_values)))] sz) [(a_t, .inr (9, [.ref a_closers, .ref a_openers, .ref a_opened, .ref a_closed, .ref a_row, .ref a_resolver, .int z_together, .int z_inConflict])), (a_closers, .inl (ka_closers, 362, .inl w_f_closers)), (a_openers, .inl (ka_openers, 90, .inl w_f_openers)), (a_y0, .inr (11, [.ref a_y0_kinds, .ref a_y0_values, .int (nI n_y0_size)])), (a_y0_kinds, .inl (ka_y0_kinds, 362, .inl f_y0_kinds)), (a_y0_values, .inl (ka_y0_values, 362, .inr (.inl f_y0_values)))]) (va_A [(a_t, .inr (9, [.ref a_closers, .ref a_openers, .ref a_opened, .ref a_closed, .ref a_row, .ref a_resolver, .int z_together, .int z_inConflict])), (a_closers, .inl (ka_closers, 362, .inl f_closers)), (a_openers, .inl (ka_openers, 90, .inl f_openers)), (a_y0, .inr (11, [.ref a_y0_kinds, .ref a_y0_values, .int (nI n_y0_size)])), (a_y0_kinds, .inl (ka_y0_kinds, 362, .inl f_y0_kinds)), (a_y0_values, .inl (ka_y0_values, 362, .inr (.inl f_y0_values)))] sz)) 0 0 (va_A [(a_t, .inr (9, [.ref a_closers, .ref a_openers, .ref a_opened, .ref a_closed, .ref a_row, .ref a_resolver, .int z_together, .int z_inConflict])), (a_closers, .inl (ka_closers, 362, .inl f_closers)), (a_openers, .inl (ka_openers, 90, .inl f_openers)), (a_y0, .inr (11, [.ref a_y0_kinds, .ref a_y0_values, .int (nI n_y0_size)])), (a_y0_kinds, .inl (ka_y0_kinds, 362, .inl f_y0_kinds)), (a_y0_values, .inl (ka_y0_values, 362, .inr (.inl f_y0_values)))] sz) := by
  refine Met.ofW (cc := b_Rows_matchBrackets) (maxL := 4) (ret := none) (by decide) rfl ?_
  intro p e s m args below meth c s₁ B hml hv
  obtain ⟨rfl, hsz, hP, hK, hD0⟩ := hv
  have hx := B.exec
  have hb := B.bytes
  have hr := B.returns
  have hts := atoms_spec (ws := w_Rows_matchBrackets) B.pre
  have hz : ∀ w ∈ wz, w.before _ s = true := fun w h => hts w (List.mem_cons_of_mem _ h)
  have hown : s.vm.findClass R_Rows = some m.cls := findClass_of_methodNamed B.named
  have hlocks := B.notSynchronized
  subst hsz
  have hD := hD0.self (sz := s.heap.size)
  generalize hAe : va_A [(a_t, .inr (9, [.ref a_closers, .ref a_openers, .ref a_opened, .ref a_closed, .ref a_row, .ref a_resolver, .int z_together, .int z_inConflict])), (a_closers, .inl (ka_closers, 362, .inl f_closers)), (a_openers, .inl (ka_openers, 90, .inl f_openers)), (a_y0, .inr (11, [.ref a_y0_kinds, .ref a_y0_values, .int (nI n_y0_size)])), (a_y0_kinds, .inl (ka_y0_kinds, 362, .inl f_y0_kinds)), (a_y0_values, .inl (ka_y0_values, 362, .inr (.inl f_y0_values)))] s.heap.size = A at hD ⊢
  have hA : ∀ q : Nat, s.heap.size ≤ q → A q := fun q h => by rw [← hAe]; exact Or.inr h
  have hS : va_S A s.heap s.heap [] := va_S.rf
  have hP : va_P (dC, dI) vcl [(a_t, .inr (9, [.ref a_closers, .ref a_openers, .ref a_opened, .ref a_closed, .ref a_row, .ref a_resolver, .int z_together, .int z_inConflict])), (a_closers, .inl (ka_closers, 362, .inl f_closers)), (a_openers, .inl (ka_openers, 90, .inl f_openers)), (a_y0, .inr (11, [.ref a_y0_kinds, .ref a_y0_values, .int (nI n_y0_size)])), (a_y0_kinds, .inl (ka_y0_kinds, 362, .inl f_y0_kinds)), (a_y0_values, .inl (ka_y0_values, 362, .inr (.inl f_y0_values)))] s.heap := hP
  have hl := lv_entry ([.ref a_t, .ref a_y0]) (n := 4) (Nat.le_of_ble_eq_true rfl)
  rw [lg_entry_eq]
  generalize (lg_sl ([.ref a_t, .ref a_y0]) ++ List.replicate (4 - (lg_sl ([.ref a_t, .ref a_y0])).length) Slot.unset).toArray = ls at hl ⊢
  have hl : lv_has ls 4 [(0, .ref a_t), (1, .ref a_y0)] := hl
  refine lv_iconst (v := 0) hx hb d_Rows_matchBrackets_0 (by decide) ?_
  refine lv_istore_n hx hb d_Rows_matchBrackets_1 rfl hl (by decide) rfl (fun ls hl => ?_)
  have hl : lv_has ls 4 [(2, .int 0), (0, .ref a_t), (1, .ref a_y0)] := hl
  refine lv_iconst (v := 0) hx hb d_Rows_matchBrackets_2 (by decide) ?_
  refine lv_istore_n hx hb d_Rows_matchBrackets_3 rfl hl (by decide) rfl (fun ls hl => ?_)
  have hl : lv_has ls 4 [(3, .int 0), (2, .int 0), (0, .ref a_t), (1, .ref a_y0)] := hl
  have hl : lv_has ls 4 [(2, .int 0), (3, .int 0), (0, .ref a_t), (1, .ref a_y0)] := lv_sub hl [1, 0, 2, 3] rfl
  refine xr_loop (α := (Nat) × (Nat) × (Nat → Int32) × (Nat → Int32)) (fun a => (fun (k2 : Nat) (k3 : Nat) (v_a_closers : Nat → Int32) (v_a_openers : Nat → Int32) => 362 - k3) a.1 a.2.1 a.2.2.1 a.2.2.2) (fun a H locs ls => (fun (k2 : Nat) (k3 : Nat) (v_a_closers : Nat → Int32) (v_a_openers : Nat → Int32) => (k2 ≤ 90) ∧ (k3 ≤ 362) ∧ (∀ j, ∃ q, q < 362 ∧ v_a_closers j = nI q) ∧ (∀ j, ∃ q, q < 362 ∧ v_a_openers j = nI q) ∧ (k3 ≤ n_y0_size) ∧ (MB f_y0_kinds f_y0_values v_a_openers v_a_closers k2 k3) ∧ lv_has ls 4 [(2, .int (nI k2)), (3, .int (nI k3)), (0, .ref a_t), (1, .ref a_y0)] ∧ va_P (dC, dI) vcl [(a_t, .inr (9, [.ref a_closers, .ref a_openers, .ref a_opened, .ref a_closed, .ref a_row, .ref a_resolver, .int z_together, .int z_inConflict])), (a_closers, .inl (ka_closers, 362, .inl v_a_closers)), (a_openers, .inl (ka_openers, 90, .inl v_a_openers)), (a_y0, .inr (11, [.ref a_y0_kinds, .ref a_y0_values, .int (nI n_y0_size)])), (a_y0_kinds, .inl (ka_y0_kinds, 362, .inl f_y0_kinds)), (a_y0_values, .inl (ka_y0_values, 362, .inr (.inl f_y0_values)))] H ∧ va_D A [(a_t, .inr (9, [.ref a_closers, .ref a_openers, .ref a_opened, .ref a_closed, .ref a_row, .ref a_resolver, .int z_together, .int z_inConflict])), (a_closers, .inl (ka_closers, 362, .inl v_a_closers)), (a_openers, .inl (ka_openers, 90, .inl v_a_openers)), (a_y0, .inr (11, [.ref a_y0_kinds, .ref a_y0_values, .int (nI n_y0_size)])), (a_y0_kinds, .inl (ka_y0_kinds, 362, .inl f_y0_kinds)), (a_y0_values, .inl (ka_y0_values, 362, .inr (.inl f_y0_values)))] ∧ va_S A s.heap H locs) a.1 a.2.1 a.2.2.1 a.2.2.2) (fun a ih4 H locs ls hI => ?_) (0, 0, f_closers, f_openers) _ _ _ ⟨by show 0 ≤ 90; first | omega | assumption | exact Or.inl rfl | exact Or.inr rfl | decide, by show 0 ≤ 362; first | omega | assumption | exact Or.inl rfl | exact Or.inr rfl | decide, by show ∀ j, ∃ q, q < 362 ∧ f_closers j = nI q; first | omega | assumption | exact Or.inl rfl | exact Or.inr rfl | decide, by show ∀ j, ∃ q, q < 362 ∧ f_openers j = nI q; first | omega | assumption | exact Or.inl rfl | exact Or.inr rfl | decide, by show 0 ≤ n_y0_size; first | omega | assumption | exact Or.inl rfl | exact Or.inr rfl | decide, by show MB f_y0_kinds f_y0_values f_openers f_closers 0 0; exact mb_0, hl, hP, hD, hS⟩
  obtain ⟨k2, k3, v_a_closers, v_a_openers⟩ := a
  obtain ⟨bl0, bl1, bl2, bl3, bl4, bl5, hl, hP, hD, hS⟩ := hI
  have bl0 : k2 ≤ 90 := bl0
  have bl1 : k3 ≤ 362 := bl1
  have bl2 : ∀ j, ∃ q, q < 362 ∧ v_a_closers j = nI q := bl2
  have bl3 : ∀ j, ∃ q, q < 362 ∧ v_a_openers j = nI q := bl3
  have bl4 : k3 ≤ n_y0_size := bl4
  have iK := bl4
  have bl5 : MB f_y0_kinds f_y0_values v_a_openers v_a_closers k2 k3 := bl5
  have iE := bl5
  have hl : lv_has ls 4 [(2, .int (nI k2)), (3, .int (nI k3)), (0, .ref a_t), (1, .ref a_y0)] := hl
  have hP : va_P (dC, dI) vcl [(a_t, .inr (9, [.ref a_closers, .ref a_openers, .ref a_opened, .ref a_closed, .ref a_row, .ref a_resolver, .int z_together, .int z_inConflict])), (a_closers, .inl (ka_closers, 362, .inl v_a_closers)), (a_openers, .inl (ka_openers, 90, .inl v_a_openers)), (a_y0, .inr (11, [.ref a_y0_kinds, .ref a_y0_values, .int (nI n_y0_size)])), (a_y0_kinds, .inl (ka_y0_kinds, 362, .inl f_y0_kinds)), (a_y0_values, .inl (ka_y0_values, 362, .inr (.inl f_y0_values)))] H := hP
  have hD : va_D A [(a_t, .inr (9, [.ref a_closers, .ref a_openers, .ref a_opened, .ref a_closed, .ref a_row, .ref a_resolver, .int z_together, .int z_inConflict])), (a_closers, .inl (ka_closers, 362, .inl v_a_closers)), (a_openers, .inl (ka_openers, 90, .inl v_a_openers)), (a_y0, .inr (11, [.ref a_y0_kinds, .ref a_y0_values, .int (nI n_y0_size)])), (a_y0_kinds, .inl (ka_y0_kinds, 362, .inl f_y0_kinds)), (a_y0_values, .inl (ka_y0_values, 362, .inr (.inl f_y0_values)))] := hD
  refine lv_iload_n hx hb d_Rows_matchBrackets_4 rfl (lv_at hl 1 rfl) ?_
  refine lv_aload_n hx hb d_Rows_matchBrackets_5 rfl (lv_at hl 3 rfl) ?_
  have hPc := hP.sub (ws' := [(a_y0, .inr (11, [.ref a_y0_kinds, .ref a_y0_values, .int (nI n_y0_size)]))]) [3] rfl
  have hDc := hD.sub (ws' := [(a_y0, .inr (11, [.ref a_y0_kinds, .ref a_y0_values, .int (nI n_y0_size)]))]) [3] (by decide) rfl
  have hKc := hK.sub (tys' := []) [] rfl
  have hFc := va_free (wc := [(a_y0, .inr (11, [.ref a_y0_kinds, .ref a_y0_values, .int (nI n_y0_size)]))]) hD hS hA [3] rfl
  refine va_calli (va_runV (As := []) (rest := [.int (nI k3)]) ⟨hx, hb, hml, hown, hz⟩ (s_Tokens_size l dC dI H.size a_y0 a_y0_kinds a_y0_values n_y0_size) (cwV 0 hz (zV zm_379 zm_64 zm_65 zm_35 zm_66) rfl rfl rfl (by decide +kernel) ⟨Nat.le_of_ble_eq_true rfl, Nat.le_of_ble_eq_true rfl⟩) ⟨fun a U g mk q => by obtain ⟨q0, q1, qP, qK, qD⟩ := q; exact ⟨q0, q1, qP, va_K.moved (u := U) (U := U.calling g mk a) (Vm.Alike.refl U.vm) qK, qD⟩, va_recv (q := (R_Tokens, F_Tokens, 3)) (q0 := 3) (ci := 11) hK hP rfl rfl, fun U hU hW => ⟨rfl, by rw [hU], by rw [hU]; exact hPc, va_K.moved hW.alike hKc, hDc.weaken (fun _ _ _ _ => trivial)⟩⟩ rfl rfl hl.1 rfl (lv_room (Nat.le_of_ble_eq_true rfl)) d_Rows_matchBrackets_6 ⟨Nat.zero_le _, Nat.zero_le _⟩) hS (fun q _ h => hFc q h) hFc (fun r u t H1 locs ht hvm hw hB hz1 hk1 hS => ?_)
  obtain ⟨hP1, hK1, hD1⟩ := hB
  subst r
  rw [ht] at hP1
  obtain ⟨hP, hD⟩ := va_join (wr := [(a_t, .inr (9, [.ref a_closers, .ref a_openers, .ref a_opened, .ref a_closed, .ref a_row, .ref a_resolver, .int z_together, .int z_inConflict])), (a_closers, .inl (ka_closers, 362, .inl v_a_closers)), (a_openers, .inl (ka_openers, 90, .inl v_a_openers)), (a_y0_kinds, .inl (ka_y0_kinds, 362, .inl f_y0_kinds)), (a_y0_values, .inl (ka_y0_values, 362, .inr (.inl f_y0_values)))]) (w1 := [(a_y0, .inr (11, [.ref a_y0_kinds, .ref a_y0_values, .int (nI n_y0_size)]))]) hP hD [3] [0, 1, 2, 4, 5] rfl rfl (by decide) (by decide) hk1 hFc hP1 hD1
  generalize H1 = H at hP hS ⊢
  have hP : va_P (dC, dI) vcl [(a_t, .inr (9, [.ref a_closers, .ref a_openers, .ref a_opened, .ref a_closed, .ref a_row, .ref a_resolver, .int z_together, .int z_inConflict])), (a_closers, .inl (ka_closers, 362, .inl v_a_closers)), (a_openers, .inl (ka_openers, 90, .inl v_a_openers)), (a_y0_kinds, .inl (ka_y0_kinds, 362, .inl f_y0_kinds)), (a_y0_values, .inl (ka_y0_values, 362, .inr (.inl f_y0_values))), (a_y0, .inr (11, [.ref a_y0_kinds, .ref a_y0_values, .int (nI n_y0_size)]))] H := hP
  have hD : va_D A [(a_t, .inr (9, [.ref a_closers, .ref a_openers, .ref a_opened, .ref a_closed, .ref a_row, .ref a_resolver, .int z_together, .int z_inConflict])), (a_closers, .inl (ka_closers, 362, .inl v_a_closers)), (a_openers, .inl (ka_openers, 90, .inl v_a_openers)), (a_y0_kinds, .inl (ka_y0_kinds, 362, .inl f_y0_kinds)), (a_y0_values, .inl (ka_y0_values, 362, .inr (.inl f_y0_values))), (a_y0, .inr (11, [.ref a_y0_kinds, .ref a_y0_values, .int (nI n_y0_size)]))] := hD
  refine lv_icmp_ge (tgt := 86) hx hb d_Rows_matchBrackets_9 (by decide) (fun h1 => ?_) (fun h1 => ?_)
  · have h1 : n_y0_size ≤ k3 := (nI_leI (a := n_y0_size) (b := k3) (by omega) (by omega)).mp h1
    have hP9 := hP.sub (ws' := [(a_t, .inr (9, [.ref a_closers, .ref a_openers, .ref a_opened, .ref a_closed, .ref a_row, .ref a_resolver, .int z_together, .int z_inConflict])), (a_closers, .inl (ka_closers, 362, .inl v_a_closers)), (a_openers, .inl (ka_openers, 90, .inl v_a_openers)), (a_y0, .inr (11, [.ref a_y0_kinds, .ref a_y0_values, .int (nI n_y0_size)])), (a_y0_kinds, .inl (ka_y0_kinds, 362, .inl f_y0_kinds)), (a_y0_values, .inl (ka_y0_values, 362, .inr (.inl f_y0_values)))]) [0, 1, 2, 5, 3, 4] rfl
    have hD9 := hD.sub (ws' := [(a_t, .inr (9, [.ref a_closers, .ref a_openers, .ref a_opened, .ref a_closed, .ref a_row, .ref a_resolver, .int z_together, .int z_inConflict])), (a_closers, .inl (ka_closers, 362, .inl v_a_closers)), (a_openers, .inl (ka_openers, 90, .inl v_a_openers)), (a_y0, .inr (11, [.ref a_y0_kinds, .ref a_y0_values, .int (nI n_y0_size)])), (a_y0_kinds, .inl (ka_y0_kinds, 362, .inl f_y0_kinds)), (a_y0_values, .inl (ka_y0_values, 362, .inr (.inl f_y0_values)))]) [0, 1, 2, 5, 3, 4] (by decide) rfl
    exact W.vret hx hb hr (fun t ht hW => ⟨⟨(), rfl, trivial, v_a_closers, v_a_openers, by first | omega | assumption | exact Or.inl rfl | exact Or.inr rfl | decide, by first | omega | assumption | exact Or.inl rfl | exact Or.inr rfl | decide, by exact Eq.subst (motive := fun z => PN f_y0_kinds f_y0_values v_a_closers z) (show k3 = n_y0_size by omega) iE.2, by rw [ht]; exact hP9, va_K.moved hW.alike hK, hD9⟩, hS.F ht⟩) hS.2.2 d_Rows_matchBrackets_86
  · have h1 : ¬ n_y0_size ≤ k3 := fun q => h1 ((nI_leI (a := n_y0_size) (b := k3) (by omega) (by omega)).mpr q)
    refine lv_iload_n hx hb d_Rows_matchBrackets_12 rfl (lv_at hl 1 rfl) ?_
    refine lv_sipush (v := 362) hx hb d_Rows_matchBrackets_13 (by decide) ?_
    refine lv_icmp_ge (tgt := 86) hx hb d_Rows_matchBrackets_16 (by decide) (fun h2 => ?_) (fun h2 => ?_)
    · have h2 : 362 ≤ k3 := (nI_leI (a := 362) (b := k3) (by omega) (by omega)).mp h2
      (exfalso; omega)
    · have h2 : ¬ 362 ≤ k3 := fun q => h2 ((nI_leI (a := 362) (b := k3) (by omega) (by omega)).mpr q)
      refine lv_aload_n hx hb d_Rows_matchBrackets_19 rfl (lv_at hl 2 rfl) ?_
      refine va_get (D := (dC, dI)) (ci := 9) (v := .ref a_closers) (C := R_Rows) (T := F_Rows) (N := 8) hx hb hz zu_Rows hown hK hP 0 rfl rfl 0 (by decide) (hz (.fieldLink R_Rows 9 "LayoutFront$Rows" "closers" "[I") zm_353) (fun _ h9 => h9) rfl d_Rows_matchBrackets_20 ?_
      refine lv_iload_n hx hb d_Rows_matchBrackets_23 rfl (lv_at hl 1 rfl) ?_
      refine lv_iload_n hx hb d_Rows_matchBrackets_24 rfl (lv_at hl 1 rfl) ?_
      refine va_iast hx hb hK hP hD hS 1 0 rfl rfl (vp_in_nI (by omega) (by omega)) d_Rows_matchBrackets_25 (fun H locs hP hD hS => ?_)
      rw [show ((nI k3) : Int32).toNatClampNeg = k3 from nI_clamp (by omega)] at hP hD
      have hc_f3 := xr_upr (b := 362) (i := k3) (q := k3) bl2 (by omega)
      generalize hf_f3 : upd v_a_closers k3 (nI k3) = f3 at hP hD hc_f3
      have hP : va_P (dC, dI) vcl [(a_t, .inr (9, [.ref a_closers, .ref a_openers, .ref a_opened, .ref a_closed, .ref a_row, .ref a_resolver, .int z_together, .int z_inConflict])), (a_closers, .inl (ka_closers, 362, .inl f3)), (a_openers, .inl (ka_openers, 90, .inl v_a_openers)), (a_y0_kinds, .inl (ka_y0_kinds, 362, .inl f_y0_kinds)), (a_y0_values, .inl (ka_y0_values, 362, .inr (.inl f_y0_values))), (a_y0, .inr (11, [.ref a_y0_kinds, .ref a_y0_values, .int (nI n_y0_size)]))] H := hP
      have hD : va_D A [(a_t, .inr (9, [.ref a_closers, .ref a_openers, .ref a_opened, .ref a_closed, .ref a_row, .ref a_resolver, .int z_together, .int z_inConflict])), (a_closers, .inl (ka_closers, 362, .inl f3)), (a_openers, .inl (ka_openers, 90, .inl v_a_openers)), (a_y0_kinds, .inl (ka_y0_kinds, 362, .inl f_y0_kinds)), (a_y0_values, .inl (ka_y0_values, 362, .inr (.inl f_y0_values))), (a_y0, .inr (11, [.ref a_y0_kinds, .ref a_y0_values, .int (nI n_y0_size)]))] := hD
      refine lv_aload_n hx hb d_Rows_matchBrackets_26 rfl (lv_at hl 3 rfl) ?_
      refine lv_iload_n hx hb d_Rows_matchBrackets_27 rfl (lv_at hl 1 rfl) ?_
      have hPc := hP.sub (ws' := [(a_y0, .inr (11, [.ref a_y0_kinds, .ref a_y0_values, .int (nI n_y0_size)])), (a_y0_kinds, .inl (ka_y0_kinds, 362, .inl f_y0_kinds)), (a_y0_values, .inl (ka_y0_values, 362, .inr (.inl f_y0_values)))]) [5, 3, 4] rfl
      have hDc := hD.sub (ws' := [(a_y0, .inr (11, [.ref a_y0_kinds, .ref a_y0_values, .int (nI n_y0_size)])), (a_y0_kinds, .inl (ka_y0_kinds, 362, .inl f_y0_kinds)), (a_y0_values, .inl (ka_y0_values, 362, .inr (.inl f_y0_values)))]) [5, 3, 4] (by decide) rfl
      have hKc := hK.sub (tys' := [(ka_y0_kinds, .int), (ka_y0_values, .long)]) [2, 3] rfl
      have hFc := va_free (wc := [(a_y0, .inr (11, [.ref a_y0_kinds, .ref a_y0_values, .int (nI n_y0_size)])), (a_y0_kinds, .inl (ka_y0_kinds, 362, .inl f_y0_kinds)), (a_y0_values, .inl (ka_y0_values, 362, .inr (.inl f_y0_values)))]) hD hS hA [5, 3, 4] rfl
      refine va_calli (va_runV (As := [.int (nI k3)]) (rest := []) ⟨hx, hb, hml, hown, hz⟩ (s_Tokens_opensBracket7 l dC dI H.size 362 a_y0 a_y0_kinds f_y0_kinds a_y0_values f_y0_values n_y0_size k3 ka_y0_kinds ka_y0_values (by first | omega | assumption | exact Or.inl rfl | exact Or.inr rfl | decide) (by first | omega | assumption | exact Or.inl rfl | exact Or.inr rfl | decide) (by first | omega | assumption | exact Or.inl rfl | exact Or.inr rfl | decide)) (cwV 1 hz (zV zm_384 zm_385 zm_386 zm_35 zm_387) rfl rfl rfl (by decide +kernel) ⟨Nat.le_of_ble_eq_true rfl, Nat.le_of_ble_eq_true rfl⟩) ⟨fun a U g mk q => by obtain ⟨q0, q1, qP, qK, qD⟩ := q; exact ⟨q0, q1, qP, va_K.moved (u := U) (U := U.calling g mk a) (Vm.Alike.refl U.vm) qK, qD⟩, va_recv (q := (R_Tokens, F_Tokens, 3)) (q0 := 5) (ci := 11) hK hP rfl rfl, fun U hU hW => ⟨rfl, by rw [hU], by rw [hU]; exact hPc, va_K.moved hW.alike hKc, hDc.weaken (fun _ _ _ _ => trivial)⟩⟩ rfl rfl hl.1 rfl (lv_room (Nat.le_of_ble_eq_true rfl)) d_Rows_matchBrackets_28 ⟨Nat.zero_le _, Nat.zero_le _⟩) hS (fun q _ h => hFc q h) hFc (fun r u t H1 locs ht hvm hw_r hB hz1 hk1 hS => ?_)
      obtain ⟨hP1, hK1, hD1⟩ := hB
      obtain ⟨hb_r, he_r⟩ := hw_r
      subst r
      rw [ht] at hP1
      obtain ⟨hP, hD⟩ := va_join (wr := [(a_t, .inr (9, [.ref a_closers, .ref a_openers, .ref a_opened, .ref a_closed, .ref a_row, .ref a_resolver, .int z_together, .int z_inConflict])), (a_closers, .inl (ka_closers, 362, .inl f3)), (a_openers, .inl (ka_openers, 90, .inl v_a_openers))]) (w1 := [(a_y0, .inr (11, [.ref a_y0_kinds, .ref a_y0_values, .int (nI n_y0_size)])), (a_y0_kinds, .inl (ka_y0_kinds, 362, .inl f_y0_kinds)), (a_y0_values, .inl (ka_y0_values, 362, .inr (.inl f_y0_values)))]) hP hD [5, 3, 4] [0, 1, 2] rfl rfl (by decide) (by decide) hk1 hFc hP1 hD1
      generalize H1 = H at hP hS ⊢
      have hP : va_P (dC, dI) vcl [(a_t, .inr (9, [.ref a_closers, .ref a_openers, .ref a_opened, .ref a_closed, .ref a_row, .ref a_resolver, .int z_together, .int z_inConflict])), (a_closers, .inl (ka_closers, 362, .inl f3)), (a_openers, .inl (ka_openers, 90, .inl v_a_openers)), (a_y0, .inr (11, [.ref a_y0_kinds, .ref a_y0_values, .int (nI n_y0_size)])), (a_y0_kinds, .inl (ka_y0_kinds, 362, .inl f_y0_kinds)), (a_y0_values, .inl (ka_y0_values, 362, .inr (.inl f_y0_values)))] H := hP
      have hD : va_D A [(a_t, .inr (9, [.ref a_closers, .ref a_openers, .ref a_opened, .ref a_closed, .ref a_row, .ref a_resolver, .int z_together, .int z_inConflict])), (a_closers, .inl (ka_closers, 362, .inl f3)), (a_openers, .inl (ka_openers, 90, .inl v_a_openers)), (a_y0, .inr (11, [.ref a_y0_kinds, .ref a_y0_values, .int (nI n_y0_size)])), (a_y0_kinds, .inl (ka_y0_kinds, 362, .inl f_y0_kinds)), (a_y0_values, .inl (ka_y0_values, 362, .inr (.inl f_y0_values)))] := hD
      refine lv_if_eq (tgt := 53) hx hb d_Rows_matchBrackets_31 (by decide) (fun h4 => ?_) (fun h4 => ?_)
      · have e31 := b01_no h4
        refine lv_aload_n hx hb d_Rows_matchBrackets_53 rfl (lv_at hl 3 rfl) ?_
        refine lv_iload_n hx hb d_Rows_matchBrackets_54 rfl (lv_at hl 1 rfl) ?_
        have hPc := hP.sub (ws' := [(a_y0, .inr (11, [.ref a_y0_kinds, .ref a_y0_values, .int (nI n_y0_size)])), (a_y0_kinds, .inl (ka_y0_kinds, 362, .inl f_y0_kinds)), (a_y0_values, .inl (ka_y0_values, 362, .inr (.inl f_y0_values)))]) [3, 4, 5] rfl
        have hDc := hD.sub (ws' := [(a_y0, .inr (11, [.ref a_y0_kinds, .ref a_y0_values, .int (nI n_y0_size)])), (a_y0_kinds, .inl (ka_y0_kinds, 362, .inl f_y0_kinds)), (a_y0_values, .inl (ka_y0_values, 362, .inr (.inl f_y0_values)))]) [3, 4, 5] (by decide) rfl
        have hKc := hK.sub (tys' := [(ka_y0_kinds, .int), (ka_y0_values, .long)]) [2, 3] rfl
        have hFc := va_free (wc := [(a_y0, .inr (11, [.ref a_y0_kinds, .ref a_y0_values, .int (nI n_y0_size)])), (a_y0_kinds, .inl (ka_y0_kinds, 362, .inl f_y0_kinds)), (a_y0_values, .inl (ka_y0_values, 362, .inr (.inl f_y0_values)))]) hD hS hA [3, 4, 5] rfl
        refine va_calli (va_runV (As := [.int (nI k3)]) (rest := []) ⟨hx, hb, hml, hown, hz⟩ (s_Tokens_closesBracket7 l dC dI H.size 362 a_y0 a_y0_kinds f_y0_kinds a_y0_values f_y0_values n_y0_size k3 ka_y0_kinds ka_y0_values (by first | omega | assumption | exact Or.inl rfl | exact Or.inr rfl | decide) (by first | omega | assumption | exact Or.inl rfl | exact Or.inr rfl | decide) (by first | omega | assumption | exact Or.inl rfl | exact Or.inr rfl | decide)) (cwV 1 hz (zV zm_405 zm_406 zm_407 zm_35 zm_408) rfl rfl rfl (by decide +kernel) ⟨Nat.le_of_ble_eq_true rfl, Nat.le_of_ble_eq_true rfl⟩) ⟨fun a U g mk q => by obtain ⟨q0, q1, qP, qK, qD⟩ := q; exact ⟨q0, q1, qP, va_K.moved (u := U) (U := U.calling g mk a) (Vm.Alike.refl U.vm) qK, qD⟩, va_recv (q := (R_Tokens, F_Tokens, 3)) (q0 := 3) (ci := 11) hK hP rfl rfl, fun U hU hW => ⟨rfl, by rw [hU], by rw [hU]; exact hPc, va_K.moved hW.alike hKc, hDc.weaken (fun _ _ _ _ => trivial)⟩⟩ rfl rfl hl.1 rfl (lv_room (Nat.le_of_ble_eq_true rfl)) d_Rows_matchBrackets_55 ⟨Nat.zero_le _, Nat.zero_le _⟩) hS (fun q _ h => hFc q h) hFc (fun r u t H1 locs ht hvm hw_r hB hz1 hk1 hS => ?_)
        obtain ⟨hP1, hK1, hD1⟩ := hB
        obtain ⟨hb_r, he_r⟩ := hw_r
        subst r
        rw [ht] at hP1
        obtain ⟨hP, hD⟩ := va_join (wr := [(a_t, .inr (9, [.ref a_closers, .ref a_openers, .ref a_opened, .ref a_closed, .ref a_row, .ref a_resolver, .int z_together, .int z_inConflict])), (a_closers, .inl (ka_closers, 362, .inl f3)), (a_openers, .inl (ka_openers, 90, .inl v_a_openers))]) (w1 := [(a_y0, .inr (11, [.ref a_y0_kinds, .ref a_y0_values, .int (nI n_y0_size)])), (a_y0_kinds, .inl (ka_y0_kinds, 362, .inl f_y0_kinds)), (a_y0_values, .inl (ka_y0_values, 362, .inr (.inl f_y0_values)))]) hP hD [3, 4, 5] [0, 1, 2] rfl rfl (by decide) (by decide) hk1 hFc hP1 hD1
        generalize H1 = H at hP hS ⊢
        have hP : va_P (dC, dI) vcl [(a_t, .inr (9, [.ref a_closers, .ref a_openers, .ref a_opened, .ref a_closed, .ref a_row, .ref a_resolver, .int z_together, .int z_inConflict])), (a_closers, .inl (ka_closers, 362, .inl f3)), (a_openers, .inl (ka_openers, 90, .inl v_a_openers)), (a_y0, .inr (11, [.ref a_y0_kinds, .ref a_y0_values, .int (nI n_y0_size)])), (a_y0_kinds, .inl (ka_y0_kinds, 362, .inl f_y0_kinds)), (a_y0_values, .inl (ka_y0_values, 362, .inr (.inl f_y0_values)))] H := hP
        have hD : va_D A [(a_t, .inr (9, [.ref a_closers, .ref a_openers, .ref a_opened, .ref a_closed, .ref a_row, .ref a_resolver, .int z_together, .int z_inConflict])), (a_closers, .inl (ka_closers, 362, .inl f3)), (a_openers, .inl (ka_openers, 90, .inl v_a_openers)), (a_y0, .inr (11, [.ref a_y0_kinds, .ref a_y0_values, .int (nI n_y0_size)])), (a_y0_kinds, .inl (ka_y0_kinds, 362, .inl f_y0_kinds)), (a_y0_values, .inl (ka_y0_values, 362, .inr (.inl f_y0_values)))] := hD
        refine lv_if_eq (tgt := 80) hx hb d_Rows_matchBrackets_58 (by decide) (fun h5 => ?_) (fun h5 => ?_)
        · have e58 := b01_no h5
          refine lv_iinc (k := 1) (v := (nI (k3 + 1))) hx hb d_Rows_matchBrackets_80 hl rfl (nI_1 k3) (by decide) rfl (fun ls hl => ?_)
          have hl : lv_has ls 4 [(3, .int (nI (k3 + 1))), (2, .int (nI k2)), (0, .ref a_t), (1, .ref a_y0)] := hl
          refine lv_goto (tgt := 4) hx hb d_Rows_matchBrackets_83 (by decide) ?_
          have hl : lv_has ls 4 [(2, .int (nI k2)), (3, .int (nI (k3 + 1))), (0, .ref a_t), (1, .ref a_y0)] := lv_sub hl [1, 0, 2, 3] rfl
          have hP9 := hP.sub (ws' := [(a_t, .inr (9, [.ref a_closers, .ref a_openers, .ref a_opened, .ref a_closed, .ref a_row, .ref a_resolver, .int z_together, .int z_inConflict])), (a_closers, .inl (ka_closers, 362, .inl f3)), (a_openers, .inl (ka_openers, 90, .inl v_a_openers)), (a_y0, .inr (11, [.ref a_y0_kinds, .ref a_y0_values, .int (nI n_y0_size)])), (a_y0_kinds, .inl (ka_y0_kinds, 362, .inl f_y0_kinds)), (a_y0_values, .inl (ka_y0_values, 362, .inr (.inl f_y0_values)))]) [0, 1, 2, 3, 4, 5] rfl
          have hD9 := hD.sub (ws' := [(a_t, .inr (9, [.ref a_closers, .ref a_openers, .ref a_opened, .ref a_closed, .ref a_row, .ref a_resolver, .int z_together, .int z_inConflict])), (a_closers, .inl (ka_closers, 362, .inl f3)), (a_openers, .inl (ka_openers, 90, .inl v_a_openers)), (a_y0, .inr (11, [.ref a_y0_kinds, .ref a_y0_values, .int (nI n_y0_size)])), (a_y0_kinds, .inl (ka_y0_kinds, 362, .inl f_y0_kinds)), (a_y0_values, .inl (ka_y0_values, 362, .inr (.inl f_y0_values)))]) [0, 1, 2, 3, 4, 5] (by decide) rfl
          exact ih4 (k2, (k3 + 1), f3, v_a_openers) (by show 362 - ((k3 + 1)) < 362 - k3; omega) _ _ _ ⟨by show k2 ≤ 90; first | omega | assumption | exact Or.inl rfl | exact Or.inr rfl | decide, by show ((k3 + 1)) ≤ 362; first | omega | assumption | exact Or.inl rfl | exact Or.inr rfl | decide, by show ∀ j, ∃ q, q < 362 ∧ f3 j = nI q; first | omega | assumption | exact Or.inl rfl | exact Or.inr rfl | decide, by show ∀ j, ∃ q, q < 362 ∧ v_a_openers j = nI q; first | omega | assumption | exact Or.inl rfl | exact Or.inr rfl | decide, by show ((k3 + 1)) ≤ n_y0_size; first | omega | assumption | exact Or.inl rfl | exact Or.inr rfl | decide, by show MB f_y0_kinds f_y0_values v_a_openers f3 k2 ((k3 + 1)); exact mb_n (by omega) iE (ob_no (by omega) e31) (cb_no (by omega) e58) (by assumption), hl, hP9, hD9, hS⟩
        · have e58 := b01_yes h5
          have d8 := mb_pos iE hp0 (by omega) (cb_y (b01_yes h5)).2
          refine lv_iload_n hx hb d_Rows_matchBrackets_61 rfl (lv_at hl 0 rfl) ?_
          refine lv_if_le (tgt := 80) hx hb d_Rows_matchBrackets_62 (by decide) (fun h6 => ?_) (fun h6 => ?_)
          · have h6 : k2 ≤ 0 := (nI_leI (a := k2) (b := 0) (by omega) (by omega)).mp h6
            (exfalso; omega)
          · have h6 : ¬ k2 ≤ 0 := fun q => h6 ((nI_leI (a := k2) (b := 0) (by omega) (by omega)).mpr q)
            refine lv_iinc (k := 0) (v := (nI (k2 - 1))) hx hb d_Rows_matchBrackets_65 hl rfl (xr_dec (k := k2) (by omega)) (by decide) rfl (fun ls hl => ?_)
            have hl : lv_has ls 4 [(2, .int (nI (k2 - 1))), (3, .int (nI k3)), (0, .ref a_t), (1, .ref a_y0)] := hl
            refine lv_aload_n hx hb d_Rows_matchBrackets_68 rfl (lv_at hl 2 rfl) ?_
            refine va_get (D := (dC, dI)) (ci := 9) (v := .ref a_closers) (C := R_Rows) (T := F_Rows) (N := 8) hx hb hz zu_Rows hown hK hP 0 rfl rfl 0 (by decide) (hz (.fieldLink R_Rows 9 "LayoutFront$Rows" "closers" "[I") zm_353) (fun _ h9 => h9) rfl d_Rows_matchBrackets_69 ?_
            refine lv_aload_n hx hb d_Rows_matchBrackets_72 rfl (lv_at hl 2 rfl) ?_
            refine va_get (D := (dC, dI)) (ci := 9) (v := .ref a_openers) (C := R_Rows) (T := F_Rows) (N := 8) hx hb hz zu_Rows hown hK hP 0 rfl rfl 1 (by decide) (hz (.fieldLink R_Rows 15 "LayoutFront$Rows" "openers" "[I") zm_354) (fun _ h9 => h9) rfl d_Rows_matchBrackets_73 ?_
            refine lv_iload_n hx hb d_Rows_matchBrackets_76 rfl (lv_at hl 0 rfl) ?_
            refine va_iald hx hb hK hP 2 1 rfl rfl (vp_in_nI (by omega) (by omega)) d_Rows_matchBrackets_77 ?_
            refine lv_topi (fun x7 e_x7 => ?_)
            obtain ⟨j8, l_j8, e_j8⟩ : ∃ q, q < 362 ∧ x7 = nI q := by rw [e_x7]; exact bl3 _
            subst e_j8
            have ee_j8 : v_a_openers (k2 - 1) = nI j8 := by rw [nI_clamp (by omega)] at e_x7; exact e_x7.symm
            refine lv_iload_n hx hb d_Rows_matchBrackets_78 rfl (lv_at hl 1 rfl) ?_
            refine va_iast hx hb hK hP hD hS 1 0 rfl rfl (vp_in_nI (by omega) (by omega)) d_Rows_matchBrackets_79 (fun H locs hP hD hS => ?_)
            rw [show ((nI j8) : Int32).toNatClampNeg = j8 from nI_clamp (by omega)] at hP hD
            have hc_f9 := xr_upr (b := 362) (i := j8) (q := k3) hc_f3 (by omega)
            generalize hf_f9 : upd f3 j8 (nI k3) = f9 at hP hD hc_f9
            have hP : va_P (dC, dI) vcl [(a_t, .inr (9, [.ref a_closers, .ref a_openers, .ref a_opened, .ref a_closed, .ref a_row, .ref a_resolver, .int z_together, .int z_inConflict])), (a_closers, .inl (ka_closers, 362, .inl f9)), (a_openers, .inl (ka_openers, 90, .inl v_a_openers)), (a_y0, .inr (11, [.ref a_y0_kinds, .ref a_y0_values, .int (nI n_y0_size)])), (a_y0_kinds, .inl (ka_y0_kinds, 362, .inl f_y0_kinds)), (a_y0_values, .inl (ka_y0_values, 362, .inr (.inl f_y0_values)))] H := hP
            have hD : va_D A [(a_t, .inr (9, [.ref a_closers, .ref a_openers, .ref a_opened, .ref a_closed, .ref a_row, .ref a_resolver, .int z_together, .int z_inConflict])), (a_closers, .inl (ka_closers, 362, .inl f9)), (a_openers, .inl (ka_openers, 90, .inl v_a_openers)), (a_y0, .inr (11, [.ref a_y0_kinds, .ref a_y0_values, .int (nI n_y0_size)])), (a_y0_kinds, .inl (ka_y0_kinds, 362, .inl f_y0_kinds)), (a_y0_values, .inl (ka_y0_values, 362, .inr (.inl f_y0_values)))] := hD
            refine lv_iinc (k := 1) (v := (nI (k3 + 1))) hx hb d_Rows_matchBrackets_80 hl rfl (nI_1 k3) (by decide) rfl (fun ls hl => ?_)
            have hl : lv_has ls 4 [(3, .int (nI (k3 + 1))), (2, .int (nI (k2 - 1))), (0, .ref a_t), (1, .ref a_y0)] := hl
            refine lv_goto (tgt := 4) hx hb d_Rows_matchBrackets_83 (by decide) ?_
            have hl : lv_has ls 4 [(2, .int (nI (k2 - 1))), (3, .int (nI (k3 + 1))), (0, .ref a_t), (1, .ref a_y0)] := lv_sub hl [1, 0, 2, 3] rfl
            have hP9 := hP.sub (ws' := [(a_t, .inr (9, [.ref a_closers, .ref a_openers, .ref a_opened, .ref a_closed, .ref a_row, .ref a_resolver, .int z_together, .int z_inConflict])), (a_closers, .inl (ka_closers, 362, .inl f9)), (a_openers, .inl (ka_openers, 90, .inl v_a_openers)), (a_y0, .inr (11, [.ref a_y0_kinds, .ref a_y0_values, .int (nI n_y0_size)])), (a_y0_kinds, .inl (ka_y0_kinds, 362, .inl f_y0_kinds)), (a_y0_values, .inl (ka_y0_values, 362, .inr (.inl f_y0_values)))]) [0, 1, 2, 3, 4, 5] rfl
            have hD9 := hD.sub (ws' := [(a_t, .inr (9, [.ref a_closers, .ref a_openers, .ref a_opened, .ref a_closed, .ref a_row, .ref a_resolver, .int z_together, .int z_inConflict])), (a_closers, .inl (ka_closers, 362, .inl f9)), (a_openers, .inl (ka_openers, 90, .inl v_a_openers)), (a_y0, .inr (11, [.ref a_y0_kinds, .ref a_y0_values, .int (nI n_y0_size)])), (a_y0_kinds, .inl (ka_y0_kinds, 362, .inl f_y0_kinds)), (a_y0_values, .inl (ka_y0_values, 362, .inr (.inl f_y0_values)))]) [0, 1, 2, 3, 4, 5] (by decide) rfl
            exact ih4 ((k2 - 1), (k3 + 1), f9, v_a_openers) (by show 362 - ((k3 + 1)) < 362 - k3; omega) _ _ _ ⟨by show ((k2 - 1)) ≤ 90; first | omega | assumption | exact Or.inl rfl | exact Or.inr rfl | decide, by show ((k3 + 1)) ≤ 362; first | omega | assumption | exact Or.inl rfl | exact Or.inr rfl | decide, by show ∀ j, ∃ q, q < 362 ∧ f9 j = nI q; first | omega | assumption | exact Or.inl rfl | exact Or.inr rfl | decide, by show ∀ j, ∃ q, q < 362 ∧ v_a_openers j = nI q; first | omega | assumption | exact Or.inl rfl | exact Or.inr rfl | decide, by show ((k3 + 1)) ≤ n_y0_size; first | omega | assumption | exact Or.inl rfl | exact Or.inr rfl | decide, by show MB f_y0_kinds f_y0_values v_a_openers f9 ((k2 - 1)) ((k3 + 1)); exact mb_c (by omega) (by omega) iE (cb_y e58).2 (by assumption) (by omega) (by assumption) (by assumption), hl, hP9, hD9, hS⟩
      · have e31 := b01_yes h4
        have d9 := mb_few iE hp0 (by omega) (ob_y (b01_yes h4)).2 hp1
        refine lv_iload_n hx hb d_Rows_matchBrackets_34 rfl (lv_at hl 0 rfl) ?_
        refine lv_bipush (v := 90) hx hb d_Rows_matchBrackets_35 (by decide) ?_
        refine lv_icmp_ge (tgt := 53) hx hb d_Rows_matchBrackets_37 (by decide) (fun h10 => ?_) (fun h10 => ?_)
        · have h10 : 90 ≤ k2 := (nI_leI (a := 90) (b := k2) (by omega) (by omega)).mp h10
          (exfalso; omega)
        · have h10 : ¬ 90 ≤ k2 := fun q => h10 ((nI_leI (a := 90) (b := k2) (by omega) (by omega)).mpr q)
          refine lv_aload_n hx hb d_Rows_matchBrackets_40 rfl (lv_at hl 2 rfl) ?_
          refine va_get (D := (dC, dI)) (ci := 9) (v := .ref a_openers) (C := R_Rows) (T := F_Rows) (N := 8) hx hb hz zu_Rows hown hK hP 0 rfl rfl 1 (by decide) (hz (.fieldLink R_Rows 15 "LayoutFront$Rows" "openers" "[I") zm_354) (fun _ h9 => h9) rfl d_Rows_matchBrackets_41 ?_
          refine lv_iload_n hx hb d_Rows_matchBrackets_44 rfl (lv_at hl 0 rfl) ?_
          refine lv_iload_n hx hb d_Rows_matchBrackets_45 rfl (lv_at hl 1 rfl) ?_
          refine va_iast hx hb hK hP hD hS 2 1 rfl rfl (vp_in_nI (by omega) (by omega)) d_Rows_matchBrackets_46 (fun H locs hP hD hS => ?_)
          rw [show ((nI k2) : Int32).toNatClampNeg = k2 from nI_clamp (by omega)] at hP hD
          have hc_f16 := xr_upr (b := 362) (i := k2) (q := k3) bl3 (by omega)
          generalize hf_f16 : upd v_a_openers k2 (nI k3) = f16 at hP hD hc_f16
          have hP : va_P (dC, dI) vcl [(a_t, .inr (9, [.ref a_closers, .ref a_openers, .ref a_opened, .ref a_closed, .ref a_row, .ref a_resolver, .int z_together, .int z_inConflict])), (a_closers, .inl (ka_closers, 362, .inl f3)), (a_openers, .inl (ka_openers, 90, .inl f16)), (a_y0, .inr (11, [.ref a_y0_kinds, .ref a_y0_values, .int (nI n_y0_size)])), (a_y0_kinds, .inl (ka_y0_kinds, 362, .inl f_y0_kinds)), (a_y0_values, .inl (ka_y0_values, 362, .inr (.inl f_y0_values)))] H := hP
          have hD : va_D A [(a_t, .inr (9, [.ref a_closers, .ref a_openers, .ref a_opened, .ref a_closed, .ref a_row, .ref a_resolver, .int z_together, .int z_inConflict])), (a_closers, .inl (ka_closers, 362, .inl f3)), (a_openers, .inl (ka_openers, 90, .inl f16)), (a_y0, .inr (11, [.ref a_y0_kinds, .ref a_y0_values, .int (nI n_y0_size)])), (a_y0_kinds, .inl (ka_y0_kinds, 362, .inl f_y0_kinds)), (a_y0_values, .inl (ka_y0_values, 362, .inr (.inl f_y0_values)))] := hD
          refine lv_iinc (k := 0) (v := (nI (k2 + 1))) hx hb d_Rows_matchBrackets_47 hl rfl (nI_1 k2) (by decide) rfl (fun ls hl => ?_)
          have hl : lv_has ls 4 [(2, .int (nI (k2 + 1))), (3, .int (nI k3)), (0, .ref a_t), (1, .ref a_y0)] := hl
          refine lv_goto (tgt := 80) hx hb d_Rows_matchBrackets_50 (by decide) ?_
          refine lv_iinc (k := 1) (v := (nI (k3 + 1))) hx hb d_Rows_matchBrackets_80 hl rfl (nI_1 k3) (by decide) rfl (fun ls hl => ?_)
          have hl : lv_has ls 4 [(3, .int (nI (k3 + 1))), (2, .int (nI (k2 + 1))), (0, .ref a_t), (1, .ref a_y0)] := hl
          refine lv_goto (tgt := 4) hx hb d_Rows_matchBrackets_83 (by decide) ?_
          have hl : lv_has ls 4 [(2, .int (nI (k2 + 1))), (3, .int (nI (k3 + 1))), (0, .ref a_t), (1, .ref a_y0)] := lv_sub hl [1, 0, 2, 3] rfl
          have hP9 := hP.sub (ws' := [(a_t, .inr (9, [.ref a_closers, .ref a_openers, .ref a_opened, .ref a_closed, .ref a_row, .ref a_resolver, .int z_together, .int z_inConflict])), (a_closers, .inl (ka_closers, 362, .inl f3)), (a_openers, .inl (ka_openers, 90, .inl f16)), (a_y0, .inr (11, [.ref a_y0_kinds, .ref a_y0_values, .int (nI n_y0_size)])), (a_y0_kinds, .inl (ka_y0_kinds, 362, .inl f_y0_kinds)), (a_y0_values, .inl (ka_y0_values, 362, .inr (.inl f_y0_values)))]) [0, 1, 2, 3, 4, 5] rfl
          have hD9 := hD.sub (ws' := [(a_t, .inr (9, [.ref a_closers, .ref a_openers, .ref a_opened, .ref a_closed, .ref a_row, .ref a_resolver, .int z_together, .int z_inConflict])), (a_closers, .inl (ka_closers, 362, .inl f3)), (a_openers, .inl (ka_openers, 90, .inl f16)), (a_y0, .inr (11, [.ref a_y0_kinds, .ref a_y0_values, .int (nI n_y0_size)])), (a_y0_kinds, .inl (ka_y0_kinds, 362, .inl f_y0_kinds)), (a_y0_values, .inl (ka_y0_values, 362, .inr (.inl f_y0_values)))]) [0, 1, 2, 3, 4, 5] (by decide) rfl
          exact ih4 ((k2 + 1), (k3 + 1), f3, f16) (by show 362 - ((k3 + 1)) < 362 - k3; omega) _ _ _ ⟨by show ((k2 + 1)) ≤ 90; first | omega | assumption | exact Or.inl rfl | exact Or.inr rfl | decide, by show ((k3 + 1)) ≤ 362; first | omega | assumption | exact Or.inl rfl | exact Or.inr rfl | decide, by show ∀ j, ∃ q, q < 362 ∧ f3 j = nI q; first | omega | assumption | exact Or.inl rfl | exact Or.inr rfl | decide, by show ∀ j, ∃ q, q < 362 ∧ f16 j = nI q; first | omega | assumption | exact Or.inl rfl | exact Or.inr rfl | decide, by show ((k3 + 1)) ≤ n_y0_size; first | omega | assumption | exact Or.inl rfl | exact Or.inr rfl | decide, by show MB f_y0_kinds f_y0_values f16 f3 ((k2 + 1)) ((k3 + 1)); exact mb_o (by omega) iE (ob_y e31).2 (by assumption) (by assumption), hl, hP9, hD9, hS⟩
set_option maxHeartbeats 4000000 in
set_option maxRecDepth 100000 in
theorem s_Rows_closerOf7 (l : Launch) (dC : Nat → ClassId) (dI : Nat → Nat → Nat) (sz : Nat) (a_t : Nat) (a_closers : Nat) (f_closers : Nat → Int32) (a_openers : Nat) (a_opened : Nat) (a_closed : Nat) (a_row : Nat) (a_resolver : Nat) (z_together : Int32) (z_inConflict : Int32) (y0 : Nat) (ka_closers : ClassId) (c_closers : ∀ j, ∃ q, q < 362 ∧ f_closers j = nI q) (by0 : y0 ≤ 361) : Met l y_Rows_closerOf w_Rows_closerOf ({ frames := 0, cells := 0, slots := 0, locals := 0 }) (va_Pc [.ref a_t, .int (nI y0)] (fun U => U.heap.size = sz ∧ va_P (dC, dI) vcl [(a_t, .inr (9, [.ref a_closers, .ref a_openers, .ref a_opened, .ref a_closed, .ref a_row, .ref a_resolver, .int z_together, .int z_inConflict])), (a_closers, .inl (ka_closers, 362, .inl f_closers))] U.heap ∧ va_K (dC, dI) vcl [(ka_closers, .int)] U ∧ va_D (fun _ => True) [(a_t, .inr (9, [.ref a_closers, .ref a_openers, .ref a_opened, .ref a_closed, .ref a_row, .ref a_resolver, .int z_together, .int z_inConflict])), (a_closers, .inl (ka_closers, 362, .inl f_closers))])) (va_Qi (fun (r : Int32) (_ : Unit) => ∃ j, (f_closers y0 = nI j ∧ j < 362) ∧ r = nI j) (fun _ t => va_P (dC, dI) vcl [(a_t, .inr (9, [.ref a_closers, .ref a_openers, .ref a_opened, .ref a_closed, .ref a_row, .ref a_resolver, .int z_together, .int z_inConflict])), (a_closers, .inl (ka_closers, 362, .inl f_closers))] t.heap ∧ va_K (dC, dI) vcl [(ka_closers, .int)] t ∧ va_D (va_A [(a_t, .inr (9, [.ref a_closers, .ref a_openers, .ref a_opened, .ref a_closed, .ref a_row, .ref a_resolver, .int z_together, .int z_inConflict])), (a_closers, .inl (ka_closers, 362, .inl f_closers))] sz) [(a_t, .inr (9, [.ref a_closers, .ref a_openers, .ref a_opened, .ref a_closed, .ref a_row, .ref a_resolver, .int z_together, .int z_inConflict])), (a_closers, .inl (ka_closers, 362, .inl f_closers))]) (va_A [(a_t, .inr (9, [.ref a_closers, .ref a_openers, .ref a_opened, .ref a_closed, .ref a_row, .ref a_resolver, .int z_together, .int z_inConflict])), (a_closers, .inl (ka_closers, 362, .inl f_closers))] sz)) 0 0 (va_A [(a_t, .inr (9, [.ref a_closers, .ref a_openers, .ref a_opened, .ref a_closed, .ref a_row, .ref a_resolver, .int z_together, .int z_inConflict])), (a_closers, .inl (ka_closers, 362, .inl f_closers))] sz) := by
  refine Met.ofW (cc := b_Rows_closerOf) (maxL := 2) (ret := (some .int)) (by decide) rfl ?_
  intro p e s m args below meth c s₁ B hml hv
  obtain ⟨rfl, hsz, hP, hK, hD0⟩ := hv
  have hx := B.exec
  have hb := B.bytes
  have hr := B.returns
  have hts := atoms_spec (ws := w_Rows_closerOf) B.pre
  have hz : ∀ w ∈ wz, w.before _ s = true := fun w h => hts w (List.mem_cons_of_mem _ h)
  have hown : s.vm.findClass R_Rows = some m.cls := findClass_of_methodNamed B.named
  have hlocks := B.notSynchronized
  subst hsz
  have hD := hD0.self (sz := s.heap.size)
  generalize hAe : va_A [(a_t, .inr (9, [.ref a_closers, .ref a_openers, .ref a_opened, .ref a_closed, .ref a_row, .ref a_resolver, .int z_together, .int z_inConflict])), (a_closers, .inl (ka_closers, 362, .inl f_closers))] s.heap.size = A at hD ⊢
  have hA : ∀ q : Nat, s.heap.size ≤ q → A q := fun q h => by rw [← hAe]; exact Or.inr h
  have hS : va_S A s.heap s.heap [] := va_S.rf
  have hP : va_P (dC, dI) vcl [(a_t, .inr (9, [.ref a_closers, .ref a_openers, .ref a_opened, .ref a_closed, .ref a_row, .ref a_resolver, .int z_together, .int z_inConflict])), (a_closers, .inl (ka_closers, 362, .inl f_closers))] s.heap := hP
  have hl := lv_entry ([.ref a_t, .int (nI y0)]) (n := 2) (Nat.le_of_ble_eq_true rfl)
  rw [lg_entry_eq]
  generalize (lg_sl ([.ref a_t, .int (nI y0)]) ++ List.replicate (2 - (lg_sl ([.ref a_t, .int (nI y0)])).length) Slot.unset).toArray = ls at hl ⊢
  have hl : lv_has ls 2 [(0, .ref a_t), (1, .int (nI y0))] := hl
  refine lv_iload_n hx hb d_Rows_closerOf_0 rfl (lv_at hl 1 rfl) ?_
  refine lv_if_lt (tgt := 20) hx hb d_Rows_closerOf_1 (by decide) (fun h1 => ?_) (fun h1 => ?_)
  · have h1 : y0 < 0 := (nI_ltI (a := y0) (b := 0) (by omega) (by omega)).mp h1
    refine lv_iload_n hx hb d_Rows_closerOf_20 rfl (lv_at hl 1 rfl) ?_
    have hP9 := hP.sub (ws' := [(a_t, .inr (9, [.ref a_closers, .ref a_openers, .ref a_opened, .ref a_closed, .ref a_row, .ref a_resolver, .int z_together, .int z_inConflict])), (a_closers, .inl (ka_closers, 362, .inl f_closers))]) [0, 1] rfl
    have hD9 := hD.sub (ws' := [(a_t, .inr (9, [.ref a_closers, .ref a_openers, .ref a_opened, .ref a_closed, .ref a_row, .ref a_resolver, .int z_together, .int z_inConflict])), (a_closers, .inl (ka_closers, 362, .inl f_closers))]) [0, 1] (by decide) rfl
    exact W.iret (v := (nI y0)) hx hb hr (fun t ht hW => ⟨⟨(nI y0), (), rfl, ⟨y0, by first | exact ⟨by assumption, by assumption⟩ | (exfalso; omega), rfl⟩, by rw [ht]; exact hP9, va_K.moved hW.alike hK, hD9⟩, hS.F ht⟩) hS.2.2 d_Rows_closerOf_21
  · have h1 : ¬ y0 < 0 := fun q => h1 ((nI_ltI (a := y0) (b := 0) (by omega) (by omega)).mpr q)
    refine lv_iload_n hx hb d_Rows_closerOf_4 rfl (lv_at hl 1 rfl) ?_
    refine lv_sipush (v := 362) hx hb d_Rows_closerOf_5 (by decide) ?_
    refine lv_icmp_ge (tgt := 20) hx hb d_Rows_closerOf_8 (by decide) (fun h2 => ?_) (fun h2 => ?_)
    · have h2 : 362 ≤ y0 := (nI_leI (a := 362) (b := y0) (by omega) (by omega)).mp h2
      refine lv_iload_n hx hb d_Rows_closerOf_20 rfl (lv_at hl 1 rfl) ?_
      have hP9 := hP.sub (ws' := [(a_t, .inr (9, [.ref a_closers, .ref a_openers, .ref a_opened, .ref a_closed, .ref a_row, .ref a_resolver, .int z_together, .int z_inConflict])), (a_closers, .inl (ka_closers, 362, .inl f_closers))]) [0, 1] rfl
      have hD9 := hD.sub (ws' := [(a_t, .inr (9, [.ref a_closers, .ref a_openers, .ref a_opened, .ref a_closed, .ref a_row, .ref a_resolver, .int z_together, .int z_inConflict])), (a_closers, .inl (ka_closers, 362, .inl f_closers))]) [0, 1] (by decide) rfl
      exact W.iret (v := (nI y0)) hx hb hr (fun t ht hW => ⟨⟨(nI y0), (), rfl, ⟨y0, by first | exact ⟨by assumption, by assumption⟩ | (exfalso; omega), rfl⟩, by rw [ht]; exact hP9, va_K.moved hW.alike hK, hD9⟩, hS.F ht⟩) hS.2.2 d_Rows_closerOf_21
    · have h2 : ¬ 362 ≤ y0 := fun q => h2 ((nI_leI (a := 362) (b := y0) (by omega) (by omega)).mpr q)
      refine lv_aload_n hx hb d_Rows_closerOf_11 rfl (lv_at hl 0 rfl) ?_
      refine va_get (D := (dC, dI)) (ci := 9) (v := .ref a_closers) (C := R_Rows) (T := F_Rows) (N := 8) hx hb hz zu_Rows hown hK hP 0 rfl rfl 0 (by decide) (hz (.fieldLink R_Rows 9 "LayoutFront$Rows" "closers" "[I") zm_353) (fun _ h9 => h9) rfl d_Rows_closerOf_12 ?_
      refine lv_iload_n hx hb d_Rows_closerOf_15 rfl (lv_at hl 1 rfl) ?_
      refine va_iald hx hb hK hP 1 0 rfl rfl (vp_in_nI (by omega) (by omega)) d_Rows_closerOf_16 ?_
      refine lv_topi (fun x3 e_x3 => ?_)
      obtain ⟨j4, l_j4, e_j4⟩ : ∃ q, q < 362 ∧ x3 = nI q := by rw [e_x3]; exact c_closers _
      subst e_j4
      have ee_j4 : f_closers y0 = nI j4 := by rw [nI_clamp (by omega)] at e_x3; exact e_x3.symm
      refine lv_goto (tgt := 21) hx hb d_Rows_closerOf_17 (by decide) ?_
      have hP9 := hP.sub (ws' := [(a_t, .inr (9, [.ref a_closers, .ref a_openers, .ref a_opened, .ref a_closed, .ref a_row, .ref a_resolver, .int z_together, .int z_inConflict])), (a_closers, .inl (ka_closers, 362, .inl f_closers))]) [0, 1] rfl
      have hD9 := hD.sub (ws' := [(a_t, .inr (9, [.ref a_closers, .ref a_openers, .ref a_opened, .ref a_closed, .ref a_row, .ref a_resolver, .int z_together, .int z_inConflict])), (a_closers, .inl (ka_closers, 362, .inl f_closers))]) [0, 1] (by decide) rfl
      exact W.iret (v := (nI j4)) hx hb hr (fun t ht hW => ⟨⟨(nI j4), (), rfl, ⟨j4, by first | exact ⟨by assumption, by assumption⟩ | (exfalso; omega), rfl⟩, by rw [ht]; exact hP9, va_K.moved hW.alike hK, hD9⟩, hS.F ht⟩) hS.2.2 d_Rows_closerOf_21
set_option maxHeartbeats 4000000 in
set_option maxRecDepth 100000 in
theorem s_Rows_behindOperand7 (l : Launch) (dC : Nat → ClassId) (dI : Nat → Nat → Nat) (sz : Nat) (a_t : Nat) (a_closers : Nat) (f_closers : Nat → Int32) (a_openers : Nat) (a_opened : Nat) (a_closed : Nat) (a_row : Nat) (a_resolver : Nat) (z_together : Int32) (z_inConflict : Int32) (a_y0 : Nat) (a_y0_kinds : Nat) (f_y0_kinds : Nat → Int32) (a_y0_values : Nat) (f_y0_values : Nat → Int64) (n_y0_size : Nat) (y1 : Nat) (ka_closers : ClassId) (ka_y0_kinds : ClassId) (ka_y0_values : ClassId) (c_closers : ∀ j, ∃ q, q < 362 ∧ f_closers j = nI q) (b_y0_size : n_y0_size ≤ 362) (by1 : y1 ≤ 361) (hp0 : bl7 f_y0_kinds f_y0_values n_y0_size) (hp1 : PN f_y0_kinds f_y0_values f_closers n_y0_size) (hp2 : y1 < n_y0_size) : Met l y_Rows_behindOperand w_Rows_behindOperand ({ frames := 2, cells := 0, slots := 0, locals := 44 }) (va_Pc [.ref a_t, .ref a_y0, .int (nI y1)] (fun U => U.heap.size = sz ∧ va_P (dC, dI) vcl [(a_t, .inr (9, [.ref a_closers, .ref a_openers, .ref a_opened, .ref a_closed, .ref a_row, .ref a_resolver, .int z_together, .int z_inConflict])), (a_closers, .inl (ka_closers, 362, .inl f_closers)), (a_y0, .inr (11, [.ref a_y0_kinds, .ref a_y0_values, .int (nI n_y0_size)])), (a_y0_kinds, .inl (ka_y0_kinds, 362, .inl f_y0_kinds)), (a_y0_values, .inl (ka_y0_values, 362, .inr (.inl f_y0_values)))] U.heap ∧ va_K (dC, dI) vcl [(ka_closers, .int), (ka_y0_kinds, .int), (ka_y0_values, .long)] U ∧ va_D (fun _ => True) [(a_t, .inr (9, [.ref a_closers, .ref a_openers, .ref a_opened, .ref a_closed, .ref a_row, .ref a_resolver, .int z_together, .int z_inConflict])), (a_closers, .inl (ka_closers, 362, .inl f_closers)), (a_y0, .inr (11, [.ref a_y0_kinds, .ref a_y0_values, .int (nI n_y0_size)])), (a_y0_kinds, .inl (ka_y0_kinds, 362, .inl f_y0_kinds)), (a_y0_values, .inl (ka_y0_values, 362, .inr (.inl f_y0_values)))] ∧ cx_E (va_A [(a_t, .inr (9, [.ref a_closers, .ref a_openers, .ref a_opened, .ref a_closed, .ref a_row, .ref a_resolver, .int z_together, .int z_inConflict])), (a_closers, .inl (ka_closers, 362, .inl f_closers)), (a_y0, .inr (11, [.ref a_y0_kinds, .ref a_y0_values, .int (nI n_y0_size)])), (a_y0_kinds, .inl (ka_y0_kinds, 362, .inl f_y0_kinds)), (a_y0_values, .inl (ka_y0_values, 362, .inr (.inl f_y0_values)))] sz) U U.heap)) (va_Qi (fun (r : Int32) (_ : Unit) => ∃ j, (j = y1 + bA f_y0_kinds f_y0_values f_closers n_y0_size y1 ∧ j ≤ 400) ∧ r = nI j) (fun _ t => va_P (dC, dI) vcl [(a_t, .inr (9, [.ref a_closers, .ref a_openers, .ref a_opened, .ref a_closed, .ref a_row, .ref a_resolver, .int z_together, .int z_inConflict])), (a_closers, .inl (ka_closers, 362, .inl f_closers)), (a_y0, .inr (11, [.ref a_y0_kinds, .ref a_y0_values, .int (nI n_y0_size)])), (a_y0_kinds, .inl (ka_y0_kinds, 362, .inl f_y0_kinds)), (a_y0_values, .inl (ka_y0_values, 362, .inr (.inl f_y0_values)))] t.heap ∧ va_K (dC, dI) vcl [(ka_closers, .int), (ka_y0_kinds, .int), (ka_y0_values, .long)] t ∧ va_D (va_A [(a_t, .inr (9, [.ref a_closers, .ref a_openers, .ref a_opened, .ref a_closed, .ref a_row, .ref a_resolver, .int z_together, .int z_inConflict])), (a_closers, .inl (ka_closers, 362, .inl f_closers)), (a_y0, .inr (11, [.ref a_y0_kinds, .ref a_y0_values, .int (nI n_y0_size)])), (a_y0_kinds, .inl (ka_y0_kinds, 362, .inl f_y0_kinds)), (a_y0_values, .inl (ka_y0_values, 362, .inr (.inl f_y0_values)))] sz) [(a_t, .inr (9, [.ref a_closers, .ref a_openers, .ref a_opened, .ref a_closed, .ref a_row, .ref a_resolver, .int z_together, .int z_inConflict])), (a_closers, .inl (ka_closers, 362, .inl f_closers)), (a_y0, .inr (11, [.ref a_y0_kinds, .ref a_y0_values, .int (nI n_y0_size)])), (a_y0_kinds, .inl (ka_y0_kinds, 362, .inl f_y0_kinds)), (a_y0_values, .inl (ka_y0_values, 362, .inr (.inl f_y0_values)))]) (va_A [(a_t, .inr (9, [.ref a_closers, .ref a_openers, .ref a_opened, .ref a_closed, .ref a_row, .ref a_resolver, .int z_together, .int z_inConflict])), (a_closers, .inl (ka_closers, 362, .inl f_closers)), (a_y0, .inr (11, [.ref a_y0_kinds, .ref a_y0_values, .int (nI n_y0_size)])), (a_y0_kinds, .inl (ka_y0_kinds, 362, .inl f_y0_kinds)), (a_y0_values, .inl (ka_y0_values, 362, .inr (.inl f_y0_values)))] sz)) 0 0 (va_A [(a_t, .inr (9, [.ref a_closers, .ref a_openers, .ref a_opened, .ref a_closed, .ref a_row, .ref a_resolver, .int z_together, .int z_inConflict])), (a_closers, .inl (ka_closers, 362, .inl f_closers)), (a_y0, .inr (11, [.ref a_y0_kinds, .ref a_y0_values, .int (nI n_y0_size)])), (a_y0_kinds, .inl (ka_y0_kinds, 362, .inl f_y0_kinds)), (a_y0_values, .inl (ka_y0_values, 362, .inr (.inl f_y0_values)))] sz) := by
  refine Met.ofW (cc := b_Rows_behindOperand) (maxL := 3) (ret := (some .int)) (by decide) rfl ?_
  intro p e s m args below meth c s₁ B hml hv
  obtain ⟨rfl, hsz, hP, hK, hD0, hE⟩ := hv
  have hx := B.exec
  have hb := B.bytes
  have hr := B.returns
  have hts := atoms_spec (ws := w_Rows_behindOperand) B.pre
  have hz : ∀ w ∈ wz, w.before _ s = true := fun w h => hts w (List.mem_cons_of_mem _ h)
  have hown : s.vm.findClass R_Rows = some m.cls := findClass_of_methodNamed B.named
  have hlocks := B.notSynchronized
  subst hsz
  have hD := hD0.self (sz := s.heap.size)
  generalize hAe : va_A [(a_t, .inr (9, [.ref a_closers, .ref a_openers, .ref a_opened, .ref a_closed, .ref a_row, .ref a_resolver, .int z_together, .int z_inConflict])), (a_closers, .inl (ka_closers, 362, .inl f_closers)), (a_y0, .inr (11, [.ref a_y0_kinds, .ref a_y0_values, .int (nI n_y0_size)])), (a_y0_kinds, .inl (ka_y0_kinds, 362, .inl f_y0_kinds)), (a_y0_values, .inl (ka_y0_values, 362, .inr (.inl f_y0_values)))] s.heap.size = A at hD hE ⊢
  have hA : ∀ q : Nat, s.heap.size ≤ q → A q := fun q h => by rw [← hAe]; exact Or.inr h
  have hS : va_S A s.heap s.heap [] := va_S.rf
  have hP : va_P (dC, dI) vcl [(a_t, .inr (9, [.ref a_closers, .ref a_openers, .ref a_opened, .ref a_closed, .ref a_row, .ref a_resolver, .int z_together, .int z_inConflict])), (a_closers, .inl (ka_closers, 362, .inl f_closers)), (a_y0, .inr (11, [.ref a_y0_kinds, .ref a_y0_values, .int (nI n_y0_size)])), (a_y0_kinds, .inl (ka_y0_kinds, 362, .inl f_y0_kinds)), (a_y0_values, .inl (ka_y0_values, 362, .inr (.inl f_y0_values)))] s.heap := hP
  have hl := lv_entry ([.ref a_t, .ref a_y0, .int (nI y1)]) (n := 3) (Nat.le_of_ble_eq_true rfl)
  rw [lg_entry_eq]
  generalize (lg_sl ([.ref a_t, .ref a_y0, .int (nI y1)]) ++ List.replicate (3 - (lg_sl ([.ref a_t, .ref a_y0, .int (nI y1)])).length) Slot.unset).toArray = ls at hl ⊢
  have hl : lv_has ls 3 [(0, .ref a_t), (1, .ref a_y0), (2, .int (nI y1))] := hl
  refine lv_aload_n hx hb d_Rows_behindOperand_0 rfl (lv_at hl 1 rfl) ?_
  refine lv_iload_n hx hb d_Rows_behindOperand_1 rfl (lv_at hl 2 rfl) ?_
  have hPc := hP.sub (ws' := [(a_y0, .inr (11, [.ref a_y0_kinds, .ref a_y0_values, .int (nI n_y0_size)])), (a_y0_kinds, .inl (ka_y0_kinds, 362, .inl f_y0_kinds)), (a_y0_values, .inl (ka_y0_values, 362, .inr (.inl f_y0_values)))]) [2, 3, 4] rfl
  have hDc := hD.sub (ws' := [(a_y0, .inr (11, [.ref a_y0_kinds, .ref a_y0_values, .int (nI n_y0_size)])), (a_y0_kinds, .inl (ka_y0_kinds, 362, .inl f_y0_kinds)), (a_y0_values, .inl (ka_y0_values, 362, .inr (.inl f_y0_values)))]) [2, 3, 4] (by decide) rfl
  have hKc := hK.sub (tys' := [(ka_y0_kinds, .int), (ka_y0_values, .long)]) [1, 2] rfl
  have hFc := va_free (wc := [(a_y0, .inr (11, [.ref a_y0_kinds, .ref a_y0_values, .int (nI n_y0_size)])), (a_y0_kinds, .inl (ka_y0_kinds, 362, .inl f_y0_kinds)), (a_y0_values, .inl (ka_y0_values, 362, .inr (.inl f_y0_values)))]) hD hS hA [2, 3, 4] rfl
  refine va_calli (va_runV (As := [.int (nI y1)]) (rest := []) ⟨hx, hb, hml, hown, hz⟩ (s_Tokens_opensBracket7 l dC dI s.heap.size 362 a_y0 a_y0_kinds f_y0_kinds a_y0_values f_y0_values n_y0_size y1 ka_y0_kinds ka_y0_values (by first | omega | assumption | exact Or.inl rfl | exact Or.inr rfl) (by first | omega | assumption | exact Or.inl rfl | exact Or.inr rfl) (by first | omega | assumption | exact Or.inl rfl | exact Or.inr rfl)) (cwV 1 hz (zV zm_384 zm_385 zm_386 zm_35 zm_387) rfl rfl rfl (by decide +kernel) ⟨Nat.le_of_ble_eq_true rfl, Nat.le_of_ble_eq_true rfl⟩) ⟨fun a U g mk q => by obtain ⟨q0, q1, qP, qK, qD⟩ := q; exact ⟨q0, q1, qP, va_K.moved (u := U) (U := U.calling g mk a) (Vm.Alike.refl U.vm) qK, qD⟩, va_recv (q := (R_Tokens, F_Tokens, 3)) (q0 := 2) (ci := 11) hK hP rfl rfl, fun U hU hW => ⟨rfl, by rw [hU], by rw [hU]; exact hPc, va_K.moved hW.alike hKc, hDc.weaken (fun _ _ _ _ => trivial)⟩⟩ rfl rfl hl.1 rfl (lv_room (Nat.le_of_ble_eq_true rfl)) d_Rows_behindOperand_2 ⟨Nat.zero_le _, Nat.zero_le _⟩) hS (fun q _ h => hFc q h) hFc (fun r u t H1 locs ht hvm hw_r hB hz1 hk1 hS => ?_)
  obtain ⟨hP1, hK1, hD1⟩ := hB
  obtain ⟨hb_r, he_r⟩ := hw_r
  subst r
  rw [ht] at hP1
  obtain ⟨hP, hD⟩ := va_join (wr := [(a_t, .inr (9, [.ref a_closers, .ref a_openers, .ref a_opened, .ref a_closed, .ref a_row, .ref a_resolver, .int z_together, .int z_inConflict])), (a_closers, .inl (ka_closers, 362, .inl f_closers))]) (w1 := [(a_y0, .inr (11, [.ref a_y0_kinds, .ref a_y0_values, .int (nI n_y0_size)])), (a_y0_kinds, .inl (ka_y0_kinds, 362, .inl f_y0_kinds)), (a_y0_values, .inl (ka_y0_values, 362, .inr (.inl f_y0_values)))]) hP hD [2, 3, 4] [0, 1] rfl rfl (by decide) (by decide) hk1 hFc hP1 hD1
  generalize H1 = H at hP hS ⊢
  have hP : va_P (dC, dI) vcl [(a_t, .inr (9, [.ref a_closers, .ref a_openers, .ref a_opened, .ref a_closed, .ref a_row, .ref a_resolver, .int z_together, .int z_inConflict])), (a_closers, .inl (ka_closers, 362, .inl f_closers)), (a_y0, .inr (11, [.ref a_y0_kinds, .ref a_y0_values, .int (nI n_y0_size)])), (a_y0_kinds, .inl (ka_y0_kinds, 362, .inl f_y0_kinds)), (a_y0_values, .inl (ka_y0_values, 362, .inr (.inl f_y0_values)))] H := hP
  have hD : va_D A [(a_t, .inr (9, [.ref a_closers, .ref a_openers, .ref a_opened, .ref a_closed, .ref a_row, .ref a_resolver, .int z_together, .int z_inConflict])), (a_closers, .inl (ka_closers, 362, .inl f_closers)), (a_y0, .inr (11, [.ref a_y0_kinds, .ref a_y0_values, .int (nI n_y0_size)])), (a_y0_kinds, .inl (ka_y0_kinds, 362, .inl f_y0_kinds)), (a_y0_values, .inl (ka_y0_values, 362, .inr (.inl f_y0_values)))] := hD
  refine lv_if_eq (tgt := 16) hx hb d_Rows_behindOperand_5 (by decide) (fun h1 => ?_) (fun h1 => ?_)
  · have e5 := b01_no h1
    refine lv_aload_n hx hb d_Rows_behindOperand_16 rfl (lv_at hl 1 rfl) ?_
    refine lv_iload_n hx hb d_Rows_behindOperand_17 rfl (lv_at hl 2 rfl) ?_
    have hPc := hP.sub (ws' := [(a_y0, .inr (11, [.ref a_y0_kinds, .ref a_y0_values, .int (nI n_y0_size)])), (a_y0_kinds, .inl (ka_y0_kinds, 362, .inl f_y0_kinds)), (a_y0_values, .inl (ka_y0_values, 362, .inr (.inl f_y0_values)))]) [2, 3, 4] rfl
    have hDc := hD.sub (ws' := [(a_y0, .inr (11, [.ref a_y0_kinds, .ref a_y0_values, .int (nI n_y0_size)])), (a_y0_kinds, .inl (ka_y0_kinds, 362, .inl f_y0_kinds)), (a_y0_values, .inl (ka_y0_values, 362, .inr (.inl f_y0_values)))]) [2, 3, 4] (by decide) rfl
    have hKc := hK.sub (tys' := [(ka_y0_kinds, .int), (ka_y0_values, .long)]) [1, 2] rfl
    have hFc := va_free (wc := [(a_y0, .inr (11, [.ref a_y0_kinds, .ref a_y0_values, .int (nI n_y0_size)])), (a_y0_kinds, .inl (ka_y0_kinds, 362, .inl f_y0_kinds)), (a_y0_values, .inl (ka_y0_values, 362, .inr (.inl f_y0_values)))]) hD hS hA [2, 3, 4] rfl
    refine va_calli (va_runV (As := [.int (nI y1)]) (rest := []) ⟨hx, hb, hml, hown, hz⟩ (s_Tokens_isFreeName7 l dC dI H.size 362 a_y0 a_y0_kinds f_y0_kinds a_y0_values f_y0_values n_y0_size y1 ka_y0_kinds ka_y0_values (by first | omega | assumption | exact Or.inl rfl | exact Or.inr rfl) (by first | omega | assumption | exact Or.inl rfl | exact Or.inr rfl) (by first | omega | assumption | exact Or.inl rfl | exact Or.inr rfl)) (cwV 1 hz (zV zm_442 zm_443 zm_444 zm_35 zm_445) rfl rfl rfl (by decide +kernel) ⟨Nat.le_of_ble_eq_true rfl, Nat.le_of_ble_eq_true rfl⟩) ⟨fun a U g mk q => by obtain ⟨q0, q1, qP, qK, qD, qx0⟩ := q; exact ⟨q0, q1, qP, va_K.moved (u := U) (U := U.calling g mk a) (Vm.Alike.refl U.vm) qK, qD, cx_E.same (u := U) (U := U.calling g mk a) rfl qx0⟩, va_recv (q := (R_Tokens, F_Tokens, 3)) (q0 := 2) (ci := 11) hK hP rfl rfl, fun U hU hW => ⟨rfl, by rw [hU], by rw [hU]; exact hPc, va_K.moved hW.alike hKc, hDc.weaken (fun _ _ _ _ => trivial), by rw [hU]; exact cx_E.to hW hS hFc hE⟩⟩ rfl rfl hl.1 rfl (lv_room (Nat.le_of_ble_eq_true rfl)) d_Rows_behindOperand_18 ⟨Nat.zero_le _, Nat.zero_le _⟩) hS (fun q _ h => hFc q h) hFc (fun r u t H1 locs ht hvm hw_r hB hz1 hk1 hS => ?_)
    obtain ⟨hP1, hK1, hD1⟩ := hB
    obtain ⟨hb_r, he_r⟩ := hw_r
    subst r
    rw [ht] at hP1
    obtain ⟨hP, hD⟩ := va_join (wr := [(a_t, .inr (9, [.ref a_closers, .ref a_openers, .ref a_opened, .ref a_closed, .ref a_row, .ref a_resolver, .int z_together, .int z_inConflict])), (a_closers, .inl (ka_closers, 362, .inl f_closers))]) (w1 := [(a_y0, .inr (11, [.ref a_y0_kinds, .ref a_y0_values, .int (nI n_y0_size)])), (a_y0_kinds, .inl (ka_y0_kinds, 362, .inl f_y0_kinds)), (a_y0_values, .inl (ka_y0_values, 362, .inr (.inl f_y0_values)))]) hP hD [2, 3, 4] [0, 1] rfl rfl (by decide) (by decide) hk1 hFc hP1 hD1
    generalize H1 = H at hP hS ⊢
    have hP : va_P (dC, dI) vcl [(a_t, .inr (9, [.ref a_closers, .ref a_openers, .ref a_opened, .ref a_closed, .ref a_row, .ref a_resolver, .int z_together, .int z_inConflict])), (a_closers, .inl (ka_closers, 362, .inl f_closers)), (a_y0, .inr (11, [.ref a_y0_kinds, .ref a_y0_values, .int (nI n_y0_size)])), (a_y0_kinds, .inl (ka_y0_kinds, 362, .inl f_y0_kinds)), (a_y0_values, .inl (ka_y0_values, 362, .inr (.inl f_y0_values)))] H := hP
    have hD : va_D A [(a_t, .inr (9, [.ref a_closers, .ref a_openers, .ref a_opened, .ref a_closed, .ref a_row, .ref a_resolver, .int z_together, .int z_inConflict])), (a_closers, .inl (ka_closers, 362, .inl f_closers)), (a_y0, .inr (11, [.ref a_y0_kinds, .ref a_y0_values, .int (nI n_y0_size)])), (a_y0_kinds, .inl (ka_y0_kinds, 362, .inl f_y0_kinds)), (a_y0_values, .inl (ka_y0_values, 362, .inr (.inl f_y0_values)))] := hD
    refine lv_if_ne (tgt := 33) hx hb d_Rows_behindOperand_21 (by decide) (fun h2 => ?_) (fun h2 => ?_)
    · have e21 := b01_yes h2
      refine lv_iload_n hx hb d_Rows_behindOperand_33 rfl (lv_at hl 2 rfl) ?_
      refine lv_iconst (v := 1) hx hb d_Rows_behindOperand_34 (by decide) ?_
      refine xr_iadd (v := (nI (y1 + 1))) hx hb d_Rows_behindOperand_35 (nI_add y1 1) ?_
      refine lv_goto (tgt := 40) hx hb d_Rows_behindOperand_36 (by decide) ?_
      have hP9 := hP.sub (ws' := [(a_t, .inr (9, [.ref a_closers, .ref a_openers, .ref a_opened, .ref a_closed, .ref a_row, .ref a_resolver, .int z_together, .int z_inConflict])), (a_closers, .inl (ka_closers, 362, .inl f_closers)), (a_y0, .inr (11, [.ref a_y0_kinds, .ref a_y0_values, .int (nI n_y0_size)])), (a_y0_kinds, .inl (ka_y0_kinds, 362, .inl f_y0_kinds)), (a_y0_values, .inl (ka_y0_values, 362, .inr (.inl f_y0_values)))]) [0, 1, 2, 3, 4] rfl
      have hD9 := hD.sub (ws' := [(a_t, .inr (9, [.ref a_closers, .ref a_openers, .ref a_opened, .ref a_closed, .ref a_row, .ref a_resolver, .int z_together, .int z_inConflict])), (a_closers, .inl (ka_closers, 362, .inl f_closers)), (a_y0, .inr (11, [.ref a_y0_kinds, .ref a_y0_values, .int (nI n_y0_size)])), (a_y0_kinds, .inl (ka_y0_kinds, 362, .inl f_y0_kinds)), (a_y0_values, .inl (ka_y0_values, 362, .inr (.inl f_y0_values)))]) [0, 1, 2, 3, 4] (by decide) rfl
      exact W.iret (v := (nI (y1 + 1))) hx hb hr (fun t ht hW => ⟨⟨(nI (y1 + 1)), (), rfl, ⟨(y1 + 1), by refine ⟨?_, by omega⟩; first | exact ba_1 hp0 (by omega) hp1 e5 (by omega) (And.left (by assumption)) | exact ba_2 e21 | exact ba_3 hp2 ((if_pos hp2).symm.trans e30) | exact ba_0 hp2 e5 e21 (fun z9 => e30 ((if_pos hp2).trans z9)), rfl⟩, by rw [ht]; exact hP9, va_K.moved hW.alike hK, hD9⟩, hS.F ht⟩) hS.2.2 d_Rows_behindOperand_40
    · have e21 := b01_no h2
      refine lv_aload_n hx hb d_Rows_behindOperand_24 rfl (lv_at hl 1 rfl) ?_
      refine lv_iload_n hx hb d_Rows_behindOperand_25 rfl (lv_at hl 2 rfl) ?_
      have hPc := hP.sub (ws' := [(a_y0, .inr (11, [.ref a_y0_kinds, .ref a_y0_values, .int (nI n_y0_size)])), (a_y0_kinds, .inl (ka_y0_kinds, 362, .inl f_y0_kinds))]) [2, 3] rfl
      have hDc := hD.sub (ws' := [(a_y0, .inr (11, [.ref a_y0_kinds, .ref a_y0_values, .int (nI n_y0_size)])), (a_y0_kinds, .inl (ka_y0_kinds, 362, .inl f_y0_kinds))]) [2, 3] (by decide) rfl
      have hKc := hK.sub (tys' := [(ka_y0_kinds, .int)]) [1] rfl
      have hFc := va_free (wc := [(a_y0, .inr (11, [.ref a_y0_kinds, .ref a_y0_values, .int (nI n_y0_size)])), (a_y0_kinds, .inl (ka_y0_kinds, 362, .inl f_y0_kinds))]) hD hS hA [2, 3] rfl
      refine va_calli (va_runV (As := [.int (nI y1)]) (rest := []) ⟨hx, hb, hml, hown, hz⟩ (s_Tokens_kindAt6 l dC dI H.size 362 a_y0 a_y0_kinds f_y0_kinds a_y0_values n_y0_size y1 ka_y0_kinds (by first | omega | assumption | exact Or.inl rfl | exact Or.inr rfl) (by first | omega | assumption | exact Or.inl rfl | exact Or.inr rfl) (by first | omega | assumption | exact Or.inl rfl | exact Or.inr rfl)) (cwV 1 hz (zV zm_401 zm_212 zm_213 zm_35 zm_214) rfl rfl rfl (by decide +kernel) ⟨Nat.le_of_ble_eq_true rfl, Nat.le_of_ble_eq_true rfl⟩) ⟨fun a U g mk q => by obtain ⟨q0, q1, qP, qK, qD⟩ := q; exact ⟨q0, q1, qP, va_K.moved (u := U) (U := U.calling g mk a) (Vm.Alike.refl U.vm) qK, qD⟩, va_recv (q := (R_Tokens, F_Tokens, 3)) (q0 := 2) (ci := 11) hK hP rfl rfl, fun U hU hW => ⟨rfl, by rw [hU], by rw [hU]; exact hPc, va_K.moved hW.alike hKc, hDc.weaken (fun _ _ _ _ => trivial)⟩⟩ rfl rfl hl.1 rfl (lv_room (Nat.le_of_ble_eq_true rfl)) d_Rows_behindOperand_26 ⟨Nat.zero_le _, Nat.zero_le _⟩) hS (fun q _ h => hFc q h) hFc (fun r u t H1 locs ht hvm hw hB hz1 hk1 hS => ?_)
      obtain ⟨hP1, hK1, hD1⟩ := hB
      subst r
      rw [ht] at hP1
      obtain ⟨hP, hD⟩ := va_join (wr := [(a_t, .inr (9, [.ref a_closers, .ref a_openers, .ref a_opened, .ref a_closed, .ref a_row, .ref a_resolver, .int z_together, .int z_inConflict])), (a_closers, .inl (ka_closers, 362, .inl f_closers)), (a_y0_values, .inl (ka_y0_values, 362, .inr (.inl f_y0_values)))]) (w1 := [(a_y0, .inr (11, [.ref a_y0_kinds, .ref a_y0_values, .int (nI n_y0_size)])), (a_y0_kinds, .inl (ka_y0_kinds, 362, .inl f_y0_kinds))]) hP hD [2, 3] [0, 1, 4] rfl rfl (by decide) (by decide) hk1 hFc hP1 hD1
      generalize H1 = H at hP hS ⊢
      have hP : va_P (dC, dI) vcl [(a_t, .inr (9, [.ref a_closers, .ref a_openers, .ref a_opened, .ref a_closed, .ref a_row, .ref a_resolver, .int z_together, .int z_inConflict])), (a_closers, .inl (ka_closers, 362, .inl f_closers)), (a_y0_values, .inl (ka_y0_values, 362, .inr (.inl f_y0_values))), (a_y0, .inr (11, [.ref a_y0_kinds, .ref a_y0_values, .int (nI n_y0_size)])), (a_y0_kinds, .inl (ka_y0_kinds, 362, .inl f_y0_kinds))] H := hP
      have hD : va_D A [(a_t, .inr (9, [.ref a_closers, .ref a_openers, .ref a_opened, .ref a_closed, .ref a_row, .ref a_resolver, .int z_together, .int z_inConflict])), (a_closers, .inl (ka_closers, 362, .inl f_closers)), (a_y0_values, .inl (ka_y0_values, 362, .inr (.inl f_y0_values))), (a_y0, .inr (11, [.ref a_y0_kinds, .ref a_y0_values, .int (nI n_y0_size)])), (a_y0_kinds, .inl (ka_y0_kinds, 362, .inl f_y0_kinds))] := hD
      refine lv_iconst (v := 1) hx hb d_Rows_behindOperand_29 (by decide) ?_
      refine lv_icmp_ne (tgt := 39) hx hb d_Rows_behindOperand_30 (by decide) (fun h3 => ?_) (fun h3 => ?_)
      · have e30 := h3
        refine lv_iload_n hx hb d_Rows_behindOperand_39 rfl (lv_at hl 2 rfl) ?_
        have hP9 := hP.sub (ws' := [(a_t, .inr (9, [.ref a_closers, .ref a_openers, .ref a_opened, .ref a_closed, .ref a_row, .ref a_resolver, .int z_together, .int z_inConflict])), (a_closers, .inl (ka_closers, 362, .inl f_closers)), (a_y0, .inr (11, [.ref a_y0_kinds, .ref a_y0_values, .int (nI n_y0_size)])), (a_y0_kinds, .inl (ka_y0_kinds, 362, .inl f_y0_kinds)), (a_y0_values, .inl (ka_y0_values, 362, .inr (.inl f_y0_values)))]) [0, 1, 3, 4, 2] rfl
        have hD9 := hD.sub (ws' := [(a_t, .inr (9, [.ref a_closers, .ref a_openers, .ref a_opened, .ref a_closed, .ref a_row, .ref a_resolver, .int z_together, .int z_inConflict])), (a_closers, .inl (ka_closers, 362, .inl f_closers)), (a_y0, .inr (11, [.ref a_y0_kinds, .ref a_y0_values, .int (nI n_y0_size)])), (a_y0_kinds, .inl (ka_y0_kinds, 362, .inl f_y0_kinds)), (a_y0_values, .inl (ka_y0_values, 362, .inr (.inl f_y0_values)))]) [0, 1, 3, 4, 2] (by decide) rfl
        exact W.iret (v := (nI y1)) hx hb hr (fun t ht hW => ⟨⟨(nI y1), (), rfl, ⟨y1, by refine ⟨?_, by omega⟩; first | exact ba_1 hp0 (by omega) hp1 e5 (by omega) (And.left (by assumption)) | exact ba_2 e21 | exact ba_3 hp2 ((if_pos hp2).symm.trans e30) | exact ba_0 hp2 e5 e21 (fun z9 => e30 ((if_pos hp2).trans z9)), rfl⟩, by rw [ht]; exact hP9, va_K.moved hW.alike hK, hD9⟩, hS.F ht⟩) hS.2.2 d_Rows_behindOperand_40
      · have e30 := h3
        refine lv_iload_n hx hb d_Rows_behindOperand_33 rfl (lv_at hl 2 rfl) ?_
        refine lv_iconst (v := 1) hx hb d_Rows_behindOperand_34 (by decide) ?_
        refine xr_iadd (v := (nI (y1 + 1))) hx hb d_Rows_behindOperand_35 (nI_add y1 1) ?_
        refine lv_goto (tgt := 40) hx hb d_Rows_behindOperand_36 (by decide) ?_
        have hP9 := hP.sub (ws' := [(a_t, .inr (9, [.ref a_closers, .ref a_openers, .ref a_opened, .ref a_closed, .ref a_row, .ref a_resolver, .int z_together, .int z_inConflict])), (a_closers, .inl (ka_closers, 362, .inl f_closers)), (a_y0, .inr (11, [.ref a_y0_kinds, .ref a_y0_values, .int (nI n_y0_size)])), (a_y0_kinds, .inl (ka_y0_kinds, 362, .inl f_y0_kinds)), (a_y0_values, .inl (ka_y0_values, 362, .inr (.inl f_y0_values)))]) [0, 1, 3, 4, 2] rfl
        have hD9 := hD.sub (ws' := [(a_t, .inr (9, [.ref a_closers, .ref a_openers, .ref a_opened, .ref a_closed, .ref a_row, .ref a_resolver, .int z_together, .int z_inConflict])), (a_closers, .inl (ka_closers, 362, .inl f_closers)), (a_y0, .inr (11, [.ref a_y0_kinds, .ref a_y0_values, .int (nI n_y0_size)])), (a_y0_kinds, .inl (ka_y0_kinds, 362, .inl f_y0_kinds)), (a_y0_values, .inl (ka_y0_values, 362, .inr (.inl f_y0_values)))]) [0, 1, 3, 4, 2] (by decide) rfl
        exact W.iret (v := (nI (y1 + 1))) hx hb hr (fun t ht hW => ⟨⟨(nI (y1 + 1)), (), rfl, ⟨(y1 + 1), by refine ⟨?_, by omega⟩; first | exact ba_1 hp0 (by omega) hp1 e5 (by omega) (And.left (by assumption)) | exact ba_2 e21 | exact ba_3 hp2 ((if_pos hp2).symm.trans e30) | exact ba_0 hp2 e5 e21 (fun z9 => e30 ((if_pos hp2).trans z9)), rfl⟩, by rw [ht]; exact hP9, va_K.moved hW.alike hK, hD9⟩, hS.F ht⟩) hS.2.2 d_Rows_behindOperand_40
  · have e5 := b01_yes h1
    refine lv_aload_n hx hb d_Rows_behindOperand_8 rfl (lv_at hl 0 rfl) ?_
    refine lv_iload_n hx hb d_Rows_behindOperand_9 rfl (lv_at hl 2 rfl) ?_
    have hPc := hP.sub (ws' := [(a_t, .inr (9, [.ref a_closers, .ref a_openers, .ref a_opened, .ref a_closed, .ref a_row, .ref a_resolver, .int z_together, .int z_inConflict])), (a_closers, .inl (ka_closers, 362, .inl f_closers))]) [0, 1] rfl
    have hDc := hD.sub (ws' := [(a_t, .inr (9, [.ref a_closers, .ref a_openers, .ref a_opened, .ref a_closed, .ref a_row, .ref a_resolver, .int z_together, .int z_inConflict])), (a_closers, .inl (ka_closers, 362, .inl f_closers))]) [0, 1] (by decide) rfl
    have hKc := hK.sub (tys' := [(ka_closers, .int)]) [0] rfl
    have hFc := va_free (wc := [(a_t, .inr (9, [.ref a_closers, .ref a_openers, .ref a_opened, .ref a_closed, .ref a_row, .ref a_resolver, .int z_together, .int z_inConflict])), (a_closers, .inl (ka_closers, 362, .inl f_closers))]) hD hS hA [0, 1] rfl
    refine va_calli (va_runV (As := [.int (nI y1)]) (rest := []) ⟨hx, hb, hml, hown, hz⟩ (s_Rows_closerOf7 l dC dI H.size a_t a_closers f_closers a_openers a_opened a_closed a_row a_resolver z_together z_inConflict y1 ka_closers (by first | omega | assumption | exact Or.inl rfl | exact Or.inr rfl) (by first | omega | assumption | exact Or.inl rfl | exact Or.inr rfl)) (cwV 1 hz (zV zm_388 zm_389 zm_390 zm_377 zm_391) rfl rfl rfl (by decide +kernel) ⟨Nat.le_of_ble_eq_true rfl, Nat.le_of_ble_eq_true rfl⟩) ⟨fun a U g mk q => by obtain ⟨q0, q1, qP, qK, qD⟩ := q; exact ⟨q0, q1, qP, va_K.moved (u := U) (U := U.calling g mk a) (Vm.Alike.refl U.vm) qK, qD⟩, va_recv (q := (R_Rows, F_Rows, 8)) (q0 := 0) (ci := 9) hK hP rfl rfl, fun U hU hW => ⟨rfl, by rw [hU], by rw [hU]; exact hPc, va_K.moved hW.alike hKc, hDc.weaken (fun _ _ _ _ => trivial)⟩⟩ rfl rfl hl.1 rfl (lv_room (Nat.le_of_ble_eq_true rfl)) d_Rows_behindOperand_10 ⟨Nat.zero_le _, Nat.zero_le _⟩) hS (fun q _ h => hFc q h) hFc (fun r u t H1 locs ht hvm hw hB hz1 hk1 hS => ?_)
    obtain ⟨hP1, hK1, hD1⟩ := hB
    obtain ⟨j4, l_j4, e_j4⟩ := hw
    subst r
    rw [ht] at hP1
    obtain ⟨hP, hD⟩ := va_join (wr := [(a_y0, .inr (11, [.ref a_y0_kinds, .ref a_y0_values, .int (nI n_y0_size)])), (a_y0_kinds, .inl (ka_y0_kinds, 362, .inl f_y0_kinds)), (a_y0_values, .inl (ka_y0_values, 362, .inr (.inl f_y0_values)))]) (w1 := [(a_t, .inr (9, [.ref a_closers, .ref a_openers, .ref a_opened, .ref a_closed, .ref a_row, .ref a_resolver, .int z_together, .int z_inConflict])), (a_closers, .inl (ka_closers, 362, .inl f_closers))]) hP hD [0, 1] [2, 3, 4] rfl rfl (by decide) (by decide) hk1 hFc hP1 hD1
    generalize H1 = H at hP hS ⊢
    have hP : va_P (dC, dI) vcl [(a_y0, .inr (11, [.ref a_y0_kinds, .ref a_y0_values, .int (nI n_y0_size)])), (a_y0_kinds, .inl (ka_y0_kinds, 362, .inl f_y0_kinds)), (a_y0_values, .inl (ka_y0_values, 362, .inr (.inl f_y0_values))), (a_t, .inr (9, [.ref a_closers, .ref a_openers, .ref a_opened, .ref a_closed, .ref a_row, .ref a_resolver, .int z_together, .int z_inConflict])), (a_closers, .inl (ka_closers, 362, .inl f_closers))] H := hP
    have hD : va_D A [(a_y0, .inr (11, [.ref a_y0_kinds, .ref a_y0_values, .int (nI n_y0_size)])), (a_y0_kinds, .inl (ka_y0_kinds, 362, .inl f_y0_kinds)), (a_y0_values, .inl (ka_y0_values, 362, .inr (.inl f_y0_values))), (a_t, .inr (9, [.ref a_closers, .ref a_openers, .ref a_opened, .ref a_closed, .ref a_row, .ref a_resolver, .int z_together, .int z_inConflict])), (a_closers, .inl (ka_closers, 362, .inl f_closers))] := hD
    refine lv_iconst (v := 1) hx hb d_Rows_behindOperand_13 (by decide) ?_
    refine xr_iadd (v := (nI (j4 + 1))) hx hb d_Rows_behindOperand_14 (nI_add j4 1) ?_
    have hP9 := hP.sub (ws' := [(a_t, .inr (9, [.ref a_closers, .ref a_openers, .ref a_opened, .ref a_closed, .ref a_row, .ref a_resolver, .int z_together, .int z_inConflict])), (a_closers, .inl (ka_closers, 362, .inl f_closers)), (a_y0, .inr (11, [.ref a_y0_kinds, .ref a_y0_values, .int (nI n_y0_size)])), (a_y0_kinds, .inl (ka_y0_kinds, 362, .inl f_y0_kinds)), (a_y0_values, .inl (ka_y0_values, 362, .inr (.inl f_y0_values)))]) [3, 4, 0, 1, 2] rfl
    have hD9 := hD.sub (ws' := [(a_t, .inr (9, [.ref a_closers, .ref a_openers, .ref a_opened, .ref a_closed, .ref a_row, .ref a_resolver, .int z_together, .int z_inConflict])), (a_closers, .inl (ka_closers, 362, .inl f_closers)), (a_y0, .inr (11, [.ref a_y0_kinds, .ref a_y0_values, .int (nI n_y0_size)])), (a_y0_kinds, .inl (ka_y0_kinds, 362, .inl f_y0_kinds)), (a_y0_values, .inl (ka_y0_values, 362, .inr (.inl f_y0_values)))]) [3, 4, 0, 1, 2] (by decide) rfl
    exact W.iret (v := (nI (j4 + 1))) hx hb hr (fun t ht hW => ⟨⟨(nI (j4 + 1)), (), rfl, ⟨(j4 + 1), by refine ⟨?_, by omega⟩; first | exact ba_1 hp0 (by omega) hp1 e5 (by omega) (And.left (by assumption)) | exact ba_2 e21 | exact ba_3 hp2 ((if_pos hp2).symm.trans e30) | exact ba_0 hp2 e5 e21 (fun z9 => e30 ((if_pos hp2).trans z9)), rfl⟩, by rw [ht]; exact hP9, va_K.moved hW.alike hK, hD9⟩, hS.F ht⟩) hS.2.2 d_Rows_behindOperand_15
set_option maxHeartbeats 4000000 in
set_option maxRecDepth 100000 in
theorem s_Rows_behindOperation7 (l : Launch) (dC : Nat → ClassId) (dI : Nat → Nat → Nat) (sz : Nat) (a_y0 : Nat) (a_y0_kinds : Nat) (f_y0_kinds : Nat → Int32) (a_y0_values : Nat) (f_y0_values : Nat → Int64) (n_y0_size : Nat) (y1 : Nat) (ka_y0_kinds : ClassId) (ka_y0_values : ClassId) (b_y0_size : n_y0_size ≤ 362) (by1 : y1 ≤ 361) (hp0 : y1 < n_y0_size) : Met l y_Rows_behindOperation w_Rows_behindOperation ({ frames := 2, cells := 0, slots := 0, locals := 44 }) (va_Pc [.ref a_y0, .int (nI y1)] (fun U => U.heap.size = sz ∧ va_P (dC, dI) vcl [(a_y0, .inr (11, [.ref a_y0_kinds, .ref a_y0_values, .int (nI n_y0_size)])), (a_y0_kinds, .inl (ka_y0_kinds, 362, .inl f_y0_kinds)), (a_y0_values, .inl (ka_y0_values, 362, .inr (.inl f_y0_values)))] U.heap ∧ va_K (dC, dI) vcl [(ka_y0_kinds, .int), (ka_y0_values, .long)] U ∧ va_D (fun _ => True) [(a_y0, .inr (11, [.ref a_y0_kinds, .ref a_y0_values, .int (nI n_y0_size)])), (a_y0_kinds, .inl (ka_y0_kinds, 362, .inl f_y0_kinds)), (a_y0_values, .inl (ka_y0_values, 362, .inr (.inl f_y0_values)))] ∧ cx_E (va_A [(a_y0, .inr (11, [.ref a_y0_kinds, .ref a_y0_values, .int (nI n_y0_size)])), (a_y0_kinds, .inl (ka_y0_kinds, 362, .inl f_y0_kinds)), (a_y0_values, .inl (ka_y0_values, 362, .inr (.inl f_y0_values)))] sz) U U.heap)) (va_Qi (fun (r : Int32) (_ : Unit) => ∃ j, ((∀ P9, j = y1 + bO f_y0_kinds f_y0_values P9 n_y0_size y1) ∧ j ≤ 400) ∧ r = nI j) (fun _ t => va_P (dC, dI) vcl [(a_y0, .inr (11, [.ref a_y0_kinds, .ref a_y0_values, .int (nI n_y0_size)])), (a_y0_kinds, .inl (ka_y0_kinds, 362, .inl f_y0_kinds)), (a_y0_values, .inl (ka_y0_values, 362, .inr (.inl f_y0_values)))] t.heap ∧ va_K (dC, dI) vcl [(ka_y0_kinds, .int), (ka_y0_values, .long)] t ∧ va_D (va_A [(a_y0, .inr (11, [.ref a_y0_kinds, .ref a_y0_values, .int (nI n_y0_size)])), (a_y0_kinds, .inl (ka_y0_kinds, 362, .inl f_y0_kinds)), (a_y0_values, .inl (ka_y0_values, 362, .inr (.inl f_y0_values)))] sz) [(a_y0, .inr (11, [.ref a_y0_kinds, .ref a_y0_values, .int (nI n_y0_size)])), (a_y0_kinds, .inl (ka_y0_kinds, 362, .inl f_y0_kinds)), (a_y0_values, .inl (ka_y0_values, 362, .inr (.inl f_y0_values)))]) (va_A [(a_y0, .inr (11, [.ref a_y0_kinds, .ref a_y0_values, .int (nI n_y0_size)])), (a_y0_kinds, .inl (ka_y0_kinds, 362, .inl f_y0_kinds)), (a_y0_values, .inl (ka_y0_values, 362, .inr (.inl f_y0_values)))] sz)) 0 0 (va_A [(a_y0, .inr (11, [.ref a_y0_kinds, .ref a_y0_values, .int (nI n_y0_size)])), (a_y0_kinds, .inl (ka_y0_kinds, 362, .inl f_y0_kinds)), (a_y0_values, .inl (ka_y0_values, 362, .inr (.inl f_y0_values)))] sz) := by
  refine Met.ofW (cc := b_Rows_behindOperation) (maxL := 2) (ret := (some .int)) (by decide) rfl ?_
  intro p e s m args below meth c s₁ B hml hv
  obtain ⟨rfl, hsz, hP, hK, hD0, hE⟩ := hv
  have hx := B.exec
  have hb := B.bytes
  have hr := B.returns
  have hts := atoms_spec (ws := w_Rows_behindOperation) B.pre
  have hz : ∀ w ∈ wz, w.before _ s = true := fun w h => hts w (List.mem_cons_of_mem _ h)
  have hown : s.vm.findClass R_Rows = some m.cls := findClass_of_methodNamed B.named
  have hlocks := B.notSynchronized
  subst hsz
  have hD := hD0.self (sz := s.heap.size)
  generalize hAe : va_A [(a_y0, .inr (11, [.ref a_y0_kinds, .ref a_y0_values, .int (nI n_y0_size)])), (a_y0_kinds, .inl (ka_y0_kinds, 362, .inl f_y0_kinds)), (a_y0_values, .inl (ka_y0_values, 362, .inr (.inl f_y0_values)))] s.heap.size = A at hD hE ⊢
  have hA : ∀ q : Nat, s.heap.size ≤ q → A q := fun q h => by rw [← hAe]; exact Or.inr h
  have hS : va_S A s.heap s.heap [] := va_S.rf
  have hP : va_P (dC, dI) vcl [(a_y0, .inr (11, [.ref a_y0_kinds, .ref a_y0_values, .int (nI n_y0_size)])), (a_y0_kinds, .inl (ka_y0_kinds, 362, .inl f_y0_kinds)), (a_y0_values, .inl (ka_y0_values, 362, .inr (.inl f_y0_values)))] s.heap := hP
  have hl := lv_entry ([.ref a_y0, .int (nI y1)]) (n := 2) (Nat.le_of_ble_eq_true rfl)
  rw [lg_entry_eq]
  generalize (lg_sl ([.ref a_y0, .int (nI y1)]) ++ List.replicate (2 - (lg_sl ([.ref a_y0, .int (nI y1)])).length) Slot.unset).toArray = ls at hl ⊢
  have hl : lv_has ls 2 [(0, .ref a_y0), (1, .int (nI y1))] := hl
  refine lv_aload_n hx hb d_Rows_behindOperation_0 rfl (lv_at hl 0 rfl) ?_
  refine lv_iload_n hx hb d_Rows_behindOperation_1 rfl (lv_at hl 1 rfl) ?_
  refine lv_bipush (v := 96) hx hb d_Rows_behindOperation_2 (by decide) ?_
  have hPc := hP.sub (ws' := [(a_y0, .inr (11, [.ref a_y0_kinds, .ref a_y0_values, .int (nI n_y0_size)])), (a_y0_kinds, .inl (ka_y0_kinds, 362, .inl f_y0_kinds)), (a_y0_values, .inl (ka_y0_values, 362, .inr (.inl f_y0_values)))]) [0, 1, 2] rfl
  have hDc := hD.sub (ws' := [(a_y0, .inr (11, [.ref a_y0_kinds, .ref a_y0_values, .int (nI n_y0_size)])), (a_y0_kinds, .inl (ka_y0_kinds, 362, .inl f_y0_kinds)), (a_y0_values, .inl (ka_y0_values, 362, .inr (.inl f_y0_values)))]) [0, 1, 2] (by decide) rfl
  have hKc := hK.sub (tys' := [(ka_y0_kinds, .int), (ka_y0_values, .long)]) [0, 1] rfl
  have hFc := va_free (wc := [(a_y0, .inr (11, [.ref a_y0_kinds, .ref a_y0_values, .int (nI n_y0_size)])), (a_y0_kinds, .inl (ka_y0_kinds, 362, .inl f_y0_kinds)), (a_y0_values, .inl (ka_y0_values, 362, .inr (.inl f_y0_values)))]) hD hS hA [0, 1, 2] rfl
  refine va_calli (va_runV (As := [.int (nI y1), .int 96]) (rest := []) ⟨hx, hb, hml, hown, hz⟩ (s_Tokens_isSign6 l dC dI s.heap.size 362 a_y0 a_y0_kinds f_y0_kinds a_y0_values f_y0_values n_y0_size y1 96 ka_y0_kinds ka_y0_values (by first | omega | assumption | exact Or.inl rfl | exact Or.inr rfl) (by first | omega | assumption | exact Or.inl rfl | exact Or.inr rfl) (by first | omega | assumption | exact Or.inl rfl | exact Or.inr rfl)) (cwV 2 hz (zV zm_446 zm_42 zm_43 zm_35 zm_44) rfl rfl rfl (by decide +kernel) ⟨Nat.le_of_ble_eq_true rfl, Nat.le_of_ble_eq_true rfl⟩) ⟨fun a U g mk q => by obtain ⟨q0, q1, qP, qK, qD⟩ := q; exact ⟨q0, q1, qP, va_K.moved (u := U) (U := U.calling g mk a) (Vm.Alike.refl U.vm) qK, qD⟩, va_recv (q := (R_Tokens, F_Tokens, 3)) (q0 := 0) (ci := 11) hK hP rfl rfl, fun U hU hW => ⟨rfl, by rw [hU], by rw [hU]; exact hPc, va_K.moved hW.alike hKc, hDc.weaken (fun _ _ _ _ => trivial)⟩⟩ rfl rfl hl.1 rfl (lv_room (Nat.le_of_ble_eq_true rfl)) d_Rows_behindOperation_4 ⟨Nat.zero_le _, Nat.zero_le _⟩) hS (fun q _ h => hFc q h) hFc (fun r u t H1 locs ht hvm hw_r hB hz1 hk1 hS => ?_)
  obtain ⟨hP1, hK1, hD1⟩ := hB
  obtain ⟨hb_r, he_r⟩ := hw_r
  subst r
  rw [ht] at hP1
  obtain ⟨hP, hD⟩ := va_join (wr := []) (w1 := [(a_y0, .inr (11, [.ref a_y0_kinds, .ref a_y0_values, .int (nI n_y0_size)])), (a_y0_kinds, .inl (ka_y0_kinds, 362, .inl f_y0_kinds)), (a_y0_values, .inl (ka_y0_values, 362, .inr (.inl f_y0_values)))]) hP hD [0, 1, 2] [] rfl rfl (by decide) (by decide) hk1 hFc hP1 hD1
  generalize H1 = H at hP hS ⊢
  have hP : va_P (dC, dI) vcl [(a_y0, .inr (11, [.ref a_y0_kinds, .ref a_y0_values, .int (nI n_y0_size)])), (a_y0_kinds, .inl (ka_y0_kinds, 362, .inl f_y0_kinds)), (a_y0_values, .inl (ka_y0_values, 362, .inr (.inl f_y0_values)))] H := hP
  have hD : va_D A [(a_y0, .inr (11, [.ref a_y0_kinds, .ref a_y0_values, .int (nI n_y0_size)])), (a_y0_kinds, .inl (ka_y0_kinds, 362, .inl f_y0_kinds)), (a_y0_values, .inl (ka_y0_values, 362, .inr (.inl f_y0_values)))] := hD
  refine lv_if_eq (tgt := 36) hx hb d_Rows_behindOperation_7 (by decide) (fun h1 => ?_) (fun h1 => ?_)
  · have e7_ := b01_no h1
    rw [tk_sg] at e7_
    refine lv_aload_n hx hb d_Rows_behindOperation_36 rfl (lv_at hl 0 rfl) ?_
    refine lv_iload_n hx hb d_Rows_behindOperation_37 rfl (lv_at hl 1 rfl) ?_
    have hPc := hP.sub (ws' := [(a_y0, .inr (11, [.ref a_y0_kinds, .ref a_y0_values, .int (nI n_y0_size)])), (a_y0_kinds, .inl (ka_y0_kinds, 362, .inl f_y0_kinds)), (a_y0_values, .inl (ka_y0_values, 362, .inr (.inl f_y0_values)))]) [0, 1, 2] rfl
    have hDc := hD.sub (ws' := [(a_y0, .inr (11, [.ref a_y0_kinds, .ref a_y0_values, .int (nI n_y0_size)])), (a_y0_kinds, .inl (ka_y0_kinds, 362, .inl f_y0_kinds)), (a_y0_values, .inl (ka_y0_values, 362, .inr (.inl f_y0_values)))]) [0, 1, 2] (by decide) rfl
    have hKc := hK.sub (tys' := [(ka_y0_kinds, .int), (ka_y0_values, .long)]) [0, 1] rfl
    have hFc := va_free (wc := [(a_y0, .inr (11, [.ref a_y0_kinds, .ref a_y0_values, .int (nI n_y0_size)])), (a_y0_kinds, .inl (ka_y0_kinds, 362, .inl f_y0_kinds)), (a_y0_values, .inl (ka_y0_values, 362, .inr (.inl f_y0_values)))]) hD hS hA [0, 1, 2] rfl
    refine va_calli (va_runV (As := [.int (nI y1)]) (rest := []) ⟨hx, hb, hml, hown, hz⟩ (s_Tokens_isFreeOperator7 l dC dI H.size 362 a_y0 a_y0_kinds f_y0_kinds a_y0_values f_y0_values n_y0_size y1 ka_y0_kinds ka_y0_values (by first | omega | assumption | exact Or.inl rfl | exact Or.inr rfl) (by first | omega | assumption | exact Or.inl rfl | exact Or.inr rfl) (by first | omega | assumption | exact Or.inl rfl | exact Or.inr rfl)) (cwV 1 hz (zV zm_447 zm_448 zm_449 zm_35 zm_450) rfl rfl rfl (by decide +kernel) ⟨Nat.le_of_ble_eq_true rfl, Nat.le_of_ble_eq_true rfl⟩) ⟨fun a U g mk q => by obtain ⟨q0, q1, qP, qK, qD, qx0⟩ := q; exact ⟨q0, q1, qP, va_K.moved (u := U) (U := U.calling g mk a) (Vm.Alike.refl U.vm) qK, qD, cx_E.same (u := U) (U := U.calling g mk a) rfl qx0⟩, va_recv (q := (R_Tokens, F_Tokens, 3)) (q0 := 0) (ci := 11) hK hP rfl rfl, fun U hU hW => ⟨rfl, by rw [hU], by rw [hU]; exact hPc, va_K.moved hW.alike hKc, hDc.weaken (fun _ _ _ _ => trivial), by rw [hU]; exact cx_E.to hW hS hFc hE⟩⟩ rfl rfl hl.1 rfl (lv_room (Nat.le_of_ble_eq_true rfl)) d_Rows_behindOperation_38 ⟨Nat.zero_le _, Nat.zero_le _⟩) hS (fun q _ h => hFc q h) hFc (fun r u t H1 locs ht hvm hw_r hB hz1 hk1 hS => ?_)
    obtain ⟨hP1, hK1, hD1⟩ := hB
    obtain ⟨hb_r, he_r⟩ := hw_r
    subst r
    rw [ht] at hP1
    obtain ⟨hP, hD⟩ := va_join (wr := []) (w1 := [(a_y0, .inr (11, [.ref a_y0_kinds, .ref a_y0_values, .int (nI n_y0_size)])), (a_y0_kinds, .inl (ka_y0_kinds, 362, .inl f_y0_kinds)), (a_y0_values, .inl (ka_y0_values, 362, .inr (.inl f_y0_values)))]) hP hD [0, 1, 2] [] rfl rfl (by decide) (by decide) hk1 hFc hP1 hD1
    generalize H1 = H at hP hS ⊢
    have hP : va_P (dC, dI) vcl [(a_y0, .inr (11, [.ref a_y0_kinds, .ref a_y0_values, .int (nI n_y0_size)])), (a_y0_kinds, .inl (ka_y0_kinds, 362, .inl f_y0_kinds)), (a_y0_values, .inl (ka_y0_values, 362, .inr (.inl f_y0_values)))] H := hP
    have hD : va_D A [(a_y0, .inr (11, [.ref a_y0_kinds, .ref a_y0_values, .int (nI n_y0_size)])), (a_y0_kinds, .inl (ka_y0_kinds, 362, .inl f_y0_kinds)), (a_y0_values, .inl (ka_y0_values, 362, .inr (.inl f_y0_values)))] := hD
    refine lv_if_eq (tgt := 50) hx hb d_Rows_behindOperation_41 (by decide) (fun h2 => ?_) (fun h2 => ?_)
    · have e41 := b01_no h2
      refine lv_iload_n hx hb d_Rows_behindOperation_50 rfl (lv_at hl 1 rfl) ?_
      have hP9 := hP.sub (ws' := [(a_y0, .inr (11, [.ref a_y0_kinds, .ref a_y0_values, .int (nI n_y0_size)])), (a_y0_kinds, .inl (ka_y0_kinds, 362, .inl f_y0_kinds)), (a_y0_values, .inl (ka_y0_values, 362, .inr (.inl f_y0_values)))]) [0, 1, 2] rfl
      have hD9 := hD.sub (ws' := [(a_y0, .inr (11, [.ref a_y0_kinds, .ref a_y0_values, .int (nI n_y0_size)])), (a_y0_kinds, .inl (ka_y0_kinds, 362, .inl f_y0_kinds)), (a_y0_values, .inl (ka_y0_values, 362, .inr (.inl f_y0_values)))]) [0, 1, 2] (by decide) rfl
      exact W.iret (v := (nI y1)) hx hb hr (fun t ht hW => ⟨⟨(nI y1), (), rfl, ⟨y1, by refine ⟨?_, by omega⟩; intro P9; first | exact bo_3 e7_ e17 e29 | exact bo_1 e41 | exact bo_0 hp0 (Or.inl e7_) e41 | exact bo_0 hp0 (Or.inr (Or.inl e17)) e41 | exact bo_0 hp0 (Or.inr (Or.inr e29)) e41, rfl⟩, by rw [ht]; exact hP9, va_K.moved hW.alike hK, hD9⟩, hS.F ht⟩) hS.2.2 d_Rows_behindOperation_51
    · have e41 := b01_yes h2
      refine lv_iload_n hx hb d_Rows_behindOperation_44 rfl (lv_at hl 1 rfl) ?_
      refine lv_iconst (v := 1) hx hb d_Rows_behindOperation_45 (by decide) ?_
      refine xr_iadd (v := (nI (y1 + 1))) hx hb d_Rows_behindOperation_46 (nI_add y1 1) ?_
      refine lv_goto (tgt := 51) hx hb d_Rows_behindOperation_47 (by decide) ?_
      have hP9 := hP.sub (ws' := [(a_y0, .inr (11, [.ref a_y0_kinds, .ref a_y0_values, .int (nI n_y0_size)])), (a_y0_kinds, .inl (ka_y0_kinds, 362, .inl f_y0_kinds)), (a_y0_values, .inl (ka_y0_values, 362, .inr (.inl f_y0_values)))]) [0, 1, 2] rfl
      have hD9 := hD.sub (ws' := [(a_y0, .inr (11, [.ref a_y0_kinds, .ref a_y0_values, .int (nI n_y0_size)])), (a_y0_kinds, .inl (ka_y0_kinds, 362, .inl f_y0_kinds)), (a_y0_values, .inl (ka_y0_values, 362, .inr (.inl f_y0_values)))]) [0, 1, 2] (by decide) rfl
      exact W.iret (v := (nI (y1 + 1))) hx hb hr (fun t ht hW => ⟨⟨(nI (y1 + 1)), (), rfl, ⟨(y1 + 1), by refine ⟨?_, by omega⟩; intro P9; first | exact bo_3 e7_ e17 e29 | exact bo_1 e41 | exact bo_0 hp0 (Or.inl e7_) e41 | exact bo_0 hp0 (Or.inr (Or.inl e17)) e41 | exact bo_0 hp0 (Or.inr (Or.inr e29)) e41, rfl⟩, by rw [ht]; exact hP9, va_K.moved hW.alike hK, hD9⟩, hS.F ht⟩) hS.2.2 d_Rows_behindOperation_51
  · have e7_ := b01_yes h1
    rw [tk_sg] at e7_
    refine lv_aload_n hx hb d_Rows_behindOperation_10 rfl (lv_at hl 0 rfl) ?_
    refine lv_iload_n hx hb d_Rows_behindOperation_11 rfl (lv_at hl 1 rfl) ?_
    refine lv_iconst (v := 1) hx hb d_Rows_behindOperation_12 (by decide) ?_
    refine xr_iadd (v := (nI (y1 + 1))) hx hb d_Rows_behindOperation_13 (nI_add y1 1) ?_
    have hPc := hP.sub (ws' := [(a_y0, .inr (11, [.ref a_y0_kinds, .ref a_y0_values, .int (nI n_y0_size)])), (a_y0_kinds, .inl (ka_y0_kinds, 362, .inl f_y0_kinds)), (a_y0_values, .inl (ka_y0_values, 362, .inr (.inl f_y0_values)))]) [0, 1, 2] rfl
    have hDc := hD.sub (ws' := [(a_y0, .inr (11, [.ref a_y0_kinds, .ref a_y0_values, .int (nI n_y0_size)])), (a_y0_kinds, .inl (ka_y0_kinds, 362, .inl f_y0_kinds)), (a_y0_values, .inl (ka_y0_values, 362, .inr (.inl f_y0_values)))]) [0, 1, 2] (by decide) rfl
    have hKc := hK.sub (tys' := [(ka_y0_kinds, .int), (ka_y0_values, .long)]) [0, 1] rfl
    have hFc := va_free (wc := [(a_y0, .inr (11, [.ref a_y0_kinds, .ref a_y0_values, .int (nI n_y0_size)])), (a_y0_kinds, .inl (ka_y0_kinds, 362, .inl f_y0_kinds)), (a_y0_values, .inl (ka_y0_values, 362, .inr (.inl f_y0_values)))]) hD hS hA [0, 1, 2] rfl
    refine va_calli (va_runV (As := [.int (nI (y1 + 1))]) (rest := []) ⟨hx, hb, hml, hown, hz⟩ (s_Tokens_isFreeName7 l dC dI H.size 362 a_y0 a_y0_kinds f_y0_kinds a_y0_values f_y0_values n_y0_size ((y1 + 1)) ka_y0_kinds ka_y0_values (by first | omega | assumption | exact Or.inl rfl | exact Or.inr rfl) (by first | omega | assumption | exact Or.inl rfl | exact Or.inr rfl) (by first | omega | assumption | exact Or.inl rfl | exact Or.inr rfl)) (cwV 1 hz (zV zm_442 zm_443 zm_444 zm_35 zm_445) rfl rfl rfl (by decide +kernel) ⟨Nat.le_of_ble_eq_true rfl, Nat.le_of_ble_eq_true rfl⟩) ⟨fun a U g mk q => by obtain ⟨q0, q1, qP, qK, qD, qx0⟩ := q; exact ⟨q0, q1, qP, va_K.moved (u := U) (U := U.calling g mk a) (Vm.Alike.refl U.vm) qK, qD, cx_E.same (u := U) (U := U.calling g mk a) rfl qx0⟩, va_recv (q := (R_Tokens, F_Tokens, 3)) (q0 := 0) (ci := 11) hK hP rfl rfl, fun U hU hW => ⟨rfl, by rw [hU], by rw [hU]; exact hPc, va_K.moved hW.alike hKc, hDc.weaken (fun _ _ _ _ => trivial), by rw [hU]; exact cx_E.to hW hS hFc hE⟩⟩ rfl rfl hl.1 rfl (lv_room (Nat.le_of_ble_eq_true rfl)) d_Rows_behindOperation_14 ⟨Nat.zero_le _, Nat.zero_le _⟩) hS (fun q _ h => hFc q h) hFc (fun r u t H1 locs ht hvm hw_r hB hz1 hk1 hS => ?_)
    obtain ⟨hP1, hK1, hD1⟩ := hB
    obtain ⟨hb_r, he_r⟩ := hw_r
    subst r
    rw [ht] at hP1
    obtain ⟨hP, hD⟩ := va_join (wr := []) (w1 := [(a_y0, .inr (11, [.ref a_y0_kinds, .ref a_y0_values, .int (nI n_y0_size)])), (a_y0_kinds, .inl (ka_y0_kinds, 362, .inl f_y0_kinds)), (a_y0_values, .inl (ka_y0_values, 362, .inr (.inl f_y0_values)))]) hP hD [0, 1, 2] [] rfl rfl (by decide) (by decide) hk1 hFc hP1 hD1
    generalize H1 = H at hP hS ⊢
    have hP : va_P (dC, dI) vcl [(a_y0, .inr (11, [.ref a_y0_kinds, .ref a_y0_values, .int (nI n_y0_size)])), (a_y0_kinds, .inl (ka_y0_kinds, 362, .inl f_y0_kinds)), (a_y0_values, .inl (ka_y0_values, 362, .inr (.inl f_y0_values)))] H := hP
    have hD : va_D A [(a_y0, .inr (11, [.ref a_y0_kinds, .ref a_y0_values, .int (nI n_y0_size)])), (a_y0_kinds, .inl (ka_y0_kinds, 362, .inl f_y0_kinds)), (a_y0_values, .inl (ka_y0_values, 362, .inr (.inl f_y0_values)))] := hD
    refine lv_if_eq (tgt := 36) hx hb d_Rows_behindOperation_17 (by decide) (fun h3 => ?_) (fun h3 => ?_)
    · have e17 := b01_no h3
      refine lv_aload_n hx hb d_Rows_behindOperation_36 rfl (lv_at hl 0 rfl) ?_
      refine lv_iload_n hx hb d_Rows_behindOperation_37 rfl (lv_at hl 1 rfl) ?_
      have hPc := hP.sub (ws' := [(a_y0, .inr (11, [.ref a_y0_kinds, .ref a_y0_values, .int (nI n_y0_size)])), (a_y0_kinds, .inl (ka_y0_kinds, 362, .inl f_y0_kinds)), (a_y0_values, .inl (ka_y0_values, 362, .inr (.inl f_y0_values)))]) [0, 1, 2] rfl
      have hDc := hD.sub (ws' := [(a_y0, .inr (11, [.ref a_y0_kinds, .ref a_y0_values, .int (nI n_y0_size)])), (a_y0_kinds, .inl (ka_y0_kinds, 362, .inl f_y0_kinds)), (a_y0_values, .inl (ka_y0_values, 362, .inr (.inl f_y0_values)))]) [0, 1, 2] (by decide) rfl
      have hKc := hK.sub (tys' := [(ka_y0_kinds, .int), (ka_y0_values, .long)]) [0, 1] rfl
      have hFc := va_free (wc := [(a_y0, .inr (11, [.ref a_y0_kinds, .ref a_y0_values, .int (nI n_y0_size)])), (a_y0_kinds, .inl (ka_y0_kinds, 362, .inl f_y0_kinds)), (a_y0_values, .inl (ka_y0_values, 362, .inr (.inl f_y0_values)))]) hD hS hA [0, 1, 2] rfl
      refine va_calli (va_runV (As := [.int (nI y1)]) (rest := []) ⟨hx, hb, hml, hown, hz⟩ (s_Tokens_isFreeOperator7 l dC dI H.size 362 a_y0 a_y0_kinds f_y0_kinds a_y0_values f_y0_values n_y0_size y1 ka_y0_kinds ka_y0_values (by first | omega | assumption | exact Or.inl rfl | exact Or.inr rfl) (by first | omega | assumption | exact Or.inl rfl | exact Or.inr rfl) (by first | omega | assumption | exact Or.inl rfl | exact Or.inr rfl)) (cwV 1 hz (zV zm_447 zm_448 zm_449 zm_35 zm_450) rfl rfl rfl (by decide +kernel) ⟨Nat.le_of_ble_eq_true rfl, Nat.le_of_ble_eq_true rfl⟩) ⟨fun a U g mk q => by obtain ⟨q0, q1, qP, qK, qD, qx0⟩ := q; exact ⟨q0, q1, qP, va_K.moved (u := U) (U := U.calling g mk a) (Vm.Alike.refl U.vm) qK, qD, cx_E.same (u := U) (U := U.calling g mk a) rfl qx0⟩, va_recv (q := (R_Tokens, F_Tokens, 3)) (q0 := 0) (ci := 11) hK hP rfl rfl, fun U hU hW => ⟨rfl, by rw [hU], by rw [hU]; exact hPc, va_K.moved hW.alike hKc, hDc.weaken (fun _ _ _ _ => trivial), by rw [hU]; exact cx_E.to hW hS hFc hE⟩⟩ rfl rfl hl.1 rfl (lv_room (Nat.le_of_ble_eq_true rfl)) d_Rows_behindOperation_38 ⟨Nat.zero_le _, Nat.zero_le _⟩) hS (fun q _ h => hFc q h) hFc (fun r u t H1 locs ht hvm hw_r hB hz1 hk1 hS => ?_)
      obtain ⟨hP1, hK1, hD1⟩ := hB
      obtain ⟨hb_r, he_r⟩ := hw_r
      subst r
      rw [ht] at hP1
      obtain ⟨hP, hD⟩ := va_join (wr := []) (w1 := [(a_y0, .inr (11, [.ref a_y0_kinds, .ref a_y0_values, .int (nI n_y0_size)])), (a_y0_kinds, .inl (ka_y0_kinds, 362, .inl f_y0_kinds)), (a_y0_values, .inl (ka_y0_values, 362, .inr (.inl f_y0_values)))]) hP hD [0, 1, 2] [] rfl rfl (by decide) (by decide) hk1 hFc hP1 hD1
      generalize H1 = H at hP hS ⊢
      have hP : va_P (dC, dI) vcl [(a_y0, .inr (11, [.ref a_y0_kinds, .ref a_y0_values, .int (nI n_y0_size)])), (a_y0_kinds, .inl (ka_y0_kinds, 362, .inl f_y0_kinds)), (a_y0_values, .inl (ka_y0_values, 362, .inr (.inl f_y0_values)))] H := hP
      have hD : va_D A [(a_y0, .inr (11, [.ref a_y0_kinds, .ref a_y0_values, .int (nI n_y0_size)])), (a_y0_kinds, .inl (ka_y0_kinds, 362, .inl f_y0_kinds)), (a_y0_values, .inl (ka_y0_values, 362, .inr (.inl f_y0_values)))] := hD
      refine lv_if_eq (tgt := 50) hx hb d_Rows_behindOperation_41 (by decide) (fun h4 => ?_) (fun h4 => ?_)
      · have e41 := b01_no h4
        refine lv_iload_n hx hb d_Rows_behindOperation_50 rfl (lv_at hl 1 rfl) ?_
        have hP9 := hP.sub (ws' := [(a_y0, .inr (11, [.ref a_y0_kinds, .ref a_y0_values, .int (nI n_y0_size)])), (a_y0_kinds, .inl (ka_y0_kinds, 362, .inl f_y0_kinds)), (a_y0_values, .inl (ka_y0_values, 362, .inr (.inl f_y0_values)))]) [0, 1, 2] rfl
        have hD9 := hD.sub (ws' := [(a_y0, .inr (11, [.ref a_y0_kinds, .ref a_y0_values, .int (nI n_y0_size)])), (a_y0_kinds, .inl (ka_y0_kinds, 362, .inl f_y0_kinds)), (a_y0_values, .inl (ka_y0_values, 362, .inr (.inl f_y0_values)))]) [0, 1, 2] (by decide) rfl
        exact W.iret (v := (nI y1)) hx hb hr (fun t ht hW => ⟨⟨(nI y1), (), rfl, ⟨y1, by refine ⟨?_, by omega⟩; intro P9; first | exact bo_3 e7_ e17 e29 | exact bo_1 e41 | exact bo_0 hp0 (Or.inl e7_) e41 | exact bo_0 hp0 (Or.inr (Or.inl e17)) e41 | exact bo_0 hp0 (Or.inr (Or.inr e29)) e41, rfl⟩, by rw [ht]; exact hP9, va_K.moved hW.alike hK, hD9⟩, hS.F ht⟩) hS.2.2 d_Rows_behindOperation_51
      · have e41 := b01_yes h4
        refine lv_iload_n hx hb d_Rows_behindOperation_44 rfl (lv_at hl 1 rfl) ?_
        refine lv_iconst (v := 1) hx hb d_Rows_behindOperation_45 (by decide) ?_
        refine xr_iadd (v := (nI (y1 + 1))) hx hb d_Rows_behindOperation_46 (nI_add y1 1) ?_
        refine lv_goto (tgt := 51) hx hb d_Rows_behindOperation_47 (by decide) ?_
        have hP9 := hP.sub (ws' := [(a_y0, .inr (11, [.ref a_y0_kinds, .ref a_y0_values, .int (nI n_y0_size)])), (a_y0_kinds, .inl (ka_y0_kinds, 362, .inl f_y0_kinds)), (a_y0_values, .inl (ka_y0_values, 362, .inr (.inl f_y0_values)))]) [0, 1, 2] rfl
        have hD9 := hD.sub (ws' := [(a_y0, .inr (11, [.ref a_y0_kinds, .ref a_y0_values, .int (nI n_y0_size)])), (a_y0_kinds, .inl (ka_y0_kinds, 362, .inl f_y0_kinds)), (a_y0_values, .inl (ka_y0_values, 362, .inr (.inl f_y0_values)))]) [0, 1, 2] (by decide) rfl
        exact W.iret (v := (nI (y1 + 1))) hx hb hr (fun t ht hW => ⟨⟨(nI (y1 + 1)), (), rfl, ⟨(y1 + 1), by refine ⟨?_, by omega⟩; intro P9; first | exact bo_3 e7_ e17 e29 | exact bo_1 e41 | exact bo_0 hp0 (Or.inl e7_) e41 | exact bo_0 hp0 (Or.inr (Or.inl e17)) e41 | exact bo_0 hp0 (Or.inr (Or.inr e29)) e41, rfl⟩, by rw [ht]; exact hP9, va_K.moved hW.alike hK, hD9⟩, hS.F ht⟩) hS.2.2 d_Rows_behindOperation_51
    · have e17 := b01_yes h3
      refine lv_aload_n hx hb d_Rows_behindOperation_20 rfl (lv_at hl 0 rfl) ?_
      refine lv_iload_n hx hb d_Rows_behindOperation_21 rfl (lv_at hl 1 rfl) ?_
      refine lv_iconst (v := 2) hx hb d_Rows_behindOperation_22 (by decide) ?_
      refine xr_iadd (v := (nI (y1 + 2))) hx hb d_Rows_behindOperation_23 (nI_add y1 2) ?_
      refine lv_bipush (v := 96) hx hb d_Rows_behindOperation_24 (by decide) ?_
      have hPc := hP.sub (ws' := [(a_y0, .inr (11, [.ref a_y0_kinds, .ref a_y0_values, .int (nI n_y0_size)])), (a_y0_kinds, .inl (ka_y0_kinds, 362, .inl f_y0_kinds)), (a_y0_values, .inl (ka_y0_values, 362, .inr (.inl f_y0_values)))]) [0, 1, 2] rfl
      have hDc := hD.sub (ws' := [(a_y0, .inr (11, [.ref a_y0_kinds, .ref a_y0_values, .int (nI n_y0_size)])), (a_y0_kinds, .inl (ka_y0_kinds, 362, .inl f_y0_kinds)), (a_y0_values, .inl (ka_y0_values, 362, .inr (.inl f_y0_values)))]) [0, 1, 2] (by decide) rfl
      have hKc := hK.sub (tys' := [(ka_y0_kinds, .int), (ka_y0_values, .long)]) [0, 1] rfl
      have hFc := va_free (wc := [(a_y0, .inr (11, [.ref a_y0_kinds, .ref a_y0_values, .int (nI n_y0_size)])), (a_y0_kinds, .inl (ka_y0_kinds, 362, .inl f_y0_kinds)), (a_y0_values, .inl (ka_y0_values, 362, .inr (.inl f_y0_values)))]) hD hS hA [0, 1, 2] rfl
      refine va_calli (va_runV (As := [.int (nI (y1 + 2)), .int 96]) (rest := []) ⟨hx, hb, hml, hown, hz⟩ (s_Tokens_isSign6 l dC dI H.size 362 a_y0 a_y0_kinds f_y0_kinds a_y0_values f_y0_values n_y0_size ((y1 + 2)) 96 ka_y0_kinds ka_y0_values (by first | omega | assumption | exact Or.inl rfl | exact Or.inr rfl) (by first | omega | assumption | exact Or.inl rfl | exact Or.inr rfl) (by first | omega | assumption | exact Or.inl rfl | exact Or.inr rfl)) (cwV 2 hz (zV zm_446 zm_42 zm_43 zm_35 zm_44) rfl rfl rfl (by decide +kernel) ⟨Nat.le_of_ble_eq_true rfl, Nat.le_of_ble_eq_true rfl⟩) ⟨fun a U g mk q => by obtain ⟨q0, q1, qP, qK, qD⟩ := q; exact ⟨q0, q1, qP, va_K.moved (u := U) (U := U.calling g mk a) (Vm.Alike.refl U.vm) qK, qD⟩, va_recv (q := (R_Tokens, F_Tokens, 3)) (q0 := 0) (ci := 11) hK hP rfl rfl, fun U hU hW => ⟨rfl, by rw [hU], by rw [hU]; exact hPc, va_K.moved hW.alike hKc, hDc.weaken (fun _ _ _ _ => trivial)⟩⟩ rfl rfl hl.1 rfl (lv_room (Nat.le_of_ble_eq_true rfl)) d_Rows_behindOperation_26 ⟨Nat.zero_le _, Nat.zero_le _⟩) hS (fun q _ h => hFc q h) hFc (fun r u t H1 locs ht hvm hw_r hB hz1 hk1 hS => ?_)
      obtain ⟨hP1, hK1, hD1⟩ := hB
      obtain ⟨hb_r, he_r⟩ := hw_r
      subst r
      rw [ht] at hP1
      obtain ⟨hP, hD⟩ := va_join (wr := []) (w1 := [(a_y0, .inr (11, [.ref a_y0_kinds, .ref a_y0_values, .int (nI n_y0_size)])), (a_y0_kinds, .inl (ka_y0_kinds, 362, .inl f_y0_kinds)), (a_y0_values, .inl (ka_y0_values, 362, .inr (.inl f_y0_values)))]) hP hD [0, 1, 2] [] rfl rfl (by decide) (by decide) hk1 hFc hP1 hD1
      generalize H1 = H at hP hS ⊢
      have hP : va_P (dC, dI) vcl [(a_y0, .inr (11, [.ref a_y0_kinds, .ref a_y0_values, .int (nI n_y0_size)])), (a_y0_kinds, .inl (ka_y0_kinds, 362, .inl f_y0_kinds)), (a_y0_values, .inl (ka_y0_values, 362, .inr (.inl f_y0_values)))] H := hP
      have hD : va_D A [(a_y0, .inr (11, [.ref a_y0_kinds, .ref a_y0_values, .int (nI n_y0_size)])), (a_y0_kinds, .inl (ka_y0_kinds, 362, .inl f_y0_kinds)), (a_y0_values, .inl (ka_y0_values, 362, .inr (.inl f_y0_values)))] := hD
      refine lv_if_eq (tgt := 36) hx hb d_Rows_behindOperation_29 (by decide) (fun h5 => ?_) (fun h5 => ?_)
      · have e29 := b01_no h5
        rw [tk_sg] at e29
        refine lv_aload_n hx hb d_Rows_behindOperation_36 rfl (lv_at hl 0 rfl) ?_
        refine lv_iload_n hx hb d_Rows_behindOperation_37 rfl (lv_at hl 1 rfl) ?_
        have hPc := hP.sub (ws' := [(a_y0, .inr (11, [.ref a_y0_kinds, .ref a_y0_values, .int (nI n_y0_size)])), (a_y0_kinds, .inl (ka_y0_kinds, 362, .inl f_y0_kinds)), (a_y0_values, .inl (ka_y0_values, 362, .inr (.inl f_y0_values)))]) [0, 1, 2] rfl
        have hDc := hD.sub (ws' := [(a_y0, .inr (11, [.ref a_y0_kinds, .ref a_y0_values, .int (nI n_y0_size)])), (a_y0_kinds, .inl (ka_y0_kinds, 362, .inl f_y0_kinds)), (a_y0_values, .inl (ka_y0_values, 362, .inr (.inl f_y0_values)))]) [0, 1, 2] (by decide) rfl
        have hKc := hK.sub (tys' := [(ka_y0_kinds, .int), (ka_y0_values, .long)]) [0, 1] rfl
        have hFc := va_free (wc := [(a_y0, .inr (11, [.ref a_y0_kinds, .ref a_y0_values, .int (nI n_y0_size)])), (a_y0_kinds, .inl (ka_y0_kinds, 362, .inl f_y0_kinds)), (a_y0_values, .inl (ka_y0_values, 362, .inr (.inl f_y0_values)))]) hD hS hA [0, 1, 2] rfl
        refine va_calli (va_runV (As := [.int (nI y1)]) (rest := []) ⟨hx, hb, hml, hown, hz⟩ (s_Tokens_isFreeOperator7 l dC dI H.size 362 a_y0 a_y0_kinds f_y0_kinds a_y0_values f_y0_values n_y0_size y1 ka_y0_kinds ka_y0_values (by first | omega | assumption | exact Or.inl rfl | exact Or.inr rfl) (by first | omega | assumption | exact Or.inl rfl | exact Or.inr rfl) (by first | omega | assumption | exact Or.inl rfl | exact Or.inr rfl)) (cwV 1 hz (zV zm_447 zm_448 zm_449 zm_35 zm_450) rfl rfl rfl (by decide +kernel) ⟨Nat.le_of_ble_eq_true rfl, Nat.le_of_ble_eq_true rfl⟩) ⟨fun a U g mk q => by obtain ⟨q0, q1, qP, qK, qD, qx0⟩ := q; exact ⟨q0, q1, qP, va_K.moved (u := U) (U := U.calling g mk a) (Vm.Alike.refl U.vm) qK, qD, cx_E.same (u := U) (U := U.calling g mk a) rfl qx0⟩, va_recv (q := (R_Tokens, F_Tokens, 3)) (q0 := 0) (ci := 11) hK hP rfl rfl, fun U hU hW => ⟨rfl, by rw [hU], by rw [hU]; exact hPc, va_K.moved hW.alike hKc, hDc.weaken (fun _ _ _ _ => trivial), by rw [hU]; exact cx_E.to hW hS hFc hE⟩⟩ rfl rfl hl.1 rfl (lv_room (Nat.le_of_ble_eq_true rfl)) d_Rows_behindOperation_38 ⟨Nat.zero_le _, Nat.zero_le _⟩) hS (fun q _ h => hFc q h) hFc (fun r u t H1 locs ht hvm hw_r hB hz1 hk1 hS => ?_)
        obtain ⟨hP1, hK1, hD1⟩ := hB
        obtain ⟨hb_r, he_r⟩ := hw_r
        subst r
        rw [ht] at hP1
        obtain ⟨hP, hD⟩ := va_join (wr := []) (w1 := [(a_y0, .inr (11, [.ref a_y0_kinds, .ref a_y0_values, .int (nI n_y0_size)])), (a_y0_kinds, .inl (ka_y0_kinds, 362, .inl f_y0_kinds)), (a_y0_values, .inl (ka_y0_values, 362, .inr (.inl f_y0_values)))]) hP hD [0, 1, 2] [] rfl rfl (by decide) (by decide) hk1 hFc hP1 hD1
        generalize H1 = H at hP hS ⊢
        have hP : va_P (dC, dI) vcl [(a_y0, .inr (11, [.ref a_y0_kinds, .ref a_y0_values, .int (nI n_y0_size)])), (a_y0_kinds, .inl (ka_y0_kinds, 362, .inl f_y0_kinds)), (a_y0_values, .inl (ka_y0_values, 362, .inr (.inl f_y0_values)))] H := hP
        have hD : va_D A [(a_y0, .inr (11, [.ref a_y0_kinds, .ref a_y0_values, .int (nI n_y0_size)])), (a_y0_kinds, .inl (ka_y0_kinds, 362, .inl f_y0_kinds)), (a_y0_values, .inl (ka_y0_values, 362, .inr (.inl f_y0_values)))] := hD
        refine lv_if_eq (tgt := 50) hx hb d_Rows_behindOperation_41 (by decide) (fun h6 => ?_) (fun h6 => ?_)
        · have e41 := b01_no h6
          refine lv_iload_n hx hb d_Rows_behindOperation_50 rfl (lv_at hl 1 rfl) ?_
          have hP9 := hP.sub (ws' := [(a_y0, .inr (11, [.ref a_y0_kinds, .ref a_y0_values, .int (nI n_y0_size)])), (a_y0_kinds, .inl (ka_y0_kinds, 362, .inl f_y0_kinds)), (a_y0_values, .inl (ka_y0_values, 362, .inr (.inl f_y0_values)))]) [0, 1, 2] rfl
          have hD9 := hD.sub (ws' := [(a_y0, .inr (11, [.ref a_y0_kinds, .ref a_y0_values, .int (nI n_y0_size)])), (a_y0_kinds, .inl (ka_y0_kinds, 362, .inl f_y0_kinds)), (a_y0_values, .inl (ka_y0_values, 362, .inr (.inl f_y0_values)))]) [0, 1, 2] (by decide) rfl
          exact W.iret (v := (nI y1)) hx hb hr (fun t ht hW => ⟨⟨(nI y1), (), rfl, ⟨y1, by refine ⟨?_, by omega⟩; intro P9; first | exact bo_3 e7_ e17 e29 | exact bo_1 e41 | exact bo_0 hp0 (Or.inl e7_) e41 | exact bo_0 hp0 (Or.inr (Or.inl e17)) e41 | exact bo_0 hp0 (Or.inr (Or.inr e29)) e41, rfl⟩, by rw [ht]; exact hP9, va_K.moved hW.alike hK, hD9⟩, hS.F ht⟩) hS.2.2 d_Rows_behindOperation_51
        · have e41 := b01_yes h6
          refine lv_iload_n hx hb d_Rows_behindOperation_44 rfl (lv_at hl 1 rfl) ?_
          refine lv_iconst (v := 1) hx hb d_Rows_behindOperation_45 (by decide) ?_
          refine xr_iadd (v := (nI (y1 + 1))) hx hb d_Rows_behindOperation_46 (nI_add y1 1) ?_
          refine lv_goto (tgt := 51) hx hb d_Rows_behindOperation_47 (by decide) ?_
          have hP9 := hP.sub (ws' := [(a_y0, .inr (11, [.ref a_y0_kinds, .ref a_y0_values, .int (nI n_y0_size)])), (a_y0_kinds, .inl (ka_y0_kinds, 362, .inl f_y0_kinds)), (a_y0_values, .inl (ka_y0_values, 362, .inr (.inl f_y0_values)))]) [0, 1, 2] rfl
          have hD9 := hD.sub (ws' := [(a_y0, .inr (11, [.ref a_y0_kinds, .ref a_y0_values, .int (nI n_y0_size)])), (a_y0_kinds, .inl (ka_y0_kinds, 362, .inl f_y0_kinds)), (a_y0_values, .inl (ka_y0_values, 362, .inr (.inl f_y0_values)))]) [0, 1, 2] (by decide) rfl
          exact W.iret (v := (nI (y1 + 1))) hx hb hr (fun t ht hW => ⟨⟨(nI (y1 + 1)), (), rfl, ⟨(y1 + 1), by refine ⟨?_, by omega⟩; intro P9; first | exact bo_3 e7_ e17 e29 | exact bo_1 e41 | exact bo_0 hp0 (Or.inl e7_) e41 | exact bo_0 hp0 (Or.inr (Or.inl e17)) e41 | exact bo_0 hp0 (Or.inr (Or.inr e29)) e41, rfl⟩, by rw [ht]; exact hP9, va_K.moved hW.alike hK, hD9⟩, hS.F ht⟩) hS.2.2 d_Rows_behindOperation_51
      · have e29 := b01_yes h5
        rw [tk_sg] at e29
        refine lv_iload_n hx hb d_Rows_behindOperation_32 rfl (lv_at hl 1 rfl) ?_
        refine lv_iconst (v := 3) hx hb d_Rows_behindOperation_33 (by decide) ?_
        refine xr_iadd (v := (nI (y1 + 3))) hx hb d_Rows_behindOperation_34 (nI_add y1 3) ?_
        have hP9 := hP.sub (ws' := [(a_y0, .inr (11, [.ref a_y0_kinds, .ref a_y0_values, .int (nI n_y0_size)])), (a_y0_kinds, .inl (ka_y0_kinds, 362, .inl f_y0_kinds)), (a_y0_values, .inl (ka_y0_values, 362, .inr (.inl f_y0_values)))]) [0, 1, 2] rfl
        have hD9 := hD.sub (ws' := [(a_y0, .inr (11, [.ref a_y0_kinds, .ref a_y0_values, .int (nI n_y0_size)])), (a_y0_kinds, .inl (ka_y0_kinds, 362, .inl f_y0_kinds)), (a_y0_values, .inl (ka_y0_values, 362, .inr (.inl f_y0_values)))]) [0, 1, 2] (by decide) rfl
        exact W.iret (v := (nI (y1 + 3))) hx hb hr (fun t ht hW => ⟨⟨(nI (y1 + 3)), (), rfl, ⟨(y1 + 3), by refine ⟨?_, by omega⟩; intro P9; first | exact bo_3 e7_ e17 e29 | exact bo_1 e41 | exact bo_0 hp0 (Or.inl e7_) e41 | exact bo_0 hp0 (Or.inr (Or.inl e17)) e41 | exact bo_0 hp0 (Or.inr (Or.inr e29)) e41, rfl⟩, by rw [ht]; exact hP9, va_K.moved hW.alike hK, hD9⟩, hS.F ht⟩) hS.2.2 d_Rows_behindOperation_35
/-! a row is collected -/
section RWI
variable {s : Nat → Int32} {v : Nat → Int64} {P : Nat → Int32} {n k e to j a : Nat} {S : List Nat} {X : Nat × Rb} {r r' : Rb}
def LV7 (s : Nat → Int32) (v : Nat → Int64) (P : Nat → Int32) (n : Nat) (S : List Nat) (to : Nat) : Prop := to ≤ n ∧ e7 s v P n to = 0 ∧ ∀ k, k < to → sk s v k = S → (clo (s k) (v k) = false ∧ (0 < e7 s v P n k → k + e7 s v P n k ≤ to))
def cg (s : Nat → Int32) (v : Nat → Int64) (S : List Nat) (x : Nat) : Nat := if sk s v x = S ∧ ¬ s x = 4 then 1 else 0
theorem cg_cn : ∀ k, sm (cg s v S) k ≤ cn s k
  | 0 => Nat.le_refl _
  | k + 1 => by
    have ih := cg_cn k
    have g : cg s v S k ≤ (if s k = 4 then 0 else 1) := by
      unfold cg
      by_cases h : s k = 4
      · rw [if_neg (fun z => z.2 h), if_pos h]; exact Nat.le_refl _
      · rw [if_neg h]; split <;> omega
    rw [sm, cn]
    exact Nat.add_le_add ih g
theorem dd_v (hk : k < n) (hn : n ≤ 600) : vaI v n (nI k) = v k := by rw [va_n hk hn, nI_clamp (by omega)]
theorem dd_0 (hk : k < n) (hn : n ≤ 600) (h : ¬ lg_cmp (vaI v n (nI k)) 45 = 0) : decide (¬ (0 : Int32) = 0) = (v k == 45) := by
  rw [dd_v hk hn] at h
  have e : ¬ v k = 45 := fun q => h ((lg_cmp_eq _ _).mpr q)
  simp [e]
theorem dd_1 (hk : k < n) (hn : n ≤ 600) (h : lg_cmp (vaI v n (nI k)) 45 = 0) : decide (¬ (1 : Int32) = 0) = (v k == 45) := by
  rw [dd_v hk hn] at h
  rw [(lg_cmp_eq _ _).mp h]; rfl
theorem bA_y (h : ¬ k + bA s v P n k ≤ k) : opB s v n k = false ∧ bA s v P n k = e7 s v P n k ∧ 0 < e7 s v P n k ∧ bO s v P n k = 0 := by
  unfold bA at h ⊢
  unfold bO
  by_cases z : opB s v n k = true
  · rw [if_pos z] at h; omega
  · rw [if_neg z] at h ⊢
    rw [if_neg z]
    exact ⟨by simpa using z, rfl, by omega, rfl⟩
theorem bO_y (h : ¬ k + bO s v P n k ≤ k) : opB s v n k = true ∧ bO s v P n k = e7 s v P n k ∧ 0 < e7 s v P n k ∧ bA s v P n k = 0 := by
  unfold bO at h ⊢
  unfold bA
  by_cases z : opB s v n k = true
  · rw [if_pos z] at h ⊢
    rw [if_pos z]
    exact ⟨z, rfl, by omega, rfl⟩
  · rw [if_neg z] at h; omega
theorem ex_z (h1 : k + bA s v P n k ≤ k) (h2 : k + bO s v P n k ≤ k) : e7 s v P n k = 0 := by
  unfold bA at h1
  unfold bO at h2
  by_cases z : opB s v n k = true
  · rw [if_pos z] at h2; omega
  · rw [if_neg z] at h1; omega
theorem ch_a (hX : X = chE s v P n k r) (h : ¬ k + bA s v P n k ≤ k) (hr : r' = rbA (nI k) (nI (k + e7 s v P n k - 1)) r) : X = chE s v P n (k + e7 s v P n k) r' := by
  obtain ⟨h1, -, h3, -⟩ := bA_y h
  rw [hX, chE_go h3, hr]
  unfold rbN; rw [if_neg (by rw [h1]; decide)]
theorem ch_o {d : Bool} (hX : X = chE s v P n k r) (h : ¬ k + bO s v P n k ≤ k) (hd : d = (v k == 45)) (hr : r' = rbO (nI k) (nI (k + e7 s v P n k - 1)) d r) : X = chE s v P n (k + e7 s v P n k) r' := by
  obtain ⟨h1, -, h3, -⟩ := bO_y h
  rw [hX, chE_go h3, hr, hd]
  unfold rbN; rw [if_pos h1]
theorem cg_s (hb : bl7 s v n) (hn : n ≤ 600) (hP : PN s v P n) (he : 0 < e7 s v P n k) (hS : sk s v k = S) : sm (cg s v S) k + 1 ≤ sm (cg s v S) (k + e7 s v P n k) := by
  have h4 := exN_lex hn (pn_pt hb hn hP) he
  have h1 : sm (cg s v S) (k + 1) = sm (cg s v S) k + 1 := by
    rw [sm]; unfold cg; rw [if_pos ⟨hS, h4⟩]
  have := sm_mono (g := cg s v S) (a := k + 1) (k + e7 s v P n k) (by omega)
  omega
theorem itm_0 {fi la : Nat → Int32} : ITM fi la 0 n := fun i h => absurd h (Nat.not_lt_zero _)
theorem rv_0 {pa : Nat → Int32} : RV pa 0 := fun i h => absurd h (Nat.not_lt_zero _)
/-- items and parts through the builder -/
theorem z3_at {a b c a' b' c' : Nat → Int32} : ∀ n, z3 a b c n = z3 a' b' c' n → ∀ i, i < n → a i = a' i ∧ b i = b' i ∧ c i = c' i
  | 0, _, i, h => absurd h (Nat.not_lt_zero _)
  | n + 1, e, i, h => by
    rw [z3, z3] at e
    have e1 := List.cons.inj e
    by_cases q : i = n
    · rw [q]
      have e2 := Prod.mk.inj e1.1
      have e3 := Prod.mk.inj e2.2
      exact ⟨e2.1, e3.1, e3.2⟩
    · exact z3_at n e1.2 i (by omega)
def ITL (n : Nat) (L : List It) : Prop := ∀ x, x ∈ L → ∃ a b, x.1 = nI a ∧ x.2.1 = nI b ∧ a ≤ b ∧ b < n
def RVL : List It → Prop
  | [] => True
  | x :: L => (x.2.2 = 1 → eo7 L = true) ∧ RVL L
theorem itl_m {fi la pa : Nat → Int32} {m : Nat} : ∀ i, i < m → (fi i, la i, pa i) ∈ z3 fi la pa m := by
  induction m with
  | zero => intro i h; exact absurd h (Nat.not_lt_zero _)
  | succ m ih =>
    intro i h
    rw [z3]
    by_cases q : i = m
    · rw [q]; exact List.mem_cons_self
    · exact List.mem_cons_of_mem _ (ih i (by omega))
theorem itl_itm {fi la pa : Nat → Int32} {m : Nat} (h : ITL n (z3 fi la pa m)) : ITM fi la m n := fun i hi => h _ (itl_m i hi)
theorem rvl_rv {fi la pa : Nat → Int32} : ∀ m, RVL (z3 fi la pa m) → RV pa m
  | 0, _, i, h => absurd h (Nat.not_lt_zero _)
  | m + 1, hr, i, h => by
    rw [z3] at hr
    by_cases q : i = m
    · rw [q]
      intro e
      exact eo_y (hr.1 e)
    · exact rvl_rv m hr.2 i (by omega)
theorem itl_a {b : Nat} (h : ITL k r.1) (hk : k ≤ b) (hb : b < n) (hkn : k ≤ n) : ITL n (rbA (nI k) (nI b) r).1 := by
  obtain ⟨L, f⟩ := r
  cases L with
  | nil =>
    intro x hx
    have : x = (nI k, nI b, 0) := by simpa [rbA] using hx
    rw [this]; exact ⟨k, b, rfl, rfl, hk, hb⟩
  | cons y L =>
    intro x hx
    have hy := h y List.mem_cons_self
    unfold rbA at hx
    by_cases z : y.2.2 = 0
    · have hx' : x ∈ (y.1, nI b, y.2.2) :: L := by
        have : (if y.2.2 = 0 then ((y.1, nI b, y.2.2) :: L, f) else ((nI k, nI b, 0) :: y :: L, f)).1 = (y.1, nI b, y.2.2) :: L := by rw [if_pos z]
        rw [← this]; exact hx
      rcases List.mem_cons.mp hx' with e | e
      · obtain ⟨a, c, h1, h2, h3, h4⟩ := hy
        rw [e]; exact ⟨a, b, h1, rfl, by omega, hb⟩
      · obtain ⟨a, c, h1, h2, h3, h4⟩ := h x (List.mem_cons_of_mem _ e)
        exact ⟨a, c, h1, h2, h3, by omega⟩
    · have hx' : x ∈ (nI k, nI b, (0 : Int32)) :: y :: L := by
        have : (if y.2.2 = 0 then ((y.1, nI b, y.2.2) :: L, f) else ((nI k, nI b, 0) :: y :: L, f)).1 = (nI k, nI b, 0) :: y :: L := by rw [if_neg z]
        rw [← this]; exact hx
      rcases List.mem_cons.mp hx' with e | e
      · rw [e]; exact ⟨k, b, rfl, rfl, hk, hb⟩
      · obtain ⟨a, c, h1, h2, h3, h4⟩ := h x e
        exact ⟨a, c, h1, h2, h3, by omega⟩
theorem itl_o {b : Nat} {d : Bool} (h : ITL k r.1) (hk : k ≤ b) (hb : b < n) (hkn : k ≤ n) : ITL n (rbO (nI k) (nI b) d r).1 := by
  intro x hx
  rcases List.mem_cons.mp hx with e | e
  · rw [e]; exact ⟨k, b, rfl, rfl, hk, hb⟩
  · obtain ⟨a, c, h1, h2, h3, h4⟩ := h x e
    exact ⟨a, c, h1, h2, h3, by omega⟩
theorem rvl_a {x y : Int32} (h : RVL r.1) : RVL (rbA x y r).1 := by
  obtain ⟨L, f⟩ := r
  cases L with
  | nil => exact ⟨fun z => absurd (show (0 : Int32) = 1 from z) (by decide), trivial⟩
  | cons i L =>
    unfold rbA
    show RVL (if i.2.2 = 0 then ((i.1, y, i.2.2) :: L, f) else ((x, y, 0) :: i :: L, f)).1
    by_cases z : i.2.2 = 0
    · rw [if_pos z]
      exact ⟨fun w => absurd (z.symm.trans w) (by decide), h.2⟩
    · rw [if_neg z]
      exact ⟨fun w => absurd (show (0 : Int32) = 1 from w) (by decide), h⟩
theorem rvl_o {x y : Int32} {d : Bool} (h : RVL r.1) : RVL (rbO x y d r).1 := by
  refine ⟨fun w => ?_, h⟩
  have w' : (if eo7 r.1 = true then (1 : Int32) else 2) = 1 := w
  by_cases z : eo7 r.1 = true
  · exact z
  · rw [if_neg z] at w'; exact absurd w' (by decide)
theorem rb_len_a {x y : Int32} : (rbA x y r).1.length ≤ r.1.length + 1 := by
  obtain ⟨L, f⟩ := r
  cases L with
  | nil => exact Nat.le_refl _
  | cons i L =>
    unfold rbA
    show (if i.2.2 = 0 then ((i.1, y, i.2.2) :: L, f) else ((x, y, 0) :: i :: L, f)).1.length ≤ (i :: L).length + 1
    by_cases z : i.2.2 = 0
    · rw [if_pos z]; exact Nat.le_succ _
    · rw [if_neg z]; exact Nat.le_refl _
theorem itl_0 : ITL n [] := fun x hx => by cases hx
theorem rb_sz_a {a b c a' b' c' : Nat → Int32} {n m : Nat} {p q p' q' : Bool} {x y : Int32} (e : (z3 a b c n, p, q) = rbA x y (z3 a' b' c' m, p', q')) : n ≤ m + 1 := by
  have h := congrArg (fun z : Rb => z.1.length) e
  have h1 : (z3 a b c n).length = (rbA x y (z3 a' b' c' m, p', q')).1.length := h
  have h2 := rb_len_a (x := x) (y := y) (r := (z3 a' b' c' m, p', q'))
  have h3 : (z3 a' b' c' m, p', q').1.length = m := z3_len m
  rw [z3_len] at h1
  omega
theorem rb_sz_o {a b c a' b' c' : Nat → Int32} {n m : Nat} {p q p' q' d : Bool} {x y : Int32} (e : (z3 a b c n, p, q) = rbO x y d (z3 a' b' c' m, p', q')) : n ≤ m + 1 := by
  have h := congrArg (fun z : Rb => z.1.length) e
  have h1 : (z3 a b c n).length = (z3 a' b' c' m).length + 1 := h
  rw [z3_len, z3_len] at h1
  omega
theorem rb_len_o {x y : Int32} {d : Bool} : (rbO x y d r).1.length = r.1.length + 1 := rfl
end RWI
set_option maxHeartbeats 4000000 in
set_option maxRecDepth 100000 in
theorem s_Rows_collectRow7 (l : Launch) (dC : Nat → ClassId) (dI : Nat → Nat → Nat) (sz : Nat) (a_t : Nat) (a_closers : Nat) (f_closers : Nat → Int32) (a_openers : Nat) (a_opened : Nat) (a_closed : Nat) (a_row : Nat) (a_row_parts : Nat) (f_row_parts : Nat → Int32) (a_row_firsts : Nat) (f_row_firsts : Nat → Int32) (a_row_lasts : Nat) (f_row_lasts : Nat → Int32) (n_row_size : Nat) (z_row_operates : Int32) (z_row_lacksOperand : Int32) (a_resolver : Nat) (z_together : Int32) (z_inConflict : Int32) (a_y0 : Nat) (a_y0_kinds : Nat) (f_y0_kinds : Nat → Int32) (a_y0_values : Nat) (f_y0_values : Nat → Int64) (n_y0_size : Nat) (y1 : Nat) (y2 : Nat) (ka_closers : ClassId) (ka_row_parts : ClassId) (ka_row_firsts : ClassId) (ka_row_lasts : ClassId) (ka_y0_kinds : ClassId) (ka_y0_values : ClassId) (c_closers : ∀ j, ∃ q, q < 362 ∧ f_closers j = nI q) (b_row_size : n_row_size ≤ 90) (b_y0_size : n_y0_size ≤ 362) (by1 : y1 ≤ 362) (by2 : y2 ≤ 362) (hp0 : bl7 f_y0_kinds f_y0_values n_y0_size) (hp1 : cn f_y0_kinds n_y0_size ≤ 90) (hp2 : PN f_y0_kinds f_y0_values f_closers n_y0_size) (hp3 : y1 ≤ y2) (hp4 : cv f_y0_kinds f_y0_values n_y0_size y1 = 0) (hp5 : LV7 f_y0_kinds f_y0_values f_closers n_y0_size (sk f_y0_kinds f_y0_values y1) y2) : Met l y_Rows_collectRow w_Rows_collectRow ({ frames := 3, cells := 0, slots := 0, locals := 66 }) (va_Pc [.ref a_t, .ref a_y0, .int (nI y1), .int (nI y2)] (fun U => U.heap.size = sz ∧ va_P (dC, dI) vcl [(a_t, .inr (9, [.ref a_closers, .ref a_openers, .ref a_opened, .ref a_closed, .ref a_row, .ref a_resolver, .int z_together, .int z_inConflict])), (a_closers, .inl (ka_closers, 362, .inl f_closers)), (a_row, .inr (8, [.ref a_row_parts, .ref a_row_firsts, .ref a_row_lasts, .int (nI n_row_size), .int z_row_operates, .int z_row_lacksOperand])), (a_row_parts, .inl (ka_row_parts, 90, .inl f_row_parts)), (a_row_firsts, .inl (ka_row_firsts, 90, .inl f_row_firsts)), (a_row_lasts, .inl (ka_row_lasts, 90, .inl f_row_lasts)), (a_y0, .inr (11, [.ref a_y0_kinds, .ref a_y0_values, .int (nI n_y0_size)])), (a_y0_kinds, .inl (ka_y0_kinds, 362, .inl f_y0_kinds)), (a_y0_values, .inl (ka_y0_values, 362, .inr (.inl f_y0_values)))] U.heap ∧ va_K (dC, dI) vcl [(ka_closers, .int), (ka_row_parts, .int), (ka_row_firsts, .int), (ka_row_lasts, .int), (ka_y0_kinds, .int), (ka_y0_values, .long)] U ∧ va_D (fun _ => True) [(a_t, .inr (9, [.ref a_closers, .ref a_openers, .ref a_opened, .ref a_closed, .ref a_row, .ref a_resolver, .int z_together, .int z_inConflict])), (a_closers, .inl (ka_closers, 362, .inl f_closers)), (a_row, .inr (8, [.ref a_row_parts, .ref a_row_firsts, .ref a_row_lasts, .int (nI n_row_size), .int z_row_operates, .int z_row_lacksOperand])), (a_row_parts, .inl (ka_row_parts, 90, .inl f_row_parts)), (a_row_firsts, .inl (ka_row_firsts, 90, .inl f_row_firsts)), (a_row_lasts, .inl (ka_row_lasts, 90, .inl f_row_lasts)), (a_y0, .inr (11, [.ref a_y0_kinds, .ref a_y0_values, .int (nI n_y0_size)])), (a_y0_kinds, .inl (ka_y0_kinds, 362, .inl f_y0_kinds)), (a_y0_values, .inl (ka_y0_values, 362, .inr (.inl f_y0_values)))] ∧ cx_E (va_A [(a_t, .inr (9, [.ref a_closers, .ref a_openers, .ref a_opened, .ref a_closed, .ref a_row, .ref a_resolver, .int z_together, .int z_inConflict])), (a_closers, .inl (ka_closers, 362, .inl f_closers)), (a_row, .inr (8, [.ref a_row_parts, .ref a_row_firsts, .ref a_row_lasts, .int (nI n_row_size), .int z_row_operates, .int z_row_lacksOperand])), (a_row_parts, .inl (ka_row_parts, 90, .inl f_row_parts)), (a_row_firsts, .inl (ka_row_firsts, 90, .inl f_row_firsts)), (a_row_lasts, .inl (ka_row_lasts, 90, .inl f_row_lasts)), (a_y0, .inr (11, [.ref a_y0_kinds, .ref a_y0_values, .int (nI n_y0_size)])), (a_y0_kinds, .inl (ka_y0_kinds, 362, .inl f_y0_kinds)), (a_y0_values, .inl (ka_y0_values, 362, .inr (.inl f_y0_values)))] sz) U U.heap)) (va_Qi (fun (r : Int32) (_ : Unit) => ∃ j, (j = (chE f_y0_kinds f_y0_values f_closers n_y0_size y1 ([], false, false)).1) ∧ r = nI j) (fun _ t => ∃ (w_n_row_size : Nat) (w_z_row_operates : Int32) (w_z_row_lacksOperand : Int32) (w_f_row_parts : Nat → Int32) (w_f_row_firsts : Nat → Int32) (w_f_row_lasts : Nat → Int32), (w_n_row_size ≤ 90) ∧ ((z3 w_f_row_firsts w_f_row_lasts w_f_row_parts w_n_row_size, decide (¬ w_z_row_operates = 0), decide (¬ w_z_row_lacksOperand = 0)) = (chE f_y0_kinds f_y0_values f_closers n_y0_size y1 ([], false, false)).2) ∧ (ITM w_f_row_firsts w_f_row_lasts w_n_row_size n_y0_size) ∧ (RV w_f_row_parts w_n_row_size) ∧ (w_n_row_size + sm (cg f_y0_kinds f_y0_values (sk f_y0_kinds f_y0_values y1)) y1 ≤ sm (cg f_y0_kinds f_y0_values (sk f_y0_kinds f_y0_values y1)) (chE f_y0_kinds f_y0_values f_closers n_y0_size y1 ([], false, false)).1) ∧ (cv f_y0_kinds f_y0_values n_y0_size (chE f_y0_kinds f_y0_values f_closers n_y0_size y1 ([], false, false)).1 = 0) ∧ (sk f_y0_kinds f_y0_values (chE f_y0_kinds f_y0_values f_closers n_y0_size y1 ([], false, false)).1 = sk f_y0_kinds f_y0_values y1) ∧ (e7 f_y0_kinds f_y0_values f_closers n_y0_size (chE f_y0_kinds f_y0_values f_closers n_y0_size y1 ([], false, false)).1 = 0) ∧ ((chE f_y0_kinds f_y0_values f_closers n_y0_size y1 ([], false, false)).1 ≤ y2) ∧ (y1 ≤ (chE f_y0_kinds f_y0_values f_closers n_y0_size y1 ([], false, false)).1) ∧ va_P (dC, dI) vcl [(a_t, .inr (9, [.ref a_closers, .ref a_openers, .ref a_opened, .ref a_closed, .ref a_row, .ref a_resolver, .int z_together, .int z_inConflict])), (a_closers, .inl (ka_closers, 362, .inl f_closers)), (a_row, .inr (8, [.ref a_row_parts, .ref a_row_firsts, .ref a_row_lasts, .int (nI w_n_row_size), .int w_z_row_operates, .int w_z_row_lacksOperand])), (a_row_parts, .inl (ka_row_parts, 90, .inl w_f_row_parts)), (a_row_firsts, .inl (ka_row_firsts, 90, .inl w_f_row_firsts)), (a_row_lasts, .inl (ka_row_lasts, 90, .inl w_f_row_lasts)), (a_y0, .inr (11, [.ref a_y0_kinds, .ref a_y0_values, .int (nI n_y0_size)])), (a_y0_kinds, .inl (ka_y0_kinds, 362, .inl f_y0_kinds)), (a_y0_values, .inl (ka_y0_values, 362, .inr (.inl f_y0_values)))] t.heap ∧ va_K (dC, dI) vcl [(ka_closers, .int), (ka_row_parts, .int), (ka_row_firsts, .int), (ka_row_lasts, .int), (ka_y0_kinds, .int), (ka_y0_values, .long)] t ∧ va_D (va_A [(a_t, .inr (9, [.ref a_closers, .ref a_openers, .ref a_opened, .ref a_closed, .ref a_row, .ref a_resolver, .int z_together, .int z_inConflict])), (a_closers, .inl (ka_closers, 362, .inl f_closers)), (a_row, .inr (8, [.ref a_row_parts, .ref a_row_firsts, .ref a_row_lasts, .int (nI n_row_size), .int z_row_operates, .int z_row_lacksOperand])), (a_row_parts, .inl (ka_row_parts, 90, .inl f_row_parts)), (a_row_firsts, .inl (ka_row_firsts, 90, .inl f_row_firsts)), (a_row_lasts, .inl (ka_row_lasts, 90, .inl f_row_lasts)), (a_y0, .inr (11, [.ref a_y0_kinds, .ref a_y0_values, .int (nI n_y0_size)])), (a_y0_kinds, .inl (ka_y0_kinds, 362, .inl f_y0_kinds)), (a_y0_values, .inl (ka_y0_values, 362, .inr (.inl f_y0_values)))] sz) [(a_t, .inr (9, [.ref a_closers, .ref a_openers, .ref a_opened, .ref a_closed, .ref a_row, .ref a_resolver, .int z_together, .int z_inConflict])), (a_closers, .inl (ka_closers, 362, .inl f_closers)), (a_row, .inr (8, [.ref a_row_parts, .ref a_row_firsts, .ref a_row_lasts, .int (nI w_n_row_size), .int w_z_row_operates, .int w_z_row_lacksOperand])), (a_row_parts, .inl (ka_row_parts, 90, .inl w_f_row_parts)), (a_row_firsts, .inl (ka_row_firsts, 90, .inl w_f_row_firsts)), (a_row_lasts, .inl (ka_row_lasts, 90, .inl w_f_row_lasts)), (a_y0, .inr (11, [.ref a_y0_kinds, .ref a_y0_values, .int (nI n_y0_size)])), (a_y0_kinds, .inl (ka_y0_kinds, 362, .inl f_y0_kinds)), (a_y0_values, .inl (ka_y0_values, 362, .inr (.inl f_y0_values)))]) (va_A [(a_t, .inr (9, [.ref a_closers, .ref a_openers, .ref a_opened, .ref a_closed, .ref a_row, .ref a_resolver, .int z_together, .int z_inConflict])), (a_closers, .inl (ka_closers, 362, .inl f_closers)), (a_row, .inr (8, [.ref a_row_parts, .ref a_row_firsts, .ref a_row_lasts, .int (nI n_row_size), .int z_row_operates, .int z_row_lacksOperand])), (a_row_parts, .inl (ka_row_parts, 90, .inl f_row_parts)), (a_row_firsts, .inl (ka_row_firsts, 90, .inl f_row_firsts)), (a_row_lasts, .inl (ka_row_lasts, 90, .inl f_row_lasts)), (a_y0, .inr (11, [.ref a_y0_kinds, .ref a_y0_values, .int (nI n_y0_size)])), (a_y0_kinds, .inl (ka_y0_kinds, 362, .inl f_y0_kinds)), (a_y0_values, .inl (ka_y0_values, 362, .inr (.inl f_y0_values)))] sz)) 0 0 (va_A [(a_t, .inr (9, [.ref a_closers, .ref a_openers, .ref a_opened, .ref a_closed, .ref a_row, .ref a_resolver, .int z_together, .int z_inConflict])), (a_closers, .inl (ka_closers, 362, .inl f_closers)), (a_row, .inr (8, [.ref a_row_parts, .ref a_row_firsts, .ref a_row_lasts, .int (nI n_row_size), .int z_row_operates, .int z_row_lacksOperand])), (a_row_parts, .inl (ka_row_parts, 90, .inl f_row_parts)), (a_row_firsts, .inl (ka_row_firsts, 90, .inl f_row_firsts)), (a_row_lasts, .inl (ka_row_lasts, 90, .inl f_row_lasts)), (a_y0, .inr (11, [.ref a_y0_kinds, .ref a_y0_values, .int (nI n_y0_size)])), (a_y0_kinds, .inl (ka_y0_kinds, 362, .inl f_y0_kinds)), (a_y0_values, .inl (ka_y0_values, 362, .inr (.inl f_y0_values)))] sz) := by
  refine Met.ofW (cc := b_Rows_collectRow) (maxL := 8) (ret := (some .int)) (by decide) rfl ?_
  intro p e s m args below meth c s₁ B hml hv
  obtain ⟨rfl, hsz, hP, hK, hD0, hE⟩ := hv
  have hx := B.exec
  have hb := B.bytes
  have hr := B.returns
  have hts := atoms_spec (ws := w_Rows_collectRow) B.pre
  have hz : ∀ w ∈ wz, w.before _ s = true := fun w h => hts w (List.mem_cons_of_mem _ h)
  have hown : s.vm.findClass R_Rows = some m.cls := findClass_of_methodNamed B.named
  have hlocks := B.notSynchronized
  subst hsz
  have hD := hD0.self (sz := s.heap.size)
  generalize hAe : va_A [(a_t, .inr (9, [.ref a_closers, .ref a_openers, .ref a_opened, .ref a_closed, .ref a_row, .ref a_resolver, .int z_together, .int z_inConflict])), (a_closers, .inl (ka_closers, 362, .inl f_closers)), (a_row, .inr (8, [.ref a_row_parts, .ref a_row_firsts, .ref a_row_lasts, .int (nI n_row_size), .int z_row_operates, .int z_row_lacksOperand])), (a_row_parts, .inl (ka_row_parts, 90, .inl f_row_parts)), (a_row_firsts, .inl (ka_row_firsts, 90, .inl f_row_firsts)), (a_row_lasts, .inl (ka_row_lasts, 90, .inl f_row_lasts)), (a_y0, .inr (11, [.ref a_y0_kinds, .ref a_y0_values, .int (nI n_y0_size)])), (a_y0_kinds, .inl (ka_y0_kinds, 362, .inl f_y0_kinds)), (a_y0_values, .inl (ka_y0_values, 362, .inr (.inl f_y0_values)))] s.heap.size = A at hD hE ⊢
  have hA : ∀ q : Nat, s.heap.size ≤ q → A q := fun q h => by rw [← hAe]; exact Or.inr h
  have hS : va_S A s.heap s.heap [] := va_S.rf
  have hP : va_P (dC, dI) vcl [(a_t, .inr (9, [.ref a_closers, .ref a_openers, .ref a_opened, .ref a_closed, .ref a_row, .ref a_resolver, .int z_together, .int z_inConflict])), (a_closers, .inl (ka_closers, 362, .inl f_closers)), (a_row, .inr (8, [.ref a_row_parts, .ref a_row_firsts, .ref a_row_lasts, .int (nI n_row_size), .int z_row_operates, .int z_row_lacksOperand])), (a_row_parts, .inl (ka_row_parts, 90, .inl f_row_parts)), (a_row_firsts, .inl (ka_row_firsts, 90, .inl f_row_firsts)), (a_row_lasts, .inl (ka_row_lasts, 90, .inl f_row_lasts)), (a_y0, .inr (11, [.ref a_y0_kinds, .ref a_y0_values, .int (nI n_y0_size)])), (a_y0_kinds, .inl (ka_y0_kinds, 362, .inl f_y0_kinds)), (a_y0_values, .inl (ka_y0_values, 362, .inr (.inl f_y0_values)))] s.heap := hP
  have hl := lv_entry ([.ref a_t, .ref a_y0, .int (nI y1), .int (nI y2)]) (n := 8) (Nat.le_of_ble_eq_true rfl)
  rw [lg_entry_eq]
  generalize (lg_sl ([.ref a_t, .ref a_y0, .int (nI y1), .int (nI y2)]) ++ List.replicate (8 - (lg_sl ([.ref a_t, .ref a_y0, .int (nI y1), .int (nI y2)])).length) Slot.unset).toArray = ls at hl ⊢
  have hl : lv_has ls 8 [(0, .ref a_t), (1, .ref a_y0), (2, .int (nI y1)), (3, .int (nI y2))] := hl
  refine lv_aload_n hx hb d_Rows_collectRow_0 rfl (lv_at hl 0 rfl) ?_
  refine va_get (D := (dC, dI)) (ci := 9) (v := .ref a_row) (C := R_Rows) (T := F_Rows) (N := 8) hx hb hz zu_Rows hown hK hP 0 rfl rfl 4 (by decide) (hz (.fieldLink R_Rows 27 "LayoutFront$Rows" "row" "LLayoutFront$Row;") zm_361) (fun _ h9 => h9) rfl d_Rows_collectRow_1 ?_
  have hPc := hP.sub (ws' := [(a_row, .inr (8, [.ref a_row_parts, .ref a_row_firsts, .ref a_row_lasts, .int (nI n_row_size), .int z_row_operates, .int z_row_lacksOperand]))]) [2] rfl
  have hDc := hD.sub (ws' := [(a_row, .inr (8, [.ref a_row_parts, .ref a_row_firsts, .ref a_row_lasts, .int (nI n_row_size), .int z_row_operates, .int z_row_lacksOperand]))]) [2] (by decide) rfl
  have hKc := hK.sub (tys' := []) [] rfl
  have hFc := va_free (wc := [(a_row, .inr (8, [.ref a_row_parts, .ref a_row_firsts, .ref a_row_lasts, .int (nI n_row_size), .int z_row_operates, .int z_row_lacksOperand]))]) hD hS hA [2] rfl
  refine va_callv (va_runV (As := []) (rest := []) ⟨hx, hb, hml, hown, hz⟩ (s_Row_clear7 l dC dI s.heap.size a_row a_row_parts a_row_firsts a_row_lasts n_row_size z_row_operates z_row_lacksOperand (by first | omega | assumption | exact Or.inl rfl | exact Or.inr rfl | decide)) (cwV 0 hz (zV zm_421 zm_422 zm_423 zm_318 zm_424) rfl rfl rfl (by decide +kernel) ⟨Nat.le_of_ble_eq_true rfl, Nat.le_of_ble_eq_true rfl⟩) ⟨fun a U g mk q => by obtain ⟨q0, q1, qP, qK, qD⟩ := q; exact ⟨q0, q1, qP, va_K.moved (u := U) (U := U.calling g mk a) (Vm.Alike.refl U.vm) qK, qD⟩, va_recv (q := (R_Row, F_Row, 6)) (q0 := 2) (ci := 8) hK hP rfl rfl, fun U hU hW => ⟨rfl, by rw [hU], by rw [hU]; exact hPc, va_K.moved hW.alike hKc, hDc.weaken (fun _ _ _ _ => trivial)⟩⟩ rfl rfl hl.1 rfl (lv_room (Nat.le_of_ble_eq_true rfl)) d_Rows_collectRow_4 ⟨Nat.zero_le _, Nat.zero_le _⟩) hS (fun q _ h => hFc q h) hFc (fun u t H1 locs ht hvm hw hB hz1 hk1 hS => ?_)
  obtain ⟨g1, g2, g3, hb_g1, hq0_4, hq1_4, hq2_4, hP1, hK1, hD1⟩ := hB
  subst g1
  subst g2
  subst g3
  rw [ht] at hP1
  obtain ⟨hP, hD⟩ := va_join (wr := [(a_t, .inr (9, [.ref a_closers, .ref a_openers, .ref a_opened, .ref a_closed, .ref a_row, .ref a_resolver, .int z_together, .int z_inConflict])), (a_closers, .inl (ka_closers, 362, .inl f_closers)), (a_row_parts, .inl (ka_row_parts, 90, .inl f_row_parts)), (a_row_firsts, .inl (ka_row_firsts, 90, .inl f_row_firsts)), (a_row_lasts, .inl (ka_row_lasts, 90, .inl f_row_lasts)), (a_y0, .inr (11, [.ref a_y0_kinds, .ref a_y0_values, .int (nI n_y0_size)])), (a_y0_kinds, .inl (ka_y0_kinds, 362, .inl f_y0_kinds)), (a_y0_values, .inl (ka_y0_values, 362, .inr (.inl f_y0_values)))]) (w1 := [(a_row, .inr (8, [.ref a_row_parts, .ref a_row_firsts, .ref a_row_lasts, .int (nI (0)), .int (0), .int (0)]))]) hP hD [2] [0, 1, 3, 4, 5, 6, 7, 8] rfl rfl (by decide) (by decide) hk1 hFc hP1 hD1
  generalize H1 = H at hP hS ⊢
  have hP : va_P (dC, dI) vcl [(a_t, .inr (9, [.ref a_closers, .ref a_openers, .ref a_opened, .ref a_closed, .ref a_row, .ref a_resolver, .int z_together, .int z_inConflict])), (a_closers, .inl (ka_closers, 362, .inl f_closers)), (a_row_parts, .inl (ka_row_parts, 90, .inl f_row_parts)), (a_row_firsts, .inl (ka_row_firsts, 90, .inl f_row_firsts)), (a_row_lasts, .inl (ka_row_lasts, 90, .inl f_row_lasts)), (a_y0, .inr (11, [.ref a_y0_kinds, .ref a_y0_values, .int (nI n_y0_size)])), (a_y0_kinds, .inl (ka_y0_kinds, 362, .inl f_y0_kinds)), (a_y0_values, .inl (ka_y0_values, 362, .inr (.inl f_y0_values))), (a_row, .inr (8, [.ref a_row_parts, .ref a_row_firsts, .ref a_row_lasts, .int (nI (0)), .int (0), .int (0)]))] H := hP
  have hD : va_D A [(a_t, .inr (9, [.ref a_closers, .ref a_openers, .ref a_opened, .ref a_closed, .ref a_row, .ref a_resolver, .int z_together, .int z_inConflict])), (a_closers, .inl (ka_closers, 362, .inl f_closers)), (a_row_parts, .inl (ka_row_parts, 90, .inl f_row_parts)), (a_row_firsts, .inl (ka_row_firsts, 90, .inl f_row_firsts)), (a_row_lasts, .inl (ka_row_lasts, 90, .inl f_row_lasts)), (a_y0, .inr (11, [.ref a_y0_kinds, .ref a_y0_values, .int (nI n_y0_size)])), (a_y0_kinds, .inl (ka_y0_kinds, 362, .inl f_y0_kinds)), (a_y0_values, .inl (ka_y0_values, 362, .inr (.inl f_y0_values))), (a_row, .inr (8, [.ref a_row_parts, .ref a_row_firsts, .ref a_row_lasts, .int (nI (0)), .int (0), .int (0)]))] := hD
  refine lv_iload_n hx hb d_Rows_collectRow_7 rfl (lv_at hl 2 rfl) ?_
  refine lv_istore hx hb d_Rows_collectRow_8 hl (by decide) rfl (fun ls hl => ?_)
  have hl : lv_has ls 8 [(4, .int (nI y1)), (0, .ref a_t), (1, .ref a_y0), (2, .int (nI y1)), (3, .int (nI y2))] := hl
  refine lv_iload_n hx hb d_Rows_collectRow_10 rfl (lv_at hl 3 rfl) ?_
  refine lv_istore hx hb d_Rows_collectRow_11 hl (by decide) rfl (fun ls hl => ?_)
  have hl : lv_has ls 8 [(5, .int (nI y1)), (4, .int (nI y1)), (0, .ref a_t), (1, .ref a_y0), (2, .int (nI y1)), (3, .int (nI y2))] := hl
  have hl : lv_has ls 8 [(4, .int (nI y1)), (5, .int (nI y1)), (0, .ref a_t), (1, .ref a_y0), (2, .int (nI y1)), (3, .int (nI y2))] := lv_sub hl [1, 0, 2, 3, 4, 5] rfl
  refine xr_loop (α := (Nat) × (Nat) × (Nat) × (Int32) × (Int32) × (Nat → Int32) × (Nat → Int32) × (Nat → Int32)) (fun a => (fun (k4 : Nat) (k5 : Nat) (v_a_row_3 : Nat) (v_a_row_4 : Int32) (v_a_row_5 : Int32) (v_a_row_firsts : Nat → Int32) (v_a_row_lasts : Nat → Int32) (v_a_row_parts : Nat → Int32) => 362 - k5) a.1 a.2.1 a.2.2.1 a.2.2.2.1 a.2.2.2.2.1 a.2.2.2.2.2.1 a.2.2.2.2.2.2.1 a.2.2.2.2.2.2.2) (fun a H locs ls => (fun (k4 : Nat) (k5 : Nat) (v_a_row_3 : Nat) (v_a_row_4 : Int32) (v_a_row_5 : Int32) (v_a_row_firsts : Nat → Int32) (v_a_row_lasts : Nat → Int32) (v_a_row_parts : Nat → Int32) => (k4 ≤ 362) ∧ (k5 ≤ 362) ∧ (v_a_row_3 ≤ 90) ∧ (k5 ≤ k4) ∧ (y1 ≤ k5) ∧ (k4 ≤ y2) ∧ (chE f_y0_kinds f_y0_values f_closers n_y0_size y1 ([], false, false) = chE f_y0_kinds f_y0_values f_closers n_y0_size k4 (z3 v_a_row_firsts v_a_row_lasts v_a_row_parts v_a_row_3, decide (¬ v_a_row_4 = 0), decide (¬ v_a_row_5 = 0))) ∧ (cv f_y0_kinds f_y0_values n_y0_size k4 = 0) ∧ (sk f_y0_kinds f_y0_values k4 = sk f_y0_kinds f_y0_values y1) ∧ (v_a_row_3 + sm (cg f_y0_kinds f_y0_values (sk f_y0_kinds f_y0_values y1)) y1 ≤ sm (cg f_y0_kinds f_y0_values (sk f_y0_kinds f_y0_values y1)) k4) ∧ (ITL k4 (z3 v_a_row_firsts v_a_row_lasts v_a_row_parts v_a_row_3)) ∧ (RVL (z3 v_a_row_firsts v_a_row_lasts v_a_row_parts v_a_row_3)) ∧ lv_has ls 8 [(4, .int (nI k4)), (5, .int (nI k5)), (0, .ref a_t), (1, .ref a_y0), (2, .int (nI y1)), (3, .int (nI y2))] ∧ va_P (dC, dI) vcl [(a_t, .inr (9, [.ref a_closers, .ref a_openers, .ref a_opened, .ref a_closed, .ref a_row, .ref a_resolver, .int z_together, .int z_inConflict])), (a_closers, .inl (ka_closers, 362, .inl f_closers)), (a_row_parts, .inl (ka_row_parts, 90, .inl v_a_row_parts)), (a_row_firsts, .inl (ka_row_firsts, 90, .inl v_a_row_firsts)), (a_row_lasts, .inl (ka_row_lasts, 90, .inl v_a_row_lasts)), (a_y0, .inr (11, [.ref a_y0_kinds, .ref a_y0_values, .int (nI n_y0_size)])), (a_y0_kinds, .inl (ka_y0_kinds, 362, .inl f_y0_kinds)), (a_y0_values, .inl (ka_y0_values, 362, .inr (.inl f_y0_values))), (a_row, .inr (8, [.ref a_row_parts, .ref a_row_firsts, .ref a_row_lasts, .int (nI v_a_row_3), .int v_a_row_4, .int v_a_row_5]))] H ∧ va_D A [(a_t, .inr (9, [.ref a_closers, .ref a_openers, .ref a_opened, .ref a_closed, .ref a_row, .ref a_resolver, .int z_together, .int z_inConflict])), (a_closers, .inl (ka_closers, 362, .inl f_closers)), (a_row_parts, .inl (ka_row_parts, 90, .inl v_a_row_parts)), (a_row_firsts, .inl (ka_row_firsts, 90, .inl v_a_row_firsts)), (a_row_lasts, .inl (ka_row_lasts, 90, .inl v_a_row_lasts)), (a_y0, .inr (11, [.ref a_y0_kinds, .ref a_y0_values, .int (nI n_y0_size)])), (a_y0_kinds, .inl (ka_y0_kinds, 362, .inl f_y0_kinds)), (a_y0_values, .inl (ka_y0_values, 362, .inr (.inl f_y0_values))), (a_row, .inr (8, [.ref a_row_parts, .ref a_row_firsts, .ref a_row_lasts, .int (nI v_a_row_3), .int v_a_row_4, .int v_a_row_5]))] ∧ va_S A s.heap H locs) a.1 a.2.1 a.2.2.1 a.2.2.2.1 a.2.2.2.2.1 a.2.2.2.2.2.1 a.2.2.2.2.2.2.1 a.2.2.2.2.2.2.2) (fun a ih13 H locs ls hI => ?_) (y1, y1, (0), (0), (0), f_row_firsts, f_row_lasts, f_row_parts) _ _ _ (by exact ⟨by show y1 ≤ 362; first | omega | assumption | exact Or.inl rfl | exact Or.inr rfl | decide, by show y1 ≤ 362; first | omega | assumption | exact Or.inl rfl | exact Or.inr rfl | decide, by show ((0)) ≤ 90; first | omega | assumption | exact Or.inl rfl | exact Or.inr rfl | decide, by show y1 ≤ y1; first | omega | assumption | exact Or.inl rfl | exact Or.inr rfl | decide, by show y1 ≤ y1; first | omega | assumption | exact Or.inl rfl | exact Or.inr rfl | decide, by show y1 ≤ y2; first | omega | assumption | exact Or.inl rfl | exact Or.inr rfl | decide, by show chE f_y0_kinds f_y0_values f_closers n_y0_size y1 ([], false, false) = chE f_y0_kinds f_y0_values f_closers n_y0_size y1 (z3 f_row_firsts f_row_lasts f_row_parts ((0)), decide (¬ ((0) : Int32) = 0), decide (¬ ((0) : Int32) = 0)); rfl, by show cv f_y0_kinds f_y0_values n_y0_size y1 = 0; exact hp4, by show sk f_y0_kinds f_y0_values y1 = sk f_y0_kinds f_y0_values y1; rfl, by show ((0)) + sm (cg f_y0_kinds f_y0_values (sk f_y0_kinds f_y0_values y1)) y1 ≤ sm (cg f_y0_kinds f_y0_values (sk f_y0_kinds f_y0_values y1)) y1; first | omega | assumption | exact Or.inl rfl | exact Or.inr rfl | decide, by show ITL y1 (z3 f_row_firsts f_row_lasts f_row_parts ((0))); exact itl_0, by show RVL (z3 f_row_firsts f_row_lasts f_row_parts ((0))); exact trivial, hl, hP, hD, hS⟩)
  obtain ⟨k4, k5, v_a_row_3, v_a_row_4, v_a_row_5, v_a_row_firsts, v_a_row_lasts, v_a_row_parts⟩ := a
  obtain ⟨bl0, bl1, bl2, bl3, bl4, bl5, bl6, bl7, bl8, bl9, bl10, bl11, hl, hP, hD, hS⟩ := hI
  have bl0 : k4 ≤ 362 := bl0
  have bl1 : k5 ≤ 362 := bl1
  have bl2 : v_a_row_3 ≤ 90 := bl2
  have bl3 : k5 ≤ k4 := bl3
  have iA := bl3
  have bl4 : y1 ≤ k5 := bl4
  have iB := bl4
  have bl5 : k4 ≤ y2 := bl5
  have iC := bl5
  have bl6 : chE f_y0_kinds f_y0_values f_closers n_y0_size y1 ([], false, false) = chE f_y0_kinds f_y0_values f_closers n_y0_size k4 (z3 v_a_row_firsts v_a_row_lasts v_a_row_parts v_a_row_3, decide (¬ v_a_row_4 = 0), decide (¬ v_a_row_5 = 0)) := bl6
  have iE := bl6
  have bl7 : cv f_y0_kinds f_y0_values n_y0_size k4 = 0 := bl7
  have iV := bl7
  have bl8 : sk f_y0_kinds f_y0_values k4 = sk f_y0_kinds f_y0_values y1 := bl8
  have iS := bl8
  have bl9 : v_a_row_3 + sm (cg f_y0_kinds f_y0_values (sk f_y0_kinds f_y0_values y1)) y1 ≤ sm (cg f_y0_kinds f_y0_values (sk f_y0_kinds f_y0_values y1)) k4 := bl9
  have iZ := bl9
  have bl10 : ITL k4 (z3 v_a_row_firsts v_a_row_lasts v_a_row_parts v_a_row_3) := bl10
  have iI := bl10
  have bl11 : RVL (z3 v_a_row_firsts v_a_row_lasts v_a_row_parts v_a_row_3) := bl11
  have iR := bl11
  have hl : lv_has ls 8 [(4, .int (nI k4)), (5, .int (nI k5)), (0, .ref a_t), (1, .ref a_y0), (2, .int (nI y1)), (3, .int (nI y2))] := hl
  have hP : va_P (dC, dI) vcl [(a_t, .inr (9, [.ref a_closers, .ref a_openers, .ref a_opened, .ref a_closed, .ref a_row, .ref a_resolver, .int z_together, .int z_inConflict])), (a_closers, .inl (ka_closers, 362, .inl f_closers)), (a_row_parts, .inl (ka_row_parts, 90, .inl v_a_row_parts)), (a_row_firsts, .inl (ka_row_firsts, 90, .inl v_a_row_firsts)), (a_row_lasts, .inl (ka_row_lasts, 90, .inl v_a_row_lasts)), (a_y0, .inr (11, [.ref a_y0_kinds, .ref a_y0_values, .int (nI n_y0_size)])), (a_y0_kinds, .inl (ka_y0_kinds, 362, .inl f_y0_kinds)), (a_y0_values, .inl (ka_y0_values, 362, .inr (.inl f_y0_values))), (a_row, .inr (8, [.ref a_row_parts, .ref a_row_firsts, .ref a_row_lasts, .int (nI v_a_row_3), .int v_a_row_4, .int v_a_row_5]))] H := hP
  have hD : va_D A [(a_t, .inr (9, [.ref a_closers, .ref a_openers, .ref a_opened, .ref a_closed, .ref a_row, .ref a_resolver, .int z_together, .int z_inConflict])), (a_closers, .inl (ka_closers, 362, .inl f_closers)), (a_row_parts, .inl (ka_row_parts, 90, .inl v_a_row_parts)), (a_row_firsts, .inl (ka_row_firsts, 90, .inl v_a_row_firsts)), (a_row_lasts, .inl (ka_row_lasts, 90, .inl v_a_row_lasts)), (a_y0, .inr (11, [.ref a_y0_kinds, .ref a_y0_values, .int (nI n_y0_size)])), (a_y0_kinds, .inl (ka_y0_kinds, 362, .inl f_y0_kinds)), (a_y0_values, .inl (ka_y0_values, 362, .inr (.inl f_y0_values))), (a_row, .inr (8, [.ref a_row_parts, .ref a_row_firsts, .ref a_row_lasts, .int (nI v_a_row_3), .int v_a_row_4, .int v_a_row_5]))] := hD
  refine lv_iload hx hb d_Rows_collectRow_13 (lv_at hl 1 rfl) ?_
  refine lv_iload_n hx hb d_Rows_collectRow_15 rfl (lv_at hl 5 rfl) ?_
  refine lv_icmp_ge (tgt := 118) hx hb d_Rows_collectRow_16 (by decide) (fun h4 => ?_) (fun h4 => ?_)
  · have h4 : y2 ≤ k5 := (nI_leI (a := y2) (b := k5) (by omega) (by omega)).mp h4
    have lv := hp5
    refine lv_iload hx hb d_Rows_collectRow_118 (lv_at hl 0 rfl) ?_
    have hP9 := hP.sub (ws' := [(a_t, .inr (9, [.ref a_closers, .ref a_openers, .ref a_opened, .ref a_closed, .ref a_row, .ref a_resolver, .int z_together, .int z_inConflict])), (a_closers, .inl (ka_closers, 362, .inl f_closers)), (a_row, .inr (8, [.ref a_row_parts, .ref a_row_firsts, .ref a_row_lasts, .int (nI v_a_row_3), .int v_a_row_4, .int v_a_row_5])), (a_row_parts, .inl (ka_row_parts, 90, .inl v_a_row_parts)), (a_row_firsts, .inl (ka_row_firsts, 90, .inl v_a_row_firsts)), (a_row_lasts, .inl (ka_row_lasts, 90, .inl v_a_row_lasts)), (a_y0, .inr (11, [.ref a_y0_kinds, .ref a_y0_values, .int (nI n_y0_size)])), (a_y0_kinds, .inl (ka_y0_kinds, 362, .inl f_y0_kinds)), (a_y0_values, .inl (ka_y0_values, 362, .inr (.inl f_y0_values)))]) [0, 1, 8, 2, 3, 4, 5, 6, 7] rfl
    have hD9 := hD.sub (ws' := [(a_t, .inr (9, [.ref a_closers, .ref a_openers, .ref a_opened, .ref a_closed, .ref a_row, .ref a_resolver, .int z_together, .int z_inConflict])), (a_closers, .inl (ka_closers, 362, .inl f_closers)), (a_row, .inr (8, [.ref a_row_parts, .ref a_row_firsts, .ref a_row_lasts, .int (nI v_a_row_3), .int v_a_row_4, .int v_a_row_5])), (a_row_parts, .inl (ka_row_parts, 90, .inl v_a_row_parts)), (a_row_firsts, .inl (ka_row_firsts, 90, .inl v_a_row_firsts)), (a_row_lasts, .inl (ka_row_lasts, 90, .inl v_a_row_lasts)), (a_y0, .inr (11, [.ref a_y0_kinds, .ref a_y0_values, .int (nI n_y0_size)])), (a_y0_kinds, .inl (ka_y0_kinds, 362, .inl f_y0_kinds)), (a_y0_values, .inl (ka_y0_values, 362, .inr (.inl f_y0_values)))]) [0, 1, 8, 2, 3, 4, 5, 6, 7] (by decide) rfl
    exact W.iret (v := (nI k4)) hx hb hr (fun t ht hW => ⟨⟨(nI k4), (), rfl, ⟨k4, by exact (congrArg Prod.fst (iE.trans (chE_end (by rw [show k4 = y2 by omega]; exact hp5.2.1)))).symm, rfl⟩, v_a_row_3, v_a_row_4, v_a_row_5, v_a_row_parts, v_a_row_firsts, v_a_row_lasts, by first | omega | assumption | exact Or.inl rfl | exact Or.inr rfl | decide, by exact (congrArg Prod.snd (iE.trans (chE_end (by rw [show k4 = y2 by omega]; exact hp5.2.1)))).symm, by exact itl_itm (fun x hx => by obtain ⟨a9, b9, h1, h2, h3, h4⟩ := iI x hx; exact ⟨a9, b9, h1, h2, h3, by have z9 := hp5.1; omega⟩), by exact rvl_rv _ iR, by rw [(congrArg Prod.fst (iE.trans (chE_end (by rw [show k4 = y2 by omega]; exact hp5.2.1))))]; exact iZ, by rw [(congrArg Prod.fst (iE.trans (chE_end (by rw [show k4 = y2 by omega]; exact hp5.2.1))))]; exact iV, by rw [(congrArg Prod.fst (iE.trans (chE_end (by rw [show k4 = y2 by omega]; exact hp5.2.1))))]; exact iS, by rw [(congrArg Prod.fst (iE.trans (chE_end (by rw [show k4 = y2 by omega]; exact hp5.2.1))))]; exact (by rw [show k4 = y2 by omega]; exact hp5.2.1), by rw [(congrArg Prod.fst (iE.trans (chE_end (by rw [show k4 = y2 by omega]; exact hp5.2.1))))]; omega, by rw [(congrArg Prod.fst (iE.trans (chE_end (by rw [show k4 = y2 by omega]; exact hp5.2.1))))]; omega, by rw [ht]; exact hP9, va_K.moved hW.alike hK, hD9⟩, hS.F ht⟩) hS.2.2 d_Rows_collectRow_120
  · have h4 : ¬ y2 ≤ k5 := fun q => h4 ((nI_leI (a := y2) (b := k5) (by omega) (by omega)).mpr q)
    refine lv_iload hx hb d_Rows_collectRow_19 (lv_at hl 0 rfl) ?_
    refine lv_iload_n hx hb d_Rows_collectRow_21 rfl (lv_at hl 5 rfl) ?_
    refine lv_icmp_ge (tgt := 118) hx hb d_Rows_collectRow_22 (by decide) (fun h5 => ?_) (fun h5 => ?_)
    · have h5 : y2 ≤ k4 := (nI_leI (a := y2) (b := k4) (by omega) (by omega)).mp h5
      have lv := hp5
      refine lv_iload hx hb d_Rows_collectRow_118 (lv_at hl 0 rfl) ?_
      have hP9 := hP.sub (ws' := [(a_t, .inr (9, [.ref a_closers, .ref a_openers, .ref a_opened, .ref a_closed, .ref a_row, .ref a_resolver, .int z_together, .int z_inConflict])), (a_closers, .inl (ka_closers, 362, .inl f_closers)), (a_row, .inr (8, [.ref a_row_parts, .ref a_row_firsts, .ref a_row_lasts, .int (nI v_a_row_3), .int v_a_row_4, .int v_a_row_5])), (a_row_parts, .inl (ka_row_parts, 90, .inl v_a_row_parts)), (a_row_firsts, .inl (ka_row_firsts, 90, .inl v_a_row_firsts)), (a_row_lasts, .inl (ka_row_lasts, 90, .inl v_a_row_lasts)), (a_y0, .inr (11, [.ref a_y0_kinds, .ref a_y0_values, .int (nI n_y0_size)])), (a_y0_kinds, .inl (ka_y0_kinds, 362, .inl f_y0_kinds)), (a_y0_values, .inl (ka_y0_values, 362, .inr (.inl f_y0_values)))]) [0, 1, 8, 2, 3, 4, 5, 6, 7] rfl
      have hD9 := hD.sub (ws' := [(a_t, .inr (9, [.ref a_closers, .ref a_openers, .ref a_opened, .ref a_closed, .ref a_row, .ref a_resolver, .int z_together, .int z_inConflict])), (a_closers, .inl (ka_closers, 362, .inl f_closers)), (a_row, .inr (8, [.ref a_row_parts, .ref a_row_firsts, .ref a_row_lasts, .int (nI v_a_row_3), .int v_a_row_4, .int v_a_row_5])), (a_row_parts, .inl (ka_row_parts, 90, .inl v_a_row_parts)), (a_row_firsts, .inl (ka_row_firsts, 90, .inl v_a_row_firsts)), (a_row_lasts, .inl (ka_row_lasts, 90, .inl v_a_row_lasts)), (a_y0, .inr (11, [.ref a_y0_kinds, .ref a_y0_values, .int (nI n_y0_size)])), (a_y0_kinds, .inl (ka_y0_kinds, 362, .inl f_y0_kinds)), (a_y0_values, .inl (ka_y0_values, 362, .inr (.inl f_y0_values)))]) [0, 1, 8, 2, 3, 4, 5, 6, 7] (by decide) rfl
      exact W.iret (v := (nI k4)) hx hb hr (fun t ht hW => ⟨⟨(nI k4), (), rfl, ⟨k4, by exact (congrArg Prod.fst (iE.trans (chE_end (by rw [show k4 = y2 by omega]; exact hp5.2.1)))).symm, rfl⟩, v_a_row_3, v_a_row_4, v_a_row_5, v_a_row_parts, v_a_row_firsts, v_a_row_lasts, by first | omega | assumption | exact Or.inl rfl | exact Or.inr rfl | decide, by exact (congrArg Prod.snd (iE.trans (chE_end (by rw [show k4 = y2 by omega]; exact hp5.2.1)))).symm, by exact itl_itm (fun x hx => by obtain ⟨a9, b9, h1, h2, h3, h4⟩ := iI x hx; exact ⟨a9, b9, h1, h2, h3, by have z9 := hp5.1; omega⟩), by exact rvl_rv _ iR, by rw [(congrArg Prod.fst (iE.trans (chE_end (by rw [show k4 = y2 by omega]; exact hp5.2.1))))]; exact iZ, by rw [(congrArg Prod.fst (iE.trans (chE_end (by rw [show k4 = y2 by omega]; exact hp5.2.1))))]; exact iV, by rw [(congrArg Prod.fst (iE.trans (chE_end (by rw [show k4 = y2 by omega]; exact hp5.2.1))))]; exact iS, by rw [(congrArg Prod.fst (iE.trans (chE_end (by rw [show k4 = y2 by omega]; exact hp5.2.1))))]; exact (by rw [show k4 = y2 by omega]; exact hp5.2.1), by rw [(congrArg Prod.fst (iE.trans (chE_end (by rw [show k4 = y2 by omega]; exact hp5.2.1))))]; omega, by rw [(congrArg Prod.fst (iE.trans (chE_end (by rw [show k4 = y2 by omega]; exact hp5.2.1))))]; omega, by rw [ht]; exact hP9, va_K.moved hW.alike hK, hD9⟩, hS.F ht⟩) hS.2.2 d_Rows_collectRow_120
    · have h5 : ¬ y2 ≤ k4 := fun q => h5 ((nI_leI (a := y2) (b := k4) (by omega) (by omega)).mpr q)
      have lv := hp5
      have yn := hp5.1
      refine lv_aload_n hx hb d_Rows_collectRow_25 rfl (lv_at hl 2 rfl) ?_
      refine lv_aload_n hx hb d_Rows_collectRow_26 rfl (lv_at hl 3 rfl) ?_
      refine lv_iload hx hb d_Rows_collectRow_27 (lv_at hl 0 rfl) ?_
      have hPc := hP.sub (ws' := [(a_t, .inr (9, [.ref a_closers, .ref a_openers, .ref a_opened, .ref a_closed, .ref a_row, .ref a_resolver, .int z_together, .int z_inConflict])), (a_closers, .inl (ka_closers, 362, .inl f_closers)), (a_y0, .inr (11, [.ref a_y0_kinds, .ref a_y0_values, .int (nI n_y0_size)])), (a_y0_kinds, .inl (ka_y0_kinds, 362, .inl f_y0_kinds)), (a_y0_values, .inl (ka_y0_values, 362, .inr (.inl f_y0_values)))]) [0, 1, 5, 6, 7] rfl
      have hDc := hD.sub (ws' := [(a_t, .inr (9, [.ref a_closers, .ref a_openers, .ref a_opened, .ref a_closed, .ref a_row, .ref a_resolver, .int z_together, .int z_inConflict])), (a_closers, .inl (ka_closers, 362, .inl f_closers)), (a_y0, .inr (11, [.ref a_y0_kinds, .ref a_y0_values, .int (nI n_y0_size)])), (a_y0_kinds, .inl (ka_y0_kinds, 362, .inl f_y0_kinds)), (a_y0_values, .inl (ka_y0_values, 362, .inr (.inl f_y0_values)))]) [0, 1, 5, 6, 7] (by decide) rfl
      have hKc := hK.sub (tys' := [(ka_closers, .int), (ka_y0_kinds, .int), (ka_y0_values, .long)]) [0, 4, 5] rfl
      have hFc := va_free (wc := [(a_t, .inr (9, [.ref a_closers, .ref a_openers, .ref a_opened, .ref a_closed, .ref a_row, .ref a_resolver, .int z_together, .int z_inConflict])), (a_closers, .inl (ka_closers, 362, .inl f_closers)), (a_y0, .inr (11, [.ref a_y0_kinds, .ref a_y0_values, .int (nI n_y0_size)])), (a_y0_kinds, .inl (ka_y0_kinds, 362, .inl f_y0_kinds)), (a_y0_values, .inl (ka_y0_values, 362, .inr (.inl f_y0_values)))]) hD hS hA [0, 1, 5, 6, 7] rfl
      refine va_calli (va_runV (As := [.ref a_y0, .int (nI k4)]) (rest := []) ⟨hx, hb, hml, hown, hz⟩ (s_Rows_behindOperand7 l dC dI H.size a_t a_closers f_closers a_openers a_opened a_closed a_row a_resolver z_together z_inConflict a_y0 a_y0_kinds f_y0_kinds a_y0_values f_y0_values n_y0_size k4 ka_closers ka_y0_kinds ka_y0_values (by first | omega | assumption | exact Or.inl rfl | exact Or.inr rfl | decide) (by first | omega | assumption | exact Or.inl rfl | exact Or.inr rfl | decide) (by first | omega | assumption | exact Or.inl rfl | exact Or.inr rfl | decide) (by first | omega | assumption | exact Or.inl rfl | exact Or.inr rfl | decide) (by first | omega | assumption | exact Or.inl rfl | exact Or.inr rfl | decide) (by first | omega | assumption | exact Or.inl rfl | exact Or.inr rfl | decide)) (cwV 2 hz (zV zm_425 zm_426 zm_427 zm_377 zm_428) rfl rfl rfl (by decide +kernel) ⟨Nat.le_of_ble_eq_true rfl, Nat.le_of_ble_eq_true rfl⟩) ⟨fun a U g mk q => by obtain ⟨q0, q1, qP, qK, qD, qx0⟩ := q; exact ⟨q0, q1, qP, va_K.moved (u := U) (U := U.calling g mk a) (Vm.Alike.refl U.vm) qK, qD, cx_E.same (u := U) (U := U.calling g mk a) rfl qx0⟩, va_recv (q := (R_Rows, F_Rows, 8)) (q0 := 0) (ci := 9) hK hP rfl rfl, fun U hU hW => ⟨rfl, by rw [hU], by rw [hU]; exact hPc, va_K.moved hW.alike hKc, hDc.weaken (fun _ _ _ _ => trivial), by rw [hU]; exact cx_E.to hW hS hFc hE⟩⟩ rfl rfl hl.1 rfl (lv_room (Nat.le_of_ble_eq_true rfl)) d_Rows_collectRow_29 ⟨Nat.zero_le _, Nat.zero_le _⟩) hS (fun q _ h => hFc q h) hFc (fun r u t H1 locs ht hvm hw hB hz1 hk1 hS => ?_)
      obtain ⟨hP1, hK1, hD1⟩ := hB
      obtain ⟨j6, l_j6, e_j6⟩ := hw
      subst r
      rw [ht] at hP1
      obtain ⟨hP, hD⟩ := va_join (wr := [(a_row_parts, .inl (ka_row_parts, 90, .inl v_a_row_parts)), (a_row_firsts, .inl (ka_row_firsts, 90, .inl v_a_row_firsts)), (a_row_lasts, .inl (ka_row_lasts, 90, .inl v_a_row_lasts)), (a_row, .inr (8, [.ref a_row_parts, .ref a_row_firsts, .ref a_row_lasts, .int (nI v_a_row_3), .int v_a_row_4, .int v_a_row_5]))]) (w1 := [(a_t, .inr (9, [.ref a_closers, .ref a_openers, .ref a_opened, .ref a_closed, .ref a_row, .ref a_resolver, .int z_together, .int z_inConflict])), (a_closers, .inl (ka_closers, 362, .inl f_closers)), (a_y0, .inr (11, [.ref a_y0_kinds, .ref a_y0_values, .int (nI n_y0_size)])), (a_y0_kinds, .inl (ka_y0_kinds, 362, .inl f_y0_kinds)), (a_y0_values, .inl (ka_y0_values, 362, .inr (.inl f_y0_values)))]) hP hD [0, 1, 5, 6, 7] [2, 3, 4, 8] rfl rfl (by decide) (by decide) hk1 hFc hP1 hD1
      generalize H1 = H at hP hS ⊢
      have hP : va_P (dC, dI) vcl [(a_row_parts, .inl (ka_row_parts, 90, .inl v_a_row_parts)), (a_row_firsts, .inl (ka_row_firsts, 90, .inl v_a_row_firsts)), (a_row_lasts, .inl (ka_row_lasts, 90, .inl v_a_row_lasts)), (a_row, .inr (8, [.ref a_row_parts, .ref a_row_firsts, .ref a_row_lasts, .int (nI v_a_row_3), .int v_a_row_4, .int v_a_row_5])), (a_t, .inr (9, [.ref a_closers, .ref a_openers, .ref a_opened, .ref a_closed, .ref a_row, .ref a_resolver, .int z_together, .int z_inConflict])), (a_closers, .inl (ka_closers, 362, .inl f_closers)), (a_y0, .inr (11, [.ref a_y0_kinds, .ref a_y0_values, .int (nI n_y0_size)])), (a_y0_kinds, .inl (ka_y0_kinds, 362, .inl f_y0_kinds)), (a_y0_values, .inl (ka_y0_values, 362, .inr (.inl f_y0_values)))] H := hP
      have hD : va_D A [(a_row_parts, .inl (ka_row_parts, 90, .inl v_a_row_parts)), (a_row_firsts, .inl (ka_row_firsts, 90, .inl v_a_row_firsts)), (a_row_lasts, .inl (ka_row_lasts, 90, .inl v_a_row_lasts)), (a_row, .inr (8, [.ref a_row_parts, .ref a_row_firsts, .ref a_row_lasts, .int (nI v_a_row_3), .int v_a_row_4, .int v_a_row_5])), (a_t, .inr (9, [.ref a_closers, .ref a_openers, .ref a_opened, .ref a_closed, .ref a_row, .ref a_resolver, .int z_together, .int z_inConflict])), (a_closers, .inl (ka_closers, 362, .inl f_closers)), (a_y0, .inr (11, [.ref a_y0_kinds, .ref a_y0_values, .int (nI n_y0_size)])), (a_y0_kinds, .inl (ka_y0_kinds, 362, .inl f_y0_kinds)), (a_y0_values, .inl (ka_y0_values, 362, .inr (.inl f_y0_values)))] := hD
      have pL : k4 < n_y0_size := (by have z9 := hp5.1; omega)
      refine lv_istore hx hb d_Rows_collectRow_32 hl (by decide) rfl (fun ls hl => ?_)
      have hl : lv_has ls 8 [(6, .int (nI j6)), (4, .int (nI k4)), (5, .int (nI k5)), (0, .ref a_t), (1, .ref a_y0), (2, .int (nI y1)), (3, .int (nI y2))] := hl
      refine lv_aload_n hx hb d_Rows_collectRow_34 rfl (lv_at hl 4 rfl) ?_
      refine lv_iload hx hb d_Rows_collectRow_35 (lv_at hl 1 rfl) ?_
      have hPc := hP.sub (ws' := [(a_y0, .inr (11, [.ref a_y0_kinds, .ref a_y0_values, .int (nI n_y0_size)])), (a_y0_kinds, .inl (ka_y0_kinds, 362, .inl f_y0_kinds)), (a_y0_values, .inl (ka_y0_values, 362, .inr (.inl f_y0_values)))]) [6, 7, 8] rfl
      have hDc := hD.sub (ws' := [(a_y0, .inr (11, [.ref a_y0_kinds, .ref a_y0_values, .int (nI n_y0_size)])), (a_y0_kinds, .inl (ka_y0_kinds, 362, .inl f_y0_kinds)), (a_y0_values, .inl (ka_y0_values, 362, .inr (.inl f_y0_values)))]) [6, 7, 8] (by decide) rfl
      have hKc := hK.sub (tys' := [(ka_y0_kinds, .int), (ka_y0_values, .long)]) [4, 5] rfl
      have hFc := va_free (wc := [(a_y0, .inr (11, [.ref a_y0_kinds, .ref a_y0_values, .int (nI n_y0_size)])), (a_y0_kinds, .inl (ka_y0_kinds, 362, .inl f_y0_kinds)), (a_y0_values, .inl (ka_y0_values, 362, .inr (.inl f_y0_values)))]) hD hS hA [6, 7, 8] rfl
      refine va_calli (va_runS (As := [.ref a_y0, .int (nI k4)]) (rest := []) ⟨hx, hb, hml, hown, hz⟩ (s_Rows_behindOperation7 l dC dI H.size a_y0 a_y0_kinds f_y0_kinds a_y0_values f_y0_values n_y0_size k4 ka_y0_kinds ka_y0_values (by first | omega | assumption | exact Or.inl rfl | exact Or.inr rfl | decide) (by first | omega | assumption | exact Or.inl rfl | exact Or.inr rfl | decide) (by first | omega | assumption | exact Or.inl rfl | exact Or.inr rfl | decide)) (cwS 2 hz (zS zm_429 zm_430 zm_377 zm_431) rfl rfl rfl (by decide +kernel) ⟨Nat.le_of_ble_eq_true rfl, Nat.le_of_ble_eq_true rfl⟩) ⟨fun a U g mk q => by obtain ⟨q0, q1, qP, qK, qD, qx0⟩ := q; exact ⟨q0, q1, qP, va_K.moved (u := U) (U := U.calling g mk a) (Vm.Alike.refl U.vm) qK, qD, cx_E.same (u := U) (U := U.calling g mk a) rfl qx0⟩, fun U hU hW => ⟨rfl, by rw [hU], by rw [hU]; exact hPc, va_K.moved hW.alike hKc, hDc.weaken (fun _ _ _ _ => trivial), by rw [hU]; exact cx_E.to hW hS hFc hE⟩⟩ rfl rfl hl.1 rfl (lv_room (Nat.le_of_ble_eq_true rfl)) d_Rows_collectRow_37 ⟨Nat.zero_le _, Nat.zero_le _⟩) hS (fun q _ h => hFc q h) hFc (fun r u t H1 locs ht hvm hw hB hz1 hk1 hS => ?_)
      obtain ⟨hP1, hK1, hD1⟩ := hB
      obtain ⟨j7, l_j7, e_j7⟩ := hw
      subst r
      rw [ht] at hP1
      obtain ⟨hP, hD⟩ := va_join (wr := [(a_row_parts, .inl (ka_row_parts, 90, .inl v_a_row_parts)), (a_row_firsts, .inl (ka_row_firsts, 90, .inl v_a_row_firsts)), (a_row_lasts, .inl (ka_row_lasts, 90, .inl v_a_row_lasts)), (a_row, .inr (8, [.ref a_row_parts, .ref a_row_firsts, .ref a_row_lasts, .int (nI v_a_row_3), .int v_a_row_4, .int v_a_row_5])), (a_t, .inr (9, [.ref a_closers, .ref a_openers, .ref a_opened, .ref a_closed, .ref a_row, .ref a_resolver, .int z_together, .int z_inConflict])), (a_closers, .inl (ka_closers, 362, .inl f_closers))]) (w1 := [(a_y0, .inr (11, [.ref a_y0_kinds, .ref a_y0_values, .int (nI n_y0_size)])), (a_y0_kinds, .inl (ka_y0_kinds, 362, .inl f_y0_kinds)), (a_y0_values, .inl (ka_y0_values, 362, .inr (.inl f_y0_values)))]) hP hD [6, 7, 8] [0, 1, 2, 3, 4, 5] rfl rfl (by decide) (by decide) hk1 hFc hP1 hD1
      generalize H1 = H at hP hS ⊢
      have hP : va_P (dC, dI) vcl [(a_row_parts, .inl (ka_row_parts, 90, .inl v_a_row_parts)), (a_row_firsts, .inl (ka_row_firsts, 90, .inl v_a_row_firsts)), (a_row_lasts, .inl (ka_row_lasts, 90, .inl v_a_row_lasts)), (a_row, .inr (8, [.ref a_row_parts, .ref a_row_firsts, .ref a_row_lasts, .int (nI v_a_row_3), .int v_a_row_4, .int v_a_row_5])), (a_t, .inr (9, [.ref a_closers, .ref a_openers, .ref a_opened, .ref a_closed, .ref a_row, .ref a_resolver, .int z_together, .int z_inConflict])), (a_closers, .inl (ka_closers, 362, .inl f_closers)), (a_y0, .inr (11, [.ref a_y0_kinds, .ref a_y0_values, .int (nI n_y0_size)])), (a_y0_kinds, .inl (ka_y0_kinds, 362, .inl f_y0_kinds)), (a_y0_values, .inl (ka_y0_values, 362, .inr (.inl f_y0_values)))] H := hP
      have hD : va_D A [(a_row_parts, .inl (ka_row_parts, 90, .inl v_a_row_parts)), (a_row_firsts, .inl (ka_row_firsts, 90, .inl v_a_row_firsts)), (a_row_lasts, .inl (ka_row_lasts, 90, .inl v_a_row_lasts)), (a_row, .inr (8, [.ref a_row_parts, .ref a_row_firsts, .ref a_row_lasts, .int (nI v_a_row_3), .int v_a_row_4, .int v_a_row_5])), (a_t, .inr (9, [.ref a_closers, .ref a_openers, .ref a_opened, .ref a_closed, .ref a_row, .ref a_resolver, .int z_together, .int z_inConflict])), (a_closers, .inl (ka_closers, 362, .inl f_closers)), (a_y0, .inr (11, [.ref a_y0_kinds, .ref a_y0_values, .int (nI n_y0_size)])), (a_y0_kinds, .inl (ka_y0_kinds, 362, .inl f_y0_kinds)), (a_y0_values, .inl (ka_y0_values, 362, .inr (.inl f_y0_values)))] := hD
      have hJ7 := l_j7.1
      refine lv_istore hx hb d_Rows_collectRow_40 hl (by decide) rfl (fun ls hl => ?_)
      have hl : lv_has ls 8 [(7, .int (nI j7)), (6, .int (nI j6)), (4, .int (nI k4)), (5, .int (nI k5)), (0, .ref a_t), (1, .ref a_y0), (2, .int (nI y1)), (3, .int (nI y2))] := hl
      refine lv_iload hx hb d_Rows_collectRow_42 (lv_at hl 1 rfl) ?_
      refine lv_iload hx hb d_Rows_collectRow_44 (lv_at hl 2 rfl) ?_
      refine lv_icmp_le (tgt := 65) hx hb d_Rows_collectRow_46 (by decide) (fun h8 => ?_) (fun h8 => ?_)
      · have h8 : j6 ≤ k4 := (nI_leI (a := j6) (b := k4) (by omega) (by omega)).mp h8
        have e46 := h8
        refine lv_iload hx hb d_Rows_collectRow_65 (lv_at hl 0 rfl) ?_
        refine lv_iload hx hb d_Rows_collectRow_67 (lv_at hl 2 rfl) ?_
        refine lv_icmp_le (tgt := 118) hx hb d_Rows_collectRow_69 (by decide) (fun h9 => ?_) (fun h9 => ?_)
        · have h9 : j7 ≤ k4 := (nI_leI (a := j7) (b := k4) (by omega) (by omega)).mp h9
          have e69 := h9
          refine lv_iload hx hb d_Rows_collectRow_118 (lv_at hl 2 rfl) ?_
          have hP9 := hP.sub (ws' := [(a_t, .inr (9, [.ref a_closers, .ref a_openers, .ref a_opened, .ref a_closed, .ref a_row, .ref a_resolver, .int z_together, .int z_inConflict])), (a_closers, .inl (ka_closers, 362, .inl f_closers)), (a_row, .inr (8, [.ref a_row_parts, .ref a_row_firsts, .ref a_row_lasts, .int (nI v_a_row_3), .int v_a_row_4, .int v_a_row_5])), (a_row_parts, .inl (ka_row_parts, 90, .inl v_a_row_parts)), (a_row_firsts, .inl (ka_row_firsts, 90, .inl v_a_row_firsts)), (a_row_lasts, .inl (ka_row_lasts, 90, .inl v_a_row_lasts)), (a_y0, .inr (11, [.ref a_y0_kinds, .ref a_y0_values, .int (nI n_y0_size)])), (a_y0_kinds, .inl (ka_y0_kinds, 362, .inl f_y0_kinds)), (a_y0_values, .inl (ka_y0_values, 362, .inr (.inl f_y0_values)))]) [4, 5, 3, 0, 1, 2, 6, 7, 8] rfl
          have hD9 := hD.sub (ws' := [(a_t, .inr (9, [.ref a_closers, .ref a_openers, .ref a_opened, .ref a_closed, .ref a_row, .ref a_resolver, .int z_together, .int z_inConflict])), (a_closers, .inl (ka_closers, 362, .inl f_closers)), (a_row, .inr (8, [.ref a_row_parts, .ref a_row_firsts, .ref a_row_lasts, .int (nI v_a_row_3), .int v_a_row_4, .int v_a_row_5])), (a_row_parts, .inl (ka_row_parts, 90, .inl v_a_row_parts)), (a_row_firsts, .inl (ka_row_firsts, 90, .inl v_a_row_firsts)), (a_row_lasts, .inl (ka_row_lasts, 90, .inl v_a_row_lasts)), (a_y0, .inr (11, [.ref a_y0_kinds, .ref a_y0_values, .int (nI n_y0_size)])), (a_y0_kinds, .inl (ka_y0_kinds, 362, .inl f_y0_kinds)), (a_y0_values, .inl (ka_y0_values, 362, .inr (.inl f_y0_values)))]) [4, 5, 3, 0, 1, 2, 6, 7, 8] (by decide) rfl
          exact W.iret (v := (nI k4)) hx hb hr (fun t ht hW => ⟨⟨(nI k4), (), rfl, ⟨k4, by exact (congrArg Prod.fst (iE.trans (chE_end (ex_z (by rw [← l_j6.1]; exact e46) (by rw [← l_j7.1 f_closers]; exact e69))))).symm, rfl⟩, v_a_row_3, v_a_row_4, v_a_row_5, v_a_row_parts, v_a_row_firsts, v_a_row_lasts, by first | omega | assumption | exact Or.inl rfl | exact Or.inr rfl | decide, by exact (congrArg Prod.snd (iE.trans (chE_end (ex_z (by rw [← l_j6.1]; exact e46) (by rw [← l_j7.1 f_closers]; exact e69))))).symm, by exact itl_itm (fun x hx => by obtain ⟨a9, b9, h1, h2, h3, h4⟩ := iI x hx; exact ⟨a9, b9, h1, h2, h3, by have z9 := hp5.1; omega⟩), by exact rvl_rv _ iR, by rw [(congrArg Prod.fst (iE.trans (chE_end (ex_z (by rw [← l_j6.1]; exact e46) (by rw [← l_j7.1 f_closers]; exact e69)))))]; exact iZ, by rw [(congrArg Prod.fst (iE.trans (chE_end (ex_z (by rw [← l_j6.1]; exact e46) (by rw [← l_j7.1 f_closers]; exact e69)))))]; exact iV, by rw [(congrArg Prod.fst (iE.trans (chE_end (ex_z (by rw [← l_j6.1]; exact e46) (by rw [← l_j7.1 f_closers]; exact e69)))))]; exact iS, by rw [(congrArg Prod.fst (iE.trans (chE_end (ex_z (by rw [← l_j6.1]; exact e46) (by rw [← l_j7.1 f_closers]; exact e69)))))]; exact (ex_z (by rw [← l_j6.1]; exact e46) (by rw [← l_j7.1 f_closers]; exact e69)), by rw [(congrArg Prod.fst (iE.trans (chE_end (ex_z (by rw [← l_j6.1]; exact e46) (by rw [← l_j7.1 f_closers]; exact e69)))))]; omega, by rw [(congrArg Prod.fst (iE.trans (chE_end (ex_z (by rw [← l_j6.1]; exact e46) (by rw [← l_j7.1 f_closers]; exact e69)))))]; omega, by rw [ht]; exact hP9, va_K.moved hW.alike hK, hD9⟩, hS.F ht⟩) hS.2.2 d_Rows_collectRow_120
        · have h9 : ¬ j7 ≤ k4 := fun q => h9 ((nI_leI (a := j7) (b := k4) (by omega) (by omega)).mpr q)
          have e69 := h9
          have jo := hJ7 f_closers
          have ey := bO_y (s := f_y0_kinds) (v := f_y0_values) (P := f_closers) (n := n_y0_size) (k := k4) (by omega)
          have nx := it_nx hp0 (by omega) hp2 iV ey.2.2.1
          have cs := cg_s hp0 (by omega) hp2 ey.2.2.1 iS
          have cc := cg_cn (s := f_y0_kinds) (v := f_y0_values) (S := sk f_y0_kinds f_y0_values y1) (k4 + e7 f_y0_kinds f_y0_values f_closers n_y0_size k4)
          have cm := cn_mono (s := f_y0_kinds) (k4 + e7 f_y0_kinds f_y0_values f_closers n_y0_size k4) n_y0_size nx.1
          have to := (lv.2.2 k4 (by omega) iS).2 ey.2.2.1
          refine lv_aload_n hx hb d_Rows_collectRow_72 rfl (lv_at hl 4 rfl) ?_
          refine va_get (D := (dC, dI)) (ci := 9) (v := .ref a_row) (C := R_Rows) (T := F_Rows) (N := 8) hx hb hz zu_Rows hown hK hP 4 rfl rfl 4 (by decide) (hz (.fieldLink R_Rows 27 "LayoutFront$Rows" "row" "LLayoutFront$Row;") zm_361) (fun _ h9 => h9) rfl d_Rows_collectRow_73 ?_
          refine lv_iload hx hb d_Rows_collectRow_76 (lv_at hl 2 rfl) ?_
          refine lv_iload hx hb d_Rows_collectRow_78 (lv_at hl 0 rfl) ?_
          refine lv_iconst (v := 1) hx hb d_Rows_collectRow_80 (by decide) ?_
          refine xr_isub (v := (nI (j7 - 1))) hx hb d_Rows_collectRow_81 (pk_sub (a := j7) (b := 1) (by omega)) ?_
          refine lv_aload_n hx hb d_Rows_collectRow_82 rfl (lv_at hl 5 rfl) ?_
          refine lv_iload hx hb d_Rows_collectRow_83 (lv_at hl 2 rfl) ?_
          have hPc := hP.sub (ws' := [(a_y0, .inr (11, [.ref a_y0_kinds, .ref a_y0_values, .int (nI n_y0_size)])), (a_y0_values, .inl (ka_y0_values, 362, .inr (.inl f_y0_values)))]) [6, 8] rfl
          have hDc := hD.sub (ws' := [(a_y0, .inr (11, [.ref a_y0_kinds, .ref a_y0_values, .int (nI n_y0_size)])), (a_y0_values, .inl (ka_y0_values, 362, .inr (.inl f_y0_values)))]) [6, 8] (by decide) rfl
          have hKc := hK.sub (tys' := [(ka_y0_values, .long)]) [5] rfl
          have hFc := va_free (wc := [(a_y0, .inr (11, [.ref a_y0_kinds, .ref a_y0_values, .int (nI n_y0_size)])), (a_y0_values, .inl (ka_y0_values, 362, .inr (.inl f_y0_values)))]) hD hS hA [6, 8] rfl
          refine va_calll (va_runV (As := [.int (nI k4)]) (rest := [.int (nI (j7 - 1)), .int (nI k4), .ref a_row]) ⟨hx, hb, hml, hown, hz⟩ (s_Tokens_valueAt7 l dC dI H.size 362 a_y0 a_y0_kinds a_y0_values f_y0_values n_y0_size ((nI k4)) ka_y0_values (by first | omega | assumption | exact Or.inl rfl | exact Or.inr rfl | decide) (by first | omega | assumption | exact Or.inl rfl | exact Or.inr rfl | decide)) (cwV 1 hz (zV zm_402 zm_216 zm_217 zm_35 zm_218) rfl rfl rfl (by decide +kernel) ⟨Nat.le_of_ble_eq_true rfl, Nat.le_of_ble_eq_true rfl⟩) ⟨fun a U g mk q => by obtain ⟨q0, q1, qP, qK, qD⟩ := q; exact ⟨q0, q1, qP, va_K.moved (u := U) (U := U.calling g mk a) (Vm.Alike.refl U.vm) qK, qD⟩, va_recv (q := (R_Tokens, F_Tokens, 3)) (q0 := 6) (ci := 11) hK hP rfl rfl, fun U hU hW => ⟨rfl, by rw [hU], by rw [hU]; exact hPc, va_K.moved hW.alike hKc, hDc.weaken (fun _ _ _ _ => trivial)⟩⟩ rfl rfl hl.1 rfl (lv_room (Nat.le_of_ble_eq_true rfl)) d_Rows_collectRow_85 ⟨Nat.zero_le _, Nat.zero_le _⟩) hS (fun q _ h => hFc q h) hFc (fun r u t H1 locs ht hvm hw hB hz1 hk1 hS => ?_)
          obtain ⟨hP1, hK1, hD1⟩ := hB
          subst r
          rw [ht] at hP1
          obtain ⟨hP, hD⟩ := va_join (wr := [(a_row_parts, .inl (ka_row_parts, 90, .inl v_a_row_parts)), (a_row_firsts, .inl (ka_row_firsts, 90, .inl v_a_row_firsts)), (a_row_lasts, .inl (ka_row_lasts, 90, .inl v_a_row_lasts)), (a_row, .inr (8, [.ref a_row_parts, .ref a_row_firsts, .ref a_row_lasts, .int (nI v_a_row_3), .int v_a_row_4, .int v_a_row_5])), (a_t, .inr (9, [.ref a_closers, .ref a_openers, .ref a_opened, .ref a_closed, .ref a_row, .ref a_resolver, .int z_together, .int z_inConflict])), (a_closers, .inl (ka_closers, 362, .inl f_closers)), (a_y0_kinds, .inl (ka_y0_kinds, 362, .inl f_y0_kinds))]) (w1 := [(a_y0, .inr (11, [.ref a_y0_kinds, .ref a_y0_values, .int (nI n_y0_size)])), (a_y0_values, .inl (ka_y0_values, 362, .inr (.inl f_y0_values)))]) hP hD [6, 8] [0, 1, 2, 3, 4, 5, 7] rfl rfl (by decide) (by decide) hk1 hFc hP1 hD1
          generalize H1 = H at hP hS ⊢
          have hP : va_P (dC, dI) vcl [(a_row_parts, .inl (ka_row_parts, 90, .inl v_a_row_parts)), (a_row_firsts, .inl (ka_row_firsts, 90, .inl v_a_row_firsts)), (a_row_lasts, .inl (ka_row_lasts, 90, .inl v_a_row_lasts)), (a_row, .inr (8, [.ref a_row_parts, .ref a_row_firsts, .ref a_row_lasts, .int (nI v_a_row_3), .int v_a_row_4, .int v_a_row_5])), (a_t, .inr (9, [.ref a_closers, .ref a_openers, .ref a_opened, .ref a_closed, .ref a_row, .ref a_resolver, .int z_together, .int z_inConflict])), (a_closers, .inl (ka_closers, 362, .inl f_closers)), (a_y0_kinds, .inl (ka_y0_kinds, 362, .inl f_y0_kinds)), (a_y0, .inr (11, [.ref a_y0_kinds, .ref a_y0_values, .int (nI n_y0_size)])), (a_y0_values, .inl (ka_y0_values, 362, .inr (.inl f_y0_values)))] H := hP
          have hD : va_D A [(a_row_parts, .inl (ka_row_parts, 90, .inl v_a_row_parts)), (a_row_firsts, .inl (ka_row_firsts, 90, .inl v_a_row_firsts)), (a_row_lasts, .inl (ka_row_lasts, 90, .inl v_a_row_lasts)), (a_row, .inr (8, [.ref a_row_parts, .ref a_row_firsts, .ref a_row_lasts, .int (nI v_a_row_3), .int v_a_row_4, .int v_a_row_5])), (a_t, .inr (9, [.ref a_closers, .ref a_openers, .ref a_opened, .ref a_closed, .ref a_row, .ref a_resolver, .int z_together, .int z_inConflict])), (a_closers, .inl (ka_closers, 362, .inl f_closers)), (a_y0_kinds, .inl (ka_y0_kinds, 362, .inl f_y0_kinds)), (a_y0, .inr (11, [.ref a_y0_kinds, .ref a_y0_values, .int (nI n_y0_size)])), (a_y0_values, .inl (ka_y0_values, 362, .inr (.inl f_y0_values)))] := hD
          refine lv_ldc2 (v := 45) hx hb hown (hz (.constantLong R_Rows 120 45) zm_436) d_Rows_collectRow_88 ?_
          refine W.lcmp hx hb d_Rows_collectRow_91 ?_
          refine lv_if_ne (tgt := 99) hx hb d_Rows_collectRow_92 (by decide) (fun h10 => ?_) (fun h10 => ?_)
          · have dd : decide (¬ (0 : Int32) = 0) = (f_y0_values k4 == 45) := dd_0 pL (by omega) h10
            refine lv_iconst (v := 0) hx hb d_Rows_collectRow_99 (by decide) ?_
            have hPc := hP.sub (ws' := [(a_row, .inr (8, [.ref a_row_parts, .ref a_row_firsts, .ref a_row_lasts, .int (nI v_a_row_3), .int v_a_row_4, .int v_a_row_5])), (a_row_parts, .inl (ka_row_parts, 90, .inl v_a_row_parts)), (a_row_firsts, .inl (ka_row_firsts, 90, .inl v_a_row_firsts)), (a_row_lasts, .inl (ka_row_lasts, 90, .inl v_a_row_lasts))]) [3, 0, 1, 2] rfl
            have hDc := hD.sub (ws' := [(a_row, .inr (8, [.ref a_row_parts, .ref a_row_firsts, .ref a_row_lasts, .int (nI v_a_row_3), .int v_a_row_4, .int v_a_row_5])), (a_row_parts, .inl (ka_row_parts, 90, .inl v_a_row_parts)), (a_row_firsts, .inl (ka_row_firsts, 90, .inl v_a_row_firsts)), (a_row_lasts, .inl (ka_row_lasts, 90, .inl v_a_row_lasts))]) [3, 0, 1, 2] (by decide) rfl
            have hKc := hK.sub (tys' := [(ka_row_parts, .int), (ka_row_firsts, .int), (ka_row_lasts, .int)]) [1, 2, 3] rfl
            have hFc := va_free (wc := [(a_row, .inr (8, [.ref a_row_parts, .ref a_row_firsts, .ref a_row_lasts, .int (nI v_a_row_3), .int v_a_row_4, .int v_a_row_5])), (a_row_parts, .inl (ka_row_parts, 90, .inl v_a_row_parts)), (a_row_firsts, .inl (ka_row_firsts, 90, .inl v_a_row_firsts)), (a_row_lasts, .inl (ka_row_lasts, 90, .inl v_a_row_lasts))]) hD hS hA [3, 0, 1, 2] rfl
            refine va_callv (va_runV (As := [.int (nI k4), .int (nI (j7 - 1)), .int 0]) (rest := []) ⟨hx, hb, hml, hown, hz⟩ (s_Row_addOperation7 l dC dI H.size a_row a_row_parts v_a_row_parts a_row_firsts v_a_row_firsts a_row_lasts v_a_row_lasts v_a_row_3 v_a_row_4 v_a_row_5 ((nI k4)) ((nI (j7 - 1))) 0 ka_row_parts ka_row_firsts ka_row_lasts (by first | omega | assumption | exact Or.inl rfl | exact Or.inr rfl | decide) (by first | omega | assumption | exact Or.inl rfl | exact Or.inr rfl | decide)) (cwV 3 hz (zV zm_437 zm_438 zm_439 zm_318 zm_440) rfl rfl rfl (by decide +kernel) ⟨Nat.le_of_ble_eq_true rfl, Nat.le_of_ble_eq_true rfl⟩) ⟨fun a U g mk q => by obtain ⟨q0, q1, qP, qK, qD⟩ := q; exact ⟨q0, q1, qP, va_K.moved (u := U) (U := U.calling g mk a) (Vm.Alike.refl U.vm) qK, qD⟩, va_recv (q := (R_Row, F_Row, 6)) (q0 := 3) (ci := 8) hK hP rfl rfl, fun U hU hW => ⟨rfl, by rw [hU], by rw [hU]; exact hPc, va_K.moved hW.alike hKc, hDc.weaken (fun _ _ _ _ => trivial)⟩⟩ rfl rfl hl.1 rfl (lv_room (Nat.le_of_ble_eq_true rfl)) d_Rows_collectRow_100 ⟨Nat.zero_le _, Nat.zero_le _⟩) hS (fun q _ h => hFc q h) hFc (fun u t H1 locs ht hvm hw hB hz1 hk1 hS => ?_)
            obtain ⟨g11, g12, g13, g14, g15, g16, hb_g11, hq0_100, hP1, hK1, hD1⟩ := hB
            rw [ht] at hP1
            obtain ⟨hP, hD⟩ := va_join (wr := [(a_t, .inr (9, [.ref a_closers, .ref a_openers, .ref a_opened, .ref a_closed, .ref a_row, .ref a_resolver, .int z_together, .int z_inConflict])), (a_closers, .inl (ka_closers, 362, .inl f_closers)), (a_y0_kinds, .inl (ka_y0_kinds, 362, .inl f_y0_kinds)), (a_y0, .inr (11, [.ref a_y0_kinds, .ref a_y0_values, .int (nI n_y0_size)])), (a_y0_values, .inl (ka_y0_values, 362, .inr (.inl f_y0_values)))]) (w1 := [(a_row, .inr (8, [.ref a_row_parts, .ref a_row_firsts, .ref a_row_lasts, .int (nI g11), .int g12, .int g13])), (a_row_parts, .inl (ka_row_parts, 90, .inl g14)), (a_row_firsts, .inl (ka_row_firsts, 90, .inl g15)), (a_row_lasts, .inl (ka_row_lasts, 90, .inl g16))]) hP hD [3, 0, 1, 2] [4, 5, 6, 7, 8] rfl rfl (by decide) (by decide) hk1 hFc hP1 hD1
            generalize H1 = H at hP hS ⊢
            have hP : va_P (dC, dI) vcl [(a_t, .inr (9, [.ref a_closers, .ref a_openers, .ref a_opened, .ref a_closed, .ref a_row, .ref a_resolver, .int z_together, .int z_inConflict])), (a_closers, .inl (ka_closers, 362, .inl f_closers)), (a_y0_kinds, .inl (ka_y0_kinds, 362, .inl f_y0_kinds)), (a_y0, .inr (11, [.ref a_y0_kinds, .ref a_y0_values, .int (nI n_y0_size)])), (a_y0_values, .inl (ka_y0_values, 362, .inr (.inl f_y0_values))), (a_row, .inr (8, [.ref a_row_parts, .ref a_row_firsts, .ref a_row_lasts, .int (nI g11), .int g12, .int g13])), (a_row_parts, .inl (ka_row_parts, 90, .inl g14)), (a_row_firsts, .inl (ka_row_firsts, 90, .inl g15)), (a_row_lasts, .inl (ka_row_lasts, 90, .inl g16))] H := hP
            have hD : va_D A [(a_t, .inr (9, [.ref a_closers, .ref a_openers, .ref a_opened, .ref a_closed, .ref a_row, .ref a_resolver, .int z_together, .int z_inConflict])), (a_closers, .inl (ka_closers, 362, .inl f_closers)), (a_y0_kinds, .inl (ka_y0_kinds, 362, .inl f_y0_kinds)), (a_y0, .inr (11, [.ref a_y0_kinds, .ref a_y0_values, .int (nI n_y0_size)])), (a_y0_values, .inl (ka_y0_values, 362, .inr (.inl f_y0_values))), (a_row, .inr (8, [.ref a_row_parts, .ref a_row_firsts, .ref a_row_lasts, .int (nI g11), .int g12, .int g13])), (a_row_parts, .inl (ka_row_parts, 90, .inl g14)), (a_row_firsts, .inl (ka_row_firsts, 90, .inl g15)), (a_row_lasts, .inl (ka_row_lasts, 90, .inl g16))] := hD
            refine lv_iload hx hb d_Rows_collectRow_103 (lv_at hl 1 rfl) ?_
            refine lv_iload hx hb d_Rows_collectRow_105 (lv_at hl 0 rfl) ?_
            refine xr_max (v := (nI (max j6 j7))) hx hb (hml.trans hl.1.symm) hown (hz (.methodLink R_Rows 126 Lib.Math.max.name) zm_441) (hz (.static Lib.Math.max.name) zm_1023) (hz (.initialized "java/lang/Math") zm_1024) (hz (.code Lib.Math.max.name Lib.Math.max.code 2 (some .int)) zm_1025) (Nat.le_of_ble_eq_true rfl) (Nat.le_of_ble_eq_true rfl) (Nat.le_of_ble_eq_true rfl) (Nat.le_of_ble_eq_true rfl) d_Rows_collectRow_107 (xr_maxn (by omega) (by omega)) ?_
            refine lv_istore hx hb d_Rows_collectRow_110 hl (by decide) rfl (fun ls hl => ?_)
            have hl : lv_has ls 8 [(4, .int (nI (max j6 j7))), (7, .int (nI j7)), (6, .int (nI j6)), (5, .int (nI k5)), (0, .ref a_t), (1, .ref a_y0), (2, .int (nI y1)), (3, .int (nI y2))] := hl
            refine lv_iinc (k := 3) (v := (nI (k5 + 1))) hx hb d_Rows_collectRow_112 hl rfl (nI_1 k5) (by decide) rfl (fun ls hl => ?_)
            have hl : lv_has ls 8 [(5, .int (nI (k5 + 1))), (4, .int (nI (max j6 j7))), (7, .int (nI j7)), (6, .int (nI j6)), (0, .ref a_t), (1, .ref a_y0), (2, .int (nI y1)), (3, .int (nI y2))] := hl
            refine lv_goto (tgt := 13) hx hb d_Rows_collectRow_115 (by decide) ?_
            have hl : lv_has ls 8 [(4, .int (nI (max j6 j7))), (5, .int (nI (k5 + 1))), (0, .ref a_t), (1, .ref a_y0), (2, .int (nI y1)), (3, .int (nI y2))] := lv_sub hl [1, 0, 4, 5, 6, 7] rfl
            have hP9 := hP.sub (ws' := [(a_t, .inr (9, [.ref a_closers, .ref a_openers, .ref a_opened, .ref a_closed, .ref a_row, .ref a_resolver, .int z_together, .int z_inConflict])), (a_closers, .inl (ka_closers, 362, .inl f_closers)), (a_row_parts, .inl (ka_row_parts, 90, .inl g14)), (a_row_firsts, .inl (ka_row_firsts, 90, .inl g15)), (a_row_lasts, .inl (ka_row_lasts, 90, .inl g16)), (a_y0, .inr (11, [.ref a_y0_kinds, .ref a_y0_values, .int (nI n_y0_size)])), (a_y0_kinds, .inl (ka_y0_kinds, 362, .inl f_y0_kinds)), (a_y0_values, .inl (ka_y0_values, 362, .inr (.inl f_y0_values))), (a_row, .inr (8, [.ref a_row_parts, .ref a_row_firsts, .ref a_row_lasts, .int (nI g11), .int g12, .int g13]))]) [0, 1, 6, 7, 8, 3, 2, 4, 5] rfl
            have hD9 := hD.sub (ws' := [(a_t, .inr (9, [.ref a_closers, .ref a_openers, .ref a_opened, .ref a_closed, .ref a_row, .ref a_resolver, .int z_together, .int z_inConflict])), (a_closers, .inl (ka_closers, 362, .inl f_closers)), (a_row_parts, .inl (ka_row_parts, 90, .inl g14)), (a_row_firsts, .inl (ka_row_firsts, 90, .inl g15)), (a_row_lasts, .inl (ka_row_lasts, 90, .inl g16)), (a_y0, .inr (11, [.ref a_y0_kinds, .ref a_y0_values, .int (nI n_y0_size)])), (a_y0_kinds, .inl (ka_y0_kinds, 362, .inl f_y0_kinds)), (a_y0_values, .inl (ka_y0_values, 362, .inr (.inl f_y0_values))), (a_row, .inr (8, [.ref a_row_parts, .ref a_row_firsts, .ref a_row_lasts, .int (nI g11), .int g12, .int g13]))]) [0, 1, 6, 7, 8, 3, 2, 4, 5] (by decide) rfl
            exact ih13 ((max j6 j7), (k5 + 1), g11, g12, g13, g15, g16, g14) (by show 362 - ((k5 + 1)) < 362 - k5; omega) _ _ _ ⟨by show ((max j6 j7)) ≤ 362; have z9 := (show max j6 j7 = k4 + e7 f_y0_kinds f_y0_values f_closers n_y0_size k4 by omega); omega, by show ((k5 + 1)) ≤ 362; first | omega | assumption | exact Or.inl rfl | exact Or.inr rfl | decide, by show g11 ≤ 90; first | omega | assumption | exact Or.inl rfl | exact Or.inr rfl | decide, by show ((k5 + 1)) ≤ ((max j6 j7)); have z9 := (show max j6 j7 = k4 + e7 f_y0_kinds f_y0_values f_closers n_y0_size k4 by omega); omega, by show y1 ≤ ((k5 + 1)); first | omega | assumption | exact Or.inl rfl | exact Or.inr rfl | decide, by show ((max j6 j7)) ≤ y2; have z9 := (show max j6 j7 = k4 + e7 f_y0_kinds f_y0_values f_closers n_y0_size k4 by omega); omega, by show chE f_y0_kinds f_y0_values f_closers n_y0_size y1 ([], false, false) = chE f_y0_kinds f_y0_values f_closers n_y0_size ((max j6 j7)) (z3 g15 g16 g14 g11, decide (¬ g12 = 0), decide (¬ g13 = 0)); rw [(show max j6 j7 = k4 + e7 f_y0_kinds f_y0_values f_closers n_y0_size k4 by omega)]; exact ch_o iE (by rw [← l_j7.1 f_closers]; exact e69) dd (hq0_100.trans (by rw [(show j7 - 1 = k4 + e7 f_y0_kinds f_y0_values f_closers n_y0_size k4 - 1 by omega)])), by show cv f_y0_kinds f_y0_values n_y0_size ((max j6 j7)) = 0; rw [(show max j6 j7 = k4 + e7 f_y0_kinds f_y0_values f_closers n_y0_size k4 by omega)]; exact nx.2.1, by show sk f_y0_kinds f_y0_values ((max j6 j7)) = sk f_y0_kinds f_y0_values y1; rw [(show max j6 j7 = k4 + e7 f_y0_kinds f_y0_values f_closers n_y0_size k4 by omega)]; exact nx.2.2.2.1.trans iS, by show g11 + sm (cg f_y0_kinds f_y0_values (sk f_y0_kinds f_y0_values y1)) y1 ≤ sm (cg f_y0_kinds f_y0_values (sk f_y0_kinds f_y0_values y1)) ((max j6 j7)); rw [(show max j6 j7 = k4 + e7 f_y0_kinds f_y0_values f_closers n_y0_size k4 by omega)]; have z9 := rb_sz_o hq0_100; omega, by show ITL ((max j6 j7)) (z3 g15 g16 g14 g11); rw [(show max j6 j7 = k4 + e7 f_y0_kinds f_y0_values f_closers n_y0_size k4 by omega)]; have z9 := congrArg Prod.fst hq0_100; have z8 : z3 _ _ _ _ = _ := z9; rw [z8]; exact itl_o iI (by omega) (by omega) (by omega), by show RVL (z3 g15 g16 g14 g11); have z9 := congrArg Prod.fst hq0_100; have z8 : z3 _ _ _ _ = _ := z9; rw [z8]; exact rvl_o iR, hl, hP9, hD9, hS⟩
          · have dd : decide (¬ (1 : Int32) = 0) = (f_y0_values k4 == 45) := dd_1 pL (by omega) h10
            refine lv_iconst (v := 1) hx hb d_Rows_collectRow_95 (by decide) ?_
            refine lv_goto (tgt := 100) hx hb d_Rows_collectRow_96 (by decide) ?_
            have hPc := hP.sub (ws' := [(a_row, .inr (8, [.ref a_row_parts, .ref a_row_firsts, .ref a_row_lasts, .int (nI v_a_row_3), .int v_a_row_4, .int v_a_row_5])), (a_row_parts, .inl (ka_row_parts, 90, .inl v_a_row_parts)), (a_row_firsts, .inl (ka_row_firsts, 90, .inl v_a_row_firsts)), (a_row_lasts, .inl (ka_row_lasts, 90, .inl v_a_row_lasts))]) [3, 0, 1, 2] rfl
            have hDc := hD.sub (ws' := [(a_row, .inr (8, [.ref a_row_parts, .ref a_row_firsts, .ref a_row_lasts, .int (nI v_a_row_3), .int v_a_row_4, .int v_a_row_5])), (a_row_parts, .inl (ka_row_parts, 90, .inl v_a_row_parts)), (a_row_firsts, .inl (ka_row_firsts, 90, .inl v_a_row_firsts)), (a_row_lasts, .inl (ka_row_lasts, 90, .inl v_a_row_lasts))]) [3, 0, 1, 2] (by decide) rfl
            have hKc := hK.sub (tys' := [(ka_row_parts, .int), (ka_row_firsts, .int), (ka_row_lasts, .int)]) [1, 2, 3] rfl
            have hFc := va_free (wc := [(a_row, .inr (8, [.ref a_row_parts, .ref a_row_firsts, .ref a_row_lasts, .int (nI v_a_row_3), .int v_a_row_4, .int v_a_row_5])), (a_row_parts, .inl (ka_row_parts, 90, .inl v_a_row_parts)), (a_row_firsts, .inl (ka_row_firsts, 90, .inl v_a_row_firsts)), (a_row_lasts, .inl (ka_row_lasts, 90, .inl v_a_row_lasts))]) hD hS hA [3, 0, 1, 2] rfl
            refine va_callv (va_runV (As := [.int (nI k4), .int (nI (j7 - 1)), .int 1]) (rest := []) ⟨hx, hb, hml, hown, hz⟩ (s_Row_addOperation7 l dC dI H.size a_row a_row_parts v_a_row_parts a_row_firsts v_a_row_firsts a_row_lasts v_a_row_lasts v_a_row_3 v_a_row_4 v_a_row_5 ((nI k4)) ((nI (j7 - 1))) 1 ka_row_parts ka_row_firsts ka_row_lasts (by first | omega | assumption | exact Or.inl rfl | exact Or.inr rfl | decide) (by first | omega | assumption | exact Or.inl rfl | exact Or.inr rfl | decide)) (cwV 3 hz (zV zm_437 zm_438 zm_439 zm_318 zm_440) rfl rfl rfl (by decide +kernel) ⟨Nat.le_of_ble_eq_true rfl, Nat.le_of_ble_eq_true rfl⟩) ⟨fun a U g mk q => by obtain ⟨q0, q1, qP, qK, qD⟩ := q; exact ⟨q0, q1, qP, va_K.moved (u := U) (U := U.calling g mk a) (Vm.Alike.refl U.vm) qK, qD⟩, va_recv (q := (R_Row, F_Row, 6)) (q0 := 3) (ci := 8) hK hP rfl rfl, fun U hU hW => ⟨rfl, by rw [hU], by rw [hU]; exact hPc, va_K.moved hW.alike hKc, hDc.weaken (fun _ _ _ _ => trivial)⟩⟩ rfl rfl hl.1 rfl (lv_room (Nat.le_of_ble_eq_true rfl)) d_Rows_collectRow_100 ⟨Nat.zero_le _, Nat.zero_le _⟩) hS (fun q _ h => hFc q h) hFc (fun u t H1 locs ht hvm hw hB hz1 hk1 hS => ?_)
            obtain ⟨g18, g19, g20, g21, g22, g23, hb_g18, hq0_100, hP1, hK1, hD1⟩ := hB
            rw [ht] at hP1
            obtain ⟨hP, hD⟩ := va_join (wr := [(a_t, .inr (9, [.ref a_closers, .ref a_openers, .ref a_opened, .ref a_closed, .ref a_row, .ref a_resolver, .int z_together, .int z_inConflict])), (a_closers, .inl (ka_closers, 362, .inl f_closers)), (a_y0_kinds, .inl (ka_y0_kinds, 362, .inl f_y0_kinds)), (a_y0, .inr (11, [.ref a_y0_kinds, .ref a_y0_values, .int (nI n_y0_size)])), (a_y0_values, .inl (ka_y0_values, 362, .inr (.inl f_y0_values)))]) (w1 := [(a_row, .inr (8, [.ref a_row_parts, .ref a_row_firsts, .ref a_row_lasts, .int (nI g18), .int g19, .int g20])), (a_row_parts, .inl (ka_row_parts, 90, .inl g21)), (a_row_firsts, .inl (ka_row_firsts, 90, .inl g22)), (a_row_lasts, .inl (ka_row_lasts, 90, .inl g23))]) hP hD [3, 0, 1, 2] [4, 5, 6, 7, 8] rfl rfl (by decide) (by decide) hk1 hFc hP1 hD1
            generalize H1 = H at hP hS ⊢
            have hP : va_P (dC, dI) vcl [(a_t, .inr (9, [.ref a_closers, .ref a_openers, .ref a_opened, .ref a_closed, .ref a_row, .ref a_resolver, .int z_together, .int z_inConflict])), (a_closers, .inl (ka_closers, 362, .inl f_closers)), (a_y0_kinds, .inl (ka_y0_kinds, 362, .inl f_y0_kinds)), (a_y0, .inr (11, [.ref a_y0_kinds, .ref a_y0_values, .int (nI n_y0_size)])), (a_y0_values, .inl (ka_y0_values, 362, .inr (.inl f_y0_values))), (a_row, .inr (8, [.ref a_row_parts, .ref a_row_firsts, .ref a_row_lasts, .int (nI g18), .int g19, .int g20])), (a_row_parts, .inl (ka_row_parts, 90, .inl g21)), (a_row_firsts, .inl (ka_row_firsts, 90, .inl g22)), (a_row_lasts, .inl (ka_row_lasts, 90, .inl g23))] H := hP
            have hD : va_D A [(a_t, .inr (9, [.ref a_closers, .ref a_openers, .ref a_opened, .ref a_closed, .ref a_row, .ref a_resolver, .int z_together, .int z_inConflict])), (a_closers, .inl (ka_closers, 362, .inl f_closers)), (a_y0_kinds, .inl (ka_y0_kinds, 362, .inl f_y0_kinds)), (a_y0, .inr (11, [.ref a_y0_kinds, .ref a_y0_values, .int (nI n_y0_size)])), (a_y0_values, .inl (ka_y0_values, 362, .inr (.inl f_y0_values))), (a_row, .inr (8, [.ref a_row_parts, .ref a_row_firsts, .ref a_row_lasts, .int (nI g18), .int g19, .int g20])), (a_row_parts, .inl (ka_row_parts, 90, .inl g21)), (a_row_firsts, .inl (ka_row_firsts, 90, .inl g22)), (a_row_lasts, .inl (ka_row_lasts, 90, .inl g23))] := hD
            refine lv_iload hx hb d_Rows_collectRow_103 (lv_at hl 1 rfl) ?_
            refine lv_iload hx hb d_Rows_collectRow_105 (lv_at hl 0 rfl) ?_
            refine xr_max (v := (nI (max j6 j7))) hx hb (hml.trans hl.1.symm) hown (hz (.methodLink R_Rows 126 Lib.Math.max.name) zm_441) (hz (.static Lib.Math.max.name) zm_1023) (hz (.initialized "java/lang/Math") zm_1024) (hz (.code Lib.Math.max.name Lib.Math.max.code 2 (some .int)) zm_1025) (Nat.le_of_ble_eq_true rfl) (Nat.le_of_ble_eq_true rfl) (Nat.le_of_ble_eq_true rfl) (Nat.le_of_ble_eq_true rfl) d_Rows_collectRow_107 (xr_maxn (by omega) (by omega)) ?_
            refine lv_istore hx hb d_Rows_collectRow_110 hl (by decide) rfl (fun ls hl => ?_)
            have hl : lv_has ls 8 [(4, .int (nI (max j6 j7))), (7, .int (nI j7)), (6, .int (nI j6)), (5, .int (nI k5)), (0, .ref a_t), (1, .ref a_y0), (2, .int (nI y1)), (3, .int (nI y2))] := hl
            refine lv_iinc (k := 3) (v := (nI (k5 + 1))) hx hb d_Rows_collectRow_112 hl rfl (nI_1 k5) (by decide) rfl (fun ls hl => ?_)
            have hl : lv_has ls 8 [(5, .int (nI (k5 + 1))), (4, .int (nI (max j6 j7))), (7, .int (nI j7)), (6, .int (nI j6)), (0, .ref a_t), (1, .ref a_y0), (2, .int (nI y1)), (3, .int (nI y2))] := hl
            refine lv_goto (tgt := 13) hx hb d_Rows_collectRow_115 (by decide) ?_
            have hl : lv_has ls 8 [(4, .int (nI (max j6 j7))), (5, .int (nI (k5 + 1))), (0, .ref a_t), (1, .ref a_y0), (2, .int (nI y1)), (3, .int (nI y2))] := lv_sub hl [1, 0, 4, 5, 6, 7] rfl
            have hP9 := hP.sub (ws' := [(a_t, .inr (9, [.ref a_closers, .ref a_openers, .ref a_opened, .ref a_closed, .ref a_row, .ref a_resolver, .int z_together, .int z_inConflict])), (a_closers, .inl (ka_closers, 362, .inl f_closers)), (a_row_parts, .inl (ka_row_parts, 90, .inl g21)), (a_row_firsts, .inl (ka_row_firsts, 90, .inl g22)), (a_row_lasts, .inl (ka_row_lasts, 90, .inl g23)), (a_y0, .inr (11, [.ref a_y0_kinds, .ref a_y0_values, .int (nI n_y0_size)])), (a_y0_kinds, .inl (ka_y0_kinds, 362, .inl f_y0_kinds)), (a_y0_values, .inl (ka_y0_values, 362, .inr (.inl f_y0_values))), (a_row, .inr (8, [.ref a_row_parts, .ref a_row_firsts, .ref a_row_lasts, .int (nI g18), .int g19, .int g20]))]) [0, 1, 6, 7, 8, 3, 2, 4, 5] rfl
            have hD9 := hD.sub (ws' := [(a_t, .inr (9, [.ref a_closers, .ref a_openers, .ref a_opened, .ref a_closed, .ref a_row, .ref a_resolver, .int z_together, .int z_inConflict])), (a_closers, .inl (ka_closers, 362, .inl f_closers)), (a_row_parts, .inl (ka_row_parts, 90, .inl g21)), (a_row_firsts, .inl (ka_row_firsts, 90, .inl g22)), (a_row_lasts, .inl (ka_row_lasts, 90, .inl g23)), (a_y0, .inr (11, [.ref a_y0_kinds, .ref a_y0_values, .int (nI n_y0_size)])), (a_y0_kinds, .inl (ka_y0_kinds, 362, .inl f_y0_kinds)), (a_y0_values, .inl (ka_y0_values, 362, .inr (.inl f_y0_values))), (a_row, .inr (8, [.ref a_row_parts, .ref a_row_firsts, .ref a_row_lasts, .int (nI g18), .int g19, .int g20]))]) [0, 1, 6, 7, 8, 3, 2, 4, 5] (by decide) rfl
            exact ih13 ((max j6 j7), (k5 + 1), g18, g19, g20, g22, g23, g21) (by show 362 - ((k5 + 1)) < 362 - k5; omega) _ _ _ ⟨by show ((max j6 j7)) ≤ 362; have z9 := (show max j6 j7 = k4 + e7 f_y0_kinds f_y0_values f_closers n_y0_size k4 by omega); omega, by show ((k5 + 1)) ≤ 362; first | omega | assumption | exact Or.inl rfl | exact Or.inr rfl | decide, by show g18 ≤ 90; first | omega | assumption | exact Or.inl rfl | exact Or.inr rfl | decide, by show ((k5 + 1)) ≤ ((max j6 j7)); have z9 := (show max j6 j7 = k4 + e7 f_y0_kinds f_y0_values f_closers n_y0_size k4 by omega); omega, by show y1 ≤ ((k5 + 1)); first | omega | assumption | exact Or.inl rfl | exact Or.inr rfl | decide, by show ((max j6 j7)) ≤ y2; have z9 := (show max j6 j7 = k4 + e7 f_y0_kinds f_y0_values f_closers n_y0_size k4 by omega); omega, by show chE f_y0_kinds f_y0_values f_closers n_y0_size y1 ([], false, false) = chE f_y0_kinds f_y0_values f_closers n_y0_size ((max j6 j7)) (z3 g22 g23 g21 g18, decide (¬ g19 = 0), decide (¬ g20 = 0)); rw [(show max j6 j7 = k4 + e7 f_y0_kinds f_y0_values f_closers n_y0_size k4 by omega)]; exact ch_o iE (by rw [← l_j7.1 f_closers]; exact e69) dd (hq0_100.trans (by rw [(show j7 - 1 = k4 + e7 f_y0_kinds f_y0_values f_closers n_y0_size k4 - 1 by omega)])), by show cv f_y0_kinds f_y0_values n_y0_size ((max j6 j7)) = 0; rw [(show max j6 j7 = k4 + e7 f_y0_kinds f_y0_values f_closers n_y0_size k4 by omega)]; exact nx.2.1, by show sk f_y0_kinds f_y0_values ((max j6 j7)) = sk f_y0_kinds f_y0_values y1; rw [(show max j6 j7 = k4 + e7 f_y0_kinds f_y0_values f_closers n_y0_size k4 by omega)]; exact nx.2.2.2.1.trans iS, by show g18 + sm (cg f_y0_kinds f_y0_values (sk f_y0_kinds f_y0_values y1)) y1 ≤ sm (cg f_y0_kinds f_y0_values (sk f_y0_kinds f_y0_values y1)) ((max j6 j7)); rw [(show max j6 j7 = k4 + e7 f_y0_kinds f_y0_values f_closers n_y0_size k4 by omega)]; have z9 := rb_sz_o hq0_100; omega, by show ITL ((max j6 j7)) (z3 g22 g23 g21 g18); rw [(show max j6 j7 = k4 + e7 f_y0_kinds f_y0_values f_closers n_y0_size k4 by omega)]; have z9 := congrArg Prod.fst hq0_100; have z8 : z3 _ _ _ _ = _ := z9; rw [z8]; exact itl_o iI (by omega) (by omega) (by omega), by show RVL (z3 g22 g23 g21 g18); have z9 := congrArg Prod.fst hq0_100; have z8 : z3 _ _ _ _ = _ := z9; rw [z8]; exact rvl_o iR, hl, hP9, hD9, hS⟩
      · have h8 : ¬ j6 ≤ k4 := fun q => h8 ((nI_leI (a := j6) (b := k4) (by omega) (by omega)).mpr q)
        have e46 := h8
        have ey := bA_y (s := f_y0_kinds) (v := f_y0_values) (P := f_closers) (n := n_y0_size) (k := k4) (by omega)
        have nx := it_nx hp0 (by omega) hp2 iV ey.2.2.1
        have cs := cg_s hp0 (by omega) hp2 ey.2.2.1 iS
        have cc := cg_cn (s := f_y0_kinds) (v := f_y0_values) (S := sk f_y0_kinds f_y0_values y1) (k4 + e7 f_y0_kinds f_y0_values f_closers n_y0_size k4)
        have cm := cn_mono (s := f_y0_kinds) (k4 + e7 f_y0_kinds f_y0_values f_closers n_y0_size k4) n_y0_size nx.1
        have to := (lv.2.2 k4 (by omega) iS).2 ey.2.2.1
        have jo := hJ7 f_closers
        refine lv_aload_n hx hb d_Rows_collectRow_49 rfl (lv_at hl 4 rfl) ?_
        refine va_get (D := (dC, dI)) (ci := 9) (v := .ref a_row) (C := R_Rows) (T := F_Rows) (N := 8) hx hb hz zu_Rows hown hK hP 4 rfl rfl 4 (by decide) (hz (.fieldLink R_Rows 27 "LayoutFront$Rows" "row" "LLayoutFront$Row;") zm_361) (fun _ h9 => h9) rfl d_Rows_collectRow_50 ?_
        refine lv_iload hx hb d_Rows_collectRow_53 (lv_at hl 2 rfl) ?_
        refine lv_iload hx hb d_Rows_collectRow_55 (lv_at hl 1 rfl) ?_
        refine lv_iconst (v := 1) hx hb d_Rows_collectRow_57 (by decide) ?_
        refine xr_isub (v := (nI (j6 - 1))) hx hb d_Rows_collectRow_58 (pk_sub (a := j6) (b := 1) (by omega)) ?_
        have hPc := hP.sub (ws' := [(a_row, .inr (8, [.ref a_row_parts, .ref a_row_firsts, .ref a_row_lasts, .int (nI v_a_row_3), .int v_a_row_4, .int v_a_row_5])), (a_row_parts, .inl (ka_row_parts, 90, .inl v_a_row_parts)), (a_row_firsts, .inl (ka_row_firsts, 90, .inl v_a_row_firsts)), (a_row_lasts, .inl (ka_row_lasts, 90, .inl v_a_row_lasts))]) [3, 0, 1, 2] rfl
        have hDc := hD.sub (ws' := [(a_row, .inr (8, [.ref a_row_parts, .ref a_row_firsts, .ref a_row_lasts, .int (nI v_a_row_3), .int v_a_row_4, .int v_a_row_5])), (a_row_parts, .inl (ka_row_parts, 90, .inl v_a_row_parts)), (a_row_firsts, .inl (ka_row_firsts, 90, .inl v_a_row_firsts)), (a_row_lasts, .inl (ka_row_lasts, 90, .inl v_a_row_lasts))]) [3, 0, 1, 2] (by decide) rfl
        have hKc := hK.sub (tys' := [(ka_row_parts, .int), (ka_row_firsts, .int), (ka_row_lasts, .int)]) [1, 2, 3] rfl
        have hFc := va_free (wc := [(a_row, .inr (8, [.ref a_row_parts, .ref a_row_firsts, .ref a_row_lasts, .int (nI v_a_row_3), .int v_a_row_4, .int v_a_row_5])), (a_row_parts, .inl (ka_row_parts, 90, .inl v_a_row_parts)), (a_row_firsts, .inl (ka_row_firsts, 90, .inl v_a_row_firsts)), (a_row_lasts, .inl (ka_row_lasts, 90, .inl v_a_row_lasts))]) hD hS hA [3, 0, 1, 2] rfl
        refine va_callv (va_runV (As := [.int (nI k4), .int (nI (j6 - 1))]) (rest := []) ⟨hx, hb, hml, hown, hz⟩ (s_Row_addOperand7 l dC dI H.size a_row a_row_parts v_a_row_parts a_row_firsts v_a_row_firsts a_row_lasts v_a_row_lasts v_a_row_3 v_a_row_4 v_a_row_5 ((nI k4)) ((nI (j6 - 1))) ka_row_parts ka_row_firsts ka_row_lasts (by first | omega | assumption | exact Or.inl rfl | exact Or.inr rfl | decide) (by first | omega | assumption | exact Or.inl rfl | exact Or.inr rfl | decide)) (cwV 2 hz (zV zm_432 zm_433 zm_434 zm_318 zm_435) rfl rfl rfl (by decide +kernel) ⟨Nat.le_of_ble_eq_true rfl, Nat.le_of_ble_eq_true rfl⟩) ⟨fun a U g mk q => by obtain ⟨q0, q1, qP, qK, qD⟩ := q; exact ⟨q0, q1, qP, va_K.moved (u := U) (U := U.calling g mk a) (Vm.Alike.refl U.vm) qK, qD⟩, va_recv (q := (R_Row, F_Row, 6)) (q0 := 3) (ci := 8) hK hP rfl rfl, fun U hU hW => ⟨rfl, by rw [hU], by rw [hU]; exact hPc, va_K.moved hW.alike hKc, hDc.weaken (fun _ _ _ _ => trivial)⟩⟩ rfl rfl hl.1 rfl (lv_room (Nat.le_of_ble_eq_true rfl)) d_Rows_collectRow_59 ⟨Nat.zero_le _, Nat.zero_le _⟩) hS (fun q _ h => hFc q h) hFc (fun u t H1 locs ht hvm hw hB hz1 hk1 hS => ?_)
        obtain ⟨g25, g26, g27, g28, hb_g25, hq0_59, hP1, hK1, hD1⟩ := hB
        rw [ht] at hP1
        obtain ⟨hP, hD⟩ := va_join (wr := [(a_t, .inr (9, [.ref a_closers, .ref a_openers, .ref a_opened, .ref a_closed, .ref a_row, .ref a_resolver, .int z_together, .int z_inConflict])), (a_closers, .inl (ka_closers, 362, .inl f_closers)), (a_y0, .inr (11, [.ref a_y0_kinds, .ref a_y0_values, .int (nI n_y0_size)])), (a_y0_kinds, .inl (ka_y0_kinds, 362, .inl f_y0_kinds)), (a_y0_values, .inl (ka_y0_values, 362, .inr (.inl f_y0_values)))]) (w1 := [(a_row, .inr (8, [.ref a_row_parts, .ref a_row_firsts, .ref a_row_lasts, .int (nI g25), .int v_a_row_4, .int v_a_row_5])), (a_row_parts, .inl (ka_row_parts, 90, .inl g26)), (a_row_firsts, .inl (ka_row_firsts, 90, .inl g27)), (a_row_lasts, .inl (ka_row_lasts, 90, .inl g28))]) hP hD [3, 0, 1, 2] [4, 5, 6, 7, 8] rfl rfl (by decide) (by decide) hk1 hFc hP1 hD1
        generalize H1 = H at hP hS ⊢
        have hP : va_P (dC, dI) vcl [(a_t, .inr (9, [.ref a_closers, .ref a_openers, .ref a_opened, .ref a_closed, .ref a_row, .ref a_resolver, .int z_together, .int z_inConflict])), (a_closers, .inl (ka_closers, 362, .inl f_closers)), (a_y0, .inr (11, [.ref a_y0_kinds, .ref a_y0_values, .int (nI n_y0_size)])), (a_y0_kinds, .inl (ka_y0_kinds, 362, .inl f_y0_kinds)), (a_y0_values, .inl (ka_y0_values, 362, .inr (.inl f_y0_values))), (a_row, .inr (8, [.ref a_row_parts, .ref a_row_firsts, .ref a_row_lasts, .int (nI g25), .int v_a_row_4, .int v_a_row_5])), (a_row_parts, .inl (ka_row_parts, 90, .inl g26)), (a_row_firsts, .inl (ka_row_firsts, 90, .inl g27)), (a_row_lasts, .inl (ka_row_lasts, 90, .inl g28))] H := hP
        have hD : va_D A [(a_t, .inr (9, [.ref a_closers, .ref a_openers, .ref a_opened, .ref a_closed, .ref a_row, .ref a_resolver, .int z_together, .int z_inConflict])), (a_closers, .inl (ka_closers, 362, .inl f_closers)), (a_y0, .inr (11, [.ref a_y0_kinds, .ref a_y0_values, .int (nI n_y0_size)])), (a_y0_kinds, .inl (ka_y0_kinds, 362, .inl f_y0_kinds)), (a_y0_values, .inl (ka_y0_values, 362, .inr (.inl f_y0_values))), (a_row, .inr (8, [.ref a_row_parts, .ref a_row_firsts, .ref a_row_lasts, .int (nI g25), .int v_a_row_4, .int v_a_row_5])), (a_row_parts, .inl (ka_row_parts, 90, .inl g26)), (a_row_firsts, .inl (ka_row_firsts, 90, .inl g27)), (a_row_lasts, .inl (ka_row_lasts, 90, .inl g28))] := hD
        refine lv_goto (tgt := 103) hx hb d_Rows_collectRow_62 (by decide) ?_
        refine lv_iload hx hb d_Rows_collectRow_103 (lv_at hl 1 rfl) ?_
        refine lv_iload hx hb d_Rows_collectRow_105 (lv_at hl 0 rfl) ?_
        refine xr_max (v := (nI (max j6 j7))) hx hb (hml.trans hl.1.symm) hown (hz (.methodLink R_Rows 126 Lib.Math.max.name) zm_441) (hz (.static Lib.Math.max.name) zm_1023) (hz (.initialized "java/lang/Math") zm_1024) (hz (.code Lib.Math.max.name Lib.Math.max.code 2 (some .int)) zm_1025) (Nat.le_of_ble_eq_true rfl) (Nat.le_of_ble_eq_true rfl) (Nat.le_of_ble_eq_true rfl) (Nat.le_of_ble_eq_true rfl) d_Rows_collectRow_107 (xr_maxn (by omega) (by omega)) ?_
        refine lv_istore hx hb d_Rows_collectRow_110 hl (by decide) rfl (fun ls hl => ?_)
        have hl : lv_has ls 8 [(4, .int (nI (max j6 j7))), (7, .int (nI j7)), (6, .int (nI j6)), (5, .int (nI k5)), (0, .ref a_t), (1, .ref a_y0), (2, .int (nI y1)), (3, .int (nI y2))] := hl
        refine lv_iinc (k := 3) (v := (nI (k5 + 1))) hx hb d_Rows_collectRow_112 hl rfl (nI_1 k5) (by decide) rfl (fun ls hl => ?_)
        have hl : lv_has ls 8 [(5, .int (nI (k5 + 1))), (4, .int (nI (max j6 j7))), (7, .int (nI j7)), (6, .int (nI j6)), (0, .ref a_t), (1, .ref a_y0), (2, .int (nI y1)), (3, .int (nI y2))] := hl
        refine lv_goto (tgt := 13) hx hb d_Rows_collectRow_115 (by decide) ?_
        have hl : lv_has ls 8 [(4, .int (nI (max j6 j7))), (5, .int (nI (k5 + 1))), (0, .ref a_t), (1, .ref a_y0), (2, .int (nI y1)), (3, .int (nI y2))] := lv_sub hl [1, 0, 4, 5, 6, 7] rfl
        have hP9 := hP.sub (ws' := [(a_t, .inr (9, [.ref a_closers, .ref a_openers, .ref a_opened, .ref a_closed, .ref a_row, .ref a_resolver, .int z_together, .int z_inConflict])), (a_closers, .inl (ka_closers, 362, .inl f_closers)), (a_row_parts, .inl (ka_row_parts, 90, .inl g26)), (a_row_firsts, .inl (ka_row_firsts, 90, .inl g27)), (a_row_lasts, .inl (ka_row_lasts, 90, .inl g28)), (a_y0, .inr (11, [.ref a_y0_kinds, .ref a_y0_values, .int (nI n_y0_size)])), (a_y0_kinds, .inl (ka_y0_kinds, 362, .inl f_y0_kinds)), (a_y0_values, .inl (ka_y0_values, 362, .inr (.inl f_y0_values))), (a_row, .inr (8, [.ref a_row_parts, .ref a_row_firsts, .ref a_row_lasts, .int (nI g25), .int v_a_row_4, .int v_a_row_5]))]) [0, 1, 6, 7, 8, 2, 3, 4, 5] rfl
        have hD9 := hD.sub (ws' := [(a_t, .inr (9, [.ref a_closers, .ref a_openers, .ref a_opened, .ref a_closed, .ref a_row, .ref a_resolver, .int z_together, .int z_inConflict])), (a_closers, .inl (ka_closers, 362, .inl f_closers)), (a_row_parts, .inl (ka_row_parts, 90, .inl g26)), (a_row_firsts, .inl (ka_row_firsts, 90, .inl g27)), (a_row_lasts, .inl (ka_row_lasts, 90, .inl g28)), (a_y0, .inr (11, [.ref a_y0_kinds, .ref a_y0_values, .int (nI n_y0_size)])), (a_y0_kinds, .inl (ka_y0_kinds, 362, .inl f_y0_kinds)), (a_y0_values, .inl (ka_y0_values, 362, .inr (.inl f_y0_values))), (a_row, .inr (8, [.ref a_row_parts, .ref a_row_firsts, .ref a_row_lasts, .int (nI g25), .int v_a_row_4, .int v_a_row_5]))]) [0, 1, 6, 7, 8, 2, 3, 4, 5] (by decide) rfl
        exact ih13 ((max j6 j7), (k5 + 1), g25, v_a_row_4, v_a_row_5, g27, g28, g26) (by show 362 - ((k5 + 1)) < 362 - k5; omega) _ _ _ ⟨by show ((max j6 j7)) ≤ 362; have z9 := (show max j6 j7 = k4 + e7 f_y0_kinds f_y0_values f_closers n_y0_size k4 by omega); omega, by show ((k5 + 1)) ≤ 362; first | omega | assumption | exact Or.inl rfl | exact Or.inr rfl | decide, by show g25 ≤ 90; first | omega | assumption | exact Or.inl rfl | exact Or.inr rfl | decide, by show ((k5 + 1)) ≤ ((max j6 j7)); have z9 := (show max j6 j7 = k4 + e7 f_y0_kinds f_y0_values f_closers n_y0_size k4 by omega); omega, by show y1 ≤ ((k5 + 1)); first | omega | assumption | exact Or.inl rfl | exact Or.inr rfl | decide, by show ((max j6 j7)) ≤ y2; have z9 := (show max j6 j7 = k4 + e7 f_y0_kinds f_y0_values f_closers n_y0_size k4 by omega); omega, by show chE f_y0_kinds f_y0_values f_closers n_y0_size y1 ([], false, false) = chE f_y0_kinds f_y0_values f_closers n_y0_size ((max j6 j7)) (z3 g27 g28 g26 g25, decide (¬ v_a_row_4 = 0), decide (¬ v_a_row_5 = 0)); rw [(show max j6 j7 = k4 + e7 f_y0_kinds f_y0_values f_closers n_y0_size k4 by omega)]; exact ch_a iE (by rw [← l_j6.1]; exact e46) (hq0_59.trans (by rw [(show j6 - 1 = k4 + e7 f_y0_kinds f_y0_values f_closers n_y0_size k4 - 1 by omega)])), by show cv f_y0_kinds f_y0_values n_y0_size ((max j6 j7)) = 0; rw [(show max j6 j7 = k4 + e7 f_y0_kinds f_y0_values f_closers n_y0_size k4 by omega)]; exact nx.2.1, by show sk f_y0_kinds f_y0_values ((max j6 j7)) = sk f_y0_kinds f_y0_values y1; rw [(show max j6 j7 = k4 + e7 f_y0_kinds f_y0_values f_closers n_y0_size k4 by omega)]; exact nx.2.2.2.1.trans iS, by show g25 + sm (cg f_y0_kinds f_y0_values (sk f_y0_kinds f_y0_values y1)) y1 ≤ sm (cg f_y0_kinds f_y0_values (sk f_y0_kinds f_y0_values y1)) ((max j6 j7)); rw [(show max j6 j7 = k4 + e7 f_y0_kinds f_y0_values f_closers n_y0_size k4 by omega)]; have z9 := rb_sz_a hq0_59; omega, by show ITL ((max j6 j7)) (z3 g27 g28 g26 g25); rw [(show max j6 j7 = k4 + e7 f_y0_kinds f_y0_values f_closers n_y0_size k4 by omega)]; have z9 := congrArg Prod.fst hq0_59; have z8 : z3 _ _ _ _ = _ := z9; rw [z8]; exact itl_a iI (by omega) (by omega) (by omega), by show RVL (z3 g27 g28 g26 g25); have z9 := congrArg Prod.fst hq0_59; have z8 : z3 _ _ _ _ = _ := z9; rw [z8]; exact rvl_a iR, hl, hP9, hD9, hS⟩
/-! the rows of one level -/
section RWJ
variable {s : Nat → Int32} {v : Nat → Int64} {P : Nat → Int32} {n k to : Nat} {S : List Nat} {F G : Int64 → Int32} {f : Nat → Nat}
def rw7 (s : Nat → Int32) (v : Nat → Int64) (P : Nat → Int32) (n k : Nat) : Rb := (chE s v P n k ([], false, false)).2
def rr7 (v : Nat → Int64) (F G : Int64 → Int32) (r : Rb) : Option (Option (List Sp)) := if wh7 r = true then some ((rs7 v F G [] r.1).map (fun x => (fin7 x).2.2)) else none
def oR : Option (Option (List Sp)) → Nat
  | some (some _) => 1
  | _ => 0
def oC : Option (Option (List Sp)) → Nat
  | some none => 1
  | _ => 0
def oP : Option (Option (List Sp)) → List Sp
  | some (some R) => R
  | _ => []
def cF (x : Nat) : List Sp → Nat
  | [] => 0
  | p :: L => cF x L + (if p.1 = nI x then 1 else 0)
def cB (x : Nat) : List Sp → Nat
  | [] => 0
  | p :: L => cB x L + (if p.2 = nI x then 1 else 0)
theorem cF_app {x : Nat} {B : List Sp} : ∀ A, cF x (A ++ B) = cF x A + cF x B
  | [] => by rw [List.nil_append, cF]; omega
  | p :: A => by rw [List.cons_append, cF, cF, cF_app A]; omega
theorem cB_app {x : Nat} {B : List Sp} : ∀ A, cB x (A ++ B) = cB x A + cB x B
  | [] => by rw [List.nil_append, cB]; omega
  | p :: A => by rw [List.cons_append, cB, cB, cB_app A]; omega
abbrev rk7 (s : Nat → Int32) (v : Nat → Int64) (P : Nat → Int32) (n : Nat) (F G : Int64 → Int32) (k : Nat) : Option (Option (List Sp)) := rr7 v F G (rw7 s v P n k)
def fR (s : Nat → Int32) (v : Nat → Int64) (P : Nat → Int32) (n : Nat) (F G : Int64 → Int32) (k : Nat) : Nat := oR (rk7 s v P n F G k)
def fC (s : Nat → Int32) (v : Nat → Int64) (P : Nat → Int32) (n : Nat) (F G : Int64 → Int32) (k : Nat) : Nat := oC (rk7 s v P n F G k)
def fF (s : Nat → Int32) (v : Nat → Int64) (P : Nat → Int32) (n : Nat) (F G : Int64 → Int32) (x k : Nat) : Nat := cF x (oP (rk7 s v P n F G k))
def fB (s : Nat → Int32) (v : Nat → Int64) (P : Nat → Int32) (n : Nat) (F G : Int64 → Int32) (x k : Nat) : Nat := cB x (oP (rk7 s v P n F G k))
theorem rk_0 (h : e7 s v P n k = 0) : rk7 s v P n F G k = none := by
  unfold rk7 rw7
  rw [chE_end h]; rfl
theorem ch_sum (hb : bl7 s v n) (hn : n ≤ 600) (hP : PN s v P n) : ∀ (d k : Nat) (r : Rb), n - k ≤ d → cv s v n k = 0 → sk s v k = S → sm (gL s v P n S f) (chE s v P n k r).1 = sm (gL s v P n S f) k + (if st7 s v P n k = true then f k else 0) := by
  intro d
  have z0 : ∀ k r, e7 s v P n k = 0 → sm (gL s v P n S f) (chE s v P n k r).1 = sm (gL s v P n S f) k + (if st7 s v P n k = true then f k else 0) := by
    intro k r e
    rw [chE_end e, if_neg (fun z => by have := (st_ex z).2.1; omega)]; rfl
  induction d with
  | zero =>
    intro k r hd h0 hS
    rcases Nat.eq_zero_or_pos (e7 s v P n k) with e | e
    · exact z0 k r e
    · have := e7_lt e; omega
  | succ d ih =>
    intro k r hd h0 hS
    rcases Nat.eq_zero_or_pos (e7 s v P n k) with e | e
    · exact z0 k r e
    · have nx := it_nx hb hn hP h0 e
      have lt := e7_lt e
      rw [chE_go e, ih _ _ (by omega) nx.2.1 (nx.2.2.2.1.trans hS)]
      have st : ¬ st7 s v P n (k + e7 s v P n k) = true := fun z => by
        have := (st_ex z).2.2
        rw [nx.2.2.1] at this; cases this
      rw [if_neg st]
      have g := gl_it (f := f) hb hn hP h0 e
      rw [hS] at g
      rw [g]; rfl
/-- from one row to the next -/
theorem lv_sum (hb : bl7 s v n) (hn : n ≤ 600) (hP : PN s v P n) (h0 : cv s v n k = 0) (hl : lk7 s v P n k = false) (hS : sk s v k = S) (he : e7 s v P n (chE s v P n k ([], false, false)).1 = 0) (hf : e7 s v P n k = 0 → f k = 0) : sm (gL s v P n S f) ((chE s v P n k ([], false, false)).1 + 1) = sm (gL s v P n S f) k + f k := by
  rw [gl_zr he, ch_sum hb hn hP _ k _ (Nat.le_refl _) h0 hS]
  rcases Nat.eq_zero_or_pos (e7 s v P n k) with e | e
  · rw [if_neg (fun z => by have := (st_ex z).2.1; omega), hf e]
  · rw [if_pos (by unfold st7; rw [h0, hl, decide_eq_true e]; rfl)]
theorem nI_z {z : Int32} : z = z + nI 0 := by
  rw [show nI 0 = (0 : Int32) from rfl, Int32.add_zero]
theorem nI_p {z : Int32} {a b : Nat} : z + nI a + nI b = z + nI (a + b) := by
  rw [Int32.add_assoc, nI_add]
theorem wh_eo {r : Rb} (h : wh7 r = true) : eo7 r.1 = true := by
  simp only [wh7, Bool.and_eq_true] at h; exact h.2.2
theorem sm_y2 {S : List Nat} (he : e7 s v P n to = 0) (h1 : to ≤ k) (h2 : k ≤ to + 1) : sm (gL s v P n S f) k = sm (gL s v P n S f) to := by
  have h : k = to ∨ k = to + 1 := by omega
  rcases h with e | e
  · rw [e]
  · rw [e]; exact gl_zr he
/-- what a row adds -/
theorem pr_no {r : Rb} (h : wh7 r = false) : rr7 v F G r = none := by unfold rr7; rw [if_neg (by rw [h]; decide)]
theorem pr_step {r : Rb} {B B' : List Sp} {t t' c c' : Int32} {w w' : Nat} (h : wh7 r = true) (q0 : rs7 v F G B r.1 = none → (w' = w ∧ c' = c + 1 ∧ t' = t)) (q1 : ∀ x9, rs7 v F G B r.1 = some x9 → (B' = (fin7 x9).2.2 ∧ t' = t + 1 ∧ c' = c)) (qb : w' = w → B' = B) :
    B' = oP (rr7 v F G r) ++ B ∧ t' = t + nI (oR (rr7 v F G r)) ∧ c' = c + nI (oC (rr7 v F G r)) := by
  unfold rr7
  rw [if_pos h]
  rw [rs_ap] at q0 q1
  cases hx : rs7 v F G [] r.1 with
  | none =>
    rw [hx] at q0
    obtain ⟨e1, e2, e3⟩ := q0 rfl
    exact ⟨qb e1, by rw [e3]; exact nI_z, e2⟩
  | some x =>
    rw [hx] at q1
    obtain ⟨e1, e2, e3⟩ := q1 _ rfl
    refine ⟨?_, e2, by rw [e3]; exact nI_z⟩
    rw [e1, fin_ap]; rfl
end RWJ
/-! every pair lies among the tokens -/
def iN7 (n : Nat) (x : Int32) : Prop := ∃ a, x = nI a ∧ a < n
def iS7 (n : Nat) (p : Sp) : Prop := iN7 n p.1 ∧ iN7 n p.2
def iX7 (n : Nat) (x : Rs) : Prop := (∀ w, w ∈ x.1 → w.2.2 = -1 ∨ iN7 n w.2.2) ∧ (∀ p, p ∈ x.2.1 → iS7 n p) ∧ (∀ p, p ∈ x.2.2 → iS7 n p)
theorem mem_c {α : Type} {P : α → Prop} {a : α} {L : List α} (h : P a) (t : ∀ p, p ∈ L → P p) : ∀ p, p ∈ a :: L → P p := fun p hp => by
  cases List.mem_cons.mp hp with
  | inl e => rw [e]; exact h
  | inr e => exact t p e
theorem gv_in {n : Nat} {x : Rs} (h : iX7 n x) : iX7 n (gv7 x) := by
  obtain ⟨W, O, R⟩ := x
  obtain ⟨h1, h2, h3⟩ := h
  cases W with
  | nil => exact ⟨h1, h2, h3⟩
  | cons w W =>
    cases O with
    | nil => exact ⟨h1, h2, h3⟩
    | cons a O =>
      have ha : iS7 n a := h2 a List.mem_cons_self
      have hW : ∀ z, z ∈ W → z.2.2 = -1 ∨ iN7 n z.2.2 := fun z hz => h1 z (List.mem_cons_of_mem _ hz)
      have hO : ∀ z, z ∈ O → iS7 n z := fun z hz => h2 z (List.mem_cons_of_mem _ hz)
      unfold gv7
      by_cases e : w.2.2 = -1
      · simp only [e, if_true]
        cases O with
        | nil => exact ⟨hW, mem_c ha (fun _ z => absurd z List.not_mem_nil), mem_c ha h3⟩
        | cons b O =>
          have hb : iS7 n (b.1, a.2) := ⟨(hO b List.mem_cons_self).1, ha.2⟩
          exact ⟨hW, mem_c hb (fun z hz => hO z (List.mem_cons_of_mem _ hz)), mem_c hb h3⟩
      · simp only [e, if_false]
        have hw : iS7 n (w.2.2, a.2) := ⟨(h1 w List.mem_cons_self).resolve_left e, ha.2⟩
        exact ⟨hW, mem_c hw hO, mem_c hw h3⟩
theorem ps_in {n : Nat} {x : Rs} {lv sd mp : Int32} (h : iX7 n x) (hm : mp = -1 ∨ iN7 n mp) : iX7 n (ps7 lv sd mp x) := ⟨mem_c (P := fun w : Int32 × Int32 × Int32 => w.2.2 = -1 ∨ iN7 n w.2.2) hm h.1, h.2⟩
theorem tk_in {n : Nat} {lv sd : Int32} : ∀ (f : Nat) (x y : Rs), iX7 n x → tk7 lv sd f x = some y → iX7 n y
  | 0, x, y, h, e => by
    rw [tk7] at e; injection e with e; subst e; exact ps_in h (Or.inl rfl)
  | f + 1, x, y, h, e => by
    rw [tk7] at e
    split at e
    · injection e with e; subst e; exact ps_in h (Or.inl rfl)
    · split at e
      · cases e
      · split at e
        · injection e with e; subst e; exact ps_in h (Or.inl rfl)
        · exact tk_in f _ y (gv_in h) e
theorem mn_in {n : Nat} {pl : Int32} {x y : Rs} (h : iX7 n x) (hp : iN7 n pl) (e : mn7 pl x = some y) : iX7 n y := by
  unfold mn7 at e
  split at e
  · injection e with e; subst e; exact ps_in h (Or.inr hp)
  · split at e
    · cases e
    · injection e with e; subst e; exact ps_in h (Or.inr hp)
theorem tI_in {n : Nat} {v : Nat → Int64} {F G : Int64 → Int32} {i : It} {x y : Rs} (h : iX7 n x) (hi : iN7 n i.1 ∧ iN7 n i.2.1) (e : tI7 v F G i x = some y) : iX7 n y := by
  unfold tI7 at e
  split at e
  · exact tk_in _ _ _ h e
  · split at e
    · exact mn_in h hi.1 e
    · injection e with e; subst e; exact ⟨h.1, mem_c hi h.2.1, h.2.2⟩
theorem rs_in {n : Nat} {v : Nat → Int64} {F G : Int64 → Int32} {B : List Sp} (hB : ∀ p, p ∈ B → iS7 n p) : ∀ (L : List It) (y : Rs), (∀ i, i ∈ L → iN7 n i.1 ∧ iN7 n i.2.1) → rs7 v F G B L = some y → iX7 n y
  | [], y, _, e => by
    rw [rs7] at e; injection e with e; subst e
    exact ⟨fun _ z => absurd z List.not_mem_nil, fun _ z => absurd z List.not_mem_nil, hB⟩
  | i :: L, y, h, e => by
    rw [rs7] at e
    split at e
    · cases e
    · rename_i x ex
      exact tI_in (rs_in hB L x (fun z hz => h z (List.mem_cons_of_mem _ hz)) ex) (h i List.mem_cons_self) e
theorem fi_in {n : Nat} : ∀ (f : Nat) (x : Rs), iX7 n x → iX7 n (fi7 f x)
  | 0, _, h => h
  | f + 1, x, h => fi_in f (gv7 x) (gv_in h)
/-! every pair of a row lies among the tokens -/
section RWY
variable {s : Nat → Int32} {v : Nat → Int64} {P : Nat → Int32} {n k : Nat} {F G : Int64 → Int32} {r : Rb} {a b : Int32}
def RGI (n : Nat) (L : List It) : Prop := ∀ i, i ∈ L → iN7 n i.1 ∧ iN7 n i.2.1
theorem rgi_A (ha : iN7 n a) (hb : iN7 n b) (h : RGI n r.1) : RGI n (rbA a b r).1 := by
  have ps : RGI n ((a, b, 0) :: r.1) := fun i hi => by
    rcases List.mem_cons.mp hi with e | e
    · rw [e]; exact ⟨ha, hb⟩
    · exact h i e
  unfold rbA
  cases hr : r.1 with
  | nil => rw [hr] at ps; exact ps
  | cons x L =>
    rw [hr] at ps h
    show RGI n (if x.2.2 = 0 then ((x.1, b, x.2.2) :: L, r.2) else ((a, b, 0) :: x :: L, r.2)).1
    by_cases z : x.2.2 = 0
    · rw [if_pos z]
      intro i hi
      rcases List.mem_cons.mp hi with e | e
      · rw [e]; exact ⟨(h x List.mem_cons_self).1, hb⟩
      · exact h i (List.mem_cons_of_mem _ e)
    · rw [if_neg z]; exact ps
theorem rgi_N (hb : bl7 s v n) (hn : n ≤ 600) (hP : PN s v P n) (he : 0 < e7 s v P n k) (h : RGI n r.1) : RGI n (rbN s v P n k r).1 := by
  have hin := exN_in hn (pn_pt hb hn hP) he
  have hin' : k + e7 s v P n k ≤ n := hin
  have h1 : iN7 n (nI k) := ⟨k, rfl, e7_lt he⟩
  have h2 : iN7 n (nI (k + e7 s v P n k - 1)) := ⟨_, rfl, by omega⟩
  unfold rbN
  by_cases ho : opB s v n k = true
  · rw [if_pos ho]
    intro i hi
    rcases List.mem_cons.mp hi with e | e
    · rw [e]; exact ⟨h1, h2⟩
    · exact h i e
  · rw [if_neg ho]; exact rgi_A h1 h2 h
theorem rgi_ch (hb : bl7 s v n) (hn : n ≤ 600) (hP : PN s v P n) : ∀ (f k : Nat) (r : Rb), RGI n r.1 → RGI n (ch7 s v P n f k r).2.1
  | 0, _, _, h => h
  | f + 1, k, r, h => by
    rw [ch7]
    by_cases z : 0 < e7 s v P n k
    · rw [if_pos z]; exact rgi_ch hb hn hP f _ _ (rgi_N hb hn hP z h)
    · rw [if_neg z]; exact h
theorem rk_in (hb : bl7 s v n) (hn : n ≤ 600) (hP : PN s v P n) : ∀ p, p ∈ oP (rk7 s v P n F G k) → iS7 n p := by
  have hr : RGI n (rw7 s v P n k).1 := rgi_ch hb hn hP _ _ _ (fun i hi => absurd hi List.not_mem_nil)
  show ∀ p, p ∈ oP (rr7 v F G (rw7 s v P n k)) → iS7 n p
  unfold rr7
  by_cases w : wh7 (rw7 s v P n k) = true
  · rw [if_pos w]
    cases hx : rs7 v F G [] (rw7 s v P n k).1 with
    | none => exact fun p hp => absurd hp List.not_mem_nil
    | some x =>
      have hi := rs_in (n := n) (B := []) (fun p hp => absurd hp List.not_mem_nil) _ x hr hx
      exact (fi_in x.1.length x hi).2.2
  · rw [if_neg w]; exact fun p hp => absurd hp List.not_mem_nil
theorem mem_ap {A B : List Sp} (h1 : ∀ p, p ∈ A → iS7 n p) (h2 : ∀ p, p ∈ B → iS7 n p) : ∀ p, p ∈ A ++ B → iS7 n p := fun p hp => (List.mem_append.mp hp).elim (h1 p) (h2 p)
def IR7 (A B : Nat → Int32) (m n : Nat) : Prop := ∀ k, k < m → ∃ a b, A k = nI a ∧ B k = nI b ∧ a < n ∧ b < n
theorem z2_mem {A B : Nat → Int32} {j : Nat} : ∀ m, j < m → (A j, B j) ∈ z2 A B m
  | 0, h => absurd h (Nat.not_lt_zero _)
  | m + 1, h => by
    rw [z2]
    by_cases e : j = m
    · rw [e]; exact List.mem_cons_self
    · exact List.mem_cons_of_mem _ (z2_mem m (by omega))
theorem ir_of {A B : Nat → Int32} {m n' : Nat} (h : ∀ p, p ∈ z2 A B m → iS7 n p) (hn : n ≤ n') : IR7 A B m n' := fun k hk => by
  obtain ⟨⟨a, e1, l1⟩, ⟨b, e2, l2⟩⟩ := h _ (z2_mem m hk)
  exact ⟨a, b, e1, e2, by omega, by omega⟩
end RWY
