set_option maxHeartbeats 8000000 in
set_option maxRecDepth 100000 in
theorem lw_write_wlo {p : Program} {e : Env} {s : State} {m : MethodId} {below : List Frame} {meth : Method} {c : Code} (l : Launch) (hnt : l.stackTraces = false) {b : Nat} {xs : Nat → Int32} {A : Nat → Prop} (hAe : A = fun q => s.heap.size ≤ q) (C0 : lw_At p s m meth c b 5 xs) (hC : tx_C s) (dC : Nat → ClassId) (dI : Nat → Nat → Nat) (ax q1 q3 q7 q15 q21 q38 q41 ay q42 q43 q44 q45 q46 q47 q48 q49 q50 q51 q52 q53 q54 q55 q56 q57 q58 q59 q60 q61 q62 q63 q64 q65 q66 q67 q68 ao : Nat) (ev : Int64) (ix : Int32) (gi : ix < 1) (hev : ((xs 1).toInt64 <<< ((32 : Int32).toInt64 &&& 63)) ||| ((xs 2).toInt64 &&& 4294967295) = ev) (hix : xs 3 = ix) {H : Heap} {locs : List Loc} {ls : Array Slot} (hl : lv_has ls 8 [(4, .int 0), (3, .ref ao), (2, .ref ay), (1, .ref ax), (0, .ref b)]) (hP : va_P (dC, dI) vcl [(ax, .inr (0, [.ref q1, .ref q3, .ref q7, .ref q15, .ref q21, .ref q38, .ref q41, .int (-1)])), (ay, .inr (1, [.int 0, .int 0, .ref q42, .int 0, .int (-1), .int 0, .int 0, .ref q43, .ref q44, .ref q45, .ref q46, .ref q47, .int 0, .int 0, .ref q48, .int 0, .int 0, .ref q49, .ref q50, .ref q51, .ref q52, .ref q53, .ref q54, .int 0, .ref q55, .ref q56, .int 0, .int 0, .int 0, .int 0, .int 0, .int 0, .ref q57, .ref q58, .ref q59, .int 0, .int 0, .int 0, .int 0, .int 0, .int 0, .ref q60, .ref q61, .ref q62, .ref q63, .ref q64, .ref q65, .ref q66, .ref q67, .ref q68]))] H) (hK : va_K (dC, dI) vcl [] s) (hD : va_D A [(ax, .inr (0, [.ref q1, .ref q3, .ref q7, .ref q15, .ref q21, .ref q38, .ref q41, .int (-1)])), (ay, .inr (1, [.int 0, .int 0, .ref q42, .int 0, .int (-1), .int 0, .int 0, .ref q43, .ref q44, .ref q45, .ref q46, .ref q47, .int 0, .int 0, .ref q48, .int 0, .int 0, .ref q49, .ref q50, .ref q51, .ref q52, .ref q53, .ref q54, .int 0, .ref q55, .ref q56, .int 0, .int 0, .int 0, .int 0, .int 0, .int 0, .ref q57, .ref q58, .ref q59, .int 0, .int 0, .int 0, .int 0, .int 0, .int 0, .ref q60, .ref q61, .ref q62, .ref q63, .ref q64, .ref q65, .ref q66, .ref q67, .ref q68]))]) (hS : va_S A s.heap H locs) : W p l e room_1 s m #[Value.ref b] below meth c H locs 71 12106 (lw_Z below #[Value.ref b] s) (F0 m 84 ls []) := by
  have C1 := C0
  obtain ⟨hx, hb, hr, hml, hown0, hts, hX, hbl, hlocks, hgv⟩ := C0
  have hown : s.vm.findClass R_Law = some m.cls := hown0
  have hz : ∀ w ∈ wz, w.before #[Value.ref b] s = true := fun w h => hts w (zin w h)
  have hA : ∀ q, s.heap.size ≤ q → A q := fun q h => by rw [hAe]; exact h
  have hbA : ¬ A b := by rw [hAe]; exact Nat.not_le.mpr hbl
  refine lv_aload_n hx hb d_Law_law_84 rfl (lv_at hl 3 rfl) ?_
  refine lv_aload_n hx hb d_Law_law_85 rfl (lv_at hl 4 rfl) ?_
  refine lv_iload hx hb d_Law_law_86 (lv_at hl 0 rfl) ?_
  refine lv_iconst (v := 1) hx hb d_Law_law_88 (by decide) ?_
  refine xr_iadd (v := 1) hx hb d_Law_law_89 (by decide +kernel) ?_
  refine xr_sld (j := 1) (v := (xs 1)) hx hb hX hbl hbA hS (xr_in (by decide +kernel)) (by decide +kernel) rfl d_Law_law_90 ?_
  refine lv_i2l (v := (xs 1).toInt64) hx hb d_Law_law_91 rfl ?_
  refine lv_bipush (v := 32) hx hb d_Law_law_92 (by decide) ?_
  refine lv_lshl (v := ((xs 1).toInt64 <<< ((32 : Int32).toInt64 &&& 63))) hx hb d_Law_law_94 rfl ?_
  refine lv_aload_n hx hb d_Law_law_95 rfl (lv_at hl 4 rfl) ?_
  refine lv_iload hx hb d_Law_law_96 (lv_at hl 0 rfl) ?_
  refine lv_iconst (v := 2) hx hb d_Law_law_98 (by decide) ?_
  refine xr_iadd (v := 2) hx hb d_Law_law_99 (by decide +kernel) ?_
  refine xr_sld (j := 2) (v := (xs 2)) hx hb hX hbl hbA hS (xr_in (by decide +kernel)) (by decide +kernel) rfl d_Law_law_100 ?_
  refine lv_i2l (v := (xs 2).toInt64) hx hb d_Law_law_101 rfl ?_
  refine lv_ldc2 (v := 4294967295) hx hb hown (hz (.constantLong R_Law 42 4294967295) zm_532) d_Law_law_102 ?_
  refine xr_land (v := ((xs 2).toInt64 &&& 4294967295)) hx hb d_Law_law_105 rfl ?_
  refine xr_lor (v := ev) hx hb d_Law_law_106 hev ?_
  refine lv_aload_n hx hb d_Law_law_107 rfl (lv_at hl 4 rfl) ?_
  refine lv_iload hx hb d_Law_law_108 (lv_at hl 0 rfl) ?_
  refine lv_iconst (v := 3) hx hb d_Law_law_110 (by decide) ?_
  refine xr_iadd (v := 3) hx hb d_Law_law_111 (by decide +kernel) ?_
  refine xr_sld (j := 3) (v := ix) hx hb hX hbl hbA hS (xr_in (by decide +kernel)) (by decide +kernel) hix d_Law_law_112 ?_
  refine lv_aload_n hx hb d_Law_law_113 rfl (lv_at hl 1 rfl) ?_
  have hPc := hP.sub (ws' := [(ax, .inr (0, [.ref q1, .ref q3, .ref q7, .ref q15, .ref q21, .ref q38, .ref q41, .int (-1)]))]) [0] rfl
  have hKc := hK.sub (tys' := []) [] rfl
  refine va_calli (tx_runSW (n := 4) (hh := [(0, 11, 14, 13), (0, 11, 18, 15)]) (As := [.ref ax, .long ev, .int ix, .ref ao]) (rest := []) ⟨hx, hb, hml, hown, hz⟩ (cw_write_wlo l hnt dC dI ax q1 q3 q7 q15 q21 q38 q41 ao ev ix gi) rfl rfl (Nat.le_of_ble_eq_true rfl) (Nat.le_of_ble_eq_true rfl) (zH hz zm_536) List.mem_cons_self (hz _ zm_536) (hz (.initialized R_Law) zm_535) (by decide +kernel) (by decide +kernel) (hz (.methodLink R_Law 44 y_Law_write) zm_533) (hz (.static y_Law_write) zm_534) ⟨fun a U g mk q => by obtain ⟨q0, qP, qK, qC⟩ := q; exact ⟨q0, qP, va_K.moved (u := U) (U := U.calling g mk a) (Vm.Alike.refl U.vm) qK, tx_C.same (u := U) (U := U.calling g mk a) rfl rfl qC⟩, fun U hU hW => ⟨rfl, by rw [hU]; exact hPc, va_K.moved hW.alike hKc, hC.warm hW (fun z hz9 => by rw [hU]; exact hS.2.1 z hz9 (by rw [hAe]; exact Nat.not_le.mpr hz9))⟩⟩ rfl rfl hl.1 rfl (lv_room (Nat.le_of_ble_eq_true rfl)) d_Law_law_114 ⟨by decide, by decide⟩) hS (fun _ _ h => h.elim) (fun _ h => h.elim) (fun r u t H1 locs ht hvm hw hB hz1 hk1 hS => ?_)
  subst r
  have hP : va_P (dC, dI) vcl [(ax, .inr (0, [.ref q1, .ref q3, .ref q7, .ref q15, .ref q21, .ref q38, .ref q41, .int (-1)])), (ay, .inr (1, [.int 0, .int 0, .ref q42, .int 0, .int (-1), .int 0, .int 0, .ref q43, .ref q44, .ref q45, .ref q46, .ref q47, .int 0, .int 0, .ref q48, .int 0, .int 0, .ref q49, .ref q50, .ref q51, .ref q52, .ref q53, .ref q54, .int 0, .ref q55, .ref q56, .int 0, .int 0, .int 0, .int 0, .int 0, .int 0, .ref q57, .ref q58, .ref q59, .int 0, .int 0, .int 0, .int 0, .int 0, .int 0, .ref q60, .ref q61, .ref q62, .ref q63, .ref q64, .ref q65, .ref q66, .ref q67, .ref q68]))] H1 := hP.kept (fun k q hk => hk1 q.1 ((hP k q hk).lt) (fun h => h))
  generalize H1 = H at hP hS ⊢
  refine W.widen (k := 72) (n := 12112) (by decide) (by decide) ?_
  refine lv_istore hx hb d_Law_law_117 hl (by decide) rfl (fun ls hl => ?_)
  have hl : lv_has ls 8 [(5, .int 1), (4, .int 0), (3, .ref ao), (2, .ref ay), (1, .ref ax), (0, .ref b)] := hl
  refine lv_aload_n hx hb d_Law_law_119 rfl (lv_at hl 3 rfl) ?_
  refine lv_aload_n hx hb d_Law_law_120 rfl (lv_at hl 5 rfl) ?_
  refine lv_iload hx hb d_Law_law_121 (lv_at hl 1 rfl) ?_
  refine lv_iconst (v := 1) hx hb d_Law_law_123 (by decide) ?_
  refine xr_iadd (v := 1) hx hb d_Law_law_124 (by decide +kernel) ?_
  refine xr_sld (j := 1) (v := (xs 1)) hx hb hX hbl hbA hS (xr_in (by decide +kernel)) (by decide +kernel) rfl d_Law_law_125 ?_
  refine lv_i2l (v := (xs 1).toInt64) hx hb d_Law_law_126 rfl ?_
  refine lv_bipush (v := 32) hx hb d_Law_law_127 (by decide) ?_
  refine lv_lshl (v := ((xs 1).toInt64 <<< ((32 : Int32).toInt64 &&& 63))) hx hb d_Law_law_129 rfl ?_
  refine lv_aload_n hx hb d_Law_law_130 rfl (lv_at hl 5 rfl) ?_
  refine lv_iload hx hb d_Law_law_131 (lv_at hl 1 rfl) ?_
  refine lv_iconst (v := 2) hx hb d_Law_law_133 (by decide) ?_
  refine xr_iadd (v := 2) hx hb d_Law_law_134 (by decide +kernel) ?_
  refine xr_sld (j := 2) (v := (xs 2)) hx hb hX hbl hbA hS (xr_in (by decide +kernel)) (by decide +kernel) rfl d_Law_law_135 ?_
  refine lv_i2l (v := (xs 2).toInt64) hx hb d_Law_law_136 rfl ?_
  refine lv_ldc2 (v := 4294967295) hx hb hown (hz (.constantLong R_Law 42 4294967295) zm_532) d_Law_law_137 ?_
  refine xr_land (v := ((xs 2).toInt64 &&& 4294967295)) hx hb d_Law_law_140 rfl ?_
  refine xr_lor (v := ev) hx hb d_Law_law_141 hev ?_
  refine lv_aload_n hx hb d_Law_law_142 rfl (lv_at hl 5 rfl) ?_
  refine lv_iload hx hb d_Law_law_143 (lv_at hl 1 rfl) ?_
  refine lv_iconst (v := 3) hx hb d_Law_law_145 (by decide) ?_
  refine xr_iadd (v := 3) hx hb d_Law_law_146 (by decide +kernel) ?_
  refine xr_sld (j := 3) (v := ix) hx hb hX hbl hbA hS (xr_in (by decide +kernel)) (by decide +kernel) hix d_Law_law_147 ?_
  have hPc := hP.sub (ws' := [(ay, .inr (1, [.int 0, .int 0, .ref q42, .int 0, .int (-1), .int 0, .int 0, .ref q43, .ref q44, .ref q45, .ref q46, .ref q47, .int 0, .int 0, .ref q48, .int 0, .int 0, .ref q49, .ref q50, .ref q51, .ref q52, .ref q53, .ref q54, .int 0, .ref q55, .ref q56, .int 0, .int 0, .int 0, .int 0, .int 0, .int 0, .ref q57, .ref q58, .ref q59, .int 0, .int 0, .int 0, .int 0, .int 0, .int 0, .ref q60, .ref q61, .ref q62, .ref q63, .ref q64, .ref q65, .ref q66, .ref q67, .ref q68]))]) [1] rfl
  have hDc := hD.sub (ws' := [(ay, .inr (1, [.int 0, .int 0, .ref q42, .int 0, .int (-1), .int 0, .int 0, .ref q43, .ref q44, .ref q45, .ref q46, .ref q47, .int 0, .int 0, .ref q48, .int 0, .int 0, .ref q49, .ref q50, .ref q51, .ref q52, .ref q53, .ref q54, .int 0, .ref q55, .ref q56, .int 0, .int 0, .int 0, .int 0, .int 0, .int 0, .ref q57, .ref q58, .ref q59, .int 0, .int 0, .int 0, .int 0, .int 0, .int 0, .ref q60, .ref q61, .ref q62, .ref q63, .ref q64, .ref q65, .ref q66, .ref q67, .ref q68]))]) [1] (by decide) rfl
  have hKc := hK.sub (tys' := []) [] rfl
  have hFc := va_free (wc := [(ay, .inr (1, [.int 0, .int 0, .ref q42, .int 0, .int (-1), .int 0, .int 0, .ref q43, .ref q44, .ref q45, .ref q46, .ref q47, .int 0, .int 0, .ref q48, .int 0, .int 0, .ref q49, .ref q50, .ref q51, .ref q52, .ref q53, .ref q54, .int 0, .ref q55, .ref q56, .int 0, .int 0, .int 0, .int 0, .int 0, .int 0, .ref q57, .ref q58, .ref q59, .int 0, .int 0, .int 0, .int 0, .int 0, .int 0, .ref q60, .ref q61, .ref q62, .ref q63, .ref q64, .ref q65, .ref q66, .ref q67, .ref q68]))]) hD hS hA [1] rfl
  refine va_calli (va_runV (As := [.long ev, .int ix]) (rest := []) ⟨hx, hb, hml, hown, hz⟩ (c180_Model_write l dC dI H.size ay q42 q43 q44 q45 q46 q47 q48 q49 q50 q51 q52 q53 q54 q55 q56 q57 q58 q59 q60 q61 q62 q63 q64 q65 q66 q67 q68 ev ix gi) (cwV 2 hz (zV zm_537 zm_538 zm_539 zm_374 zm_540) rfl rfl rfl (by decide +kernel) ⟨Nat.le_of_ble_eq_true rfl, Nat.le_of_ble_eq_true rfl⟩) ⟨fun a U g mk q => by obtain ⟨q0, q1, qP, qK, qD⟩ := q; exact ⟨q0, q1, qP, va_K.moved (u := U) (U := U.calling g mk a) (Vm.Alike.refl U.vm) qK, qD⟩, va_recv (q := (R_Model, F_Model, 50)) (q0 := 1) (ci := 1) hK hP rfl rfl, fun U hU hW => ⟨rfl, by rw [hU], by rw [hU]; exact hPc, va_K.moved hW.alike hKc, hDc.weaken (fun _ _ _ _ => trivial)⟩⟩ rfl rfl hl.1 rfl (lv_room (Nat.le_of_ble_eq_true rfl)) d_Law_law_148 ⟨by decide, by decide⟩) hS (fun q _ h => hFc q h) hFc (fun r u t H1 locs ht hvm hw hB hz1 hk1 hS => ?_)
  obtain ⟨hP1, hK1, hD1⟩ := hB
  subst r
  rw [ht] at hP1
  obtain ⟨hP, hD⟩ := va_join (wr := [(ax, .inr (0, [.ref q1, .ref q3, .ref q7, .ref q15, .ref q21, .ref q38, .ref q41, .int (-1)]))]) (w1 := [(ay, .inr (1, [.int 1, .int 0, .ref q42, .int 0, .int (-1), .int 0, .int 0, .ref q43, .ref q44, .ref q45, .ref q46, .ref q47, .int 0, .int 0, .ref q48, .int 0, .int 0, .ref q49, .ref q50, .ref q51, .ref q52, .ref q53, .ref q54, .int 0, .ref q55, .ref q56, .int 0, .int 0, .int 0, .int 0, .int 0, .int 0, .ref q57, .ref q58, .ref q59, .int 0, .int 0, .int 0, .int 0, .int 0, .int 0, .ref q60, .ref q61, .ref q62, .ref q63, .ref q64, .ref q65, .ref q66, .ref q67, .ref q68]))]) hP hD [1] [0] rfl rfl (by decide) (by decide) hk1 hFc hP1 hD1
  generalize H1 = H at hP hS ⊢
  have hP : va_P (dC, dI) vcl [(ax, .inr (0, [.ref q1, .ref q3, .ref q7, .ref q15, .ref q21, .ref q38, .ref q41, .int (-1)])), (ay, .inr (1, [.int 1, .int 0, .ref q42, .int 0, .int (-1), .int 0, .int 0, .ref q43, .ref q44, .ref q45, .ref q46, .ref q47, .int 0, .int 0, .ref q48, .int 0, .int 0, .ref q49, .ref q50, .ref q51, .ref q52, .ref q53, .ref q54, .int 0, .ref q55, .ref q56, .int 0, .int 0, .int 0, .int 0, .int 0, .int 0, .ref q57, .ref q58, .ref q59, .int 0, .int 0, .int 0, .int 0, .int 0, .int 0, .ref q60, .ref q61, .ref q62, .ref q63, .ref q64, .ref q65, .ref q66, .ref q67, .ref q68]))] H := hP
  have hD : va_D A [(ax, .inr (0, [.ref q1, .ref q3, .ref q7, .ref q15, .ref q21, .ref q38, .ref q41, .int (-1)])), (ay, .inr (1, [.int 1, .int 0, .ref q42, .int 0, .int (-1), .int 0, .int 0, .ref q43, .ref q44, .ref q45, .ref q46, .ref q47, .int 0, .int 0, .ref q48, .int 0, .int 0, .ref q49, .ref q50, .ref q51, .ref q52, .ref q53, .ref q54, .int 0, .ref q55, .ref q56, .int 0, .int 0, .int 0, .int 0, .int 0, .int 0, .ref q57, .ref q58, .ref q59, .int 0, .int 0, .int 0, .int 0, .int 0, .int 0, .ref q60, .ref q61, .ref q62, .ref q63, .ref q64, .ref q65, .ref q66, .ref q67, .ref q68]))] := hD
  refine lv_istore hx hb d_Law_law_151 hl (by decide) rfl (fun ls hl => ?_)
  have hl : lv_has ls 8 [(6, .int 0), (5, .int 1), (4, .int 0), (3, .ref ao), (2, .ref ay), (1, .ref ax), (0, .ref b)] := hl
  refine lv_aload_n hx hb d_Law_law_153 rfl (lv_at hl 4 rfl) ?_
  have hPc := hP.sub (ws' := [(ay, .inr (1, [.int 1, .int 0, .ref q42, .int 0, .int (-1), .int 0, .int 0, .ref q43, .ref q44, .ref q45, .ref q46, .ref q47, .int 0, .int 0, .ref q48, .int 0, .int 0, .ref q49, .ref q50, .ref q51, .ref q52, .ref q53, .ref q54, .int 0, .ref q55, .ref q56, .int 0, .int 0, .int 0, .int 0, .int 0, .int 0, .ref q57, .ref q58, .ref q59, .int 0, .int 0, .int 0, .int 0, .int 0, .int 0, .ref q60, .ref q61, .ref q62, .ref q63, .ref q64, .ref q65, .ref q66, .ref q67, .ref q68]))]) [1] rfl
  have hDc := hD.sub (ws' := [(ay, .inr (1, [.int 1, .int 0, .ref q42, .int 0, .int (-1), .int 0, .int 0, .ref q43, .ref q44, .ref q45, .ref q46, .ref q47, .int 0, .int 0, .ref q48, .int 0, .int 0, .ref q49, .ref q50, .ref q51, .ref q52, .ref q53, .ref q54, .int 0, .ref q55, .ref q56, .int 0, .int 0, .int 0, .int 0, .int 0, .int 0, .ref q57, .ref q58, .ref q59, .int 0, .int 0, .int 0, .int 0, .int 0, .int 0, .ref q60, .ref q61, .ref q62, .ref q63, .ref q64, .ref q65, .ref q66, .ref q67, .ref q68]))]) [1] (by decide) rfl
  have hKc := hK.sub (tys' := []) [] rfl
  have hFc := va_free (wc := [(ay, .inr (1, [.int 1, .int 0, .ref q42, .int 0, .int (-1), .int 0, .int 0, .ref q43, .ref q44, .ref q45, .ref q46, .ref q47, .int 0, .int 0, .ref q48, .int 0, .int 0, .ref q49, .ref q50, .ref q51, .ref q52, .ref q53, .ref q54, .int 0, .ref q55, .ref q56, .int 0, .int 0, .int 0, .int 0, .int 0, .int 0, .ref q57, .ref q58, .ref q59, .int 0, .int 0, .int 0, .int 0, .int 0, .int 0, .ref q60, .ref q61, .ref q62, .ref q63, .ref q64, .ref q65, .ref q66, .ref q67, .ref q68]))]) hD hS hA [1] rfl
  refine va_calli (va_runV (As := []) (rest := []) ⟨hx, hb, hml, hown, hz⟩ (c169_Model_thrown l dC dI H.size ay q42 q43 q44 q45 q46 q47 q48 q49 q50 q51 q52 q53 q54 q55 q56 q57 q58 q59 q60 q61 q62 q63 q64 q65 q66 q67 q68) (cwV 0 hz (zV zm_541 zm_542 zm_543 zm_374 zm_544) rfl rfl rfl (by decide +kernel) ⟨Nat.le_of_ble_eq_true rfl, Nat.le_of_ble_eq_true rfl⟩) ⟨fun a U g mk q => by obtain ⟨q0, q1, qP, qK, qD⟩ := q; exact ⟨q0, q1, qP, va_K.moved (u := U) (U := U.calling g mk a) (Vm.Alike.refl U.vm) qK, qD⟩, va_recv (q := (R_Model, F_Model, 50)) (q0 := 1) (ci := 1) hK hP rfl rfl, fun U hU hW => ⟨rfl, by rw [hU], by rw [hU]; exact hPc, va_K.moved hW.alike hKc, hDc.weaken (fun _ _ _ _ => trivial)⟩⟩ rfl rfl hl.1 rfl (lv_room (Nat.le_of_ble_eq_true rfl)) d_Law_law_154 ⟨by decide, by decide⟩) hS (fun q _ h => hFc q h) hFc (fun r u t H1 locs ht hvm hw hB hz1 hk1 hS => ?_)
  obtain ⟨hP1, hK1, hD1⟩ := hB
  subst r
  rw [ht] at hP1
  obtain ⟨hP, hD⟩ := va_join (wr := [(ax, .inr (0, [.ref q1, .ref q3, .ref q7, .ref q15, .ref q21, .ref q38, .ref q41, .int (-1)]))]) (w1 := [(ay, .inr (1, [.int 1, .int 0, .ref q42, .int 0, .int (-1), .int 0, .int 0, .ref q43, .ref q44, .ref q45, .ref q46, .ref q47, .int 0, .int 0, .ref q48, .int 0, .int 0, .ref q49, .ref q50, .ref q51, .ref q52, .ref q53, .ref q54, .int 0, .ref q55, .ref q56, .int 0, .int 0, .int 0, .int 0, .int 0, .int 0, .ref q57, .ref q58, .ref q59, .int 0, .int 0, .int 0, .int 0, .int 0, .int 0, .ref q60, .ref q61, .ref q62, .ref q63, .ref q64, .ref q65, .ref q66, .ref q67, .ref q68]))]) hP hD [1] [0] rfl rfl (by decide) (by decide) hk1 hFc hP1 hD1
  generalize H1 = H at hP hS ⊢
  have hP : va_P (dC, dI) vcl [(ax, .inr (0, [.ref q1, .ref q3, .ref q7, .ref q15, .ref q21, .ref q38, .ref q41, .int (-1)])), (ay, .inr (1, [.int 1, .int 0, .ref q42, .int 0, .int (-1), .int 0, .int 0, .ref q43, .ref q44, .ref q45, .ref q46, .ref q47, .int 0, .int 0, .ref q48, .int 0, .int 0, .ref q49, .ref q50, .ref q51, .ref q52, .ref q53, .ref q54, .int 0, .ref q55, .ref q56, .int 0, .int 0, .int 0, .int 0, .int 0, .int 0, .ref q57, .ref q58, .ref q59, .int 0, .int 0, .int 0, .int 0, .int 0, .int 0, .ref q60, .ref q61, .ref q62, .ref q63, .ref q64, .ref q65, .ref q66, .ref q67, .ref q68]))] H := hP
  have hD : va_D A [(ax, .inr (0, [.ref q1, .ref q3, .ref q7, .ref q15, .ref q21, .ref q38, .ref q41, .int (-1)])), (ay, .inr (1, [.int 1, .int 0, .ref q42, .int 0, .int (-1), .int 0, .int 0, .ref q43, .ref q44, .ref q45, .ref q46, .ref q47, .int 0, .int 0, .ref q48, .int 0, .int 0, .ref q49, .ref q50, .ref q51, .ref q52, .ref q53, .ref q54, .int 0, .ref q55, .ref q56, .int 0, .int 0, .int 0, .int 0, .int 0, .int 0, .ref q57, .ref q58, .ref q59, .int 0, .int 0, .int 0, .int 0, .int 0, .int 0, .ref q60, .ref q61, .ref q62, .ref q63, .ref q64, .ref q65, .ref q66, .ref q67, .ref q68]))] := hD
  refine lv_iload hx hb d_Law_law_157 (lv_at hl 1 rfl) ?_
  refine lv_icmp_eq (tgt := 164) hx hb d_Law_law_159 (by decide) (fun _ => ?_) (fun h => (h (by decide +kernel)).elim)
  refine lv_iload hx hb d_Law_law_164 (lv_at hl 1 rfl) ?_
  refine lv_if_ne (tgt := 181) hx hb d_Law_law_166 (by decide) (fun _ => ?_) (fun h => absurd h (by decide +kernel))
  refine lv_goto (tgt := 533) hx hb d_Law_law_181 (by decide) ?_
  exact lw_fin hAe C1 (lv_sub hl [2, 6] rfl) hS (by decide) (by decide)
set_option maxHeartbeats 8000000 in
set_option maxRecDepth 100000 in
theorem lw_write_whi {p : Program} {e : Env} {s : State} {m : MethodId} {below : List Frame} {meth : Method} {c : Code} (l : Launch) (hnt : l.stackTraces = false) {b : Nat} {xs : Nat → Int32} {A : Nat → Prop} (hAe : A = fun q => s.heap.size ≤ q) (C0 : lw_At p s m meth c b 5 xs) (hC : tx_C s) (dC : Nat → ClassId) (dI : Nat → Nat → Nat) (ax q1 q3 q7 q15 q21 q38 q41 ay q42 q43 q44 q45 q46 q47 q48 q49 q50 q51 q52 q53 q54 q55 q56 q57 q58 q59 q60 q61 q62 q63 q64 q65 q66 q67 q68 ao : Nat) (ev : Int64) (ix : Int32) (gi : ¬ ix < 1) (g8 : 8 < ix) (hev : ((xs 1).toInt64 <<< ((32 : Int32).toInt64 &&& 63)) ||| ((xs 2).toInt64 &&& 4294967295) = ev) (hix : xs 3 = ix) {H : Heap} {locs : List Loc} {ls : Array Slot} (hl : lv_has ls 8 [(4, .int 0), (3, .ref ao), (2, .ref ay), (1, .ref ax), (0, .ref b)]) (hP : va_P (dC, dI) vcl [(ax, .inr (0, [.ref q1, .ref q3, .ref q7, .ref q15, .ref q21, .ref q38, .ref q41, .int (-1)])), (ay, .inr (1, [.int 0, .int 0, .ref q42, .int 0, .int (-1), .int 0, .int 0, .ref q43, .ref q44, .ref q45, .ref q46, .ref q47, .int 0, .int 0, .ref q48, .int 0, .int 0, .ref q49, .ref q50, .ref q51, .ref q52, .ref q53, .ref q54, .int 0, .ref q55, .ref q56, .int 0, .int 0, .int 0, .int 0, .int 0, .int 0, .ref q57, .ref q58, .ref q59, .int 0, .int 0, .int 0, .int 0, .int 0, .int 0, .ref q60, .ref q61, .ref q62, .ref q63, .ref q64, .ref q65, .ref q66, .ref q67, .ref q68]))] H) (hK : va_K (dC, dI) vcl [] s) (hD : va_D A [(ax, .inr (0, [.ref q1, .ref q3, .ref q7, .ref q15, .ref q21, .ref q38, .ref q41, .int (-1)])), (ay, .inr (1, [.int 0, .int 0, .ref q42, .int 0, .int (-1), .int 0, .int 0, .ref q43, .ref q44, .ref q45, .ref q46, .ref q47, .int 0, .int 0, .ref q48, .int 0, .int 0, .ref q49, .ref q50, .ref q51, .ref q52, .ref q53, .ref q54, .int 0, .ref q55, .ref q56, .int 0, .int 0, .int 0, .int 0, .int 0, .int 0, .ref q57, .ref q58, .ref q59, .int 0, .int 0, .int 0, .int 0, .int 0, .int 0, .ref q60, .ref q61, .ref q62, .ref q63, .ref q64, .ref q65, .ref q66, .ref q67, .ref q68]))]) (hS : va_S A s.heap H locs) : W p l e room_1 s m #[Value.ref b] below meth c H locs 71 12106 (lw_Z below #[Value.ref b] s) (F0 m 84 ls []) := by
  have C1 := C0
  obtain ⟨hx, hb, hr, hml, hown0, hts, hX, hbl, hlocks, hgv⟩ := C0
  have hown : s.vm.findClass R_Law = some m.cls := hown0
  have hz : ∀ w ∈ wz, w.before #[Value.ref b] s = true := fun w h => hts w (zin w h)
  have hA : ∀ q, s.heap.size ≤ q → A q := fun q h => by rw [hAe]; exact h
  have hbA : ¬ A b := by rw [hAe]; exact Nat.not_le.mpr hbl
  refine lv_aload_n hx hb d_Law_law_84 rfl (lv_at hl 3 rfl) ?_
  refine lv_aload_n hx hb d_Law_law_85 rfl (lv_at hl 4 rfl) ?_
  refine lv_iload hx hb d_Law_law_86 (lv_at hl 0 rfl) ?_
  refine lv_iconst (v := 1) hx hb d_Law_law_88 (by decide) ?_
  refine xr_iadd (v := 1) hx hb d_Law_law_89 (by decide +kernel) ?_
  refine xr_sld (j := 1) (v := (xs 1)) hx hb hX hbl hbA hS (xr_in (by decide +kernel)) (by decide +kernel) rfl d_Law_law_90 ?_
  refine lv_i2l (v := (xs 1).toInt64) hx hb d_Law_law_91 rfl ?_
  refine lv_bipush (v := 32) hx hb d_Law_law_92 (by decide) ?_
  refine lv_lshl (v := ((xs 1).toInt64 <<< ((32 : Int32).toInt64 &&& 63))) hx hb d_Law_law_94 rfl ?_
  refine lv_aload_n hx hb d_Law_law_95 rfl (lv_at hl 4 rfl) ?_
  refine lv_iload hx hb d_Law_law_96 (lv_at hl 0 rfl) ?_
  refine lv_iconst (v := 2) hx hb d_Law_law_98 (by decide) ?_
  refine xr_iadd (v := 2) hx hb d_Law_law_99 (by decide +kernel) ?_
  refine xr_sld (j := 2) (v := (xs 2)) hx hb hX hbl hbA hS (xr_in (by decide +kernel)) (by decide +kernel) rfl d_Law_law_100 ?_
  refine lv_i2l (v := (xs 2).toInt64) hx hb d_Law_law_101 rfl ?_
  refine lv_ldc2 (v := 4294967295) hx hb hown (hz (.constantLong R_Law 42 4294967295) zm_532) d_Law_law_102 ?_
  refine xr_land (v := ((xs 2).toInt64 &&& 4294967295)) hx hb d_Law_law_105 rfl ?_
  refine xr_lor (v := ev) hx hb d_Law_law_106 hev ?_
  refine lv_aload_n hx hb d_Law_law_107 rfl (lv_at hl 4 rfl) ?_
  refine lv_iload hx hb d_Law_law_108 (lv_at hl 0 rfl) ?_
  refine lv_iconst (v := 3) hx hb d_Law_law_110 (by decide) ?_
  refine xr_iadd (v := 3) hx hb d_Law_law_111 (by decide +kernel) ?_
  refine xr_sld (j := 3) (v := ix) hx hb hX hbl hbA hS (xr_in (by decide +kernel)) (by decide +kernel) hix d_Law_law_112 ?_
  refine lv_aload_n hx hb d_Law_law_113 rfl (lv_at hl 1 rfl) ?_
  have hPc := hP.sub (ws' := [(ax, .inr (0, [.ref q1, .ref q3, .ref q7, .ref q15, .ref q21, .ref q38, .ref q41, .int (-1)]))]) [0] rfl
  have hKc := hK.sub (tys' := []) [] rfl
  refine va_calli (tx_runSW (n := 4) (hh := [(0, 11, 14, 13), (0, 11, 18, 15)]) (As := [.ref ax, .long ev, .int ix, .ref ao]) (rest := []) ⟨hx, hb, hml, hown, hz⟩ (cw_write_whi l hnt dC dI ax q1 q3 q7 q15 q21 q38 q41 ao ev ix gi g8) rfl rfl (Nat.le_of_ble_eq_true rfl) (Nat.le_of_ble_eq_true rfl) (zH hz zm_536) List.mem_cons_self (hz _ zm_536) (hz (.initialized R_Law) zm_535) (by decide +kernel) (by decide +kernel) (hz (.methodLink R_Law 44 y_Law_write) zm_533) (hz (.static y_Law_write) zm_534) ⟨fun a U g mk q => by obtain ⟨q0, qP, qK, qC⟩ := q; exact ⟨q0, qP, va_K.moved (u := U) (U := U.calling g mk a) (Vm.Alike.refl U.vm) qK, tx_C.same (u := U) (U := U.calling g mk a) rfl rfl qC⟩, fun U hU hW => ⟨rfl, by rw [hU]; exact hPc, va_K.moved hW.alike hKc, hC.warm hW (fun z hz9 => by rw [hU]; exact hS.2.1 z hz9 (by rw [hAe]; exact Nat.not_le.mpr hz9))⟩⟩ rfl rfl hl.1 rfl (lv_room (Nat.le_of_ble_eq_true rfl)) d_Law_law_114 ⟨by decide, by decide⟩) hS (fun _ _ h => h.elim) (fun _ h => h.elim) (fun r u t H1 locs ht hvm hw hB hz1 hk1 hS => ?_)
  subst r
  have hP : va_P (dC, dI) vcl [(ax, .inr (0, [.ref q1, .ref q3, .ref q7, .ref q15, .ref q21, .ref q38, .ref q41, .int (-1)])), (ay, .inr (1, [.int 0, .int 0, .ref q42, .int 0, .int (-1), .int 0, .int 0, .ref q43, .ref q44, .ref q45, .ref q46, .ref q47, .int 0, .int 0, .ref q48, .int 0, .int 0, .ref q49, .ref q50, .ref q51, .ref q52, .ref q53, .ref q54, .int 0, .ref q55, .ref q56, .int 0, .int 0, .int 0, .int 0, .int 0, .int 0, .ref q57, .ref q58, .ref q59, .int 0, .int 0, .int 0, .int 0, .int 0, .int 0, .ref q60, .ref q61, .ref q62, .ref q63, .ref q64, .ref q65, .ref q66, .ref q67, .ref q68]))] H1 := hP.kept (fun k q hk => hk1 q.1 ((hP k q hk).lt) (fun h => h))
  generalize H1 = H at hP hS ⊢
  refine W.widen (k := 72) (n := 12112) (by decide) (by decide) ?_
  refine lv_istore hx hb d_Law_law_117 hl (by decide) rfl (fun ls hl => ?_)
  have hl : lv_has ls 8 [(5, .int 1), (4, .int 0), (3, .ref ao), (2, .ref ay), (1, .ref ax), (0, .ref b)] := hl
  refine lv_aload_n hx hb d_Law_law_119 rfl (lv_at hl 3 rfl) ?_
  refine lv_aload_n hx hb d_Law_law_120 rfl (lv_at hl 5 rfl) ?_
  refine lv_iload hx hb d_Law_law_121 (lv_at hl 1 rfl) ?_
  refine lv_iconst (v := 1) hx hb d_Law_law_123 (by decide) ?_
  refine xr_iadd (v := 1) hx hb d_Law_law_124 (by decide +kernel) ?_
  refine xr_sld (j := 1) (v := (xs 1)) hx hb hX hbl hbA hS (xr_in (by decide +kernel)) (by decide +kernel) rfl d_Law_law_125 ?_
  refine lv_i2l (v := (xs 1).toInt64) hx hb d_Law_law_126 rfl ?_
  refine lv_bipush (v := 32) hx hb d_Law_law_127 (by decide) ?_
  refine lv_lshl (v := ((xs 1).toInt64 <<< ((32 : Int32).toInt64 &&& 63))) hx hb d_Law_law_129 rfl ?_
  refine lv_aload_n hx hb d_Law_law_130 rfl (lv_at hl 5 rfl) ?_
  refine lv_iload hx hb d_Law_law_131 (lv_at hl 1 rfl) ?_
  refine lv_iconst (v := 2) hx hb d_Law_law_133 (by decide) ?_
  refine xr_iadd (v := 2) hx hb d_Law_law_134 (by decide +kernel) ?_
  refine xr_sld (j := 2) (v := (xs 2)) hx hb hX hbl hbA hS (xr_in (by decide +kernel)) (by decide +kernel) rfl d_Law_law_135 ?_
  refine lv_i2l (v := (xs 2).toInt64) hx hb d_Law_law_136 rfl ?_
  refine lv_ldc2 (v := 4294967295) hx hb hown (hz (.constantLong R_Law 42 4294967295) zm_532) d_Law_law_137 ?_
  refine xr_land (v := ((xs 2).toInt64 &&& 4294967295)) hx hb d_Law_law_140 rfl ?_
  refine xr_lor (v := ev) hx hb d_Law_law_141 hev ?_
  refine lv_aload_n hx hb d_Law_law_142 rfl (lv_at hl 5 rfl) ?_
  refine lv_iload hx hb d_Law_law_143 (lv_at hl 1 rfl) ?_
  refine lv_iconst (v := 3) hx hb d_Law_law_145 (by decide) ?_
  refine xr_iadd (v := 3) hx hb d_Law_law_146 (by decide +kernel) ?_
  refine xr_sld (j := 3) (v := ix) hx hb hX hbl hbA hS (xr_in (by decide +kernel)) (by decide +kernel) hix d_Law_law_147 ?_
  have hPc := hP.sub (ws' := [(ay, .inr (1, [.int 0, .int 0, .ref q42, .int 0, .int (-1), .int 0, .int 0, .ref q43, .ref q44, .ref q45, .ref q46, .ref q47, .int 0, .int 0, .ref q48, .int 0, .int 0, .ref q49, .ref q50, .ref q51, .ref q52, .ref q53, .ref q54, .int 0, .ref q55, .ref q56, .int 0, .int 0, .int 0, .int 0, .int 0, .int 0, .ref q57, .ref q58, .ref q59, .int 0, .int 0, .int 0, .int 0, .int 0, .int 0, .ref q60, .ref q61, .ref q62, .ref q63, .ref q64, .ref q65, .ref q66, .ref q67, .ref q68]))]) [1] rfl
  have hDc := hD.sub (ws' := [(ay, .inr (1, [.int 0, .int 0, .ref q42, .int 0, .int (-1), .int 0, .int 0, .ref q43, .ref q44, .ref q45, .ref q46, .ref q47, .int 0, .int 0, .ref q48, .int 0, .int 0, .ref q49, .ref q50, .ref q51, .ref q52, .ref q53, .ref q54, .int 0, .ref q55, .ref q56, .int 0, .int 0, .int 0, .int 0, .int 0, .int 0, .ref q57, .ref q58, .ref q59, .int 0, .int 0, .int 0, .int 0, .int 0, .int 0, .ref q60, .ref q61, .ref q62, .ref q63, .ref q64, .ref q65, .ref q66, .ref q67, .ref q68]))]) [1] (by decide) rfl
  have hKc := hK.sub (tys' := []) [] rfl
  have hFc := va_free (wc := [(ay, .inr (1, [.int 0, .int 0, .ref q42, .int 0, .int (-1), .int 0, .int 0, .ref q43, .ref q44, .ref q45, .ref q46, .ref q47, .int 0, .int 0, .ref q48, .int 0, .int 0, .ref q49, .ref q50, .ref q51, .ref q52, .ref q53, .ref q54, .int 0, .ref q55, .ref q56, .int 0, .int 0, .int 0, .int 0, .int 0, .int 0, .ref q57, .ref q58, .ref q59, .int 0, .int 0, .int 0, .int 0, .int 0, .int 0, .ref q60, .ref q61, .ref q62, .ref q63, .ref q64, .ref q65, .ref q66, .ref q67, .ref q68]))]) hD hS hA [1] rfl
  refine va_calli (va_runV (As := [.long ev, .int ix]) (rest := []) ⟨hx, hb, hml, hown, hz⟩ (c182_Model_write l dC dI H.size ay q42 q43 q44 q45 q46 q47 q48 q49 q50 q51 q52 q53 q54 q55 q56 q57 q58 q59 q60 q61 q62 q63 q64 q65 q66 q67 q68 ev ix gi g8) (cwV 2 hz (zV zm_537 zm_538 zm_539 zm_374 zm_540) rfl rfl rfl (by decide +kernel) ⟨Nat.le_of_ble_eq_true rfl, Nat.le_of_ble_eq_true rfl⟩) ⟨fun a U g mk q => by obtain ⟨q0, q1, qP, qK, qD⟩ := q; exact ⟨q0, q1, qP, va_K.moved (u := U) (U := U.calling g mk a) (Vm.Alike.refl U.vm) qK, qD⟩, va_recv (q := (R_Model, F_Model, 50)) (q0 := 1) (ci := 1) hK hP rfl rfl, fun U hU hW => ⟨rfl, by rw [hU], by rw [hU]; exact hPc, va_K.moved hW.alike hKc, hDc.weaken (fun _ _ _ _ => trivial)⟩⟩ rfl rfl hl.1 rfl (lv_room (Nat.le_of_ble_eq_true rfl)) d_Law_law_148 ⟨by decide, by decide⟩) hS (fun q _ h => hFc q h) hFc (fun r u t H1 locs ht hvm hw hB hz1 hk1 hS => ?_)
  obtain ⟨hP1, hK1, hD1⟩ := hB
  subst r
  rw [ht] at hP1
  obtain ⟨hP, hD⟩ := va_join (wr := [(ax, .inr (0, [.ref q1, .ref q3, .ref q7, .ref q15, .ref q21, .ref q38, .ref q41, .int (-1)]))]) (w1 := [(ay, .inr (1, [.int 1, .int 0, .ref q42, .int 0, .int (-1), .int 0, .int 0, .ref q43, .ref q44, .ref q45, .ref q46, .ref q47, .int 0, .int 0, .ref q48, .int 0, .int 0, .ref q49, .ref q50, .ref q51, .ref q52, .ref q53, .ref q54, .int 0, .ref q55, .ref q56, .int 0, .int 0, .int 0, .int 0, .int 0, .int 0, .ref q57, .ref q58, .ref q59, .int 0, .int 0, .int 0, .int 0, .int 0, .int 0, .ref q60, .ref q61, .ref q62, .ref q63, .ref q64, .ref q65, .ref q66, .ref q67, .ref q68]))]) hP hD [1] [0] rfl rfl (by decide) (by decide) hk1 hFc hP1 hD1
  generalize H1 = H at hP hS ⊢
  have hP : va_P (dC, dI) vcl [(ax, .inr (0, [.ref q1, .ref q3, .ref q7, .ref q15, .ref q21, .ref q38, .ref q41, .int (-1)])), (ay, .inr (1, [.int 1, .int 0, .ref q42, .int 0, .int (-1), .int 0, .int 0, .ref q43, .ref q44, .ref q45, .ref q46, .ref q47, .int 0, .int 0, .ref q48, .int 0, .int 0, .ref q49, .ref q50, .ref q51, .ref q52, .ref q53, .ref q54, .int 0, .ref q55, .ref q56, .int 0, .int 0, .int 0, .int 0, .int 0, .int 0, .ref q57, .ref q58, .ref q59, .int 0, .int 0, .int 0, .int 0, .int 0, .int 0, .ref q60, .ref q61, .ref q62, .ref q63, .ref q64, .ref q65, .ref q66, .ref q67, .ref q68]))] H := hP
  have hD : va_D A [(ax, .inr (0, [.ref q1, .ref q3, .ref q7, .ref q15, .ref q21, .ref q38, .ref q41, .int (-1)])), (ay, .inr (1, [.int 1, .int 0, .ref q42, .int 0, .int (-1), .int 0, .int 0, .ref q43, .ref q44, .ref q45, .ref q46, .ref q47, .int 0, .int 0, .ref q48, .int 0, .int 0, .ref q49, .ref q50, .ref q51, .ref q52, .ref q53, .ref q54, .int 0, .ref q55, .ref q56, .int 0, .int 0, .int 0, .int 0, .int 0, .int 0, .ref q57, .ref q58, .ref q59, .int 0, .int 0, .int 0, .int 0, .int 0, .int 0, .ref q60, .ref q61, .ref q62, .ref q63, .ref q64, .ref q65, .ref q66, .ref q67, .ref q68]))] := hD
  refine lv_istore hx hb d_Law_law_151 hl (by decide) rfl (fun ls hl => ?_)
  have hl : lv_has ls 8 [(6, .int 0), (5, .int 1), (4, .int 0), (3, .ref ao), (2, .ref ay), (1, .ref ax), (0, .ref b)] := hl
  refine lv_aload_n hx hb d_Law_law_153 rfl (lv_at hl 4 rfl) ?_
  have hPc := hP.sub (ws' := [(ay, .inr (1, [.int 1, .int 0, .ref q42, .int 0, .int (-1), .int 0, .int 0, .ref q43, .ref q44, .ref q45, .ref q46, .ref q47, .int 0, .int 0, .ref q48, .int 0, .int 0, .ref q49, .ref q50, .ref q51, .ref q52, .ref q53, .ref q54, .int 0, .ref q55, .ref q56, .int 0, .int 0, .int 0, .int 0, .int 0, .int 0, .ref q57, .ref q58, .ref q59, .int 0, .int 0, .int 0, .int 0, .int 0, .int 0, .ref q60, .ref q61, .ref q62, .ref q63, .ref q64, .ref q65, .ref q66, .ref q67, .ref q68]))]) [1] rfl
  have hDc := hD.sub (ws' := [(ay, .inr (1, [.int 1, .int 0, .ref q42, .int 0, .int (-1), .int 0, .int 0, .ref q43, .ref q44, .ref q45, .ref q46, .ref q47, .int 0, .int 0, .ref q48, .int 0, .int 0, .ref q49, .ref q50, .ref q51, .ref q52, .ref q53, .ref q54, .int 0, .ref q55, .ref q56, .int 0, .int 0, .int 0, .int 0, .int 0, .int 0, .ref q57, .ref q58, .ref q59, .int 0, .int 0, .int 0, .int 0, .int 0, .int 0, .ref q60, .ref q61, .ref q62, .ref q63, .ref q64, .ref q65, .ref q66, .ref q67, .ref q68]))]) [1] (by decide) rfl
  have hKc := hK.sub (tys' := []) [] rfl
  have hFc := va_free (wc := [(ay, .inr (1, [.int 1, .int 0, .ref q42, .int 0, .int (-1), .int 0, .int 0, .ref q43, .ref q44, .ref q45, .ref q46, .ref q47, .int 0, .int 0, .ref q48, .int 0, .int 0, .ref q49, .ref q50, .ref q51, .ref q52, .ref q53, .ref q54, .int 0, .ref q55, .ref q56, .int 0, .int 0, .int 0, .int 0, .int 0, .int 0, .ref q57, .ref q58, .ref q59, .int 0, .int 0, .int 0, .int 0, .int 0, .int 0, .ref q60, .ref q61, .ref q62, .ref q63, .ref q64, .ref q65, .ref q66, .ref q67, .ref q68]))]) hD hS hA [1] rfl
  refine va_calli (va_runV (As := []) (rest := []) ⟨hx, hb, hml, hown, hz⟩ (c169_Model_thrown l dC dI H.size ay q42 q43 q44 q45 q46 q47 q48 q49 q50 q51 q52 q53 q54 q55 q56 q57 q58 q59 q60 q61 q62 q63 q64 q65 q66 q67 q68) (cwV 0 hz (zV zm_541 zm_542 zm_543 zm_374 zm_544) rfl rfl rfl (by decide +kernel) ⟨Nat.le_of_ble_eq_true rfl, Nat.le_of_ble_eq_true rfl⟩) ⟨fun a U g mk q => by obtain ⟨q0, q1, qP, qK, qD⟩ := q; exact ⟨q0, q1, qP, va_K.moved (u := U) (U := U.calling g mk a) (Vm.Alike.refl U.vm) qK, qD⟩, va_recv (q := (R_Model, F_Model, 50)) (q0 := 1) (ci := 1) hK hP rfl rfl, fun U hU hW => ⟨rfl, by rw [hU], by rw [hU]; exact hPc, va_K.moved hW.alike hKc, hDc.weaken (fun _ _ _ _ => trivial)⟩⟩ rfl rfl hl.1 rfl (lv_room (Nat.le_of_ble_eq_true rfl)) d_Law_law_154 ⟨by decide, by decide⟩) hS (fun q _ h => hFc q h) hFc (fun r u t H1 locs ht hvm hw hB hz1 hk1 hS => ?_)
  obtain ⟨hP1, hK1, hD1⟩ := hB
  subst r
  rw [ht] at hP1
  obtain ⟨hP, hD⟩ := va_join (wr := [(ax, .inr (0, [.ref q1, .ref q3, .ref q7, .ref q15, .ref q21, .ref q38, .ref q41, .int (-1)]))]) (w1 := [(ay, .inr (1, [.int 1, .int 0, .ref q42, .int 0, .int (-1), .int 0, .int 0, .ref q43, .ref q44, .ref q45, .ref q46, .ref q47, .int 0, .int 0, .ref q48, .int 0, .int 0, .ref q49, .ref q50, .ref q51, .ref q52, .ref q53, .ref q54, .int 0, .ref q55, .ref q56, .int 0, .int 0, .int 0, .int 0, .int 0, .int 0, .ref q57, .ref q58, .ref q59, .int 0, .int 0, .int 0, .int 0, .int 0, .int 0, .ref q60, .ref q61, .ref q62, .ref q63, .ref q64, .ref q65, .ref q66, .ref q67, .ref q68]))]) hP hD [1] [0] rfl rfl (by decide) (by decide) hk1 hFc hP1 hD1
  generalize H1 = H at hP hS ⊢
  have hP : va_P (dC, dI) vcl [(ax, .inr (0, [.ref q1, .ref q3, .ref q7, .ref q15, .ref q21, .ref q38, .ref q41, .int (-1)])), (ay, .inr (1, [.int 1, .int 0, .ref q42, .int 0, .int (-1), .int 0, .int 0, .ref q43, .ref q44, .ref q45, .ref q46, .ref q47, .int 0, .int 0, .ref q48, .int 0, .int 0, .ref q49, .ref q50, .ref q51, .ref q52, .ref q53, .ref q54, .int 0, .ref q55, .ref q56, .int 0, .int 0, .int 0, .int 0, .int 0, .int 0, .ref q57, .ref q58, .ref q59, .int 0, .int 0, .int 0, .int 0, .int 0, .int 0, .ref q60, .ref q61, .ref q62, .ref q63, .ref q64, .ref q65, .ref q66, .ref q67, .ref q68]))] H := hP
  have hD : va_D A [(ax, .inr (0, [.ref q1, .ref q3, .ref q7, .ref q15, .ref q21, .ref q38, .ref q41, .int (-1)])), (ay, .inr (1, [.int 1, .int 0, .ref q42, .int 0, .int (-1), .int 0, .int 0, .ref q43, .ref q44, .ref q45, .ref q46, .ref q47, .int 0, .int 0, .ref q48, .int 0, .int 0, .ref q49, .ref q50, .ref q51, .ref q52, .ref q53, .ref q54, .int 0, .ref q55, .ref q56, .int 0, .int 0, .int 0, .int 0, .int 0, .int 0, .ref q57, .ref q58, .ref q59, .int 0, .int 0, .int 0, .int 0, .int 0, .int 0, .ref q60, .ref q61, .ref q62, .ref q63, .ref q64, .ref q65, .ref q66, .ref q67, .ref q68]))] := hD
  refine lv_iload hx hb d_Law_law_157 (lv_at hl 1 rfl) ?_
  refine lv_icmp_eq (tgt := 164) hx hb d_Law_law_159 (by decide) (fun _ => ?_) (fun h => (h (by decide +kernel)).elim)
  refine lv_iload hx hb d_Law_law_164 (lv_at hl 1 rfl) ?_
  refine lv_if_ne (tgt := 181) hx hb d_Law_law_166 (by decide) (fun _ => ?_) (fun h => absurd h (by decide +kernel))
  refine lv_goto (tgt := 533) hx hb d_Law_law_181 (by decide) ?_
  exact lw_fin hAe C1 (lv_sub hl [2, 6] rfl) hS (by decide) (by decide)
