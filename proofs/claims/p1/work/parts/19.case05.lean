set_option maxHeartbeats 8000000 in
set_option maxRecDepth 100000 in
theorem lw_fixity_fx1 {p : Program} {e : Env} {s : State} {m : MethodId} {below : List Frame} {meth : Method} {c : Code} (l : Launch) (hnt : l.stackTraces = false) {b : Nat} {xs : Nat → Int32} {A : Nat → Prop} (hAe : A = fun q => s.heap.size ≤ q) (C0 : lw_At p s m meth c b 5 xs) (hC : tx_C s) (dC : Nat → ClassId) (dI : Nat → Nat → Nat) (ax q1 q3 q7 q15 q21 q38 q41 ay q42 q43 q44 q45 q46 q47 q48 q49 q50 q51 q52 q53 q54 q55 q56 q57 q58 q59 q60 q61 q62 q63 q64 q65 q66 q67 q68 ao : Nat) (ev : Int64) (sdx : Int32) (lvx : Int32) (g1 : sdx < 0) (hev : ((xs 1).toInt64 <<< ((32 : Int32).toInt64 &&& 63)) ||| ((xs 2).toInt64 &&& 4294967295) = ev) (hsd : xs 3 = sdx) (hlv : xs 4 = lvx) {H : Heap} {locs : List Loc} {ls : Array Slot} (hl : lv_has ls 8 [(4, .int 0), (3, .ref ao), (2, .ref ay), (1, .ref ax), (0, .ref b)]) (hP : va_P (dC, dI) vcl [(ax, .inr (0, [.ref q1, .ref q3, .ref q7, .ref q15, .ref q21, .ref q38, .ref q41, .int (-1)])), (ay, .inr (1, [.int 0, .int 0, .ref q42, .int 0, .int (-1), .int 0, .int 0, .ref q43, .ref q44, .ref q45, .ref q46, .ref q47, .int 0, .int 0, .ref q48, .int 0, .int 0, .ref q49, .ref q50, .ref q51, .ref q52, .ref q53, .ref q54, .int 0, .ref q55, .ref q56, .int 0, .int 0, .int 0, .int 0, .int 0, .int 0, .ref q57, .ref q58, .ref q59, .int 0, .int 0, .int 0, .int 0, .int 0, .int 0, .ref q60, .ref q61, .ref q62, .ref q63, .ref q64, .ref q65, .ref q66, .ref q67, .ref q68]))] H) (hK : va_K (dC, dI) vcl [] s) (hD : va_D A [(ax, .inr (0, [.ref q1, .ref q3, .ref q7, .ref q15, .ref q21, .ref q38, .ref q41, .int (-1)])), (ay, .inr (1, [.int 0, .int 0, .ref q42, .int 0, .int (-1), .int 0, .int 0, .ref q43, .ref q44, .ref q45, .ref q46, .ref q47, .int 0, .int 0, .ref q48, .int 0, .int 0, .ref q49, .ref q50, .ref q51, .ref q52, .ref q53, .ref q54, .int 0, .ref q55, .ref q56, .int 0, .int 0, .int 0, .int 0, .int 0, .int 0, .ref q57, .ref q58, .ref q59, .int 0, .int 0, .int 0, .int 0, .int 0, .int 0, .ref q60, .ref q61, .ref q62, .ref q63, .ref q64, .ref q65, .ref q66, .ref q67, .ref q68]))]) (hS : va_S A s.heap H locs) : W p l e room_1 s m #[Value.ref b] below meth c H locs 71 12106 (lw_Z below #[Value.ref b] s) (F0 m 197 ls []) := by
  have C1 := C0
  obtain ⟨hx, hb, hr, hml, hown0, hts, hX, hbl, hlocks, hgv⟩ := C0
  have hown : s.vm.findClass R_Law = some m.cls := hown0
  have hz : ∀ w ∈ wz, w.before #[Value.ref b] s = true := fun w h => hts w (zin w h)
  have hA : ∀ q, s.heap.size ≤ q → A q := fun q h => by rw [hAe]; exact h
  have hbA : ¬ A b := by rw [hAe]; exact Nat.not_le.mpr hbl
  refine lv_aload_n hx hb d_Law_law_197 rfl (lv_at hl 3 rfl) ?_
  refine lv_aload_n hx hb d_Law_law_198 rfl (lv_at hl 4 rfl) ?_
  refine lv_iload hx hb d_Law_law_199 (lv_at hl 0 rfl) ?_
  refine lv_iconst (v := 1) hx hb d_Law_law_201 (by decide) ?_
  refine xr_iadd (v := 1) hx hb d_Law_law_202 (by decide +kernel) ?_
  refine xr_sld (j := 1) (v := (xs 1)) hx hb hX hbl hbA hS (xr_in (by decide +kernel)) (by decide +kernel) rfl d_Law_law_203 ?_
  refine lv_i2l (v := (xs 1).toInt64) hx hb d_Law_law_204 rfl ?_
  refine lv_bipush (v := 32) hx hb d_Law_law_205 (by decide) ?_
  refine lv_lshl (v := ((xs 1).toInt64 <<< ((32 : Int32).toInt64 &&& 63))) hx hb d_Law_law_207 rfl ?_
  refine lv_aload_n hx hb d_Law_law_208 rfl (lv_at hl 4 rfl) ?_
  refine lv_iload hx hb d_Law_law_209 (lv_at hl 0 rfl) ?_
  refine lv_iconst (v := 2) hx hb d_Law_law_211 (by decide) ?_
  refine xr_iadd (v := 2) hx hb d_Law_law_212 (by decide +kernel) ?_
  refine xr_sld (j := 2) (v := (xs 2)) hx hb hX hbl hbA hS (xr_in (by decide +kernel)) (by decide +kernel) rfl d_Law_law_213 ?_
  refine lv_i2l (v := (xs 2).toInt64) hx hb d_Law_law_214 rfl ?_
  refine lv_ldc2 (v := 4294967295) hx hb hown (hz (.constantLong R_Law 42 4294967295) zm_532) d_Law_law_215 ?_
  refine xr_land (v := ((xs 2).toInt64 &&& 4294967295)) hx hb d_Law_law_218 rfl ?_
  refine xr_lor (v := ev) hx hb d_Law_law_219 hev ?_
  refine lv_aload_n hx hb d_Law_law_220 rfl (lv_at hl 4 rfl) ?_
  refine lv_iload hx hb d_Law_law_221 (lv_at hl 0 rfl) ?_
  refine lv_iconst (v := 3) hx hb d_Law_law_223 (by decide) ?_
  refine xr_iadd (v := 3) hx hb d_Law_law_224 (by decide +kernel) ?_
  refine xr_sld (j := 3) (v := sdx) hx hb hX hbl hbA hS (xr_in (by decide +kernel)) (by decide +kernel) hsd d_Law_law_225 ?_
  refine lv_aload_n hx hb d_Law_law_226 rfl (lv_at hl 4 rfl) ?_
  refine lv_iload hx hb d_Law_law_227 (lv_at hl 0 rfl) ?_
  refine lv_iconst (v := 4) hx hb d_Law_law_229 (by decide) ?_
  refine xr_iadd (v := 4) hx hb d_Law_law_230 (by decide +kernel) ?_
  refine xr_sld (j := 4) (v := lvx) hx hb hX hbl hbA hS (xr_in (by decide +kernel)) (by decide +kernel) hlv d_Law_law_231 ?_
  refine lv_aload_n hx hb d_Law_law_232 rfl (lv_at hl 1 rfl) ?_
  have hPc := hP.sub (ws' := [(ax, .inr (0, [.ref q1, .ref q3, .ref q7, .ref q15, .ref q21, .ref q38, .ref q41, .int (-1)]))]) [0] rfl
  have hKc := hK.sub (tys' := []) [] rfl
  refine va_calli (tx_runSW (n := 5) (hh := [(0, 13, 16, 13), (0, 13, 20, 15)]) (As := [.ref ax, .long ev, .int sdx, .int lvx, .ref ao]) (rest := []) ⟨hx, hb, hml, hown, hz⟩ (cw_fixity_fx1 l hnt dC dI ax q1 q3 q7 q15 q21 q38 q41 ao ev sdx lvx g1) rfl rfl (Nat.le_of_ble_eq_true rfl) (Nat.le_of_ble_eq_true rfl) (zH hz zm_555) List.mem_cons_self (hz _ zm_555) (hz (.initialized R_Law) zm_535) (by decide +kernel) (by decide +kernel) (hz (.methodLink R_Law 57 y_Law_fixity) zm_553) (hz (.static y_Law_fixity) zm_554) ⟨fun a U g mk q => by obtain ⟨q0, qP, qK, qC⟩ := q; exact ⟨q0, qP, va_K.moved (u := U) (U := U.calling g mk a) (Vm.Alike.refl U.vm) qK, tx_C.same (u := U) (U := U.calling g mk a) rfl rfl qC⟩, fun U hU hW => ⟨rfl, by rw [hU]; exact hPc, va_K.moved hW.alike hKc, hC.warm hW (fun z hz9 => by rw [hU]; exact hS.2.1 z hz9 (by rw [hAe]; exact Nat.not_le.mpr hz9))⟩⟩ rfl rfl hl.1 rfl (lv_room (Nat.le_of_ble_eq_true rfl)) d_Law_law_233 ⟨by decide, by decide⟩) hS (fun _ _ h => h.elim) (fun _ h => h.elim) (fun r u t H1 locs ht hvm hw hB hz1 hk1 hS => ?_)
  subst r
  have hP : va_P (dC, dI) vcl [(ax, .inr (0, [.ref q1, .ref q3, .ref q7, .ref q15, .ref q21, .ref q38, .ref q41, .int (-1)])), (ay, .inr (1, [.int 0, .int 0, .ref q42, .int 0, .int (-1), .int 0, .int 0, .ref q43, .ref q44, .ref q45, .ref q46, .ref q47, .int 0, .int 0, .ref q48, .int 0, .int 0, .ref q49, .ref q50, .ref q51, .ref q52, .ref q53, .ref q54, .int 0, .ref q55, .ref q56, .int 0, .int 0, .int 0, .int 0, .int 0, .int 0, .ref q57, .ref q58, .ref q59, .int 0, .int 0, .int 0, .int 0, .int 0, .int 0, .ref q60, .ref q61, .ref q62, .ref q63, .ref q64, .ref q65, .ref q66, .ref q67, .ref q68]))] H1 := hP.kept (fun k q hk => hk1 q.1 ((hP k q hk).lt) (fun h => h))
  generalize H1 = H at hP hS ⊢
  refine W.widen (k := 72) (n := 12112) (by decide) (by decide) ?_
  refine lv_istore hx hb d_Law_law_236 hl (by decide) rfl (fun ls hl => ?_)
  have hl : lv_has ls 8 [(5, .int 1), (4, .int 0), (3, .ref ao), (2, .ref ay), (1, .ref ax), (0, .ref b)] := hl
  refine lv_aload_n hx hb d_Law_law_238 rfl (lv_at hl 3 rfl) ?_
  refine lv_aload_n hx hb d_Law_law_239 rfl (lv_at hl 5 rfl) ?_
  refine lv_iload hx hb d_Law_law_240 (lv_at hl 1 rfl) ?_
  refine lv_iconst (v := 1) hx hb d_Law_law_242 (by decide) ?_
  refine xr_iadd (v := 1) hx hb d_Law_law_243 (by decide +kernel) ?_
  refine xr_sld (j := 1) (v := (xs 1)) hx hb hX hbl hbA hS (xr_in (by decide +kernel)) (by decide +kernel) rfl d_Law_law_244 ?_
  refine lv_i2l (v := (xs 1).toInt64) hx hb d_Law_law_245 rfl ?_
  refine lv_bipush (v := 32) hx hb d_Law_law_246 (by decide) ?_
  refine lv_lshl (v := ((xs 1).toInt64 <<< ((32 : Int32).toInt64 &&& 63))) hx hb d_Law_law_248 rfl ?_
  refine lv_aload_n hx hb d_Law_law_249 rfl (lv_at hl 5 rfl) ?_
  refine lv_iload hx hb d_Law_law_250 (lv_at hl 1 rfl) ?_
  refine lv_iconst (v := 2) hx hb d_Law_law_252 (by decide) ?_
  refine xr_iadd (v := 2) hx hb d_Law_law_253 (by decide +kernel) ?_
  refine xr_sld (j := 2) (v := (xs 2)) hx hb hX hbl hbA hS (xr_in (by decide +kernel)) (by decide +kernel) rfl d_Law_law_254 ?_
  refine lv_i2l (v := (xs 2).toInt64) hx hb d_Law_law_255 rfl ?_
  refine lv_ldc2 (v := 4294967295) hx hb hown (hz (.constantLong R_Law 42 4294967295) zm_532) d_Law_law_256 ?_
  refine xr_land (v := ((xs 2).toInt64 &&& 4294967295)) hx hb d_Law_law_259 rfl ?_
  refine xr_lor (v := ev) hx hb d_Law_law_260 hev ?_
  refine lv_aload_n hx hb d_Law_law_261 rfl (lv_at hl 5 rfl) ?_
  refine lv_iload hx hb d_Law_law_262 (lv_at hl 1 rfl) ?_
  refine lv_iconst (v := 3) hx hb d_Law_law_264 (by decide) ?_
  refine xr_iadd (v := 3) hx hb d_Law_law_265 (by decide +kernel) ?_
  refine xr_sld (j := 3) (v := sdx) hx hb hX hbl hbA hS (xr_in (by decide +kernel)) (by decide +kernel) hsd d_Law_law_266 ?_
  refine lv_aload_n hx hb d_Law_law_267 rfl (lv_at hl 5 rfl) ?_
  refine lv_iload hx hb d_Law_law_268 (lv_at hl 1 rfl) ?_
  refine lv_iconst (v := 4) hx hb d_Law_law_270 (by decide) ?_
  refine xr_iadd (v := 4) hx hb d_Law_law_271 (by decide +kernel) ?_
  refine xr_sld (j := 4) (v := lvx) hx hb hX hbl hbA hS (xr_in (by decide +kernel)) (by decide +kernel) hlv d_Law_law_272 ?_
  have hPc := hP.sub (ws' := [(ay, .inr (1, [.int 0, .int 0, .ref q42, .int 0, .int (-1), .int 0, .int 0, .ref q43, .ref q44, .ref q45, .ref q46, .ref q47, .int 0, .int 0, .ref q48, .int 0, .int 0, .ref q49, .ref q50, .ref q51, .ref q52, .ref q53, .ref q54, .int 0, .ref q55, .ref q56, .int 0, .int 0, .int 0, .int 0, .int 0, .int 0, .ref q57, .ref q58, .ref q59, .int 0, .int 0, .int 0, .int 0, .int 0, .int 0, .ref q60, .ref q61, .ref q62, .ref q63, .ref q64, .ref q65, .ref q66, .ref q67, .ref q68]))]) [1] rfl
  have hDc := hD.sub (ws' := [(ay, .inr (1, [.int 0, .int 0, .ref q42, .int 0, .int (-1), .int 0, .int 0, .ref q43, .ref q44, .ref q45, .ref q46, .ref q47, .int 0, .int 0, .ref q48, .int 0, .int 0, .ref q49, .ref q50, .ref q51, .ref q52, .ref q53, .ref q54, .int 0, .ref q55, .ref q56, .int 0, .int 0, .int 0, .int 0, .int 0, .int 0, .ref q57, .ref q58, .ref q59, .int 0, .int 0, .int 0, .int 0, .int 0, .int 0, .ref q60, .ref q61, .ref q62, .ref q63, .ref q64, .ref q65, .ref q66, .ref q67, .ref q68]))]) [1] (by decide) rfl
  have hKc := hK.sub (tys' := []) [] rfl
  have hFc := va_free (wc := [(ay, .inr (1, [.int 0, .int 0, .ref q42, .int 0, .int (-1), .int 0, .int 0, .ref q43, .ref q44, .ref q45, .ref q46, .ref q47, .int 0, .int 0, .ref q48, .int 0, .int 0, .ref q49, .ref q50, .ref q51, .ref q52, .ref q53, .ref q54, .int 0, .ref q55, .ref q56, .int 0, .int 0, .int 0, .int 0, .int 0, .int 0, .ref q57, .ref q58, .ref q59, .int 0, .int 0, .int 0, .int 0, .int 0, .int 0, .ref q60, .ref q61, .ref q62, .ref q63, .ref q64, .ref q65, .ref q66, .ref q67, .ref q68]))]) hD hS hA [1] rfl
  refine va_calli (va_runV (As := [.long ev, .int sdx, .int lvx]) (rest := []) ⟨hx, hb, hml, hown, hz⟩ (c160_Model_fixity l dC dI H.size ay q42 q43 q44 q45 q46 q47 q48 q49 q50 q51 q52 q53 q54 q55 q56 q57 q58 q59 q60 q61 q62 q63 q64 q65 q66 q67 q68 ev sdx lvx g1) (cwV 3 hz (zV zm_556 zm_557 zm_558 zm_374 zm_559) rfl rfl rfl (by decide +kernel) ⟨Nat.le_of_ble_eq_true rfl, Nat.le_of_ble_eq_true rfl⟩) ⟨fun a U g mk q => by obtain ⟨q0, q1, qP, qK, qD⟩ := q; exact ⟨q0, q1, qP, va_K.moved (u := U) (U := U.calling g mk a) (Vm.Alike.refl U.vm) qK, qD⟩, va_recv (q := (R_Model, F_Model, 50)) (q0 := 1) (ci := 1) hK hP rfl rfl, fun U hU hW => ⟨rfl, by rw [hU], by rw [hU]; exact hPc, va_K.moved hW.alike hKc, hDc.weaken (fun _ _ _ _ => trivial)⟩⟩ rfl rfl hl.1 rfl (lv_room (Nat.le_of_ble_eq_true rfl)) d_Law_law_273 ⟨by decide, by decide⟩) hS (fun q _ h => hFc q h) hFc (fun r u t H1 locs ht hvm hw hB hz1 hk1 hS => ?_)
  obtain ⟨hP1, hK1, hD1⟩ := hB
  subst r
  rw [ht] at hP1
  obtain ⟨hP, hD⟩ := va_join (wr := [(ax, .inr (0, [.ref q1, .ref q3, .ref q7, .ref q15, .ref q21, .ref q38, .ref q41, .int (-1)]))]) (w1 := [(ay, .inr (1, [.int 1, .int 0, .ref q42, .int 0, .int (-1), .int 0, .int 0, .ref q43, .ref q44, .ref q45, .ref q46, .ref q47, .int 0, .int 0, .ref q48, .int 0, .int 0, .ref q49, .ref q50, .ref q51, .ref q52, .ref q53, .ref q54, .int 0, .ref q55, .ref q56, .int 0, .int 0, .int 0, .int 0, .int 0, .int 0, .ref q57, .ref q58, .ref q59, .int 0, .int 0, .int 0, .int 0, .int 0, .int 0, .ref q60, .ref q61, .ref q62, .ref q63, .ref q64, .ref q65, .ref q66, .ref q67, .ref q68]))]) hP hD [1] [0] rfl rfl (by decide) (by decide) hk1 hFc hP1 hD1
  generalize H1 = H at hP hS ⊢
  have hP : va_P (dC, dI) vcl [(ax, .inr (0, [.ref q1, .ref q3, .ref q7, .ref q15, .ref q21, .ref q38, .ref q41, .int (-1)])), (ay, .inr (1, [.int 1, .int 0, .ref q42, .int 0, .int (-1), .int 0, .int 0, .ref q43, .ref q44, .ref q45, .ref q46, .ref q47, .int 0, .int 0, .ref q48, .int 0, .int 0, .ref q49, .ref q50, .ref q51, .ref q52, .ref q53, .ref q54, .int 0, .ref q55, .ref q56, .int 0, .int 0, .int 0, .int 0, .int 0, .int 0, .ref q57, .ref q58, .ref q59, .int 0, .int 0, .int 0, .int 0, .int 0, .int 0, .ref q60, .ref q61, .ref q62, .ref q63, .ref q64, .ref q65, .ref q66, .ref q67, .ref q68]))] H := hP
  have hD : va_D A [(ax, .inr (0, [.ref q1, .ref q3, .ref q7, .ref q15, .ref q21, .ref q38, .ref q41, .int (-1)])), (ay, .inr (1, [.int 1, .int 0, .ref q42, .int 0, .int (-1), .int 0, .int 0, .ref q43, .ref q44, .ref q45, .ref q46, .ref q47, .int 0, .int 0, .ref q48, .int 0, .int 0, .ref q49, .ref q50, .ref q51, .ref q52, .ref q53, .ref q54, .int 0, .ref q55, .ref q56, .int 0, .int 0, .int 0, .int 0, .int 0, .int 0, .ref q57, .ref q58, .ref q59, .int 0, .int 0, .int 0, .int 0, .int 0, .int 0, .ref q60, .ref q61, .ref q62, .ref q63, .ref q64, .ref q65, .ref q66, .ref q67, .ref q68]))] := hD
  refine lv_istore hx hb d_Law_law_276 hl (by decide) rfl (fun ls hl => ?_)
  have hl : lv_has ls 8 [(6, .int 0), (5, .int 1), (4, .int 0), (3, .ref ao), (2, .ref ay), (1, .ref ax), (0, .ref b)] := hl
  refine lv_aload_n hx hb d_Law_law_278 rfl (lv_at hl 4 rfl) ?_
  have hPc := hP.sub (ws' := [(ay, .inr (1, [.int 1, .int 0, .ref q42, .int 0, .int (-1), .int 0, .int 0, .ref q43, .ref q44, .ref q45, .ref q46, .ref q47, .int 0, .int 0, .ref q48, .int 0, .int 0, .ref q49, .ref q50, .ref q51, .ref q52, .ref q53, .ref q54, .int 0, .ref q55, .ref q56, .int 0, .int 0, .int 0, .int 0, .int 0, .int 0, .ref q57, .ref q58, .ref q59, .int 0, .int 0, .int 0, .int 0, .int 0, .int 0, .ref q60, .ref q61, .ref q62, .ref q63, .ref q64, .ref q65, .ref q66, .ref q67, .ref q68]))]) [1] rfl
  have hDc := hD.sub (ws' := [(ay, .inr (1, [.int 1, .int 0, .ref q42, .int 0, .int (-1), .int 0, .int 0, .ref q43, .ref q44, .ref q45, .ref q46, .ref q47, .int 0, .int 0, .ref q48, .int 0, .int 0, .ref q49, .ref q50, .ref q51, .ref q52, .ref q53, .ref q54, .int 0, .ref q55, .ref q56, .int 0, .int 0, .int 0, .int 0, .int 0, .int 0, .ref q57, .ref q58, .ref q59, .int 0, .int 0, .int 0, .int 0, .int 0, .int 0, .ref q60, .ref q61, .ref q62, .ref q63, .ref q64, .ref q65, .ref q66, .ref q67, .ref q68]))]) [1] (by decide) rfl
  have hKc := hK.sub (tys' := []) [] rfl
  have hFc := va_free (wc := [(ay, .inr (1, [.int 1, .int 0, .ref q42, .int 0, .int (-1), .int 0, .int 0, .ref q43, .ref q44, .ref q45, .ref q46, .ref q47, .int 0, .int 0, .ref q48, .int 0, .int 0, .ref q49, .ref q50, .ref q51, .ref q52, .ref q53, .ref q54, .int 0, .ref q55, .ref q56, .int 0, .int 0, .int 0, .int 0, .int 0, .int 0, .ref q57, .ref q58, .ref q59, .int 0, .int 0, .int 0, .int 0, .int 0, .int 0, .ref q60, .ref q61, .ref q62, .ref q63, .ref q64, .ref q65, .ref q66, .ref q67, .ref q68]))]) hD hS hA [1] rfl
  refine va_calli (va_runV (As := []) (rest := []) ⟨hx, hb, hml, hown, hz⟩ (c169_Model_thrown l dC dI H.size ay q42 q43 q44 q45 q46 q47 q48 q49 q50 q51 q52 q53 q54 q55 q56 q57 q58 q59 q60 q61 q62 q63 q64 q65 q66 q67 q68) (cwV 0 hz (zV zm_541 zm_542 zm_543 zm_374 zm_544) rfl rfl rfl (by decide +kernel) ⟨Nat.le_of_ble_eq_true rfl, Nat.le_of_ble_eq_true rfl⟩) ⟨fun a U g mk q => by obtain ⟨q0, q1, qP, qK, qD⟩ := q; exact ⟨q0, q1, qP, va_K.moved (u := U) (U := U.calling g mk a) (Vm.Alike.refl U.vm) qK, qD⟩, va_recv (q := (R_Model, F_Model, 50)) (q0 := 1) (ci := 1) hK hP rfl rfl, fun U hU hW => ⟨rfl, by rw [hU], by rw [hU]; exact hPc, va_K.moved hW.alike hKc, hDc.weaken (fun _ _ _ _ => trivial)⟩⟩ rfl rfl hl.1 rfl (lv_room (Nat.le_of_ble_eq_true rfl)) d_Law_law_279 ⟨by decide, by decide⟩) hS (fun q _ h => hFc q h) hFc (fun r u t H1 locs ht hvm hw hB hz1 hk1 hS => ?_)
  obtain ⟨hP1, hK1, hD1⟩ := hB
  subst r
  rw [ht] at hP1
  obtain ⟨hP, hD⟩ := va_join (wr := [(ax, .inr (0, [.ref q1, .ref q3, .ref q7, .ref q15, .ref q21, .ref q38, .ref q41, .int (-1)]))]) (w1 := [(ay, .inr (1, [.int 1, .int 0, .ref q42, .int 0, .int (-1), .int 0, .int 0, .ref q43, .ref q44, .ref q45, .ref q46, .ref q47, .int 0, .int 0, .ref q48, .int 0, .int 0, .ref q49, .ref q50, .ref q51, .ref q52, .ref q53, .ref q54, .int 0, .ref q55, .ref q56, .int 0, .int 0, .int 0, .int 0, .int 0, .int 0, .ref q57, .ref q58, .ref q59, .int 0, .int 0, .int 0, .int 0, .int 0, .int 0, .ref q60, .ref q61, .ref q62, .ref q63, .ref q64, .ref q65, .ref q66, .ref q67, .ref q68]))]) hP hD [1] [0] rfl rfl (by decide) (by decide) hk1 hFc hP1 hD1
  generalize H1 = H at hP hS ⊢
  have hP : va_P (dC, dI) vcl [(ax, .inr (0, [.ref q1, .ref q3, .ref q7, .ref q15, .ref q21, .ref q38, .ref q41, .int (-1)])), (ay, .inr (1, [.int 1, .int 0, .ref q42, .int 0, .int (-1), .int 0, .int 0, .ref q43, .ref q44, .ref q45, .ref q46, .ref q47, .int 0, .int 0, .ref q48, .int 0, .int 0, .ref q49, .ref q50, .ref q51, .ref q52, .ref q53, .ref q54, .int 0, .ref q55, .ref q56, .int 0, .int 0, .int 0, .int 0, .int 0, .int 0, .ref q57, .ref q58, .ref q59, .int 0, .int 0, .int 0, .int 0, .int 0, .int 0, .ref q60, .ref q61, .ref q62, .ref q63, .ref q64, .ref q65, .ref q66, .ref q67, .ref q68]))] H := hP
  have hD : va_D A [(ax, .inr (0, [.ref q1, .ref q3, .ref q7, .ref q15, .ref q21, .ref q38, .ref q41, .int (-1)])), (ay, .inr (1, [.int 1, .int 0, .ref q42, .int 0, .int (-1), .int 0, .int 0, .ref q43, .ref q44, .ref q45, .ref q46, .ref q47, .int 0, .int 0, .ref q48, .int 0, .int 0, .ref q49, .ref q50, .ref q51, .ref q52, .ref q53, .ref q54, .int 0, .ref q55, .ref q56, .int 0, .int 0, .int 0, .int 0, .int 0, .int 0, .ref q57, .ref q58, .ref q59, .int 0, .int 0, .int 0, .int 0, .int 0, .int 0, .ref q60, .ref q61, .ref q62, .ref q63, .ref q64, .ref q65, .ref q66, .ref q67, .ref q68]))] := hD
  refine lv_iload hx hb d_Law_law_282 (lv_at hl 1 rfl) ?_
  refine lv_icmp_eq (tgt := 289) hx hb d_Law_law_284 (by decide) (fun _ => ?_) (fun h => (h (by decide +kernel)).elim)
  refine lv_iload hx hb d_Law_law_289 (lv_at hl 1 rfl) ?_
  refine lv_if_ne (tgt := 306) hx hb d_Law_law_291 (by decide) (fun _ => ?_) (fun h => absurd h (by decide +kernel))
  refine lv_goto (tgt := 533) hx hb d_Law_law_306 (by decide) ?_
  exact lw_fin hAe C1 (lv_sub hl [2, 6] rfl) hS (by decide) (by decide)
set_option maxHeartbeats 8000000 in
set_option maxRecDepth 100000 in
theorem lw_fixity_fx2 {p : Program} {e : Env} {s : State} {m : MethodId} {below : List Frame} {meth : Method} {c : Code} (l : Launch) (hnt : l.stackTraces = false) {b : Nat} {xs : Nat → Int32} {A : Nat → Prop} (hAe : A = fun q => s.heap.size ≤ q) (C0 : lw_At p s m meth c b 5 xs) (hC : tx_C s) (dC : Nat → ClassId) (dI : Nat → Nat → Nat) (ax q1 q3 q7 q15 q21 q38 q41 ay q42 q43 q44 q45 q46 q47 q48 q49 q50 q51 q52 q53 q54 q55 q56 q57 q58 q59 q60 q61 q62 q63 q64 q65 q66 q67 q68 ao : Nat) (ev : Int64) (sdx : Int32) (lvx : Int32) (g1 : ¬ sdx < 0) (g2 : 2 < sdx) (hev : ((xs 1).toInt64 <<< ((32 : Int32).toInt64 &&& 63)) ||| ((xs 2).toInt64 &&& 4294967295) = ev) (hsd : xs 3 = sdx) (hlv : xs 4 = lvx) {H : Heap} {locs : List Loc} {ls : Array Slot} (hl : lv_has ls 8 [(4, .int 0), (3, .ref ao), (2, .ref ay), (1, .ref ax), (0, .ref b)]) (hP : va_P (dC, dI) vcl [(ax, .inr (0, [.ref q1, .ref q3, .ref q7, .ref q15, .ref q21, .ref q38, .ref q41, .int (-1)])), (ay, .inr (1, [.int 0, .int 0, .ref q42, .int 0, .int (-1), .int 0, .int 0, .ref q43, .ref q44, .ref q45, .ref q46, .ref q47, .int 0, .int 0, .ref q48, .int 0, .int 0, .ref q49, .ref q50, .ref q51, .ref q52, .ref q53, .ref q54, .int 0, .ref q55, .ref q56, .int 0, .int 0, .int 0, .int 0, .int 0, .int 0, .ref q57, .ref q58, .ref q59, .int 0, .int 0, .int 0, .int 0, .int 0, .int 0, .ref q60, .ref q61, .ref q62, .ref q63, .ref q64, .ref q65, .ref q66, .ref q67, .ref q68]))] H) (hK : va_K (dC, dI) vcl [] s) (hD : va_D A [(ax, .inr (0, [.ref q1, .ref q3, .ref q7, .ref q15, .ref q21, .ref q38, .ref q41, .int (-1)])), (ay, .inr (1, [.int 0, .int 0, .ref q42, .int 0, .int (-1), .int 0, .int 0, .ref q43, .ref q44, .ref q45, .ref q46, .ref q47, .int 0, .int 0, .ref q48, .int 0, .int 0, .ref q49, .ref q50, .ref q51, .ref q52, .ref q53, .ref q54, .int 0, .ref q55, .ref q56, .int 0, .int 0, .int 0, .int 0, .int 0, .int 0, .ref q57, .ref q58, .ref q59, .int 0, .int 0, .int 0, .int 0, .int 0, .int 0, .ref q60, .ref q61, .ref q62, .ref q63, .ref q64, .ref q65, .ref q66, .ref q67, .ref q68]))]) (hS : va_S A s.heap H locs) : W p l e room_1 s m #[Value.ref b] below meth c H locs 71 12106 (lw_Z below #[Value.ref b] s) (F0 m 197 ls []) := by
  have C1 := C0
  obtain ⟨hx, hb, hr, hml, hown0, hts, hX, hbl, hlocks, hgv⟩ := C0
  have hown : s.vm.findClass R_Law = some m.cls := hown0
  have hz : ∀ w ∈ wz, w.before #[Value.ref b] s = true := fun w h => hts w (zin w h)
  have hA : ∀ q, s.heap.size ≤ q → A q := fun q h => by rw [hAe]; exact h
  have hbA : ¬ A b := by rw [hAe]; exact Nat.not_le.mpr hbl
  refine lv_aload_n hx hb d_Law_law_197 rfl (lv_at hl 3 rfl) ?_
  refine lv_aload_n hx hb d_Law_law_198 rfl (lv_at hl 4 rfl) ?_
  refine lv_iload hx hb d_Law_law_199 (lv_at hl 0 rfl) ?_
  refine lv_iconst (v := 1) hx hb d_Law_law_201 (by decide) ?_
  refine xr_iadd (v := 1) hx hb d_Law_law_202 (by decide +kernel) ?_
  refine xr_sld (j := 1) (v := (xs 1)) hx hb hX hbl hbA hS (xr_in (by decide +kernel)) (by decide +kernel) rfl d_Law_law_203 ?_
  refine lv_i2l (v := (xs 1).toInt64) hx hb d_Law_law_204 rfl ?_
  refine lv_bipush (v := 32) hx hb d_Law_law_205 (by decide) ?_
  refine lv_lshl (v := ((xs 1).toInt64 <<< ((32 : Int32).toInt64 &&& 63))) hx hb d_Law_law_207 rfl ?_
  refine lv_aload_n hx hb d_Law_law_208 rfl (lv_at hl 4 rfl) ?_
  refine lv_iload hx hb d_Law_law_209 (lv_at hl 0 rfl) ?_
  refine lv_iconst (v := 2) hx hb d_Law_law_211 (by decide) ?_
  refine xr_iadd (v := 2) hx hb d_Law_law_212 (by decide +kernel) ?_
  refine xr_sld (j := 2) (v := (xs 2)) hx hb hX hbl hbA hS (xr_in (by decide +kernel)) (by decide +kernel) rfl d_Law_law_213 ?_
  refine lv_i2l (v := (xs 2).toInt64) hx hb d_Law_law_214 rfl ?_
  refine lv_ldc2 (v := 4294967295) hx hb hown (hz (.constantLong R_Law 42 4294967295) zm_532) d_Law_law_215 ?_
  refine xr_land (v := ((xs 2).toInt64 &&& 4294967295)) hx hb d_Law_law_218 rfl ?_
  refine xr_lor (v := ev) hx hb d_Law_law_219 hev ?_
  refine lv_aload_n hx hb d_Law_law_220 rfl (lv_at hl 4 rfl) ?_
  refine lv_iload hx hb d_Law_law_221 (lv_at hl 0 rfl) ?_
  refine lv_iconst (v := 3) hx hb d_Law_law_223 (by decide) ?_
  refine xr_iadd (v := 3) hx hb d_Law_law_224 (by decide +kernel) ?_
  refine xr_sld (j := 3) (v := sdx) hx hb hX hbl hbA hS (xr_in (by decide +kernel)) (by decide +kernel) hsd d_Law_law_225 ?_
  refine lv_aload_n hx hb d_Law_law_226 rfl (lv_at hl 4 rfl) ?_
  refine lv_iload hx hb d_Law_law_227 (lv_at hl 0 rfl) ?_
  refine lv_iconst (v := 4) hx hb d_Law_law_229 (by decide) ?_
  refine xr_iadd (v := 4) hx hb d_Law_law_230 (by decide +kernel) ?_
  refine xr_sld (j := 4) (v := lvx) hx hb hX hbl hbA hS (xr_in (by decide +kernel)) (by decide +kernel) hlv d_Law_law_231 ?_
  refine lv_aload_n hx hb d_Law_law_232 rfl (lv_at hl 1 rfl) ?_
  have hPc := hP.sub (ws' := [(ax, .inr (0, [.ref q1, .ref q3, .ref q7, .ref q15, .ref q21, .ref q38, .ref q41, .int (-1)]))]) [0] rfl
  have hKc := hK.sub (tys' := []) [] rfl
  refine va_calli (tx_runSW (n := 5) (hh := [(0, 13, 16, 13), (0, 13, 20, 15)]) (As := [.ref ax, .long ev, .int sdx, .int lvx, .ref ao]) (rest := []) ⟨hx, hb, hml, hown, hz⟩ (cw_fixity_fx2 l hnt dC dI ax q1 q3 q7 q15 q21 q38 q41 ao ev sdx lvx g1 g2) rfl rfl (Nat.le_of_ble_eq_true rfl) (Nat.le_of_ble_eq_true rfl) (zH hz zm_555) List.mem_cons_self (hz _ zm_555) (hz (.initialized R_Law) zm_535) (by decide +kernel) (by decide +kernel) (hz (.methodLink R_Law 57 y_Law_fixity) zm_553) (hz (.static y_Law_fixity) zm_554) ⟨fun a U g mk q => by obtain ⟨q0, qP, qK, qC⟩ := q; exact ⟨q0, qP, va_K.moved (u := U) (U := U.calling g mk a) (Vm.Alike.refl U.vm) qK, tx_C.same (u := U) (U := U.calling g mk a) rfl rfl qC⟩, fun U hU hW => ⟨rfl, by rw [hU]; exact hPc, va_K.moved hW.alike hKc, hC.warm hW (fun z hz9 => by rw [hU]; exact hS.2.1 z hz9 (by rw [hAe]; exact Nat.not_le.mpr hz9))⟩⟩ rfl rfl hl.1 rfl (lv_room (Nat.le_of_ble_eq_true rfl)) d_Law_law_233 ⟨by decide, by decide⟩) hS (fun _ _ h => h.elim) (fun _ h => h.elim) (fun r u t H1 locs ht hvm hw hB hz1 hk1 hS => ?_)
  subst r
  have hP : va_P (dC, dI) vcl [(ax, .inr (0, [.ref q1, .ref q3, .ref q7, .ref q15, .ref q21, .ref q38, .ref q41, .int (-1)])), (ay, .inr (1, [.int 0, .int 0, .ref q42, .int 0, .int (-1), .int 0, .int 0, .ref q43, .ref q44, .ref q45, .ref q46, .ref q47, .int 0, .int 0, .ref q48, .int 0, .int 0, .ref q49, .ref q50, .ref q51, .ref q52, .ref q53, .ref q54, .int 0, .ref q55, .ref q56, .int 0, .int 0, .int 0, .int 0, .int 0, .int 0, .ref q57, .ref q58, .ref q59, .int 0, .int 0, .int 0, .int 0, .int 0, .int 0, .ref q60, .ref q61, .ref q62, .ref q63, .ref q64, .ref q65, .ref q66, .ref q67, .ref q68]))] H1 := hP.kept (fun k q hk => hk1 q.1 ((hP k q hk).lt) (fun h => h))
  generalize H1 = H at hP hS ⊢
  refine W.widen (k := 72) (n := 12112) (by decide) (by decide) ?_
  refine lv_istore hx hb d_Law_law_236 hl (by decide) rfl (fun ls hl => ?_)
  have hl : lv_has ls 8 [(5, .int 1), (4, .int 0), (3, .ref ao), (2, .ref ay), (1, .ref ax), (0, .ref b)] := hl
  refine lv_aload_n hx hb d_Law_law_238 rfl (lv_at hl 3 rfl) ?_
  refine lv_aload_n hx hb d_Law_law_239 rfl (lv_at hl 5 rfl) ?_
  refine lv_iload hx hb d_Law_law_240 (lv_at hl 1 rfl) ?_
  refine lv_iconst (v := 1) hx hb d_Law_law_242 (by decide) ?_
  refine xr_iadd (v := 1) hx hb d_Law_law_243 (by decide +kernel) ?_
  refine xr_sld (j := 1) (v := (xs 1)) hx hb hX hbl hbA hS (xr_in (by decide +kernel)) (by decide +kernel) rfl d_Law_law_244 ?_
  refine lv_i2l (v := (xs 1).toInt64) hx hb d_Law_law_245 rfl ?_
  refine lv_bipush (v := 32) hx hb d_Law_law_246 (by decide) ?_
  refine lv_lshl (v := ((xs 1).toInt64 <<< ((32 : Int32).toInt64 &&& 63))) hx hb d_Law_law_248 rfl ?_
  refine lv_aload_n hx hb d_Law_law_249 rfl (lv_at hl 5 rfl) ?_
  refine lv_iload hx hb d_Law_law_250 (lv_at hl 1 rfl) ?_
  refine lv_iconst (v := 2) hx hb d_Law_law_252 (by decide) ?_
  refine xr_iadd (v := 2) hx hb d_Law_law_253 (by decide +kernel) ?_
  refine xr_sld (j := 2) (v := (xs 2)) hx hb hX hbl hbA hS (xr_in (by decide +kernel)) (by decide +kernel) rfl d_Law_law_254 ?_
  refine lv_i2l (v := (xs 2).toInt64) hx hb d_Law_law_255 rfl ?_
  refine lv_ldc2 (v := 4294967295) hx hb hown (hz (.constantLong R_Law 42 4294967295) zm_532) d_Law_law_256 ?_
  refine xr_land (v := ((xs 2).toInt64 &&& 4294967295)) hx hb d_Law_law_259 rfl ?_
  refine xr_lor (v := ev) hx hb d_Law_law_260 hev ?_
  refine lv_aload_n hx hb d_Law_law_261 rfl (lv_at hl 5 rfl) ?_
  refine lv_iload hx hb d_Law_law_262 (lv_at hl 1 rfl) ?_
  refine lv_iconst (v := 3) hx hb d_Law_law_264 (by decide) ?_
  refine xr_iadd (v := 3) hx hb d_Law_law_265 (by decide +kernel) ?_
  refine xr_sld (j := 3) (v := sdx) hx hb hX hbl hbA hS (xr_in (by decide +kernel)) (by decide +kernel) hsd d_Law_law_266 ?_
  refine lv_aload_n hx hb d_Law_law_267 rfl (lv_at hl 5 rfl) ?_
  refine lv_iload hx hb d_Law_law_268 (lv_at hl 1 rfl) ?_
  refine lv_iconst (v := 4) hx hb d_Law_law_270 (by decide) ?_
  refine xr_iadd (v := 4) hx hb d_Law_law_271 (by decide +kernel) ?_
  refine xr_sld (j := 4) (v := lvx) hx hb hX hbl hbA hS (xr_in (by decide +kernel)) (by decide +kernel) hlv d_Law_law_272 ?_
  have hPc := hP.sub (ws' := [(ay, .inr (1, [.int 0, .int 0, .ref q42, .int 0, .int (-1), .int 0, .int 0, .ref q43, .ref q44, .ref q45, .ref q46, .ref q47, .int 0, .int 0, .ref q48, .int 0, .int 0, .ref q49, .ref q50, .ref q51, .ref q52, .ref q53, .ref q54, .int 0, .ref q55, .ref q56, .int 0, .int 0, .int 0, .int 0, .int 0, .int 0, .ref q57, .ref q58, .ref q59, .int 0, .int 0, .int 0, .int 0, .int 0, .int 0, .ref q60, .ref q61, .ref q62, .ref q63, .ref q64, .ref q65, .ref q66, .ref q67, .ref q68]))]) [1] rfl
  have hDc := hD.sub (ws' := [(ay, .inr (1, [.int 0, .int 0, .ref q42, .int 0, .int (-1), .int 0, .int 0, .ref q43, .ref q44, .ref q45, .ref q46, .ref q47, .int 0, .int 0, .ref q48, .int 0, .int 0, .ref q49, .ref q50, .ref q51, .ref q52, .ref q53, .ref q54, .int 0, .ref q55, .ref q56, .int 0, .int 0, .int 0, .int 0, .int 0, .int 0, .ref q57, .ref q58, .ref q59, .int 0, .int 0, .int 0, .int 0, .int 0, .int 0, .ref q60, .ref q61, .ref q62, .ref q63, .ref q64, .ref q65, .ref q66, .ref q67, .ref q68]))]) [1] (by decide) rfl
  have hKc := hK.sub (tys' := []) [] rfl
  have hFc := va_free (wc := [(ay, .inr (1, [.int 0, .int 0, .ref q42, .int 0, .int (-1), .int 0, .int 0, .ref q43, .ref q44, .ref q45, .ref q46, .ref q47, .int 0, .int 0, .ref q48, .int 0, .int 0, .ref q49, .ref q50, .ref q51, .ref q52, .ref q53, .ref q54, .int 0, .ref q55, .ref q56, .int 0, .int 0, .int 0, .int 0, .int 0, .int 0, .ref q57, .ref q58, .ref q59, .int 0, .int 0, .int 0, .int 0, .int 0, .int 0, .ref q60, .ref q61, .ref q62, .ref q63, .ref q64, .ref q65, .ref q66, .ref q67, .ref q68]))]) hD hS hA [1] rfl
  refine va_calli (va_runV (As := [.long ev, .int sdx, .int lvx]) (rest := []) ⟨hx, hb, hml, hown, hz⟩ (c162_Model_fixity l dC dI H.size ay q42 q43 q44 q45 q46 q47 q48 q49 q50 q51 q52 q53 q54 q55 q56 q57 q58 q59 q60 q61 q62 q63 q64 q65 q66 q67 q68 ev sdx lvx g1 g2) (cwV 3 hz (zV zm_556 zm_557 zm_558 zm_374 zm_559) rfl rfl rfl (by decide +kernel) ⟨Nat.le_of_ble_eq_true rfl, Nat.le_of_ble_eq_true rfl⟩) ⟨fun a U g mk q => by obtain ⟨q0, q1, qP, qK, qD⟩ := q; exact ⟨q0, q1, qP, va_K.moved (u := U) (U := U.calling g mk a) (Vm.Alike.refl U.vm) qK, qD⟩, va_recv (q := (R_Model, F_Model, 50)) (q0 := 1) (ci := 1) hK hP rfl rfl, fun U hU hW => ⟨rfl, by rw [hU], by rw [hU]; exact hPc, va_K.moved hW.alike hKc, hDc.weaken (fun _ _ _ _ => trivial)⟩⟩ rfl rfl hl.1 rfl (lv_room (Nat.le_of_ble_eq_true rfl)) d_Law_law_273 ⟨by decide, by decide⟩) hS (fun q _ h => hFc q h) hFc (fun r u t H1 locs ht hvm hw hB hz1 hk1 hS => ?_)
  obtain ⟨hP1, hK1, hD1⟩ := hB
  subst r
  rw [ht] at hP1
  obtain ⟨hP, hD⟩ := va_join (wr := [(ax, .inr (0, [.ref q1, .ref q3, .ref q7, .ref q15, .ref q21, .ref q38, .ref q41, .int (-1)]))]) (w1 := [(ay, .inr (1, [.int 1, .int 0, .ref q42, .int 0, .int (-1), .int 0, .int 0, .ref q43, .ref q44, .ref q45, .ref q46, .ref q47, .int 0, .int 0, .ref q48, .int 0, .int 0, .ref q49, .ref q50, .ref q51, .ref q52, .ref q53, .ref q54, .int 0, .ref q55, .ref q56, .int 0, .int 0, .int 0, .int 0, .int 0, .int 0, .ref q57, .ref q58, .ref q59, .int 0, .int 0, .int 0, .int 0, .int 0, .int 0, .ref q60, .ref q61, .ref q62, .ref q63, .ref q64, .ref q65, .ref q66, .ref q67, .ref q68]))]) hP hD [1] [0] rfl rfl (by decide) (by decide) hk1 hFc hP1 hD1
  generalize H1 = H at hP hS ⊢
  have hP : va_P (dC, dI) vcl [(ax, .inr (0, [.ref q1, .ref q3, .ref q7, .ref q15, .ref q21, .ref q38, .ref q41, .int (-1)])), (ay, .inr (1, [.int 1, .int 0, .ref q42, .int 0, .int (-1), .int 0, .int 0, .ref q43, .ref q44, .ref q45, .ref q46, .ref q47, .int 0, .int 0, .ref q48, .int 0, .int 0, .ref q49, .ref q50, .ref q51, .ref q52, .ref q53, .ref q54, .int 0, .ref q55, .ref q56, .int 0, .int 0, .int 0, .int 0, .int 0, .int 0, .ref q57, .ref q58, .ref q59, .int 0, .int 0, .int 0, .int 0, .int 0, .int 0, .ref q60, .ref q61, .ref q62, .ref q63, .ref q64, .ref q65, .ref q66, .ref q67, .ref q68]))] H := hP
  have hD : va_D A [(ax, .inr (0, [.ref q1, .ref q3, .ref q7, .ref q15, .ref q21, .ref q38, .ref q41, .int (-1)])), (ay, .inr (1, [.int 1, .int 0, .ref q42, .int 0, .int (-1), .int 0, .int 0, .ref q43, .ref q44, .ref q45, .ref q46, .ref q47, .int 0, .int 0, .ref q48, .int 0, .int 0, .ref q49, .ref q50, .ref q51, .ref q52, .ref q53, .ref q54, .int 0, .ref q55, .ref q56, .int 0, .int 0, .int 0, .int 0, .int 0, .int 0, .ref q57, .ref q58, .ref q59, .int 0, .int 0, .int 0, .int 0, .int 0, .int 0, .ref q60, .ref q61, .ref q62, .ref q63, .ref q64, .ref q65, .ref q66, .ref q67, .ref q68]))] := hD
  refine lv_istore hx hb d_Law_law_276 hl (by decide) rfl (fun ls hl => ?_)
  have hl : lv_has ls 8 [(6, .int 0), (5, .int 1), (4, .int 0), (3, .ref ao), (2, .ref ay), (1, .ref ax), (0, .ref b)] := hl
  refine lv_aload_n hx hb d_Law_law_278 rfl (lv_at hl 4 rfl) ?_
  have hPc := hP.sub (ws' := [(ay, .inr (1, [.int 1, .int 0, .ref q42, .int 0, .int (-1), .int 0, .int 0, .ref q43, .ref q44, .ref q45, .ref q46, .ref q47, .int 0, .int 0, .ref q48, .int 0, .int 0, .ref q49, .ref q50, .ref q51, .ref q52, .ref q53, .ref q54, .int 0, .ref q55, .ref q56, .int 0, .int 0, .int 0, .int 0, .int 0, .int 0, .ref q57, .ref q58, .ref q59, .int 0, .int 0, .int 0, .int 0, .int 0, .int 0, .ref q60, .ref q61, .ref q62, .ref q63, .ref q64, .ref q65, .ref q66, .ref q67, .ref q68]))]) [1] rfl
  have hDc := hD.sub (ws' := [(ay, .inr (1, [.int 1, .int 0, .ref q42, .int 0, .int (-1), .int 0, .int 0, .ref q43, .ref q44, .ref q45, .ref q46, .ref q47, .int 0, .int 0, .ref q48, .int 0, .int 0, .ref q49, .ref q50, .ref q51, .ref q52, .ref q53, .ref q54, .int 0, .ref q55, .ref q56, .int 0, .int 0, .int 0, .int 0, .int 0, .int 0, .ref q57, .ref q58, .ref q59, .int 0, .int 0, .int 0, .int 0, .int 0, .int 0, .ref q60, .ref q61, .ref q62, .ref q63, .ref q64, .ref q65, .ref q66, .ref q67, .ref q68]))]) [1] (by decide) rfl
  have hKc := hK.sub (tys' := []) [] rfl
  have hFc := va_free (wc := [(ay, .inr (1, [.int 1, .int 0, .ref q42, .int 0, .int (-1), .int 0, .int 0, .ref q43, .ref q44, .ref q45, .ref q46, .ref q47, .int 0, .int 0, .ref q48, .int 0, .int 0, .ref q49, .ref q50, .ref q51, .ref q52, .ref q53, .ref q54, .int 0, .ref q55, .ref q56, .int 0, .int 0, .int 0, .int 0, .int 0, .int 0, .ref q57, .ref q58, .ref q59, .int 0, .int 0, .int 0, .int 0, .int 0, .int 0, .ref q60, .ref q61, .ref q62, .ref q63, .ref q64, .ref q65, .ref q66, .ref q67, .ref q68]))]) hD hS hA [1] rfl
  refine va_calli (va_runV (As := []) (rest := []) ⟨hx, hb, hml, hown, hz⟩ (c169_Model_thrown l dC dI H.size ay q42 q43 q44 q45 q46 q47 q48 q49 q50 q51 q52 q53 q54 q55 q56 q57 q58 q59 q60 q61 q62 q63 q64 q65 q66 q67 q68) (cwV 0 hz (zV zm_541 zm_542 zm_543 zm_374 zm_544) rfl rfl rfl (by decide +kernel) ⟨Nat.le_of_ble_eq_true rfl, Nat.le_of_ble_eq_true rfl⟩) ⟨fun a U g mk q => by obtain ⟨q0, q1, qP, qK, qD⟩ := q; exact ⟨q0, q1, qP, va_K.moved (u := U) (U := U.calling g mk a) (Vm.Alike.refl U.vm) qK, qD⟩, va_recv (q := (R_Model, F_Model, 50)) (q0 := 1) (ci := 1) hK hP rfl rfl, fun U hU hW => ⟨rfl, by rw [hU], by rw [hU]; exact hPc, va_K.moved hW.alike hKc, hDc.weaken (fun _ _ _ _ => trivial)⟩⟩ rfl rfl hl.1 rfl (lv_room (Nat.le_of_ble_eq_true rfl)) d_Law_law_279 ⟨by decide, by decide⟩) hS (fun q _ h => hFc q h) hFc (fun r u t H1 locs ht hvm hw hB hz1 hk1 hS => ?_)
  obtain ⟨hP1, hK1, hD1⟩ := hB
  subst r
  rw [ht] at hP1
  obtain ⟨hP, hD⟩ := va_join (wr := [(ax, .inr (0, [.ref q1, .ref q3, .ref q7, .ref q15, .ref q21, .ref q38, .ref q41, .int (-1)]))]) (w1 := [(ay, .inr (1, [.int 1, .int 0, .ref q42, .int 0, .int (-1), .int 0, .int 0, .ref q43, .ref q44, .ref q45, .ref q46, .ref q47, .int 0, .int 0, .ref q48, .int 0, .int 0, .ref q49, .ref q50, .ref q51, .ref q52, .ref q53, .ref q54, .int 0, .ref q55, .ref q56, .int 0, .int 0, .int 0, .int 0, .int 0, .int 0, .ref q57, .ref q58, .ref q59, .int 0, .int 0, .int 0, .int 0, .int 0, .int 0, .ref q60, .ref q61, .ref q62, .ref q63, .ref q64, .ref q65, .ref q66, .ref q67, .ref q68]))]) hP hD [1] [0] rfl rfl (by decide) (by decide) hk1 hFc hP1 hD1
  generalize H1 = H at hP hS ⊢
  have hP : va_P (dC, dI) vcl [(ax, .inr (0, [.ref q1, .ref q3, .ref q7, .ref q15, .ref q21, .ref q38, .ref q41, .int (-1)])), (ay, .inr (1, [.int 1, .int 0, .ref q42, .int 0, .int (-1), .int 0, .int 0, .ref q43, .ref q44, .ref q45, .ref q46, .ref q47, .int 0, .int 0, .ref q48, .int 0, .int 0, .ref q49, .ref q50, .ref q51, .ref q52, .ref q53, .ref q54, .int 0, .ref q55, .ref q56, .int 0, .int 0, .int 0, .int 0, .int 0, .int 0, .ref q57, .ref q58, .ref q59, .int 0, .int 0, .int 0, .int 0, .int 0, .int 0, .ref q60, .ref q61, .ref q62, .ref q63, .ref q64, .ref q65, .ref q66, .ref q67, .ref q68]))] H := hP
  have hD : va_D A [(ax, .inr (0, [.ref q1, .ref q3, .ref q7, .ref q15, .ref q21, .ref q38, .ref q41, .int (-1)])), (ay, .inr (1, [.int 1, .int 0, .ref q42, .int 0, .int (-1), .int 0, .int 0, .ref q43, .ref q44, .ref q45, .ref q46, .ref q47, .int 0, .int 0, .ref q48, .int 0, .int 0, .ref q49, .ref q50, .ref q51, .ref q52, .ref q53, .ref q54, .int 0, .ref q55, .ref q56, .int 0, .int 0, .int 0, .int 0, .int 0, .int 0, .ref q57, .ref q58, .ref q59, .int 0, .int 0, .int 0, .int 0, .int 0, .int 0, .ref q60, .ref q61, .ref q62, .ref q63, .ref q64, .ref q65, .ref q66, .ref q67, .ref q68]))] := hD
  refine lv_iload hx hb d_Law_law_282 (lv_at hl 1 rfl) ?_
  refine lv_icmp_eq (tgt := 289) hx hb d_Law_law_284 (by decide) (fun _ => ?_) (fun h => (h (by decide +kernel)).elim)
  refine lv_iload hx hb d_Law_law_289 (lv_at hl 1 rfl) ?_
  refine lv_if_ne (tgt := 306) hx hb d_Law_law_291 (by decide) (fun _ => ?_) (fun h => absurd h (by decide +kernel))
  refine lv_goto (tgt := 533) hx hb d_Law_law_306 (by decide) ?_
  exact lw_fin hAe C1 (lv_sub hl [2, 6] rfl) hS (by decide) (by decide)
set_option maxHeartbeats 8000000 in
set_option maxRecDepth 100000 in
theorem lw_fixity_fx3 {p : Program} {e : Env} {s : State} {m : MethodId} {below : List Frame} {meth : Method} {c : Code} (l : Launch) (hnt : l.stackTraces = false) {b : Nat} {xs : Nat → Int32} {A : Nat → Prop} (hAe : A = fun q => s.heap.size ≤ q) (C0 : lw_At p s m meth c b 5 xs) (hC : tx_C s) (dC : Nat → ClassId) (dI : Nat → Nat → Nat) (ax q1 q3 q7 q15 q21 q38 q41 ay q42 q43 q44 q45 q46 q47 q48 q49 q50 q51 q52 q53 q54 q55 q56 q57 q58 q59 q60 q61 q62 q63 q64 q65 q66 q67 q68 ao : Nat) (ev : Int64) (sdx : Int32) (lvx : Int32) (g1 : ¬ sdx < 0) (g2 : ¬ 2 < sdx) (g3 : lvx < 0) (hev : ((xs 1).toInt64 <<< ((32 : Int32).toInt64 &&& 63)) ||| ((xs 2).toInt64 &&& 4294967295) = ev) (hsd : xs 3 = sdx) (hlv : xs 4 = lvx) {H : Heap} {locs : List Loc} {ls : Array Slot} (hl : lv_has ls 8 [(4, .int 0), (3, .ref ao), (2, .ref ay), (1, .ref ax), (0, .ref b)]) (hP : va_P (dC, dI) vcl [(ax, .inr (0, [.ref q1, .ref q3, .ref q7, .ref q15, .ref q21, .ref q38, .ref q41, .int (-1)])), (ay, .inr (1, [.int 0, .int 0, .ref q42, .int 0, .int (-1), .int 0, .int 0, .ref q43, .ref q44, .ref q45, .ref q46, .ref q47, .int 0, .int 0, .ref q48, .int 0, .int 0, .ref q49, .ref q50, .ref q51, .ref q52, .ref q53, .ref q54, .int 0, .ref q55, .ref q56, .int 0, .int 0, .int 0, .int 0, .int 0, .int 0, .ref q57, .ref q58, .ref q59, .int 0, .int 0, .int 0, .int 0, .int 0, .int 0, .ref q60, .ref q61, .ref q62, .ref q63, .ref q64, .ref q65, .ref q66, .ref q67, .ref q68]))] H) (hK : va_K (dC, dI) vcl [] s) (hD : va_D A [(ax, .inr (0, [.ref q1, .ref q3, .ref q7, .ref q15, .ref q21, .ref q38, .ref q41, .int (-1)])), (ay, .inr (1, [.int 0, .int 0, .ref q42, .int 0, .int (-1), .int 0, .int 0, .ref q43, .ref q44, .ref q45, .ref q46, .ref q47, .int 0, .int 0, .ref q48, .int 0, .int 0, .ref q49, .ref q50, .ref q51, .ref q52, .ref q53, .ref q54, .int 0, .ref q55, .ref q56, .int 0, .int 0, .int 0, .int 0, .int 0, .int 0, .ref q57, .ref q58, .ref q59, .int 0, .int 0, .int 0, .int 0, .int 0, .int 0, .ref q60, .ref q61, .ref q62, .ref q63, .ref q64, .ref q65, .ref q66, .ref q67, .ref q68]))]) (hS : va_S A s.heap H locs) : W p l e room_1 s m #[Value.ref b] below meth c H locs 71 12106 (lw_Z below #[Value.ref b] s) (F0 m 197 ls []) := by
  have C1 := C0
  obtain ⟨hx, hb, hr, hml, hown0, hts, hX, hbl, hlocks, hgv⟩ := C0
  have hown : s.vm.findClass R_Law = some m.cls := hown0
  have hz : ∀ w ∈ wz, w.before #[Value.ref b] s = true := fun w h => hts w (zin w h)
  have hA : ∀ q, s.heap.size ≤ q → A q := fun q h => by rw [hAe]; exact h
  have hbA : ¬ A b := by rw [hAe]; exact Nat.not_le.mpr hbl
  refine lv_aload_n hx hb d_Law_law_197 rfl (lv_at hl 3 rfl) ?_
  refine lv_aload_n hx hb d_Law_law_198 rfl (lv_at hl 4 rfl) ?_
  refine lv_iload hx hb d_Law_law_199 (lv_at hl 0 rfl) ?_
  refine lv_iconst (v := 1) hx hb d_Law_law_201 (by decide) ?_
  refine xr_iadd (v := 1) hx hb d_Law_law_202 (by decide +kernel) ?_
  refine xr_sld (j := 1) (v := (xs 1)) hx hb hX hbl hbA hS (xr_in (by decide +kernel)) (by decide +kernel) rfl d_Law_law_203 ?_
  refine lv_i2l (v := (xs 1).toInt64) hx hb d_Law_law_204 rfl ?_
  refine lv_bipush (v := 32) hx hb d_Law_law_205 (by decide) ?_
  refine lv_lshl (v := ((xs 1).toInt64 <<< ((32 : Int32).toInt64 &&& 63))) hx hb d_Law_law_207 rfl ?_
  refine lv_aload_n hx hb d_Law_law_208 rfl (lv_at hl 4 rfl) ?_
  refine lv_iload hx hb d_Law_law_209 (lv_at hl 0 rfl) ?_
  refine lv_iconst (v := 2) hx hb d_Law_law_211 (by decide) ?_
  refine xr_iadd (v := 2) hx hb d_Law_law_212 (by decide +kernel) ?_
  refine xr_sld (j := 2) (v := (xs 2)) hx hb hX hbl hbA hS (xr_in (by decide +kernel)) (by decide +kernel) rfl d_Law_law_213 ?_
  refine lv_i2l (v := (xs 2).toInt64) hx hb d_Law_law_214 rfl ?_
  refine lv_ldc2 (v := 4294967295) hx hb hown (hz (.constantLong R_Law 42 4294967295) zm_532) d_Law_law_215 ?_
  refine xr_land (v := ((xs 2).toInt64 &&& 4294967295)) hx hb d_Law_law_218 rfl ?_
  refine xr_lor (v := ev) hx hb d_Law_law_219 hev ?_
  refine lv_aload_n hx hb d_Law_law_220 rfl (lv_at hl 4 rfl) ?_
  refine lv_iload hx hb d_Law_law_221 (lv_at hl 0 rfl) ?_
  refine lv_iconst (v := 3) hx hb d_Law_law_223 (by decide) ?_
  refine xr_iadd (v := 3) hx hb d_Law_law_224 (by decide +kernel) ?_
  refine xr_sld (j := 3) (v := sdx) hx hb hX hbl hbA hS (xr_in (by decide +kernel)) (by decide +kernel) hsd d_Law_law_225 ?_
  refine lv_aload_n hx hb d_Law_law_226 rfl (lv_at hl 4 rfl) ?_
  refine lv_iload hx hb d_Law_law_227 (lv_at hl 0 rfl) ?_
  refine lv_iconst (v := 4) hx hb d_Law_law_229 (by decide) ?_
  refine xr_iadd (v := 4) hx hb d_Law_law_230 (by decide +kernel) ?_
  refine xr_sld (j := 4) (v := lvx) hx hb hX hbl hbA hS (xr_in (by decide +kernel)) (by decide +kernel) hlv d_Law_law_231 ?_
  refine lv_aload_n hx hb d_Law_law_232 rfl (lv_at hl 1 rfl) ?_
  have hPc := hP.sub (ws' := [(ax, .inr (0, [.ref q1, .ref q3, .ref q7, .ref q15, .ref q21, .ref q38, .ref q41, .int (-1)]))]) [0] rfl
  have hKc := hK.sub (tys' := []) [] rfl
  refine va_calli (tx_runSW (n := 5) (hh := [(0, 13, 16, 13), (0, 13, 20, 15)]) (As := [.ref ax, .long ev, .int sdx, .int lvx, .ref ao]) (rest := []) ⟨hx, hb, hml, hown, hz⟩ (cw_fixity_fx3 l hnt dC dI ax q1 q3 q7 q15 q21 q38 q41 ao ev sdx lvx g1 g2 g3) rfl rfl (Nat.le_of_ble_eq_true rfl) (Nat.le_of_ble_eq_true rfl) (zH hz zm_555) List.mem_cons_self (hz _ zm_555) (hz (.initialized R_Law) zm_535) (by decide +kernel) (by decide +kernel) (hz (.methodLink R_Law 57 y_Law_fixity) zm_553) (hz (.static y_Law_fixity) zm_554) ⟨fun a U g mk q => by obtain ⟨q0, qP, qK, qC⟩ := q; exact ⟨q0, qP, va_K.moved (u := U) (U := U.calling g mk a) (Vm.Alike.refl U.vm) qK, tx_C.same (u := U) (U := U.calling g mk a) rfl rfl qC⟩, fun U hU hW => ⟨rfl, by rw [hU]; exact hPc, va_K.moved hW.alike hKc, hC.warm hW (fun z hz9 => by rw [hU]; exact hS.2.1 z hz9 (by rw [hAe]; exact Nat.not_le.mpr hz9))⟩⟩ rfl rfl hl.1 rfl (lv_room (Nat.le_of_ble_eq_true rfl)) d_Law_law_233 ⟨by decide, by decide⟩) hS (fun _ _ h => h.elim) (fun _ h => h.elim) (fun r u t H1 locs ht hvm hw hB hz1 hk1 hS => ?_)
  subst r
  have hP : va_P (dC, dI) vcl [(ax, .inr (0, [.ref q1, .ref q3, .ref q7, .ref q15, .ref q21, .ref q38, .ref q41, .int (-1)])), (ay, .inr (1, [.int 0, .int 0, .ref q42, .int 0, .int (-1), .int 0, .int 0, .ref q43, .ref q44, .ref q45, .ref q46, .ref q47, .int 0, .int 0, .ref q48, .int 0, .int 0, .ref q49, .ref q50, .ref q51, .ref q52, .ref q53, .ref q54, .int 0, .ref q55, .ref q56, .int 0, .int 0, .int 0, .int 0, .int 0, .int 0, .ref q57, .ref q58, .ref q59, .int 0, .int 0, .int 0, .int 0, .int 0, .int 0, .ref q60, .ref q61, .ref q62, .ref q63, .ref q64, .ref q65, .ref q66, .ref q67, .ref q68]))] H1 := hP.kept (fun k q hk => hk1 q.1 ((hP k q hk).lt) (fun h => h))
  generalize H1 = H at hP hS ⊢
  refine W.widen (k := 72) (n := 12112) (by decide) (by decide) ?_
  refine lv_istore hx hb d_Law_law_236 hl (by decide) rfl (fun ls hl => ?_)
  have hl : lv_has ls 8 [(5, .int 1), (4, .int 0), (3, .ref ao), (2, .ref ay), (1, .ref ax), (0, .ref b)] := hl
  refine lv_aload_n hx hb d_Law_law_238 rfl (lv_at hl 3 rfl) ?_
  refine lv_aload_n hx hb d_Law_law_239 rfl (lv_at hl 5 rfl) ?_
  refine lv_iload hx hb d_Law_law_240 (lv_at hl 1 rfl) ?_
  refine lv_iconst (v := 1) hx hb d_Law_law_242 (by decide) ?_
  refine xr_iadd (v := 1) hx hb d_Law_law_243 (by decide +kernel) ?_
  refine xr_sld (j := 1) (v := (xs 1)) hx hb hX hbl hbA hS (xr_in (by decide +kernel)) (by decide +kernel) rfl d_Law_law_244 ?_
  refine lv_i2l (v := (xs 1).toInt64) hx hb d_Law_law_245 rfl ?_
  refine lv_bipush (v := 32) hx hb d_Law_law_246 (by decide) ?_
  refine lv_lshl (v := ((xs 1).toInt64 <<< ((32 : Int32).toInt64 &&& 63))) hx hb d_Law_law_248 rfl ?_
  refine lv_aload_n hx hb d_Law_law_249 rfl (lv_at hl 5 rfl) ?_
  refine lv_iload hx hb d_Law_law_250 (lv_at hl 1 rfl) ?_
  refine lv_iconst (v := 2) hx hb d_Law_law_252 (by decide) ?_
  refine xr_iadd (v := 2) hx hb d_Law_law_253 (by decide +kernel) ?_
  refine xr_sld (j := 2) (v := (xs 2)) hx hb hX hbl hbA hS (xr_in (by decide +kernel)) (by decide +kernel) rfl d_Law_law_254 ?_
  refine lv_i2l (v := (xs 2).toInt64) hx hb d_Law_law_255 rfl ?_
  refine lv_ldc2 (v := 4294967295) hx hb hown (hz (.constantLong R_Law 42 4294967295) zm_532) d_Law_law_256 ?_
  refine xr_land (v := ((xs 2).toInt64 &&& 4294967295)) hx hb d_Law_law_259 rfl ?_
  refine xr_lor (v := ev) hx hb d_Law_law_260 hev ?_
  refine lv_aload_n hx hb d_Law_law_261 rfl (lv_at hl 5 rfl) ?_
  refine lv_iload hx hb d_Law_law_262 (lv_at hl 1 rfl) ?_
  refine lv_iconst (v := 3) hx hb d_Law_law_264 (by decide) ?_
  refine xr_iadd (v := 3) hx hb d_Law_law_265 (by decide +kernel) ?_
  refine xr_sld (j := 3) (v := sdx) hx hb hX hbl hbA hS (xr_in (by decide +kernel)) (by decide +kernel) hsd d_Law_law_266 ?_
  refine lv_aload_n hx hb d_Law_law_267 rfl (lv_at hl 5 rfl) ?_
  refine lv_iload hx hb d_Law_law_268 (lv_at hl 1 rfl) ?_
  refine lv_iconst (v := 4) hx hb d_Law_law_270 (by decide) ?_
  refine xr_iadd (v := 4) hx hb d_Law_law_271 (by decide +kernel) ?_
  refine xr_sld (j := 4) (v := lvx) hx hb hX hbl hbA hS (xr_in (by decide +kernel)) (by decide +kernel) hlv d_Law_law_272 ?_
  have hPc := hP.sub (ws' := [(ay, .inr (1, [.int 0, .int 0, .ref q42, .int 0, .int (-1), .int 0, .int 0, .ref q43, .ref q44, .ref q45, .ref q46, .ref q47, .int 0, .int 0, .ref q48, .int 0, .int 0, .ref q49, .ref q50, .ref q51, .ref q52, .ref q53, .ref q54, .int 0, .ref q55, .ref q56, .int 0, .int 0, .int 0, .int 0, .int 0, .int 0, .ref q57, .ref q58, .ref q59, .int 0, .int 0, .int 0, .int 0, .int 0, .int 0, .ref q60, .ref q61, .ref q62, .ref q63, .ref q64, .ref q65, .ref q66, .ref q67, .ref q68]))]) [1] rfl
  have hDc := hD.sub (ws' := [(ay, .inr (1, [.int 0, .int 0, .ref q42, .int 0, .int (-1), .int 0, .int 0, .ref q43, .ref q44, .ref q45, .ref q46, .ref q47, .int 0, .int 0, .ref q48, .int 0, .int 0, .ref q49, .ref q50, .ref q51, .ref q52, .ref q53, .ref q54, .int 0, .ref q55, .ref q56, .int 0, .int 0, .int 0, .int 0, .int 0, .int 0, .ref q57, .ref q58, .ref q59, .int 0, .int 0, .int 0, .int 0, .int 0, .int 0, .ref q60, .ref q61, .ref q62, .ref q63, .ref q64, .ref q65, .ref q66, .ref q67, .ref q68]))]) [1] (by decide) rfl
  have hKc := hK.sub (tys' := []) [] rfl
  have hFc := va_free (wc := [(ay, .inr (1, [.int 0, .int 0, .ref q42, .int 0, .int (-1), .int 0, .int 0, .ref q43, .ref q44, .ref q45, .ref q46, .ref q47, .int 0, .int 0, .ref q48, .int 0, .int 0, .ref q49, .ref q50, .ref q51, .ref q52, .ref q53, .ref q54, .int 0, .ref q55, .ref q56, .int 0, .int 0, .int 0, .int 0, .int 0, .int 0, .ref q57, .ref q58, .ref q59, .int 0, .int 0, .int 0, .int 0, .int 0, .int 0, .ref q60, .ref q61, .ref q62, .ref q63, .ref q64, .ref q65, .ref q66, .ref q67, .ref q68]))]) hD hS hA [1] rfl
  refine va_calli (va_runV (As := [.long ev, .int sdx, .int lvx]) (rest := []) ⟨hx, hb, hml, hown, hz⟩ (c165_Model_fixity l dC dI H.size ay q42 q43 q44 q45 q46 q47 q48 q49 q50 q51 q52 q53 q54 q55 q56 q57 q58 q59 q60 q61 q62 q63 q64 q65 q66 q67 q68 ev sdx lvx g1 g2 g3) (cwV 3 hz (zV zm_556 zm_557 zm_558 zm_374 zm_559) rfl rfl rfl (by decide +kernel) ⟨Nat.le_of_ble_eq_true rfl, Nat.le_of_ble_eq_true rfl⟩) ⟨fun a U g mk q => by obtain ⟨q0, q1, qP, qK, qD⟩ := q; exact ⟨q0, q1, qP, va_K.moved (u := U) (U := U.calling g mk a) (Vm.Alike.refl U.vm) qK, qD⟩, va_recv (q := (R_Model, F_Model, 50)) (q0 := 1) (ci := 1) hK hP rfl rfl, fun U hU hW => ⟨rfl, by rw [hU], by rw [hU]; exact hPc, va_K.moved hW.alike hKc, hDc.weaken (fun _ _ _ _ => trivial)⟩⟩ rfl rfl hl.1 rfl (lv_room (Nat.le_of_ble_eq_true rfl)) d_Law_law_273 ⟨by decide, by decide⟩) hS (fun q _ h => hFc q h) hFc (fun r u t H1 locs ht hvm hw hB hz1 hk1 hS => ?_)
  obtain ⟨hP1, hK1, hD1⟩ := hB
  subst r
  rw [ht] at hP1
  obtain ⟨hP, hD⟩ := va_join (wr := [(ax, .inr (0, [.ref q1, .ref q3, .ref q7, .ref q15, .ref q21, .ref q38, .ref q41, .int (-1)]))]) (w1 := [(ay, .inr (1, [.int 1, .int 0, .ref q42, .int 0, .int (-1), .int 0, .int 0, .ref q43, .ref q44, .ref q45, .ref q46, .ref q47, .int 0, .int 0, .ref q48, .int 0, .int 0, .ref q49, .ref q50, .ref q51, .ref q52, .ref q53, .ref q54, .int 0, .ref q55, .ref q56, .int 0, .int 0, .int 0, .int 0, .int 0, .int 0, .ref q57, .ref q58, .ref q59, .int 0, .int 0, .int 0, .int 0, .int 0, .int 0, .ref q60, .ref q61, .ref q62, .ref q63, .ref q64, .ref q65, .ref q66, .ref q67, .ref q68]))]) hP hD [1] [0] rfl rfl (by decide) (by decide) hk1 hFc hP1 hD1
  generalize H1 = H at hP hS ⊢
  have hP : va_P (dC, dI) vcl [(ax, .inr (0, [.ref q1, .ref q3, .ref q7, .ref q15, .ref q21, .ref q38, .ref q41, .int (-1)])), (ay, .inr (1, [.int 1, .int 0, .ref q42, .int 0, .int (-1), .int 0, .int 0, .ref q43, .ref q44, .ref q45, .ref q46, .ref q47, .int 0, .int 0, .ref q48, .int 0, .int 0, .ref q49, .ref q50, .ref q51, .ref q52, .ref q53, .ref q54, .int 0, .ref q55, .ref q56, .int 0, .int 0, .int 0, .int 0, .int 0, .int 0, .ref q57, .ref q58, .ref q59, .int 0, .int 0, .int 0, .int 0, .int 0, .int 0, .ref q60, .ref q61, .ref q62, .ref q63, .ref q64, .ref q65, .ref q66, .ref q67, .ref q68]))] H := hP
  have hD : va_D A [(ax, .inr (0, [.ref q1, .ref q3, .ref q7, .ref q15, .ref q21, .ref q38, .ref q41, .int (-1)])), (ay, .inr (1, [.int 1, .int 0, .ref q42, .int 0, .int (-1), .int 0, .int 0, .ref q43, .ref q44, .ref q45, .ref q46, .ref q47, .int 0, .int 0, .ref q48, .int 0, .int 0, .ref q49, .ref q50, .ref q51, .ref q52, .ref q53, .ref q54, .int 0, .ref q55, .ref q56, .int 0, .int 0, .int 0, .int 0, .int 0, .int 0, .ref q57, .ref q58, .ref q59, .int 0, .int 0, .int 0, .int 0, .int 0, .int 0, .ref q60, .ref q61, .ref q62, .ref q63, .ref q64, .ref q65, .ref q66, .ref q67, .ref q68]))] := hD
  refine lv_istore hx hb d_Law_law_276 hl (by decide) rfl (fun ls hl => ?_)
  have hl : lv_has ls 8 [(6, .int 0), (5, .int 1), (4, .int 0), (3, .ref ao), (2, .ref ay), (1, .ref ax), (0, .ref b)] := hl
  refine lv_aload_n hx hb d_Law_law_278 rfl (lv_at hl 4 rfl) ?_
  have hPc := hP.sub (ws' := [(ay, .inr (1, [.int 1, .int 0, .ref q42, .int 0, .int (-1), .int 0, .int 0, .ref q43, .ref q44, .ref q45, .ref q46, .ref q47, .int 0, .int 0, .ref q48, .int 0, .int 0, .ref q49, .ref q50, .ref q51, .ref q52, .ref q53, .ref q54, .int 0, .ref q55, .ref q56, .int 0, .int 0, .int 0, .int 0, .int 0, .int 0, .ref q57, .ref q58, .ref q59, .int 0, .int 0, .int 0, .int 0, .int 0, .int 0, .ref q60, .ref q61, .ref q62, .ref q63, .ref q64, .ref q65, .ref q66, .ref q67, .ref q68]))]) [1] rfl
  have hDc := hD.sub (ws' := [(ay, .inr (1, [.int 1, .int 0, .ref q42, .int 0, .int (-1), .int 0, .int 0, .ref q43, .ref q44, .ref q45, .ref q46, .ref q47, .int 0, .int 0, .ref q48, .int 0, .int 0, .ref q49, .ref q50, .ref q51, .ref q52, .ref q53, .ref q54, .int 0, .ref q55, .ref q56, .int 0, .int 0, .int 0, .int 0, .int 0, .int 0, .ref q57, .ref q58, .ref q59, .int 0, .int 0, .int 0, .int 0, .int 0, .int 0, .ref q60, .ref q61, .ref q62, .ref q63, .ref q64, .ref q65, .ref q66, .ref q67, .ref q68]))]) [1] (by decide) rfl
  have hKc := hK.sub (tys' := []) [] rfl
  have hFc := va_free (wc := [(ay, .inr (1, [.int 1, .int 0, .ref q42, .int 0, .int (-1), .int 0, .int 0, .ref q43, .ref q44, .ref q45, .ref q46, .ref q47, .int 0, .int 0, .ref q48, .int 0, .int 0, .ref q49, .ref q50, .ref q51, .ref q52, .ref q53, .ref q54, .int 0, .ref q55, .ref q56, .int 0, .int 0, .int 0, .int 0, .int 0, .int 0, .ref q57, .ref q58, .ref q59, .int 0, .int 0, .int 0, .int 0, .int 0, .int 0, .ref q60, .ref q61, .ref q62, .ref q63, .ref q64, .ref q65, .ref q66, .ref q67, .ref q68]))]) hD hS hA [1] rfl
  refine va_calli (va_runV (As := []) (rest := []) ⟨hx, hb, hml, hown, hz⟩ (c169_Model_thrown l dC dI H.size ay q42 q43 q44 q45 q46 q47 q48 q49 q50 q51 q52 q53 q54 q55 q56 q57 q58 q59 q60 q61 q62 q63 q64 q65 q66 q67 q68) (cwV 0 hz (zV zm_541 zm_542 zm_543 zm_374 zm_544) rfl rfl rfl (by decide +kernel) ⟨Nat.le_of_ble_eq_true rfl, Nat.le_of_ble_eq_true rfl⟩) ⟨fun a U g mk q => by obtain ⟨q0, q1, qP, qK, qD⟩ := q; exact ⟨q0, q1, qP, va_K.moved (u := U) (U := U.calling g mk a) (Vm.Alike.refl U.vm) qK, qD⟩, va_recv (q := (R_Model, F_Model, 50)) (q0 := 1) (ci := 1) hK hP rfl rfl, fun U hU hW => ⟨rfl, by rw [hU], by rw [hU]; exact hPc, va_K.moved hW.alike hKc, hDc.weaken (fun _ _ _ _ => trivial)⟩⟩ rfl rfl hl.1 rfl (lv_room (Nat.le_of_ble_eq_true rfl)) d_Law_law_279 ⟨by decide, by decide⟩) hS (fun q _ h => hFc q h) hFc (fun r u t H1 locs ht hvm hw hB hz1 hk1 hS => ?_)
  obtain ⟨hP1, hK1, hD1⟩ := hB
  subst r
  rw [ht] at hP1
  obtain ⟨hP, hD⟩ := va_join (wr := [(ax, .inr (0, [.ref q1, .ref q3, .ref q7, .ref q15, .ref q21, .ref q38, .ref q41, .int (-1)]))]) (w1 := [(ay, .inr (1, [.int 1, .int 0, .ref q42, .int 0, .int (-1), .int 0, .int 0, .ref q43, .ref q44, .ref q45, .ref q46, .ref q47, .int 0, .int 0, .ref q48, .int 0, .int 0, .ref q49, .ref q50, .ref q51, .ref q52, .ref q53, .ref q54, .int 0, .ref q55, .ref q56, .int 0, .int 0, .int 0, .int 0, .int 0, .int 0, .ref q57, .ref q58, .ref q59, .int 0, .int 0, .int 0, .int 0, .int 0, .int 0, .ref q60, .ref q61, .ref q62, .ref q63, .ref q64, .ref q65, .ref q66, .ref q67, .ref q68]))]) hP hD [1] [0] rfl rfl (by decide) (by decide) hk1 hFc hP1 hD1
  generalize H1 = H at hP hS ⊢
  have hP : va_P (dC, dI) vcl [(ax, .inr (0, [.ref q1, .ref q3, .ref q7, .ref q15, .ref q21, .ref q38, .ref q41, .int (-1)])), (ay, .inr (1, [.int 1, .int 0, .ref q42, .int 0, .int (-1), .int 0, .int 0, .ref q43, .ref q44, .ref q45, .ref q46, .ref q47, .int 0, .int 0, .ref q48, .int 0, .int 0, .ref q49, .ref q50, .ref q51, .ref q52, .ref q53, .ref q54, .int 0, .ref q55, .ref q56, .int 0, .int 0, .int 0, .int 0, .int 0, .int 0, .ref q57, .ref q58, .ref q59, .int 0, .int 0, .int 0, .int 0, .int 0, .int 0, .ref q60, .ref q61, .ref q62, .ref q63, .ref q64, .ref q65, .ref q66, .ref q67, .ref q68]))] H := hP
  have hD : va_D A [(ax, .inr (0, [.ref q1, .ref q3, .ref q7, .ref q15, .ref q21, .ref q38, .ref q41, .int (-1)])), (ay, .inr (1, [.int 1, .int 0, .ref q42, .int 0, .int (-1), .int 0, .int 0, .ref q43, .ref q44, .ref q45, .ref q46, .ref q47, .int 0, .int 0, .ref q48, .int 0, .int 0, .ref q49, .ref q50, .ref q51, .ref q52, .ref q53, .ref q54, .int 0, .ref q55, .ref q56, .int 0, .int 0, .int 0, .int 0, .int 0, .int 0, .ref q57, .ref q58, .ref q59, .int 0, .int 0, .int 0, .int 0, .int 0, .int 0, .ref q60, .ref q61, .ref q62, .ref q63, .ref q64, .ref q65, .ref q66, .ref q67, .ref q68]))] := hD
  refine lv_iload hx hb d_Law_law_282 (lv_at hl 1 rfl) ?_
  refine lv_icmp_eq (tgt := 289) hx hb d_Law_law_284 (by decide) (fun _ => ?_) (fun h => (h (by decide +kernel)).elim)
  refine lv_iload hx hb d_Law_law_289 (lv_at hl 1 rfl) ?_
  refine lv_if_ne (tgt := 306) hx hb d_Law_law_291 (by decide) (fun _ => ?_) (fun h => absurd h (by decide +kernel))
  refine lv_goto (tgt := 533) hx hb d_Law_law_306 (by decide) ?_
  exact lw_fin hAe C1 (lv_sub hl [2, 6] rfl) hS (by decide) (by decide)
