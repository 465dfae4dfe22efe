set_option maxHeartbeats 4000000 in
set_option maxRecDepth 100000 in
theorem wc_0W {p : Program} {l : Launch} {e : Env} {s : State} {m : MethodId} {below : List Frame} {meth : Method} {c : Code} {H : Heap} {locs : List Loc} {cells slots : Nat} {Q : State → Prop} {b : Nat} {xs : Nat → Int32} {D : va_G} {k : Nat → ClassId} {ls : Array Slot} {x0 x1 x2 x3 x4 x5 x6 x7 x8 x9 x10 x11 x12 y0 y1 y2 y3 y4 y5 y6 y7 y8 y9 y10 y11 y12 y13 y14 y15 y16 y17 y18 y19 y20 y21 : Nat} {g0 : Nat → Int32} {w0 : Nat → Int32} {w1 : Nat → Int32} (S : CallFix p m c cL_law 4 s #[Value.ref b] TB RL) (hK : va_K D vwCl (KT k) s) (hN : NX s) (hX : va_X b 6 xs s s.heap) (hbl : b < s.heap.size) (hP : va_P D vwCl [(x0, .inr (9, [.ref x1, .ref x2, .ref x3, .ref x4, .ref x5, .ref x6, .ref x7, .ref x8, .ref x9, .ref x10, .ref x11])), (x1, .inr (6, [.ref x12, .int 0])), (x12, .inl (k 1, 1000, .inl g0)), (y0, .inr (10, [.int 0, .ref y1, .ref y2, .ref y3, .ref y4, .int 0, .ref y5, .int 0, .int 0, .int 0, .int 0, .int 0, .int 0, .int (-1), .ref y6, .ref y7, .ref y8, .ref y9, .ref y10, .ref y11, .int 0, .int 0, .int 0, .ref y12, .ref y13, .ref y14, .int 0, .int 0, .ref y15, .int 0, .ref y16, .int 0, .ref y17, .int 0, .ref y18, .ref y19, .ref y20, .ref y21])), (y4, .inl (k 1, 1000, .inl w0)), (y5, .inl (k 0, 5, .inl w1))] H) (hD : va_D (fun z : Nat => s.heap.size ≤ z) [(x0, .inr (9, [.ref x1, .ref x2, .ref x3, .ref x4, .ref x5, .ref x6, .ref x7, .ref x8, .ref x9, .ref x10, .ref x11])), (x1, .inr (6, [.ref x12, .int 0])), (x12, .inl (k 1, 1000, .inl g0)), (y0, .inr (10, [.int 0, .ref y1, .ref y2, .ref y3, .ref y4, .int 0, .ref y5, .int 0, .int 0, .int 0, .int 0, .int 0, .int 0, .int (-1), .ref y6, .ref y7, .ref y8, .ref y9, .ref y10, .ref y11, .int 0, .int 0, .int 0, .ref y12, .ref y13, .ref y14, .int 0, .int 0, .ref y15, .int 0, .ref y16, .int 0, .ref y17, .int 0, .ref y18, .ref y19, .ref y20, .ref y21])), (y4, .inl (k 1, 1000, .inl w0)), (y5, .inl (k 0, 5, .inl w1))]) (hS : va_S (fun z : Nat => s.heap.size ≤ z) s.heap H locs) (hl : lv_has ls 4 [(0, .ref b), (1, .ref x0), (2, .ref y0), (3, .int 0)]) (hcs : cells ≤ 600000 ∧ slots ≤ 7302250) (hend : ∀ (H : Heap) (locs : List Loc), va_S (fun z : Nat => s.heap.size ≤ z) s.heap H locs → W p l e room_1 s m #[Value.ref b] below meth c H locs cells slots Q (F0 m 2212 ls [])) : W p l e room_1 s m #[Value.ref b] below meth c H locs cells slots Q (F0 m 296 ls []) := by
  have hx := S.1
  have hb := S.2.1
  have hbA : ¬ (fun z : Nat => s.heap.size ≤ z) b := Nat.not_le.mpr hbl
  have hA : ∀ q : Nat, s.heap.size ≤ q → (fun z : Nat => s.heap.size ≤ z) q := fun _ h => h
  refine lv_aload_n hx hb dL_law_296 rfl (lv_at hl 1 rfl) ?_
  refine lv_aload_n hx hb dL_law_297 rfl (lv_at hl 0 rfl) ?_
  refine lv_iload_n hx hb dL_law_298 rfl (lv_at hl 3 rfl) ?_
  refine lv_iconst (v := 1) hx hb dL_law_299 (by decide) ?_
  refine lv_iadd hx hb dL_law_300 ?_
  refine k_top (y := 1) (by decide) ?_
  refine va_sld hx hb hX hbl hbA hS (by unfold vp_in; decide) dL_law_301 ?_
  refine k_top (y := xs 1) (congrArg xs (by decide)) ?_
  refine lv_aload_n hx hb dL_law_302 rfl (lv_at hl 0 rfl) ?_
  refine lv_iload_n hx hb dL_law_303 rfl (lv_at hl 3 rfl) ?_
  refine lv_iconst (v := 2) hx hb dL_law_304 (by decide) ?_
  refine lv_iadd hx hb dL_law_305 ?_
  refine k_top (y := 2) (by decide) ?_
  refine va_sld hx hb hX hbl hbA hS (by unfold vp_in; decide) dL_law_306 ?_
  refine k_top (y := xs 2) (congrArg xs (by decide)) ?_
  refine lv_aload_n hx hb dL_law_307 rfl (lv_at hl 0 rfl) ?_
  refine lv_iload_n hx hb dL_law_308 rfl (lv_at hl 3 rfl) ?_
  refine lv_iconst (v := 3) hx hb dL_law_309 (by decide) ?_
  refine lv_iadd hx hb dL_law_310 ?_
  refine k_top (y := 3) (by decide) ?_
  refine va_sld hx hb hX hbl hbA hS (by unfold vp_in; decide) dL_law_311 ?_
  refine k_top (y := xs 3) (congrArg xs (by decide)) ?_
  refine lv_aload_n hx hb dL_law_312 rfl (lv_at hl 0 rfl) ?_
  refine lv_iload_n hx hb dL_law_313 rfl (lv_at hl 3 rfl) ?_
  refine lv_iconst (v := 4) hx hb dL_law_314 (by decide) ?_
  refine lv_iadd hx hb dL_law_315 ?_
  refine k_top (y := 4) (by decide) ?_
  refine va_sld hx hb hX hbl hbA hS (by unfold vp_in; decide) dL_law_316 ?_
  refine k_top (y := xs 4) (congrArg xs (by decide)) ?_
  refine lv_aload_n hx hb dL_law_317 rfl (lv_at hl 0 rfl) ?_
  refine lv_iload_n hx hb dL_law_318 rfl (lv_at hl 3 rfl) ?_
  refine lv_iconst (v := 5) hx hb dL_law_319 (by decide) ?_
  refine lv_iadd hx hb dL_law_320 ?_
  refine k_top (y := 5) (by decide) ?_
  refine va_sld hx hb hX hbl hbA hS (by unfold vp_in; decide) dL_law_321 ?_
  refine k_top (y := xs 5) (congrArg xs (by decide)) ?_
  refine rw_i (mc := 0) (ms := 0) (wc := [(x0, .inr (9, [.ref x1, .ref x2, .ref x3, .ref x4, .ref x5, .ref x6, .ref x7, .ref x8, .ref x9, .ref x10, .ref x11])), (x1, .inr (6, [.ref x12, .int 0])), (x12, .inl (k 1, 1000, .inl g0))]) (wr := [(y0, .inr (10, [.int 0, .ref y1, .ref y2, .ref y3, .ref y4, .int 0, .ref y5, .int 0, .int 0, .int 0, .int 0, .int 0, .int 0, .int (-1), .ref y6, .ref y7, .ref y8, .ref y9, .ref y10, .ref y11, .int 0, .int 0, .int 0, .ref y12, .ref y13, .ref y14, .int 0, .int 0, .ref y15, .int 0, .ref y16, .int 0, .ref y17, .int 0, .ref y18, .ref y19, .ref y20, .ref y21])), (y4, .inl (k 1, 1000, .inl w0)), (y5, .inl (k 0, 5, .inl w1))]) [0, 1, 2] [3, 4, 5] rfl rfl (by decide +kernel) (by decide +kernel) (by decide +kernel) hP hD hS hA (fun hPc hDc => run_V (mc := 0) (ms := 0) (As := [.int (xs 1), .int (xs 2), .int (xs 3), .int (xs 4), .int (xs 5)]) (rest := []) S (c_X9_feedW l D k x0 x1 x2 x3 x4 x5 x6 x7 x8 x9 x10 x11 x12 g0 (xs 1) (xs 2) (xs 3) (xs 4) (xs 5) _) lkL_13 ok_X9_feed ⟨rfl, rfl, Nat.le_of_ble_eq_true rfl, Nat.le_of_ble_eq_true rfl⟩ (pw_V (ci := 9) (q0 := 0) hK hN rfl rfl hPc hDc) rfl hl.1 rfl (Nat.le_of_ble_eq_true rfl) hcs dL_law_322) (fun r_1 ur_1 H locs hr_1 hKr_1 hP9 hD9 hS9 => ?_)
  clear hP hD hS
  have hS := hS9
  have hP : va_P D vwCl [(y0, .inr (10, [.int 0, .ref y1, .ref y2, .ref y3, .ref y4, .int 0, .ref y5, .int 0, .int 0, .int 0, .int 0, .int 0, .int 0, .int (-1), .ref y6, .ref y7, .ref y8, .ref y9, .ref y10, .ref y11, .int 0, .int 0, .int 0, .ref y12, .ref y13, .ref y14, .int 0, .int 0, .ref y15, .int 0, .ref y16, .int 0, .ref y17, .int 0, .ref y18, .ref y19, .ref y20, .ref y21])), (y4, .inl (k 1, 1000, .inl w0)), (y5, .inl (k 0, 5, .inl w1))] H := hP9
  have hD : va_D (fun z : Nat => s.heap.size ≤ z) [(y0, .inr (10, [.int 0, .ref y1, .ref y2, .ref y3, .ref y4, .int 0, .ref y5, .int 0, .int 0, .int 0, .int 0, .int 0, .int 0, .int (-1), .ref y6, .ref y7, .ref y8, .ref y9, .ref y10, .ref y11, .int 0, .int 0, .int 0, .ref y12, .ref y13, .ref y14, .int 0, .int 0, .ref y15, .int 0, .ref y16, .int 0, .ref y17, .int 0, .ref y18, .ref y19, .ref y20, .ref y21])), (y4, .inl (k 1, 1000, .inl w0)), (y5, .inl (k 0, 5, .inl w1))] := hD9
  clear hP9 hD9 hS9
  replace hr_1 : r_1 = 20 := hr_1
  subst hr_1
  refine lv_aload_n hx hb dL_law_325 rfl (lv_at hl 2 rfl) ?_
  refine lv_aload_n hx hb dL_law_326 rfl (lv_at hl 0 rfl) ?_
  refine lv_iload_n hx hb dL_law_327 rfl (lv_at hl 3 rfl) ?_
  refine lv_iconst (v := 1) hx hb dL_law_328 (by decide) ?_
  refine lv_iadd hx hb dL_law_329 ?_
  refine k_top (y := 1) (by decide) ?_
  refine va_sld hx hb hX hbl hbA hS (by unfold vp_in; decide) dL_law_330 ?_
  refine k_top (y := xs 1) (congrArg xs (by decide)) ?_
  refine lv_aload_n hx hb dL_law_331 rfl (lv_at hl 0 rfl) ?_
  refine lv_iload_n hx hb dL_law_332 rfl (lv_at hl 3 rfl) ?_
  refine lv_iconst (v := 2) hx hb dL_law_333 (by decide) ?_
  refine lv_iadd hx hb dL_law_334 ?_
  refine k_top (y := 2) (by decide) ?_
  refine va_sld hx hb hX hbl hbA hS (by unfold vp_in; decide) dL_law_335 ?_
  refine k_top (y := xs 2) (congrArg xs (by decide)) ?_
  refine lv_aload_n hx hb dL_law_336 rfl (lv_at hl 0 rfl) ?_
  refine lv_iload_n hx hb dL_law_337 rfl (lv_at hl 3 rfl) ?_
  refine lv_iconst (v := 3) hx hb dL_law_338 (by decide) ?_
  refine lv_iadd hx hb dL_law_339 ?_
  refine k_top (y := 3) (by decide) ?_
  refine va_sld hx hb hX hbl hbA hS (by unfold vp_in; decide) dL_law_340 ?_
  refine k_top (y := xs 3) (congrArg xs (by decide)) ?_
  refine lv_aload_n hx hb dL_law_341 rfl (lv_at hl 0 rfl) ?_
  refine lv_iload_n hx hb dL_law_342 rfl (lv_at hl 3 rfl) ?_
  refine lv_iconst (v := 4) hx hb dL_law_343 (by decide) ?_
  refine lv_iadd hx hb dL_law_344 ?_
  refine k_top (y := 4) (by decide) ?_
  refine va_sld hx hb hX hbl hbA hS (by unfold vp_in; decide) dL_law_345 ?_
  refine k_top (y := xs 4) (congrArg xs (by decide)) ?_
  refine lv_aload_n hx hb dL_law_346 rfl (lv_at hl 0 rfl) ?_
  refine lv_iload_n hx hb dL_law_347 rfl (lv_at hl 3 rfl) ?_
  refine lv_iconst (v := 5) hx hb dL_law_348 (by decide) ?_
  refine lv_iadd hx hb dL_law_349 ?_
  refine k_top (y := 5) (by decide) ?_
  refine va_sld hx hb hX hbl hbA hS (by unfold vp_in; decide) dL_law_350 ?_
  refine k_top (y := xs 5) (congrArg xs (by decide)) ?_
  refine rw_i (mc := 0) (ms := 0) (wc := [(y0, .inr (10, [.int 0, .ref y1, .ref y2, .ref y3, .ref y4, .int 0, .ref y5, .int 0, .int 0, .int 0, .int 0, .int 0, .int 0, .int (-1), .ref y6, .ref y7, .ref y8, .ref y9, .ref y10, .ref y11, .int 0, .int 0, .int 0, .ref y12, .ref y13, .ref y14, .int 0, .int 0, .ref y15, .int 0, .ref y16, .int 0, .ref y17, .int 0, .ref y18, .ref y19, .ref y20, .ref y21])), (y4, .inl (k 1, 1000, .inl w0)), (y5, .inl (k 0, 5, .inl w1))]) (wr := []) [0, 1, 2] [] rfl rfl (by decide +kernel) (by decide +kernel) (by decide +kernel) hP hD hS hA (fun hPc hDc => run_V (mc := 0) (ms := 0) (As := [.int (xs 1), .int (xs 2), .int (xs 3), .int (xs 4), .int (xs 5)]) (rest := [.int (20)]) S (c_X10_feedW l D k y0 y1 y2 y3 y4 y5 y6 y7 y8 y9 y10 y11 y12 y13 y14 y15 y16 y17 y18 y19 y20 y21 w0 w1 (xs 1) (xs 2) (xs 3) (xs 4) (xs 5) _) lkL_17 ok_X10_feed ⟨rfl, rfl, Nat.le_of_ble_eq_true rfl, Nat.le_of_ble_eq_true rfl⟩ (pw_V (ci := 10) (q0 := 0) hK hN rfl rfl hPc hDc) rfl hl.1 rfl (Nat.le_of_ble_eq_true rfl) hcs dL_law_351) (fun r_2 ur_2 H locs hr_2 hKr_2 hP9 hD9 hS9 => ?_)
  clear hP hD hS
  have hS := hS9
  have hP : va_P D vwCl [] H := hP9
  have hD : va_D (fun z : Nat => s.heap.size ≤ z) [] := hD9
  clear hP9 hD9 hS9
  replace hr_2 : r_2 = 20 := hr_2
  subst hr_2
  refine lv_icmp_eq (tgt := 2212) hx hb dL_law_354 (by decide) (fun _ => hend H locs hS) (fun c_3 => absurd rfl c_3)
set_option maxHeartbeats 4000000 in
set_option maxRecDepth 100000 in
theorem wc_1W {p : Program} {l : Launch} {e : Env} {s : State} {m : MethodId} {below : List Frame} {meth : Method} {c : Code} {H : Heap} {locs : List Loc} {cells slots : Nat} {Q : State → Prop} {b : Nat} {xs : Nat → Int32} {D : va_G} {k : Nat → ClassId} {ls : Array Slot} {x0 x1 x2 x3 x4 x5 x6 x7 x8 x9 x10 x11 x12 y0 y1 y2 y3 y4 y5 y6 y7 y8 y9 y10 y11 y12 y13 y14 y15 y16 y17 y18 y19 y20 y21 : Nat} (S : CallFix p m c cL_law 4 s #[Value.ref b] TB RL) (hK : va_K D vwCl (KT k) s) (hN : NX s) (hX : va_X b 6 xs s s.heap) (hbl : b < s.heap.size) (hP : va_P D vwCl [(x0, .inr (9, [.ref x1, .ref x2, .ref x3, .ref x4, .ref x5, .ref x6, .ref x7, .ref x8, .ref x9, .ref x10, .ref x11])), (x1, .inr (6, [.ref x12, .int 0])), (y0, .inr (10, [.int 0, .ref y1, .ref y2, .ref y3, .ref y4, .int 0, .ref y5, .int 0, .int 0, .int 0, .int 0, .int 0, .int 0, .int (-1), .ref y6, .ref y7, .ref y8, .ref y9, .ref y10, .ref y11, .int 0, .int 0, .int 0, .ref y12, .ref y13, .ref y14, .int 0, .int 0, .ref y15, .int 0, .ref y16, .int 0, .ref y17, .int 0, .ref y18, .ref y19, .ref y20, .ref y21]))] H) (hD : va_D (fun z : Nat => s.heap.size ≤ z) [(x0, .inr (9, [.ref x1, .ref x2, .ref x3, .ref x4, .ref x5, .ref x6, .ref x7, .ref x8, .ref x9, .ref x10, .ref x11])), (x1, .inr (6, [.ref x12, .int 0])), (y0, .inr (10, [.int 0, .ref y1, .ref y2, .ref y3, .ref y4, .int 0, .ref y5, .int 0, .int 0, .int 0, .int 0, .int 0, .int 0, .int (-1), .ref y6, .ref y7, .ref y8, .ref y9, .ref y10, .ref y11, .int 0, .int 0, .int 0, .ref y12, .ref y13, .ref y14, .int 0, .int 0, .ref y15, .int 0, .ref y16, .int 0, .ref y17, .int 0, .ref y18, .ref y19, .ref y20, .ref y21]))]) (hS : va_S (fun z : Nat => s.heap.size ≤ z) s.heap H locs) (hl : lv_has ls 4 [(0, .ref b), (1, .ref x0), (2, .ref y0), (3, .int 0)]) (hcs : cells ≤ 600000 ∧ slots ≤ 7302250) (hend : ∀ (H : Heap) (locs : List Loc), va_S (fun z : Nat => s.heap.size ≤ z) s.heap H locs → W p l e room_1 s m #[Value.ref b] below meth c H locs cells slots Q (F0 m 2212 ls [])) : W p l e room_1 s m #[Value.ref b] below meth c H locs cells slots Q (F0 m 359 ls []) := by
  have hx := S.1
  have hb := S.2.1
  have hbA : ¬ (fun z : Nat => s.heap.size ≤ z) b := Nat.not_le.mpr hbl
  have hA : ∀ q : Nat, s.heap.size ≤ q → (fun z : Nat => s.heap.size ≤ z) q := fun _ h => h
  refine lv_aload_n hx hb dL_law_359 rfl (lv_at hl 1 rfl) ?_
  refine lv_aload_n hx hb dL_law_360 rfl (lv_at hl 0 rfl) ?_
  refine lv_iload_n hx hb dL_law_361 rfl (lv_at hl 3 rfl) ?_
  refine lv_iconst (v := 1) hx hb dL_law_362 (by decide) ?_
  refine lv_iadd hx hb dL_law_363 ?_
  refine k_top (y := 1) (by decide) ?_
  refine va_sld hx hb hX hbl hbA hS (by unfold vp_in; decide) dL_law_364 ?_
  refine k_top (y := xs 1) (congrArg xs (by decide)) ?_
  refine rw_i (mc := 0) (ms := 0) (wc := [(x0, .inr (9, [.ref x1, .ref x2, .ref x3, .ref x4, .ref x5, .ref x6, .ref x7, .ref x8, .ref x9, .ref x10, .ref x11])), (x1, .inr (6, [.ref x12, .int 0]))]) (wr := [(y0, .inr (10, [.int 0, .ref y1, .ref y2, .ref y3, .ref y4, .int 0, .ref y5, .int 0, .int 0, .int 0, .int 0, .int 0, .int 0, .int (-1), .ref y6, .ref y7, .ref y8, .ref y9, .ref y10, .ref y11, .int 0, .int 0, .int 0, .ref y12, .ref y13, .ref y14, .int 0, .int 0, .ref y15, .int 0, .ref y16, .int 0, .ref y17, .int 0, .ref y18, .ref y19, .ref y20, .ref y21]))]) [0, 1] [2] rfl rfl (by decide +kernel) (by decide +kernel) (by decide +kernel) hP hD hS hA (fun hPc hDc => run_V (mc := 0) (ms := 0) (As := [.int (xs 1)]) (rest := []) S (c_X9_endW l D k x0 x1 x2 x3 x4 x5 x6 x7 x8 x9 x10 x11 x12  (xs 1) _) lkL_18 ok_X9_end ⟨rfl, rfl, Nat.le_of_ble_eq_true rfl, Nat.le_of_ble_eq_true rfl⟩ (pw_V (ci := 9) (q0 := 0) hK hN rfl rfl hPc hDc) rfl hl.1 rfl (Nat.le_of_ble_eq_true rfl) hcs dL_law_365) (fun r_1 ur_1 H locs hr_1 hKr_1 hP9 hD9 hS9 => ?_)
  clear hP hD hS
  have hS := hS9
  have hP : va_P D vwCl [(y0, .inr (10, [.int 0, .ref y1, .ref y2, .ref y3, .ref y4, .int 0, .ref y5, .int 0, .int 0, .int 0, .int 0, .int 0, .int 0, .int (-1), .ref y6, .ref y7, .ref y8, .ref y9, .ref y10, .ref y11, .int 0, .int 0, .int 0, .ref y12, .ref y13, .ref y14, .int 0, .int 0, .ref y15, .int 0, .ref y16, .int 0, .ref y17, .int 0, .ref y18, .ref y19, .ref y20, .ref y21]))] H := hP9
  have hD : va_D (fun z : Nat => s.heap.size ≤ z) [(y0, .inr (10, [.int 0, .ref y1, .ref y2, .ref y3, .ref y4, .int 0, .ref y5, .int 0, .int 0, .int 0, .int 0, .int 0, .int 0, .int (-1), .ref y6, .ref y7, .ref y8, .ref y9, .ref y10, .ref y11, .int 0, .int 0, .int 0, .ref y12, .ref y13, .ref y14, .int 0, .int 0, .ref y15, .int 0, .ref y16, .int 0, .ref y17, .int 0, .ref y18, .ref y19, .ref y20, .ref y21]))] := hD9
  clear hP9 hD9 hS9
  replace hr_1 : r_1 = a_end (xs 1) := hr_1
  subst hr_1
  refine lv_aload_n hx hb dL_law_368 rfl (lv_at hl 2 rfl) ?_
  refine lv_aload_n hx hb dL_law_369 rfl (lv_at hl 0 rfl) ?_
  refine lv_iload_n hx hb dL_law_370 rfl (lv_at hl 3 rfl) ?_
  refine lv_iconst (v := 1) hx hb dL_law_371 (by decide) ?_
  refine lv_iadd hx hb dL_law_372 ?_
  refine k_top (y := 1) (by decide) ?_
  refine va_sld hx hb hX hbl hbA hS (by unfold vp_in; decide) dL_law_373 ?_
  refine k_top (y := xs 1) (congrArg xs (by decide)) ?_
  refine rw_i (mc := 0) (ms := 0) (wc := [(y0, .inr (10, [.int 0, .ref y1, .ref y2, .ref y3, .ref y4, .int 0, .ref y5, .int 0, .int 0, .int 0, .int 0, .int 0, .int 0, .int (-1), .ref y6, .ref y7, .ref y8, .ref y9, .ref y10, .ref y11, .int 0, .int 0, .int 0, .ref y12, .ref y13, .ref y14, .int 0, .int 0, .ref y15, .int 0, .ref y16, .int 0, .ref y17, .int 0, .ref y18, .ref y19, .ref y20, .ref y21]))]) (wr := []) [0] [] rfl rfl (by decide +kernel) (by decide +kernel) (by decide +kernel) hP hD hS hA (fun hPc hDc => run_V (mc := 0) (ms := 0) (As := [.int (xs 1)]) (rest := [.int (a_end (xs 1))]) S (c_X10_end_W l D k y0 y1 y2 y3 y4 y5 y6 y7 y8 y9 y10 y11 y12 y13 y14 y15 y16 y17 y18 y19 y20 y21  (xs 1) _) lkL_22 ok_X10_end_ ⟨rfl, rfl, Nat.le_of_ble_eq_true rfl, Nat.le_of_ble_eq_true rfl⟩ (pw_V (ci := 10) (q0 := 0) hK hN rfl rfl hPc hDc) rfl hl.1 rfl (Nat.le_of_ble_eq_true rfl) hcs dL_law_374) (fun r_2 ur_2 H locs hr_2 hKr_2 hP9 hD9 hS9 => ?_)
  clear hP hD hS
  have hS := hS9
  have hP : va_P D vwCl [] H := hP9
  have hD : va_D (fun z : Nat => s.heap.size ≤ z) [] := hD9
  clear hP9 hD9 hS9
  replace hr_2 : r_2 = a_end (xs 1) := hr_2
  subst hr_2
  refine lv_icmp_eq (tgt := 2212) hx hb dL_law_377 (by decide) (fun _ => hend H locs hS) (fun c_3 => absurd rfl c_3)
set_option maxHeartbeats 4000000 in
set_option maxRecDepth 100000 in
theorem wc_2W {p : Program} {l : Launch} {e : Env} {s : State} {m : MethodId} {below : List Frame} {meth : Method} {c : Code} {H : Heap} {locs : List Loc} {cells slots : Nat} {Q : State → Prop} {b : Nat} {xs : Nat → Int32} {D : va_G} {k : Nat → ClassId} {ls : Array Slot} {x0 x1 x2 x3 x4 x5 x6 x7 x8 x9 x10 x11 x12 x13 x14 x15 x16 x17 x18 x19 x20 x21 x22 x23 x24 x25 x26 x27 x28 x29 x30 x31 x32 x33 x34 x35 x36 x37 x38 x39 x40 x41 x42 x43 x44 x45 x46 x47 y0 y1 y2 y3 y4 y5 y6 y7 y8 y9 y10 y11 y12 y13 y14 y15 y16 y17 y18 y19 y20 y21 : Nat} {g0 : Nat → Int32} {g1 : Nat → Int32} {g2 : Nat → Int32} {g3 : Nat → Int32} {g4 : Nat → Int32} {g5 : Nat → Int32} {g6 : Nat → Int32} {g7 : Nat → Int32} {g8 : Nat → Int32} {g9 : Nat → Int32} {g10 : Nat → Int32} {g11 : Nat → Int32} {g12 : Nat → Int32} {g13 : Nat → Int32} {g14 : Nat → Int32} {g15 : Nat → Int32} {g16 : Nat → Int32} {g17 : Nat → Int32} {g18 : Nat → Int32} {g19 : Nat → Int32} {g20 : Nat → Int32} {g21 : Nat → Int32} {g22 : Nat → Int32} {g23 : Nat → Int32} {g24 : Nat → Int32} {g25 : Nat → Int32} {g26 : Nat → Int32} {g27 : Nat → Int32} {g28 : Nat → Int32} {g29 : Nat → Int32} {w0 : Nat → Int32} {w1 : Nat → Int32} (S : CallFix p m c cL_law 4 s #[Value.ref b] TB RL) (hK : va_K D vwCl (KT k) s) (hN : NX s) (hX : va_X b 6 xs s s.heap) (hbl : b < s.heap.size) (hP : va_P D vwCl [(x0, .inr (9, [.ref x1, .ref x2, .ref x3, .ref x4, .ref x5, .ref x6, .ref x7, .ref x8, .ref x9, .ref x10, .ref x11])), (x2, .inr (2, [.ref x1, .ref x13, .int 0, .int (-1), .int 0, .int 0, .int 0, .int 0])), (x1, .inr (6, [.ref x12, .int 0])), (x13, .inr (1, [.int 0, .int 0, .int 0, .int 0, .int 0, .int 0, .int 0, .ref x14, .ref x15, .ref x16, .ref x17, .ref x18, .ref x19, .ref x20])), (x14, .inl (k 0, 8, .inl g0)), (x15, .inl (k 0, 8, .inl g1)), (x16, .inl (k 0, 8, .inl g2)), (x17, .inl (k 0, 6, .inl g3)), (x18, .inl (k 0, 6, .inl g4)), (x19, .inl (k 0, 6, .inl g5)), (x20, .inr (5, [.ref x21, .ref x22, .ref x23, .ref x24, .ref x25])), (x21, .inl (k 0, 64, .inl g6)), (x22, .inl (k 0, 8, .inl g7)), (x23, .inl (k 0, 8, .inl g8)), (x24, .inl (k 0, 3, .inl g9)), (x25, .inl (k 0, 3, .inl g10)), (x3, .inr (8, [.ref x26, .ref x27, .int 0, .ref x28, .ref x29, .ref x30])), (x26, .inr (1, [.int 0, .int 0, .int 0, .int 0, .int 0, .int 0, .int 0, .ref x31, .ref x32, .ref x33, .ref x34, .ref x35, .ref x36, .ref x37])), (x31, .inl (k 0, 8, .inl g11)), (x32, .inl (k 0, 8, .inl g12)), (x33, .inl (k 0, 8, .inl g13)), (x34, .inl (k 0, 6, .inl g14)), (x35, .inl (k 0, 6, .inl g15)), (x36, .inl (k 0, 6, .inl g16)), (x37, .inr (5, [.ref x38, .ref x39, .ref x40, .ref x41, .ref x42])), (x38, .inl (k 0, 64, .inl g17)), (x39, .inl (k 0, 8, .inl g18)), (x40, .inl (k 0, 8, .inl g19)), (x41, .inl (k 0, 3, .inl g20)), (x42, .inl (k 0, 3, .inl g21)), (x27, .inr (5, [.ref x43, .ref x44, .ref x45, .ref x46, .ref x47])), (x43, .inl (k 0, 64, .inl g22)), (x44, .inl (k 0, 8, .inl g23)), (x45, .inl (k 0, 8, .inl g24)), (x46, .inl (k 0, 3, .inl g25)), (x47, .inl (k 0, 3, .inl g26)), (x28, .inl (k 0, 40, .inl g27)), (x29, .inl (k 0, 40, .inl g28)), (x30, .inl (k 0, 40, .inl g29)), (y0, .inr (10, [.int 0, .ref y1, .ref y2, .ref y3, .ref y4, .int 0, .ref y5, .int 0, .int 0, .int 0, .int 0, .int 0, .int 0, .int (-1), .ref y6, .ref y7, .ref y8, .ref y9, .ref y10, .ref y11, .int 0, .int 0, .int 0, .ref y12, .ref y13, .ref y14, .int 0, .int 0, .ref y15, .int 0, .ref y16, .int 0, .ref y17, .int 0, .ref y18, .ref y19, .ref y20, .ref y21])), (y6, .inl (k 0, 168, .inl w0)), (y1, .inl (k 0, 168, .inl w1))] H) (hD : va_D (fun z : Nat => s.heap.size ≤ z) [(x0, .inr (9, [.ref x1, .ref x2, .ref x3, .ref x4, .ref x5, .ref x6, .ref x7, .ref x8, .ref x9, .ref x10, .ref x11])), (x2, .inr (2, [.ref x1, .ref x13, .int 0, .int (-1), .int 0, .int 0, .int 0, .int 0])), (x1, .inr (6, [.ref x12, .int 0])), (x13, .inr (1, [.int 0, .int 0, .int 0, .int 0, .int 0, .int 0, .int 0, .ref x14, .ref x15, .ref x16, .ref x17, .ref x18, .ref x19, .ref x20])), (x14, .inl (k 0, 8, .inl g0)), (x15, .inl (k 0, 8, .inl g1)), (x16, .inl (k 0, 8, .inl g2)), (x17, .inl (k 0, 6, .inl g3)), (x18, .inl (k 0, 6, .inl g4)), (x19, .inl (k 0, 6, .inl g5)), (x20, .inr (5, [.ref x21, .ref x22, .ref x23, .ref x24, .ref x25])), (x21, .inl (k 0, 64, .inl g6)), (x22, .inl (k 0, 8, .inl g7)), (x23, .inl (k 0, 8, .inl g8)), (x24, .inl (k 0, 3, .inl g9)), (x25, .inl (k 0, 3, .inl g10)), (x3, .inr (8, [.ref x26, .ref x27, .int 0, .ref x28, .ref x29, .ref x30])), (x26, .inr (1, [.int 0, .int 0, .int 0, .int 0, .int 0, .int 0, .int 0, .ref x31, .ref x32, .ref x33, .ref x34, .ref x35, .ref x36, .ref x37])), (x31, .inl (k 0, 8, .inl g11)), (x32, .inl (k 0, 8, .inl g12)), (x33, .inl (k 0, 8, .inl g13)), (x34, .inl (k 0, 6, .inl g14)), (x35, .inl (k 0, 6, .inl g15)), (x36, .inl (k 0, 6, .inl g16)), (x37, .inr (5, [.ref x38, .ref x39, .ref x40, .ref x41, .ref x42])), (x38, .inl (k 0, 64, .inl g17)), (x39, .inl (k 0, 8, .inl g18)), (x40, .inl (k 0, 8, .inl g19)), (x41, .inl (k 0, 3, .inl g20)), (x42, .inl (k 0, 3, .inl g21)), (x27, .inr (5, [.ref x43, .ref x44, .ref x45, .ref x46, .ref x47])), (x43, .inl (k 0, 64, .inl g22)), (x44, .inl (k 0, 8, .inl g23)), (x45, .inl (k 0, 8, .inl g24)), (x46, .inl (k 0, 3, .inl g25)), (x47, .inl (k 0, 3, .inl g26)), (x28, .inl (k 0, 40, .inl g27)), (x29, .inl (k 0, 40, .inl g28)), (x30, .inl (k 0, 40, .inl g29)), (y0, .inr (10, [.int 0, .ref y1, .ref y2, .ref y3, .ref y4, .int 0, .ref y5, .int 0, .int 0, .int 0, .int 0, .int 0, .int 0, .int (-1), .ref y6, .ref y7, .ref y8, .ref y9, .ref y10, .ref y11, .int 0, .int 0, .int 0, .ref y12, .ref y13, .ref y14, .int 0, .int 0, .ref y15, .int 0, .ref y16, .int 0, .ref y17, .int 0, .ref y18, .ref y19, .ref y20, .ref y21])), (y6, .inl (k 0, 168, .inl w0)), (y1, .inl (k 0, 168, .inl w1))]) (hS : va_S (fun z : Nat => s.heap.size ≤ z) s.heap H locs) (hl : lv_has ls 4 [(0, .ref b), (1, .ref x0), (2, .ref y0), (3, .int 0)]) (hcs : cells ≤ 600000 ∧ slots ≤ 7302250) (hend : ∀ (H : Heap) (locs : List Loc), va_S (fun z : Nat => s.heap.size ≤ z) s.heap H locs → W p l e room_1 s m #[Value.ref b] below meth c H locs cells slots Q (F0 m 2212 ls [])) : W p l e room_1 s m #[Value.ref b] below meth c H locs cells slots Q (F0 m 382 ls []) := by
  have hx := S.1
  have hb := S.2.1
  have hbA : ¬ (fun z : Nat => s.heap.size ≤ z) b := Nat.not_le.mpr hbl
  have hA : ∀ q : Nat, s.heap.size ≤ q → (fun z : Nat => s.heap.size ≤ z) q := fun _ h => h
  refine lv_aload_n hx hb dL_law_382 rfl (lv_at hl 1 rfl) ?_
  refine rw_i (mc := 0) (ms := 0) (wc := [(x0, .inr (9, [.ref x1, .ref x2, .ref x3, .ref x4, .ref x5, .ref x6, .ref x7, .ref x8, .ref x9, .ref x10, .ref x11])), (x2, .inr (2, [.ref x1, .ref x13, .int 0, .int (-1), .int 0, .int 0, .int 0, .int 0])), (x1, .inr (6, [.ref x12, .int 0])), (x13, .inr (1, [.int 0, .int 0, .int 0, .int 0, .int 0, .int 0, .int 0, .ref x14, .ref x15, .ref x16, .ref x17, .ref x18, .ref x19, .ref x20])), (x14, .inl (k 0, 8, .inl g0)), (x15, .inl (k 0, 8, .inl g1)), (x16, .inl (k 0, 8, .inl g2)), (x17, .inl (k 0, 6, .inl g3)), (x18, .inl (k 0, 6, .inl g4)), (x19, .inl (k 0, 6, .inl g5)), (x20, .inr (5, [.ref x21, .ref x22, .ref x23, .ref x24, .ref x25])), (x21, .inl (k 0, 64, .inl g6)), (x22, .inl (k 0, 8, .inl g7)), (x23, .inl (k 0, 8, .inl g8)), (x24, .inl (k 0, 3, .inl g9)), (x25, .inl (k 0, 3, .inl g10)), (x3, .inr (8, [.ref x26, .ref x27, .int 0, .ref x28, .ref x29, .ref x30])), (x26, .inr (1, [.int 0, .int 0, .int 0, .int 0, .int 0, .int 0, .int 0, .ref x31, .ref x32, .ref x33, .ref x34, .ref x35, .ref x36, .ref x37])), (x31, .inl (k 0, 8, .inl g11)), (x32, .inl (k 0, 8, .inl g12)), (x33, .inl (k 0, 8, .inl g13)), (x34, .inl (k 0, 6, .inl g14)), (x35, .inl (k 0, 6, .inl g15)), (x36, .inl (k 0, 6, .inl g16)), (x37, .inr (5, [.ref x38, .ref x39, .ref x40, .ref x41, .ref x42])), (x38, .inl (k 0, 64, .inl g17)), (x39, .inl (k 0, 8, .inl g18)), (x40, .inl (k 0, 8, .inl g19)), (x41, .inl (k 0, 3, .inl g20)), (x42, .inl (k 0, 3, .inl g21)), (x27, .inr (5, [.ref x43, .ref x44, .ref x45, .ref x46, .ref x47])), (x43, .inl (k 0, 64, .inl g22)), (x44, .inl (k 0, 8, .inl g23)), (x45, .inl (k 0, 8, .inl g24)), (x46, .inl (k 0, 3, .inl g25)), (x47, .inl (k 0, 3, .inl g26)), (x28, .inl (k 0, 40, .inl g27)), (x29, .inl (k 0, 40, .inl g28)), (x30, .inl (k 0, 40, .inl g29))]) (wr := [(y0, .inr (10, [.int 0, .ref y1, .ref y2, .ref y3, .ref y4, .int 0, .ref y5, .int 0, .int 0, .int 0, .int 0, .int 0, .int 0, .int (-1), .ref y6, .ref y7, .ref y8, .ref y9, .ref y10, .ref y11, .int 0, .int 0, .int 0, .ref y12, .ref y13, .ref y14, .int 0, .int 0, .ref y15, .int 0, .ref y16, .int 0, .ref y17, .int 0, .ref y18, .ref y19, .ref y20, .ref y21])), (y6, .inl (k 0, 168, .inl w0)), (y1, .inl (k 0, 168, .inl w1))]) [0, 1, 2, 3, 4, 5, 6, 7, 8, 9, 10, 11, 12, 13, 14, 15, 16, 17, 18, 19, 20, 21, 22, 23, 24, 25, 26, 27, 28, 29, 30, 31, 32, 33, 34, 35, 36, 37, 38] [39, 40, 41] rfl rfl (by decide +kernel) (by decide +kernel) (by decide +kernel) hP hD hS hA (fun hPc hDc => run_V (mc := 0) (ms := 0) (As := []) (rest := []) S (c_X9_landW l D k x0 x1 x2 x3 x4 x5 x6 x7 x8 x9 x10 x11 x12 x13 x14 x15 x16 x17 x18 x19 x20 x21 x22 x23 x24 x25 x26 x27 x28 x29 x30 x31 x32 x33 x34 x35 x36 x37 x38 x39 x40 x41 x42 x43 x44 x45 x46 x47 g0 g1 g2 g3 g4 g5 g6 g7 g8 g9 g10 g11 g12 g13 g14 g15 g16 g17 g18 g19 g20 g21 g22 g23 g24 g25 g26 g27 g28 g29  _) lkL_23 ok_X9_land ⟨rfl, rfl, Nat.le_of_ble_eq_true rfl, Nat.le_of_ble_eq_true rfl⟩ (pw_V (ci := 9) (q0 := 0) hK hN rfl rfl hPc hDc) rfl hl.1 rfl (Nat.le_of_ble_eq_true rfl) hcs dL_law_383) (fun r_1 ur_1 H locs hr_1 hKr_1 hP9 hD9 hS9 => ?_)
  clear hP hD hS
  have hS := hS9
  have hP : va_P D vwCl [(y0, .inr (10, [.int 0, .ref y1, .ref y2, .ref y3, .ref y4, .int 0, .ref y5, .int 0, .int 0, .int 0, .int 0, .int 0, .int 0, .int (-1), .ref y6, .ref y7, .ref y8, .ref y9, .ref y10, .ref y11, .int 0, .int 0, .int 0, .ref y12, .ref y13, .ref y14, .int 0, .int 0, .ref y15, .int 0, .ref y16, .int 0, .ref y17, .int 0, .ref y18, .ref y19, .ref y20, .ref y21])), (y6, .inl (k 0, 168, .inl w0)), (y1, .inl (k 0, 168, .inl w1))] H := hP9
  have hD : va_D (fun z : Nat => s.heap.size ≤ z) [(y0, .inr (10, [.int 0, .ref y1, .ref y2, .ref y3, .ref y4, .int 0, .ref y5, .int 0, .int 0, .int 0, .int 0, .int 0, .int 0, .int (-1), .ref y6, .ref y7, .ref y8, .ref y9, .ref y10, .ref y11, .int 0, .int 0, .int 0, .ref y12, .ref y13, .ref y14, .int 0, .int 0, .ref y15, .int 0, .ref y16, .int 0, .ref y17, .int 0, .ref y18, .ref y19, .ref y20, .ref y21])), (y6, .inl (k 0, 168, .inl w0)), (y1, .inl (k 0, 168, .inl w1))] := hD9
  clear hP9 hD9 hS9
  replace hr_1 : r_1 = 0 := hr_1
  subst hr_1
  refine lv_aload_n hx hb dL_law_386 rfl (lv_at hl 2 rfl) ?_
  refine rw_i (mc := 0) (ms := 0) (wc := [(y0, .inr (10, [.int 0, .ref y1, .ref y2, .ref y3, .ref y4, .int 0, .ref y5, .int 0, .int 0, .int 0, .int 0, .int 0, .int 0, .int (-1), .ref y6, .ref y7, .ref y8, .ref y9, .ref y10, .ref y11, .int 0, .int 0, .int 0, .ref y12, .ref y13, .ref y14, .int 0, .int 0, .ref y15, .int 0, .ref y16, .int 0, .ref y17, .int 0, .ref y18, .ref y19, .ref y20, .ref y21])), (y6, .inl (k 0, 168, .inl w0)), (y1, .inl (k 0, 168, .inl w1))]) (wr := []) [0, 1, 2] [] rfl rfl (by decide +kernel) (by decide +kernel) (by decide +kernel) hP hD hS hA (fun hPc hDc => run_V (mc := 0) (ms := 0) (As := []) (rest := [.int (0)]) S (c_X10_landW l D k y0 y1 y2 y3 y4 y5 y6 y7 y8 y9 y10 y11 y12 y13 y14 y15 y16 y17 y18 y19 y20 y21 w0 w1  _) lkL_27 ok_X10_land ⟨rfl, rfl, Nat.le_of_ble_eq_true rfl, Nat.le_of_ble_eq_true rfl⟩ (pw_V (ci := 10) (q0 := 0) hK hN rfl rfl hPc hDc) rfl hl.1 rfl (Nat.le_of_ble_eq_true rfl) hcs dL_law_387) (fun r_2 ur_2 H locs hr_2 hKr_2 hP9 hD9 hS9 => ?_)
  clear hP hD hS
  have hS := hS9
  have hP : va_P D vwCl [] H := hP9
  have hD : va_D (fun z : Nat => s.heap.size ≤ z) [] := hD9
  clear hP9 hD9 hS9
  replace hr_2 : r_2 = 0 := hr_2
  subst hr_2
  refine lv_icmp_eq (tgt := 2212) hx hb dL_law_390 (by decide) (fun _ => hend H locs hS) (fun c_3 => absurd rfl c_3)
set_option maxHeartbeats 4000000 in
set_option maxRecDepth 100000 in
theorem wc_57W0 {p : Program} {l : Launch} {e : Env} {s : State} {m : MethodId} {below : List Frame} {meth : Method} {c : Code} {H : Heap} {locs : List Loc} {cells slots : Nat} {Q : State → Prop} {b : Nat} {xs : Nat → Int32} {D : va_G} {k : Nat → ClassId} {ls : Array Slot} {x0 x1 x2 x3 x4 x5 x6 x7 x8 x9 x10 x11 x12 x13 x14 x15 x16 x17 x18 x19 x20 x21 x22 x23 x24 x25 x26 x27 x28 x29 x30 x31 x32 x33 x34 x35 x36 x37 x38 x39 x40 x41 x42 x43 x44 x45 x46 x47 x48 x49 x50 x51 x52 x53 x54 x55 x56 x57 x58 y0 y1 y2 y3 y4 y5 y6 y7 y8 y9 y10 y11 y12 y13 y14 y15 y16 y17 y18 y19 y20 y21 : Nat} {g0 : Nat → Int32} {g1 : Nat → Int32} {g2 : Nat → Int32} {g3 : Nat → Int32} {g4 : Nat → Int32} {g5 : Nat → Int32} {g6 : Nat → Int32} {g7 : Nat → Int32} {g8 : Nat → Int32} {g9 : Nat → Int32} {g10 : Nat → Int32} {g11 : Nat → Int32} {g12 : Nat → Int32} {g13 : Nat → Int32} {g14 : Nat → Int32} {g15 : Nat → Int32} {g16 : Nat → Int32} {g17 : Nat → Int32} {g18 : Nat → Int32} {g19 : Nat → Int32} {g20 : Nat → Int32} {g21 : Nat → Int32} {g22 : Nat → Int32} {g23 : Nat → Int32} {g24 : Nat → Int32} {g25 : Nat → Int32} {g26 : Nat → Int32} {g27 : Nat → Int32} {g28 : Nat → Int32} {g29 : Nat → Int32} {g30 : Nat → Int32} {g31 : Nat → Int32} {g32 : Nat → Int32} {g33 : Nat → Int32} {g34 : Nat → Int32} {g35 : Nat → Int32} {g36 : Nat → Int32} {g37 : Nat → Int32} {g38 : Nat → Int32} {w0 : Nat → Int32} {w1 : Nat → Int32} {w2 : Nat → Int32} (h9 : xs 1 = 0) (S : CallFix p m c cL_law 4 s #[Value.ref b] TB RL) (hK : va_K D vwCl (KT k) s) (hN : NX s) (hX : va_X b 6 xs s s.heap) (hbl : b < s.heap.size) (hP : va_P D vwCl [(x0, .inr (9, [.ref x1, .ref x2, .ref x3, .ref x4, .ref x5, .ref x6, .ref x7, .ref x8, .ref x9, .ref x10, .ref x11])), (x4, .inl (k 4, 3, .inr (.inr (.inr (.inr (va_up (va_up (va_up (fun _ => none) 0 (some x12)) 1 (some x13)) 2 (some x14))))))), (x5, .inl (k 3, 3, .inl g0)), (x12, .inr (8, [.ref x15, .ref x16, .int 0, .ref x17, .ref x18, .ref x19])), (x15, .inr (1, [.int 0, .int 0, .int 0, .int 0, .int 0, .int 0, .int 0, .ref x20, .ref x21, .ref x22, .ref x23, .ref x24, .ref x25, .ref x26])), (x20, .inl (k 0, 8, .inl g1)), (x21, .inl (k 0, 8, .inl g2)), (x22, .inl (k 0, 8, .inl g3)), (x23, .inl (k 0, 6, .inl g4)), (x24, .inl (k 0, 6, .inl g5)), (x25, .inl (k 0, 6, .inl g6)), (x26, .inr (5, [.ref x27, .ref x28, .ref x29, .ref x30, .ref x31])), (x27, .inl (k 0, 64, .inl g7)), (x28, .inl (k 0, 8, .inl g8)), (x29, .inl (k 0, 8, .inl g9)), (x30, .inl (k 0, 3, .inl g10)), (x31, .inl (k 0, 3, .inl g11)), (x16, .inr (5, [.ref x32, .ref x33, .ref x34, .ref x35, .ref x36])), (x32, .inl (k 0, 64, .inl g12)), (x33, .inl (k 0, 8, .inl g13)), (x34, .inl (k 0, 8, .inl g14)), (x35, .inl (k 0, 3, .inl g15)), (x36, .inl (k 0, 3, .inl g16)), (x17, .inl (k 0, 40, .inl g17)), (x18, .inl (k 0, 40, .inl g18)), (x19, .inl (k 0, 40, .inl g19)), (x3, .inr (8, [.ref x37, .ref x38, .int 0, .ref x39, .ref x40, .ref x41])), (x37, .inr (1, [.int 0, .int 0, .int 0, .int 0, .int 0, .int 0, .int 0, .ref x42, .ref x43, .ref x44, .ref x45, .ref x46, .ref x47, .ref x48])), (x42, .inl (k 0, 8, .inl g20)), (x43, .inl (k 0, 8, .inl g21)), (x44, .inl (k 0, 8, .inl g22)), (x45, .inl (k 0, 6, .inl g23)), (x46, .inl (k 0, 6, .inl g24)), (x47, .inl (k 0, 6, .inl g25)), (x48, .inr (5, [.ref x49, .ref x50, .ref x51, .ref x52, .ref x53])), (x49, .inl (k 0, 64, .inl g26)), (x50, .inl (k 0, 8, .inl g27)), (x51, .inl (k 0, 8, .inl g28)), (x52, .inl (k 0, 3, .inl g29)), (x53, .inl (k 0, 3, .inl g30)), (x38, .inr (5, [.ref x54, .ref x55, .ref x56, .ref x57, .ref x58])), (x54, .inl (k 0, 64, .inl g31)), (x55, .inl (k 0, 8, .inl g32)), (x56, .inl (k 0, 8, .inl g33)), (x57, .inl (k 0, 3, .inl g34)), (x58, .inl (k 0, 3, .inl g35)), (x39, .inl (k 0, 40, .inl g36)), (x40, .inl (k 0, 40, .inl g37)), (x41, .inl (k 0, 40, .inl g38)), (y0, .inr (10, [.int 0, .ref y1, .ref y2, .ref y3, .ref y4, .int 0, .ref y5, .int 0, .int 0, .int 0, .int 0, .int 0, .int 0, .int (-1), .ref y6, .ref y7, .ref y8, .ref y9, .ref y10, .ref y11, .int 0, .int 0, .int 0, .ref y12, .ref y13, .ref y14, .int 0, .int 0, .ref y15, .int 0, .ref y16, .int 0, .ref y17, .int 0, .ref y18, .ref y19, .ref y20, .ref y21])), (y1, .inl (k 0, 168, .inl w0)), (y2, .inl (k 0, 504, .inl w1)), (y3, .inl (k 3, 3, .inl w2))] H) (hD : va_D (fun z : Nat => s.heap.size ≤ z) [(x0, .inr (9, [.ref x1, .ref x2, .ref x3, .ref x4, .ref x5, .ref x6, .ref x7, .ref x8, .ref x9, .ref x10, .ref x11])), (x4, .inl (k 4, 3, .inr (.inr (.inr (.inr (va_up (va_up (va_up (fun _ => none) 0 (some x12)) 1 (some x13)) 2 (some x14))))))), (x5, .inl (k 3, 3, .inl g0)), (x12, .inr (8, [.ref x15, .ref x16, .int 0, .ref x17, .ref x18, .ref x19])), (x15, .inr (1, [.int 0, .int 0, .int 0, .int 0, .int 0, .int 0, .int 0, .ref x20, .ref x21, .ref x22, .ref x23, .ref x24, .ref x25, .ref x26])), (x20, .inl (k 0, 8, .inl g1)), (x21, .inl (k 0, 8, .inl g2)), (x22, .inl (k 0, 8, .inl g3)), (x23, .inl (k 0, 6, .inl g4)), (x24, .inl (k 0, 6, .inl g5)), (x25, .inl (k 0, 6, .inl g6)), (x26, .inr (5, [.ref x27, .ref x28, .ref x29, .ref x30, .ref x31])), (x27, .inl (k 0, 64, .inl g7)), (x28, .inl (k 0, 8, .inl g8)), (x29, .inl (k 0, 8, .inl g9)), (x30, .inl (k 0, 3, .inl g10)), (x31, .inl (k 0, 3, .inl g11)), (x16, .inr (5, [.ref x32, .ref x33, .ref x34, .ref x35, .ref x36])), (x32, .inl (k 0, 64, .inl g12)), (x33, .inl (k 0, 8, .inl g13)), (x34, .inl (k 0, 8, .inl g14)), (x35, .inl (k 0, 3, .inl g15)), (x36, .inl (k 0, 3, .inl g16)), (x17, .inl (k 0, 40, .inl g17)), (x18, .inl (k 0, 40, .inl g18)), (x19, .inl (k 0, 40, .inl g19)), (x3, .inr (8, [.ref x37, .ref x38, .int 0, .ref x39, .ref x40, .ref x41])), (x37, .inr (1, [.int 0, .int 0, .int 0, .int 0, .int 0, .int 0, .int 0, .ref x42, .ref x43, .ref x44, .ref x45, .ref x46, .ref x47, .ref x48])), (x42, .inl (k 0, 8, .inl g20)), (x43, .inl (k 0, 8, .inl g21)), (x44, .inl (k 0, 8, .inl g22)), (x45, .inl (k 0, 6, .inl g23)), (x46, .inl (k 0, 6, .inl g24)), (x47, .inl (k 0, 6, .inl g25)), (x48, .inr (5, [.ref x49, .ref x50, .ref x51, .ref x52, .ref x53])), (x49, .inl (k 0, 64, .inl g26)), (x50, .inl (k 0, 8, .inl g27)), (x51, .inl (k 0, 8, .inl g28)), (x52, .inl (k 0, 3, .inl g29)), (x53, .inl (k 0, 3, .inl g30)), (x38, .inr (5, [.ref x54, .ref x55, .ref x56, .ref x57, .ref x58])), (x54, .inl (k 0, 64, .inl g31)), (x55, .inl (k 0, 8, .inl g32)), (x56, .inl (k 0, 8, .inl g33)), (x57, .inl (k 0, 3, .inl g34)), (x58, .inl (k 0, 3, .inl g35)), (x39, .inl (k 0, 40, .inl g36)), (x40, .inl (k 0, 40, .inl g37)), (x41, .inl (k 0, 40, .inl g38)), (y0, .inr (10, [.int 0, .ref y1, .ref y2, .ref y3, .ref y4, .int 0, .ref y5, .int 0, .int 0, .int 0, .int 0, .int 0, .int 0, .int (-1), .ref y6, .ref y7, .ref y8, .ref y9, .ref y10, .ref y11, .int 0, .int 0, .int 0, .ref y12, .ref y13, .ref y14, .int 0, .int 0, .ref y15, .int 0, .ref y16, .int 0, .ref y17, .int 0, .ref y18, .ref y19, .ref y20, .ref y21])), (y1, .inl (k 0, 168, .inl w0)), (y2, .inl (k 0, 504, .inl w1)), (y3, .inl (k 3, 3, .inl w2))]) (hS : va_S (fun z : Nat => s.heap.size ≤ z) s.heap H locs) (hl : lv_has ls 4 [(0, .ref b), (1, .ref x0), (2, .ref y0), (3, .int 0)]) (hcs : cells ≤ 600000 ∧ slots ≤ 7302250) (hend : ∀ (H : Heap) (locs : List Loc), va_S (fun z : Nat => s.heap.size ≤ z) s.heap H locs → W p l e room_1 s m #[Value.ref b] below meth c H locs cells slots Q (F0 m 2212 ls [])) : W p l e room_1 s m #[Value.ref b] below meth c H locs cells slots Q (F0 m 1987 ls []) := by
  have hx := S.1
  have hb := S.2.1
  have hbA : ¬ (fun z : Nat => s.heap.size ≤ z) b := Nat.not_le.mpr hbl
  have hA : ∀ q : Nat, s.heap.size ≤ q → (fun z : Nat => s.heap.size ≤ z) q := fun _ h => h
  refine lv_aload_n hx hb dL_law_1987 rfl (lv_at hl 1 rfl) ?_
  refine lv_aload_n hx hb dL_law_1988 rfl (lv_at hl 0 rfl) ?_
  refine lv_iload_n hx hb dL_law_1989 rfl (lv_at hl 3 rfl) ?_
  refine lv_iconst (v := 1) hx hb dL_law_1990 (by decide) ?_
  refine lv_iadd hx hb dL_law_1991 ?_
  refine k_top (y := 1) (by decide) ?_
  refine va_sld hx hb hX hbl hbA hS (by unfold vp_in; decide) dL_law_1992 ?_
  refine k_top (y := 0) ((congrArg xs (by decide)).trans h9) ?_
  refine rw_i (mc := 0) (ms := 0) (wc := [(x0, .inr (9, [.ref x1, .ref x2, .ref x3, .ref x4, .ref x5, .ref x6, .ref x7, .ref x8, .ref x9, .ref x10, .ref x11])), (x4, .inl (k 4, 3, .inr (.inr (.inr (.inr (va_up (va_up (va_up (fun _ => none) 0 (some x12)) 1 (some x13)) 2 (some x14))))))), (x5, .inl (k 3, 3, .inl g0)), (x12, .inr (8, [.ref x15, .ref x16, .int 0, .ref x17, .ref x18, .ref x19])), (x15, .inr (1, [.int 0, .int 0, .int 0, .int 0, .int 0, .int 0, .int 0, .ref x20, .ref x21, .ref x22, .ref x23, .ref x24, .ref x25, .ref x26])), (x20, .inl (k 0, 8, .inl g1)), (x21, .inl (k 0, 8, .inl g2)), (x22, .inl (k 0, 8, .inl g3)), (x23, .inl (k 0, 6, .inl g4)), (x24, .inl (k 0, 6, .inl g5)), (x25, .inl (k 0, 6, .inl g6)), (x26, .inr (5, [.ref x27, .ref x28, .ref x29, .ref x30, .ref x31])), (x27, .inl (k 0, 64, .inl g7)), (x28, .inl (k 0, 8, .inl g8)), (x29, .inl (k 0, 8, .inl g9)), (x30, .inl (k 0, 3, .inl g10)), (x31, .inl (k 0, 3, .inl g11)), (x16, .inr (5, [.ref x32, .ref x33, .ref x34, .ref x35, .ref x36])), (x32, .inl (k 0, 64, .inl g12)), (x33, .inl (k 0, 8, .inl g13)), (x34, .inl (k 0, 8, .inl g14)), (x35, .inl (k 0, 3, .inl g15)), (x36, .inl (k 0, 3, .inl g16)), (x17, .inl (k 0, 40, .inl g17)), (x18, .inl (k 0, 40, .inl g18)), (x19, .inl (k 0, 40, .inl g19)), (x3, .inr (8, [.ref x37, .ref x38, .int 0, .ref x39, .ref x40, .ref x41])), (x37, .inr (1, [.int 0, .int 0, .int 0, .int 0, .int 0, .int 0, .int 0, .ref x42, .ref x43, .ref x44, .ref x45, .ref x46, .ref x47, .ref x48])), (x42, .inl (k 0, 8, .inl g20)), (x43, .inl (k 0, 8, .inl g21)), (x44, .inl (k 0, 8, .inl g22)), (x45, .inl (k 0, 6, .inl g23)), (x46, .inl (k 0, 6, .inl g24)), (x47, .inl (k 0, 6, .inl g25)), (x48, .inr (5, [.ref x49, .ref x50, .ref x51, .ref x52, .ref x53])), (x49, .inl (k 0, 64, .inl g26)), (x50, .inl (k 0, 8, .inl g27)), (x51, .inl (k 0, 8, .inl g28)), (x52, .inl (k 0, 3, .inl g29)), (x53, .inl (k 0, 3, .inl g30)), (x38, .inr (5, [.ref x54, .ref x55, .ref x56, .ref x57, .ref x58])), (x54, .inl (k 0, 64, .inl g31)), (x55, .inl (k 0, 8, .inl g32)), (x56, .inl (k 0, 8, .inl g33)), (x57, .inl (k 0, 3, .inl g34)), (x58, .inl (k 0, 3, .inl g35)), (x39, .inl (k 0, 40, .inl g36)), (x40, .inl (k 0, 40, .inl g37)), (x41, .inl (k 0, 40, .inl g38))]) (wr := [(y0, .inr (10, [.int 0, .ref y1, .ref y2, .ref y3, .ref y4, .int 0, .ref y5, .int 0, .int 0, .int 0, .int 0, .int 0, .int 0, .int (-1), .ref y6, .ref y7, .ref y8, .ref y9, .ref y10, .ref y11, .int 0, .int 0, .int 0, .ref y12, .ref y13, .ref y14, .int 0, .int 0, .ref y15, .int 0, .ref y16, .int 0, .ref y17, .int 0, .ref y18, .ref y19, .ref y20, .ref y21])), (y1, .inl (k 0, 168, .inl w0)), (y2, .inl (k 0, 504, .inl w1)), (y3, .inl (k 3, 3, .inl w2))]) [0, 1, 2, 3, 4, 5, 6, 7, 8, 9, 10, 11, 12, 13, 14, 15, 16, 17, 18, 19, 20, 21, 22, 23, 24, 25, 26, 27, 28, 29, 30, 31, 32, 33, 34, 35, 36, 37, 38, 39, 40, 41, 42, 43, 44, 45, 46, 47, 48] [49, 50, 51, 52] rfl rfl (by decide +kernel) (by decide +kernel) (by decide +kernel) hP hD hS hA (fun hPc hDc => run_V (mc := 0) (ms := 0) (As := [.int 0]) (rest := []) S (c_X9_imageW0 l D k x0 x1 x2 x3 x4 x5 x6 x7 x8 x9 x10 x11 x12 x13 x14 x15 x16 x17 x18 x19 x20 x21 x22 x23 x24 x25 x26 x27 x28 x29 x30 x31 x32 x33 x34 x35 x36 x37 x38 x39 x40 x41 x42 x43 x44 x45 x46 x47 x48 x49 x50 x51 x52 x53 x54 x55 x56 x57 x58 g0 g1 g2 g3 g4 g5 g6 g7 g8 g9 g10 g11 g12 g13 g14 g15 g16 g17 g18 g19 g20 g21 g22 g23 g24 g25 g26 g27 g28 g29 g30 g31 g32 g33 g34 g35 g36 g37 g38  _) lkL_247 ok_X9_image ⟨rfl, rfl, Nat.le_of_ble_eq_true rfl, Nat.le_of_ble_eq_true rfl⟩ (pw_V (ci := 9) (q0 := 0) hK hN rfl rfl hPc hDc) rfl hl.1 rfl (Nat.le_of_ble_eq_true rfl) hcs dL_law_1993) (fun r_1 ur_1 H locs hr_1 hKr_1 hP9 hD9 hS9 => ?_)
  clear hP hD hS
  have hS := hS9
  have hP : va_P D vwCl [(y0, .inr (10, [.int 0, .ref y1, .ref y2, .ref y3, .ref y4, .int 0, .ref y5, .int 0, .int 0, .int 0, .int 0, .int 0, .int 0, .int (-1), .ref y6, .ref y7, .ref y8, .ref y9, .ref y10, .ref y11, .int 0, .int 0, .int 0, .ref y12, .ref y13, .ref y14, .int 0, .int 0, .ref y15, .int 0, .ref y16, .int 0, .ref y17, .int 0, .ref y18, .ref y19, .ref y20, .ref y21])), (y1, .inl (k 0, 168, .inl w0)), (y2, .inl (k 0, 504, .inl w1)), (y3, .inl (k 3, 3, .inl w2))] H := hP9
  have hD : va_D (fun z : Nat => s.heap.size ≤ z) [(y0, .inr (10, [.int 0, .ref y1, .ref y2, .ref y3, .ref y4, .int 0, .ref y5, .int 0, .int 0, .int 0, .int 0, .int 0, .int 0, .int (-1), .ref y6, .ref y7, .ref y8, .ref y9, .ref y10, .ref y11, .int 0, .int 0, .int 0, .ref y12, .ref y13, .ref y14, .int 0, .int 0, .ref y15, .int 0, .ref y16, .int 0, .ref y17, .int 0, .ref y18, .ref y19, .ref y20, .ref y21])), (y1, .inl (k 0, 168, .inl w0)), (y2, .inl (k 0, 504, .inl w1)), (y3, .inl (k 3, 3, .inl w2))] := hD9
  clear hP9 hD9 hS9
  replace hr_1 : r_1 = 0 := hr_1
  subst hr_1
  refine lv_aload_n hx hb dL_law_1996 rfl (lv_at hl 2 rfl) ?_
  refine lv_aload_n hx hb dL_law_1997 rfl (lv_at hl 0 rfl) ?_
  refine lv_iload_n hx hb dL_law_1998 rfl (lv_at hl 3 rfl) ?_
  refine lv_iconst (v := 1) hx hb dL_law_1999 (by decide) ?_
  refine lv_iadd hx hb dL_law_2000 ?_
  refine k_top (y := 1) (by decide) ?_
  refine va_sld hx hb hX hbl hbA hS (by unfold vp_in; decide) dL_law_2001 ?_
  refine k_top (y := 0) ((congrArg xs (by decide)).trans h9) ?_
  refine rw_i (mc := 0) (ms := 0) (wc := [(y0, .inr (10, [.int 0, .ref y1, .ref y2, .ref y3, .ref y4, .int 0, .ref y5, .int 0, .int 0, .int 0, .int 0, .int 0, .int 0, .int (-1), .ref y6, .ref y7, .ref y8, .ref y9, .ref y10, .ref y11, .int 0, .int 0, .int 0, .ref y12, .ref y13, .ref y14, .int 0, .int 0, .ref y15, .int 0, .ref y16, .int 0, .ref y17, .int 0, .ref y18, .ref y19, .ref y20, .ref y21])), (y1, .inl (k 0, 168, .inl w0)), (y2, .inl (k 0, 504, .inl w1)), (y3, .inl (k 3, 3, .inl w2))]) (wr := []) [0, 1, 2, 3] [] rfl rfl (by decide +kernel) (by decide +kernel) (by decide +kernel) hP hD hS hA (fun hPc hDc => run_V (mc := 0) (ms := 0) (As := [.int 0]) (rest := [.int (0)]) S (c_X10_imageW0 l D k y0 y1 y2 y3 y4 y5 y6 y7 y8 y9 y10 y11 y12 y13 y14 y15 y16 y17 y18 y19 y20 y21 w0 w1 w2  _) lkL_250 ok_X10_image ⟨rfl, rfl, Nat.le_of_ble_eq_true rfl, Nat.le_of_ble_eq_true rfl⟩ (pw_V (ci := 10) (q0 := 0) hK hN rfl rfl hPc hDc) rfl hl.1 rfl (Nat.le_of_ble_eq_true rfl) hcs dL_law_2002) (fun r_2 ur_2 H locs hr_2 hKr_2 hP9 hD9 hS9 => ?_)
  clear hP hD hS
  have hS := hS9
  have hP : va_P D vwCl [] H := hP9
  have hD : va_D (fun z : Nat => s.heap.size ≤ z) [] := hD9
  clear hP9 hD9 hS9
  replace hr_2 : r_2 = 0 := hr_2
  subst hr_2
  refine lv_icmp_eq (tgt := 2212) hx hb dL_law_2005 (by decide) (fun _ => hend H locs hS) (fun c_3 => absurd rfl c_3)
set_option maxHeartbeats 4000000 in
set_option maxRecDepth 100000 in
theorem wc_57W1 {p : Program} {l : Launch} {e : Env} {s : State} {m : MethodId} {below : List Frame} {meth : Method} {c : Code} {H : Heap} {locs : List Loc} {cells slots : Nat} {Q : State → Prop} {b : Nat} {xs : Nat → Int32} {D : va_G} {k : Nat → ClassId} {ls : Array Slot} {x0 x1 x2 x3 x4 x5 x6 x7 x8 x9 x10 x11 x12 x13 x14 x15 x16 x17 x18 x19 x20 x21 x22 x23 x24 x25 x26 x27 x28 x29 x30 x31 x32 x33 x34 x35 x36 x37 x38 x39 x40 x41 x42 x43 x44 x45 x46 x47 x48 x49 x50 x51 x52 x53 x54 x55 x56 x57 x58 y0 y1 y2 y3 y4 y5 y6 y7 y8 y9 y10 y11 y12 y13 y14 y15 y16 y17 y18 y19 y20 y21 : Nat} {g0 : Nat → Int32} {g1 : Nat → Int32} {g2 : Nat → Int32} {g3 : Nat → Int32} {g4 : Nat → Int32} {g5 : Nat → Int32} {g6 : Nat → Int32} {g7 : Nat → Int32} {g8 : Nat → Int32} {g9 : Nat → Int32} {g10 : Nat → Int32} {g11 : Nat → Int32} {g12 : Nat → Int32} {g13 : Nat → Int32} {g14 : Nat → Int32} {g15 : Nat → Int32} {g16 : Nat → Int32} {g17 : Nat → Int32} {g18 : Nat → Int32} {g19 : Nat → Int32} {g20 : Nat → Int32} {g21 : Nat → Int32} {g22 : Nat → Int32} {g23 : Nat → Int32} {g24 : Nat → Int32} {g25 : Nat → Int32} {g26 : Nat → Int32} {g27 : Nat → Int32} {g28 : Nat → Int32} {g29 : Nat → Int32} {g30 : Nat → Int32} {g31 : Nat → Int32} {g32 : Nat → Int32} {g33 : Nat → Int32} {g34 : Nat → Int32} {g35 : Nat → Int32} {g36 : Nat → Int32} {g37 : Nat → Int32} {g38 : Nat → Int32} {w0 : Nat → Int32} {w1 : Nat → Int32} {w2 : Nat → Int32} (h9 : xs 1 = 1) (S : CallFix p m c cL_law 4 s #[Value.ref b] TB RL) (hK : va_K D vwCl (KT k) s) (hN : NX s) (hX : va_X b 6 xs s s.heap) (hbl : b < s.heap.size) (hP : va_P D vwCl [(x0, .inr (9, [.ref x1, .ref x2, .ref x3, .ref x4, .ref x5, .ref x6, .ref x7, .ref x8, .ref x9, .ref x10, .ref x11])), (x4, .inl (k 4, 3, .inr (.inr (.inr (.inr (va_up (va_up (va_up (fun _ => none) 0 (some x12)) 1 (some x13)) 2 (some x14))))))), (x5, .inl (k 3, 3, .inl g0)), (x13, .inr (8, [.ref x15, .ref x16, .int 0, .ref x17, .ref x18, .ref x19])), (x15, .inr (1, [.int 0, .int 0, .int 0, .int 0, .int 0, .int 0, .int 0, .ref x20, .ref x21, .ref x22, .ref x23, .ref x24, .ref x25, .ref x26])), (x20, .inl (k 0, 8, .inl g1)), (x21, .inl (k 0, 8, .inl g2)), (x22, .inl (k 0, 8, .inl g3)), (x23, .inl (k 0, 6, .inl g4)), (x24, .inl (k 0, 6, .inl g5)), (x25, .inl (k 0, 6, .inl g6)), (x26, .inr (5, [.ref x27, .ref x28, .ref x29, .ref x30, .ref x31])), (x27, .inl (k 0, 64, .inl g7)), (x28, .inl (k 0, 8, .inl g8)), (x29, .inl (k 0, 8, .inl g9)), (x30, .inl (k 0, 3, .inl g10)), (x31, .inl (k 0, 3, .inl g11)), (x16, .inr (5, [.ref x32, .ref x33, .ref x34, .ref x35, .ref x36])), (x32, .inl (k 0, 64, .inl g12)), (x33, .inl (k 0, 8, .inl g13)), (x34, .inl (k 0, 8, .inl g14)), (x35, .inl (k 0, 3, .inl g15)), (x36, .inl (k 0, 3, .inl g16)), (x17, .inl (k 0, 40, .inl g17)), (x18, .inl (k 0, 40, .inl g18)), (x19, .inl (k 0, 40, .inl g19)), (x3, .inr (8, [.ref x37, .ref x38, .int 0, .ref x39, .ref x40, .ref x41])), (x37, .inr (1, [.int 0, .int 0, .int 0, .int 0, .int 0, .int 0, .int 0, .ref x42, .ref x43, .ref x44, .ref x45, .ref x46, .ref x47, .ref x48])), (x42, .inl (k 0, 8, .inl g20)), (x43, .inl (k 0, 8, .inl g21)), (x44, .inl (k 0, 8, .inl g22)), (x45, .inl (k 0, 6, .inl g23)), (x46, .inl (k 0, 6, .inl g24)), (x47, .inl (k 0, 6, .inl g25)), (x48, .inr (5, [.ref x49, .ref x50, .ref x51, .ref x52, .ref x53])), (x49, .inl (k 0, 64, .inl g26)), (x50, .inl (k 0, 8, .inl g27)), (x51, .inl (k 0, 8, .inl g28)), (x52, .inl (k 0, 3, .inl g29)), (x53, .inl (k 0, 3, .inl g30)), (x38, .inr (5, [.ref x54, .ref x55, .ref x56, .ref x57, .ref x58])), (x54, .inl (k 0, 64, .inl g31)), (x55, .inl (k 0, 8, .inl g32)), (x56, .inl (k 0, 8, .inl g33)), (x57, .inl (k 0, 3, .inl g34)), (x58, .inl (k 0, 3, .inl g35)), (x39, .inl (k 0, 40, .inl g36)), (x40, .inl (k 0, 40, .inl g37)), (x41, .inl (k 0, 40, .inl g38)), (y0, .inr (10, [.int 0, .ref y1, .ref y2, .ref y3, .ref y4, .int 0, .ref y5, .int 0, .int 0, .int 0, .int 0, .int 0, .int 0, .int (-1), .ref y6, .ref y7, .ref y8, .ref y9, .ref y10, .ref y11, .int 0, .int 0, .int 0, .ref y12, .ref y13, .ref y14, .int 0, .int 0, .ref y15, .int 0, .ref y16, .int 0, .ref y17, .int 0, .ref y18, .ref y19, .ref y20, .ref y21])), (y1, .inl (k 0, 168, .inl w0)), (y2, .inl (k 0, 504, .inl w1)), (y3, .inl (k 3, 3, .inl w2))] H) (hD : va_D (fun z : Nat => s.heap.size ≤ z) [(x0, .inr (9, [.ref x1, .ref x2, .ref x3, .ref x4, .ref x5, .ref x6, .ref x7, .ref x8, .ref x9, .ref x10, .ref x11])), (x4, .inl (k 4, 3, .inr (.inr (.inr (.inr (va_up (va_up (va_up (fun _ => none) 0 (some x12)) 1 (some x13)) 2 (some x14))))))), (x5, .inl (k 3, 3, .inl g0)), (x13, .inr (8, [.ref x15, .ref x16, .int 0, .ref x17, .ref x18, .ref x19])), (x15, .inr (1, [.int 0, .int 0, .int 0, .int 0, .int 0, .int 0, .int 0, .ref x20, .ref x21, .ref x22, .ref x23, .ref x24, .ref x25, .ref x26])), (x20, .inl (k 0, 8, .inl g1)), (x21, .inl (k 0, 8, .inl g2)), (x22, .inl (k 0, 8, .inl g3)), (x23, .inl (k 0, 6, .inl g4)), (x24, .inl (k 0, 6, .inl g5)), (x25, .inl (k 0, 6, .inl g6)), (x26, .inr (5, [.ref x27, .ref x28, .ref x29, .ref x30, .ref x31])), (x27, .inl (k 0, 64, .inl g7)), (x28, .inl (k 0, 8, .inl g8)), (x29, .inl (k 0, 8, .inl g9)), (x30, .inl (k 0, 3, .inl g10)), (x31, .inl (k 0, 3, .inl g11)), (x16, .inr (5, [.ref x32, .ref x33, .ref x34, .ref x35, .ref x36])), (x32, .inl (k 0, 64, .inl g12)), (x33, .inl (k 0, 8, .inl g13)), (x34, .inl (k 0, 8, .inl g14)), (x35, .inl (k 0, 3, .inl g15)), (x36, .inl (k 0, 3, .inl g16)), (x17, .inl (k 0, 40, .inl g17)), (x18, .inl (k 0, 40, .inl g18)), (x19, .inl (k 0, 40, .inl g19)), (x3, .inr (8, [.ref x37, .ref x38, .int 0, .ref x39, .ref x40, .ref x41])), (x37, .inr (1, [.int 0, .int 0, .int 0, .int 0, .int 0, .int 0, .int 0, .ref x42, .ref x43, .ref x44, .ref x45, .ref x46, .ref x47, .ref x48])), (x42, .inl (k 0, 8, .inl g20)), (x43, .inl (k 0, 8, .inl g21)), (x44, .inl (k 0, 8, .inl g22)), (x45, .inl (k 0, 6, .inl g23)), (x46, .inl (k 0, 6, .inl g24)), (x47, .inl (k 0, 6, .inl g25)), (x48, .inr (5, [.ref x49, .ref x50, .ref x51, .ref x52, .ref x53])), (x49, .inl (k 0, 64, .inl g26)), (x50, .inl (k 0, 8, .inl g27)), (x51, .inl (k 0, 8, .inl g28)), (x52, .inl (k 0, 3, .inl g29)), (x53, .inl (k 0, 3, .inl g30)), (x38, .inr (5, [.ref x54, .ref x55, .ref x56, .ref x57, .ref x58])), (x54, .inl (k 0, 64, .inl g31)), (x55, .inl (k 0, 8, .inl g32)), (x56, .inl (k 0, 8, .inl g33)), (x57, .inl (k 0, 3, .inl g34)), (x58, .inl (k 0, 3, .inl g35)), (x39, .inl (k 0, 40, .inl g36)), (x40, .inl (k 0, 40, .inl g37)), (x41, .inl (k 0, 40, .inl g38)), (y0, .inr (10, [.int 0, .ref y1, .ref y2, .ref y3, .ref y4, .int 0, .ref y5, .int 0, .int 0, .int 0, .int 0, .int 0, .int 0, .int (-1), .ref y6, .ref y7, .ref y8, .ref y9, .ref y10, .ref y11, .int 0, .int 0, .int 0, .ref y12, .ref y13, .ref y14, .int 0, .int 0, .ref y15, .int 0, .ref y16, .int 0, .ref y17, .int 0, .ref y18, .ref y19, .ref y20, .ref y21])), (y1, .inl (k 0, 168, .inl w0)), (y2, .inl (k 0, 504, .inl w1)), (y3, .inl (k 3, 3, .inl w2))]) (hS : va_S (fun z : Nat => s.heap.size ≤ z) s.heap H locs) (hl : lv_has ls 4 [(0, .ref b), (1, .ref x0), (2, .ref y0), (3, .int 0)]) (hcs : cells ≤ 600000 ∧ slots ≤ 7302250) (hend : ∀ (H : Heap) (locs : List Loc), va_S (fun z : Nat => s.heap.size ≤ z) s.heap H locs → W p l e room_1 s m #[Value.ref b] below meth c H locs cells slots Q (F0 m 2212 ls [])) : W p l e room_1 s m #[Value.ref b] below meth c H locs cells slots Q (F0 m 1987 ls []) := by
  have hx := S.1
  have hb := S.2.1
  have hbA : ¬ (fun z : Nat => s.heap.size ≤ z) b := Nat.not_le.mpr hbl
  have hA : ∀ q : Nat, s.heap.size ≤ q → (fun z : Nat => s.heap.size ≤ z) q := fun _ h => h
  refine lv_aload_n hx hb dL_law_1987 rfl (lv_at hl 1 rfl) ?_
  refine lv_aload_n hx hb dL_law_1988 rfl (lv_at hl 0 rfl) ?_
  refine lv_iload_n hx hb dL_law_1989 rfl (lv_at hl 3 rfl) ?_
  refine lv_iconst (v := 1) hx hb dL_law_1990 (by decide) ?_
  refine lv_iadd hx hb dL_law_1991 ?_
  refine k_top (y := 1) (by decide) ?_
  refine va_sld hx hb hX hbl hbA hS (by unfold vp_in; decide) dL_law_1992 ?_
  refine k_top (y := 1) ((congrArg xs (by decide)).trans h9) ?_
  refine rw_i (mc := 0) (ms := 0) (wc := [(x0, .inr (9, [.ref x1, .ref x2, .ref x3, .ref x4, .ref x5, .ref x6, .ref x7, .ref x8, .ref x9, .ref x10, .ref x11])), (x4, .inl (k 4, 3, .inr (.inr (.inr (.inr (va_up (va_up (va_up (fun _ => none) 0 (some x12)) 1 (some x13)) 2 (some x14))))))), (x5, .inl (k 3, 3, .inl g0)), (x13, .inr (8, [.ref x15, .ref x16, .int 0, .ref x17, .ref x18, .ref x19])), (x15, .inr (1, [.int 0, .int 0, .int 0, .int 0, .int 0, .int 0, .int 0, .ref x20, .ref x21, .ref x22, .ref x23, .ref x24, .ref x25, .ref x26])), (x20, .inl (k 0, 8, .inl g1)), (x21, .inl (k 0, 8, .inl g2)), (x22, .inl (k 0, 8, .inl g3)), (x23, .inl (k 0, 6, .inl g4)), (x24, .inl (k 0, 6, .inl g5)), (x25, .inl (k 0, 6, .inl g6)), (x26, .inr (5, [.ref x27, .ref x28, .ref x29, .ref x30, .ref x31])), (x27, .inl (k 0, 64, .inl g7)), (x28, .inl (k 0, 8, .inl g8)), (x29, .inl (k 0, 8, .inl g9)), (x30, .inl (k 0, 3, .inl g10)), (x31, .inl (k 0, 3, .inl g11)), (x16, .inr (5, [.ref x32, .ref x33, .ref x34, .ref x35, .ref x36])), (x32, .inl (k 0, 64, .inl g12)), (x33, .inl (k 0, 8, .inl g13)), (x34, .inl (k 0, 8, .inl g14)), (x35, .inl (k 0, 3, .inl g15)), (x36, .inl (k 0, 3, .inl g16)), (x17, .inl (k 0, 40, .inl g17)), (x18, .inl (k 0, 40, .inl g18)), (x19, .inl (k 0, 40, .inl g19)), (x3, .inr (8, [.ref x37, .ref x38, .int 0, .ref x39, .ref x40, .ref x41])), (x37, .inr (1, [.int 0, .int 0, .int 0, .int 0, .int 0, .int 0, .int 0, .ref x42, .ref x43, .ref x44, .ref x45, .ref x46, .ref x47, .ref x48])), (x42, .inl (k 0, 8, .inl g20)), (x43, .inl (k 0, 8, .inl g21)), (x44, .inl (k 0, 8, .inl g22)), (x45, .inl (k 0, 6, .inl g23)), (x46, .inl (k 0, 6, .inl g24)), (x47, .inl (k 0, 6, .inl g25)), (x48, .inr (5, [.ref x49, .ref x50, .ref x51, .ref x52, .ref x53])), (x49, .inl (k 0, 64, .inl g26)), (x50, .inl (k 0, 8, .inl g27)), (x51, .inl (k 0, 8, .inl g28)), (x52, .inl (k 0, 3, .inl g29)), (x53, .inl (k 0, 3, .inl g30)), (x38, .inr (5, [.ref x54, .ref x55, .ref x56, .ref x57, .ref x58])), (x54, .inl (k 0, 64, .inl g31)), (x55, .inl (k 0, 8, .inl g32)), (x56, .inl (k 0, 8, .inl g33)), (x57, .inl (k 0, 3, .inl g34)), (x58, .inl (k 0, 3, .inl g35)), (x39, .inl (k 0, 40, .inl g36)), (x40, .inl (k 0, 40, .inl g37)), (x41, .inl (k 0, 40, .inl g38))]) (wr := [(y0, .inr (10, [.int 0, .ref y1, .ref y2, .ref y3, .ref y4, .int 0, .ref y5, .int 0, .int 0, .int 0, .int 0, .int 0, .int 0, .int (-1), .ref y6, .ref y7, .ref y8, .ref y9, .ref y10, .ref y11, .int 0, .int 0, .int 0, .ref y12, .ref y13, .ref y14, .int 0, .int 0, .ref y15, .int 0, .ref y16, .int 0, .ref y17, .int 0, .ref y18, .ref y19, .ref y20, .ref y21])), (y1, .inl (k 0, 168, .inl w0)), (y2, .inl (k 0, 504, .inl w1)), (y3, .inl (k 3, 3, .inl w2))]) [0, 1, 2, 3, 4, 5, 6, 7, 8, 9, 10, 11, 12, 13, 14, 15, 16, 17, 18, 19, 20, 21, 22, 23, 24, 25, 26, 27, 28, 29, 30, 31, 32, 33, 34, 35, 36, 37, 38, 39, 40, 41, 42, 43, 44, 45, 46, 47, 48] [49, 50, 51, 52] rfl rfl (by decide +kernel) (by decide +kernel) (by decide +kernel) hP hD hS hA (fun hPc hDc => run_V (mc := 0) (ms := 0) (As := [.int 1]) (rest := []) S (c_X9_imageW1 l D k x0 x1 x2 x3 x4 x5 x6 x7 x8 x9 x10 x11 x12 x13 x14 x15 x16 x17 x18 x19 x20 x21 x22 x23 x24 x25 x26 x27 x28 x29 x30 x31 x32 x33 x34 x35 x36 x37 x38 x39 x40 x41 x42 x43 x44 x45 x46 x47 x48 x49 x50 x51 x52 x53 x54 x55 x56 x57 x58 g0 g1 g2 g3 g4 g5 g6 g7 g8 g9 g10 g11 g12 g13 g14 g15 g16 g17 g18 g19 g20 g21 g22 g23 g24 g25 g26 g27 g28 g29 g30 g31 g32 g33 g34 g35 g36 g37 g38  _) lkL_247 ok_X9_image ⟨rfl, rfl, Nat.le_of_ble_eq_true rfl, Nat.le_of_ble_eq_true rfl⟩ (pw_V (ci := 9) (q0 := 0) hK hN rfl rfl hPc hDc) rfl hl.1 rfl (Nat.le_of_ble_eq_true rfl) hcs dL_law_1993) (fun r_1 ur_1 H locs hr_1 hKr_1 hP9 hD9 hS9 => ?_)
  clear hP hD hS
  have hS := hS9
  have hP : va_P D vwCl [(y0, .inr (10, [.int 0, .ref y1, .ref y2, .ref y3, .ref y4, .int 0, .ref y5, .int 0, .int 0, .int 0, .int 0, .int 0, .int 0, .int (-1), .ref y6, .ref y7, .ref y8, .ref y9, .ref y10, .ref y11, .int 0, .int 0, .int 0, .ref y12, .ref y13, .ref y14, .int 0, .int 0, .ref y15, .int 0, .ref y16, .int 0, .ref y17, .int 0, .ref y18, .ref y19, .ref y20, .ref y21])), (y1, .inl (k 0, 168, .inl w0)), (y2, .inl (k 0, 504, .inl w1)), (y3, .inl (k 3, 3, .inl w2))] H := hP9
  have hD : va_D (fun z : Nat => s.heap.size ≤ z) [(y0, .inr (10, [.int 0, .ref y1, .ref y2, .ref y3, .ref y4, .int 0, .ref y5, .int 0, .int 0, .int 0, .int 0, .int 0, .int 0, .int (-1), .ref y6, .ref y7, .ref y8, .ref y9, .ref y10, .ref y11, .int 0, .int 0, .int 0, .ref y12, .ref y13, .ref y14, .int 0, .int 0, .ref y15, .int 0, .ref y16, .int 0, .ref y17, .int 0, .ref y18, .ref y19, .ref y20, .ref y21])), (y1, .inl (k 0, 168, .inl w0)), (y2, .inl (k 0, 504, .inl w1)), (y3, .inl (k 3, 3, .inl w2))] := hD9
  clear hP9 hD9 hS9
  replace hr_1 : r_1 = 0 := hr_1
  subst hr_1
  refine lv_aload_n hx hb dL_law_1996 rfl (lv_at hl 2 rfl) ?_
  refine lv_aload_n hx hb dL_law_1997 rfl (lv_at hl 0 rfl) ?_
  refine lv_iload_n hx hb dL_law_1998 rfl (lv_at hl 3 rfl) ?_
  refine lv_iconst (v := 1) hx hb dL_law_1999 (by decide) ?_
  refine lv_iadd hx hb dL_law_2000 ?_
  refine k_top (y := 1) (by decide) ?_
  refine va_sld hx hb hX hbl hbA hS (by unfold vp_in; decide) dL_law_2001 ?_
  refine k_top (y := 1) ((congrArg xs (by decide)).trans h9) ?_
  refine rw_i (mc := 0) (ms := 0) (wc := [(y0, .inr (10, [.int 0, .ref y1, .ref y2, .ref y3, .ref y4, .int 0, .ref y5, .int 0, .int 0, .int 0, .int 0, .int 0, .int 0, .int (-1), .ref y6, .ref y7, .ref y8, .ref y9, .ref y10, .ref y11, .int 0, .int 0, .int 0, .ref y12, .ref y13, .ref y14, .int 0, .int 0, .ref y15, .int 0, .ref y16, .int 0, .ref y17, .int 0, .ref y18, .ref y19, .ref y20, .ref y21])), (y1, .inl (k 0, 168, .inl w0)), (y2, .inl (k 0, 504, .inl w1)), (y3, .inl (k 3, 3, .inl w2))]) (wr := []) [0, 1, 2, 3] [] rfl rfl (by decide +kernel) (by decide +kernel) (by decide +kernel) hP hD hS hA (fun hPc hDc => run_V (mc := 0) (ms := 0) (As := [.int 1]) (rest := [.int (0)]) S (c_X10_imageW1 l D k y0 y1 y2 y3 y4 y5 y6 y7 y8 y9 y10 y11 y12 y13 y14 y15 y16 y17 y18 y19 y20 y21 w0 w1 w2  _) lkL_250 ok_X10_image ⟨rfl, rfl, Nat.le_of_ble_eq_true rfl, Nat.le_of_ble_eq_true rfl⟩ (pw_V (ci := 10) (q0 := 0) hK hN rfl rfl hPc hDc) rfl hl.1 rfl (Nat.le_of_ble_eq_true rfl) hcs dL_law_2002) (fun r_2 ur_2 H locs hr_2 hKr_2 hP9 hD9 hS9 => ?_)
  clear hP hD hS
  have hS := hS9
  have hP : va_P D vwCl [] H := hP9
  have hD : va_D (fun z : Nat => s.heap.size ≤ z) [] := hD9
  clear hP9 hD9 hS9
  replace hr_2 : r_2 = 0 := hr_2
  subst hr_2
  refine lv_icmp_eq (tgt := 2212) hx hb dL_law_2005 (by decide) (fun _ => hend H locs hS) (fun c_3 => absurd rfl c_3)
set_option maxHeartbeats 4000000 in
set_option maxRecDepth 100000 in
theorem wc_57W2 {p : Program} {l : Launch} {e : Env} {s : State} {m : MethodId} {below : List Frame} {meth : Method} {c : Code} {H : Heap} {locs : List Loc} {cells slots : Nat} {Q : State → Prop} {b : Nat} {xs : Nat → Int32} {D : va_G} {k : Nat → ClassId} {ls : Array Slot} {x0 x1 x2 x3 x4 x5 x6 x7 x8 x9 x10 x11 x12 x13 x14 x15 x16 x17 x18 x19 x20 x21 x22 x23 x24 x25 x26 x27 x28 x29 x30 x31 x32 x33 x34 x35 x36 x37 x38 x39 x40 x41 x42 x43 x44 x45 x46 x47 x48 x49 x50 x51 x52 x53 x54 x55 x56 x57 x58 y0 y1 y2 y3 y4 y5 y6 y7 y8 y9 y10 y11 y12 y13 y14 y15 y16 y17 y18 y19 y20 y21 : Nat} {g0 : Nat → Int32} {g1 : Nat → Int32} {g2 : Nat → Int32} {g3 : Nat → Int32} {g4 : Nat → Int32} {g5 : Nat → Int32} {g6 : Nat → Int32} {g7 : Nat → Int32} {g8 : Nat → Int32} {g9 : Nat → Int32} {g10 : Nat → Int32} {g11 : Nat → Int32} {g12 : Nat → Int32} {g13 : Nat → Int32} {g14 : Nat → Int32} {g15 : Nat → Int32} {g16 : Nat → Int32} {g17 : Nat → Int32} {g18 : Nat → Int32} {g19 : Nat → Int32} {g20 : Nat → Int32} {g21 : Nat → Int32} {g22 : Nat → Int32} {g23 : Nat → Int32} {g24 : Nat → Int32} {g25 : Nat → Int32} {g26 : Nat → Int32} {g27 : Nat → Int32} {g28 : Nat → Int32} {g29 : Nat → Int32} {g30 : Nat → Int32} {g31 : Nat → Int32} {g32 : Nat → Int32} {g33 : Nat → Int32} {g34 : Nat → Int32} {g35 : Nat → Int32} {g36 : Nat → Int32} {g37 : Nat → Int32} {g38 : Nat → Int32} {w0 : Nat → Int32} {w1 : Nat → Int32} {w2 : Nat → Int32} (h9 : xs 1 = 2) (S : CallFix p m c cL_law 4 s #[Value.ref b] TB RL) (hK : va_K D vwCl (KT k) s) (hN : NX s) (hX : va_X b 6 xs s s.heap) (hbl : b < s.heap.size) (hP : va_P D vwCl [(x0, .inr (9, [.ref x1, .ref x2, .ref x3, .ref x4, .ref x5, .ref x6, .ref x7, .ref x8, .ref x9, .ref x10, .ref x11])), (x4, .inl (k 4, 3, .inr (.inr (.inr (.inr (va_up (va_up (va_up (fun _ => none) 0 (some x12)) 1 (some x13)) 2 (some x14))))))), (x5, .inl (k 3, 3, .inl g0)), (x14, .inr (8, [.ref x15, .ref x16, .int 0, .ref x17, .ref x18, .ref x19])), (x15, .inr (1, [.int 0, .int 0, .int 0, .int 0, .int 0, .int 0, .int 0, .ref x20, .ref x21, .ref x22, .ref x23, .ref x24, .ref x25, .ref x26])), (x20, .inl (k 0, 8, .inl g1)), (x21, .inl (k 0, 8, .inl g2)), (x22, .inl (k 0, 8, .inl g3)), (x23, .inl (k 0, 6, .inl g4)), (x24, .inl (k 0, 6, .inl g5)), (x25, .inl (k 0, 6, .inl g6)), (x26, .inr (5, [.ref x27, .ref x28, .ref x29, .ref x30, .ref x31])), (x27, .inl (k 0, 64, .inl g7)), (x28, .inl (k 0, 8, .inl g8)), (x29, .inl (k 0, 8, .inl g9)), (x30, .inl (k 0, 3, .inl g10)), (x31, .inl (k 0, 3, .inl g11)), (x16, .inr (5, [.ref x32, .ref x33, .ref x34, .ref x35, .ref x36])), (x32, .inl (k 0, 64, .inl g12)), (x33, .inl (k 0, 8, .inl g13)), (x34, .inl (k 0, 8, .inl g14)), (x35, .inl (k 0, 3, .inl g15)), (x36, .inl (k 0, 3, .inl g16)), (x17, .inl (k 0, 40, .inl g17)), (x18, .inl (k 0, 40, .inl g18)), (x19, .inl (k 0, 40, .inl g19)), (x3, .inr (8, [.ref x37, .ref x38, .int 0, .ref x39, .ref x40, .ref x41])), (x37, .inr (1, [.int 0, .int 0, .int 0, .int 0, .int 0, .int 0, .int 0, .ref x42, .ref x43, .ref x44, .ref x45, .ref x46, .ref x47, .ref x48])), (x42, .inl (k 0, 8, .inl g20)), (x43, .inl (k 0, 8, .inl g21)), (x44, .inl (k 0, 8, .inl g22)), (x45, .inl (k 0, 6, .inl g23)), (x46, .inl (k 0, 6, .inl g24)), (x47, .inl (k 0, 6, .inl g25)), (x48, .inr (5, [.ref x49, .ref x50, .ref x51, .ref x52, .ref x53])), (x49, .inl (k 0, 64, .inl g26)), (x50, .inl (k 0, 8, .inl g27)), (x51, .inl (k 0, 8, .inl g28)), (x52, .inl (k 0, 3, .inl g29)), (x53, .inl (k 0, 3, .inl g30)), (x38, .inr (5, [.ref x54, .ref x55, .ref x56, .ref x57, .ref x58])), (x54, .inl (k 0, 64, .inl g31)), (x55, .inl (k 0, 8, .inl g32)), (x56, .inl (k 0, 8, .inl g33)), (x57, .inl (k 0, 3, .inl g34)), (x58, .inl (k 0, 3, .inl g35)), (x39, .inl (k 0, 40, .inl g36)), (x40, .inl (k 0, 40, .inl g37)), (x41, .inl (k 0, 40, .inl g38)), (y0, .inr (10, [.int 0, .ref y1, .ref y2, .ref y3, .ref y4, .int 0, .ref y5, .int 0, .int 0, .int 0, .int 0, .int 0, .int 0, .int (-1), .ref y6, .ref y7, .ref y8, .ref y9, .ref y10, .ref y11, .int 0, .int 0, .int 0, .ref y12, .ref y13, .ref y14, .int 0, .int 0, .ref y15, .int 0, .ref y16, .int 0, .ref y17, .int 0, .ref y18, .ref y19, .ref y20, .ref y21])), (y1, .inl (k 0, 168, .inl w0)), (y2, .inl (k 0, 504, .inl w1)), (y3, .inl (k 3, 3, .inl w2))] H) (hD : va_D (fun z : Nat => s.heap.size ≤ z) [(x0, .inr (9, [.ref x1, .ref x2, .ref x3, .ref x4, .ref x5, .ref x6, .ref x7, .ref x8, .ref x9, .ref x10, .ref x11])), (x4, .inl (k 4, 3, .inr (.inr (.inr (.inr (va_up (va_up (va_up (fun _ => none) 0 (some x12)) 1 (some x13)) 2 (some x14))))))), (x5, .inl (k 3, 3, .inl g0)), (x14, .inr (8, [.ref x15, .ref x16, .int 0, .ref x17, .ref x18, .ref x19])), (x15, .inr (1, [.int 0, .int 0, .int 0, .int 0, .int 0, .int 0, .int 0, .ref x20, .ref x21, .ref x22, .ref x23, .ref x24, .ref x25, .ref x26])), (x20, .inl (k 0, 8, .inl g1)), (x21, .inl (k 0, 8, .inl g2)), (x22, .inl (k 0, 8, .inl g3)), (x23, .inl (k 0, 6, .inl g4)), (x24, .inl (k 0, 6, .inl g5)), (x25, .inl (k 0, 6, .inl g6)), (x26, .inr (5, [.ref x27, .ref x28, .ref x29, .ref x30, .ref x31])), (x27, .inl (k 0, 64, .inl g7)), (x28, .inl (k 0, 8, .inl g8)), (x29, .inl (k 0, 8, .inl g9)), (x30, .inl (k 0, 3, .inl g10)), (x31, .inl (k 0, 3, .inl g11)), (x16, .inr (5, [.ref x32, .ref x33, .ref x34, .ref x35, .ref x36])), (x32, .inl (k 0, 64, .inl g12)), (x33, .inl (k 0, 8, .inl g13)), (x34, .inl (k 0, 8, .inl g14)), (x35, .inl (k 0, 3, .inl g15)), (x36, .inl (k 0, 3, .inl g16)), (x17, .inl (k 0, 40, .inl g17)), (x18, .inl (k 0, 40, .inl g18)), (x19, .inl (k 0, 40, .inl g19)), (x3, .inr (8, [.ref x37, .ref x38, .int 0, .ref x39, .ref x40, .ref x41])), (x37, .inr (1, [.int 0, .int 0, .int 0, .int 0, .int 0, .int 0, .int 0, .ref x42, .ref x43, .ref x44, .ref x45, .ref x46, .ref x47, .ref x48])), (x42, .inl (k 0, 8, .inl g20)), (x43, .inl (k 0, 8, .inl g21)), (x44, .inl (k 0, 8, .inl g22)), (x45, .inl (k 0, 6, .inl g23)), (x46, .inl (k 0, 6, .inl g24)), (x47, .inl (k 0, 6, .inl g25)), (x48, .inr (5, [.ref x49, .ref x50, .ref x51, .ref x52, .ref x53])), (x49, .inl (k 0, 64, .inl g26)), (x50, .inl (k 0, 8, .inl g27)), (x51, .inl (k 0, 8, .inl g28)), (x52, .inl (k 0, 3, .inl g29)), (x53, .inl (k 0, 3, .inl g30)), (x38, .inr (5, [.ref x54, .ref x55, .ref x56, .ref x57, .ref x58])), (x54, .inl (k 0, 64, .inl g31)), (x55, .inl (k 0, 8, .inl g32)), (x56, .inl (k 0, 8, .inl g33)), (x57, .inl (k 0, 3, .inl g34)), (x58, .inl (k 0, 3, .inl g35)), (x39, .inl (k 0, 40, .inl g36)), (x40, .inl (k 0, 40, .inl g37)), (x41, .inl (k 0, 40, .inl g38)), (y0, .inr (10, [.int 0, .ref y1, .ref y2, .ref y3, .ref y4, .int 0, .ref y5, .int 0, .int 0, .int 0, .int 0, .int 0, .int 0, .int (-1), .ref y6, .ref y7, .ref y8, .ref y9, .ref y10, .ref y11, .int 0, .int 0, .int 0, .ref y12, .ref y13, .ref y14, .int 0, .int 0, .ref y15, .int 0, .ref y16, .int 0, .ref y17, .int 0, .ref y18, .ref y19, .ref y20, .ref y21])), (y1, .inl (k 0, 168, .inl w0)), (y2, .inl (k 0, 504, .inl w1)), (y3, .inl (k 3, 3, .inl w2))]) (hS : va_S (fun z : Nat => s.heap.size ≤ z) s.heap H locs) (hl : lv_has ls 4 [(0, .ref b), (1, .ref x0), (2, .ref y0), (3, .int 0)]) (hcs : cells ≤ 600000 ∧ slots ≤ 7302250) (hend : ∀ (H : Heap) (locs : List Loc), va_S (fun z : Nat => s.heap.size ≤ z) s.heap H locs → W p l e room_1 s m #[Value.ref b] below meth c H locs cells slots Q (F0 m 2212 ls [])) : W p l e room_1 s m #[Value.ref b] below meth c H locs cells slots Q (F0 m 1987 ls []) := by
  have hx := S.1
  have hb := S.2.1
  have hbA : ¬ (fun z : Nat => s.heap.size ≤ z) b := Nat.not_le.mpr hbl
  have hA : ∀ q : Nat, s.heap.size ≤ q → (fun z : Nat => s.heap.size ≤ z) q := fun _ h => h
  refine lv_aload_n hx hb dL_law_1987 rfl (lv_at hl 1 rfl) ?_
  refine lv_aload_n hx hb dL_law_1988 rfl (lv_at hl 0 rfl) ?_
  refine lv_iload_n hx hb dL_law_1989 rfl (lv_at hl 3 rfl) ?_
  refine lv_iconst (v := 1) hx hb dL_law_1990 (by decide) ?_
  refine lv_iadd hx hb dL_law_1991 ?_
  refine k_top (y := 1) (by decide) ?_
  refine va_sld hx hb hX hbl hbA hS (by unfold vp_in; decide) dL_law_1992 ?_
  refine k_top (y := 2) ((congrArg xs (by decide)).trans h9) ?_
  refine rw_i (mc := 0) (ms := 0) (wc := [(x0, .inr (9, [.ref x1, .ref x2, .ref x3, .ref x4, .ref x5, .ref x6, .ref x7, .ref x8, .ref x9, .ref x10, .ref x11])), (x4, .inl (k 4, 3, .inr (.inr (.inr (.inr (va_up (va_up (va_up (fun _ => none) 0 (some x12)) 1 (some x13)) 2 (some x14))))))), (x5, .inl (k 3, 3, .inl g0)), (x14, .inr (8, [.ref x15, .ref x16, .int 0, .ref x17, .ref x18, .ref x19])), (x15, .inr (1, [.int 0, .int 0, .int 0, .int 0, .int 0, .int 0, .int 0, .ref x20, .ref x21, .ref x22, .ref x23, .ref x24, .ref x25, .ref x26])), (x20, .inl (k 0, 8, .inl g1)), (x21, .inl (k 0, 8, .inl g2)), (x22, .inl (k 0, 8, .inl g3)), (x23, .inl (k 0, 6, .inl g4)), (x24, .inl (k 0, 6, .inl g5)), (x25, .inl (k 0, 6, .inl g6)), (x26, .inr (5, [.ref x27, .ref x28, .ref x29, .ref x30, .ref x31])), (x27, .inl (k 0, 64, .inl g7)), (x28, .inl (k 0, 8, .inl g8)), (x29, .inl (k 0, 8, .inl g9)), (x30, .inl (k 0, 3, .inl g10)), (x31, .inl (k 0, 3, .inl g11)), (x16, .inr (5, [.ref x32, .ref x33, .ref x34, .ref x35, .ref x36])), (x32, .inl (k 0, 64, .inl g12)), (x33, .inl (k 0, 8, .inl g13)), (x34, .inl (k 0, 8, .inl g14)), (x35, .inl (k 0, 3, .inl g15)), (x36, .inl (k 0, 3, .inl g16)), (x17, .inl (k 0, 40, .inl g17)), (x18, .inl (k 0, 40, .inl g18)), (x19, .inl (k 0, 40, .inl g19)), (x3, .inr (8, [.ref x37, .ref x38, .int 0, .ref x39, .ref x40, .ref x41])), (x37, .inr (1, [.int 0, .int 0, .int 0, .int 0, .int 0, .int 0, .int 0, .ref x42, .ref x43, .ref x44, .ref x45, .ref x46, .ref x47, .ref x48])), (x42, .inl (k 0, 8, .inl g20)), (x43, .inl (k 0, 8, .inl g21)), (x44, .inl (k 0, 8, .inl g22)), (x45, .inl (k 0, 6, .inl g23)), (x46, .inl (k 0, 6, .inl g24)), (x47, .inl (k 0, 6, .inl g25)), (x48, .inr (5, [.ref x49, .ref x50, .ref x51, .ref x52, .ref x53])), (x49, .inl (k 0, 64, .inl g26)), (x50, .inl (k 0, 8, .inl g27)), (x51, .inl (k 0, 8, .inl g28)), (x52, .inl (k 0, 3, .inl g29)), (x53, .inl (k 0, 3, .inl g30)), (x38, .inr (5, [.ref x54, .ref x55, .ref x56, .ref x57, .ref x58])), (x54, .inl (k 0, 64, .inl g31)), (x55, .inl (k 0, 8, .inl g32)), (x56, .inl (k 0, 8, .inl g33)), (x57, .inl (k 0, 3, .inl g34)), (x58, .inl (k 0, 3, .inl g35)), (x39, .inl (k 0, 40, .inl g36)), (x40, .inl (k 0, 40, .inl g37)), (x41, .inl (k 0, 40, .inl g38))]) (wr := [(y0, .inr (10, [.int 0, .ref y1, .ref y2, .ref y3, .ref y4, .int 0, .ref y5, .int 0, .int 0, .int 0, .int 0, .int 0, .int 0, .int (-1), .ref y6, .ref y7, .ref y8, .ref y9, .ref y10, .ref y11, .int 0, .int 0, .int 0, .ref y12, .ref y13, .ref y14, .int 0, .int 0, .ref y15, .int 0, .ref y16, .int 0, .ref y17, .int 0, .ref y18, .ref y19, .ref y20, .ref y21])), (y1, .inl (k 0, 168, .inl w0)), (y2, .inl (k 0, 504, .inl w1)), (y3, .inl (k 3, 3, .inl w2))]) [0, 1, 2, 3, 4, 5, 6, 7, 8, 9, 10, 11, 12, 13, 14, 15, 16, 17, 18, 19, 20, 21, 22, 23, 24, 25, 26, 27, 28, 29, 30, 31, 32, 33, 34, 35, 36, 37, 38, 39, 40, 41, 42, 43, 44, 45, 46, 47, 48] [49, 50, 51, 52] rfl rfl (by decide +kernel) (by decide +kernel) (by decide +kernel) hP hD hS hA (fun hPc hDc => run_V (mc := 0) (ms := 0) (As := [.int 2]) (rest := []) S (c_X9_imageW2 l D k x0 x1 x2 x3 x4 x5 x6 x7 x8 x9 x10 x11 x12 x13 x14 x15 x16 x17 x18 x19 x20 x21 x22 x23 x24 x25 x26 x27 x28 x29 x30 x31 x32 x33 x34 x35 x36 x37 x38 x39 x40 x41 x42 x43 x44 x45 x46 x47 x48 x49 x50 x51 x52 x53 x54 x55 x56 x57 x58 g0 g1 g2 g3 g4 g5 g6 g7 g8 g9 g10 g11 g12 g13 g14 g15 g16 g17 g18 g19 g20 g21 g22 g23 g24 g25 g26 g27 g28 g29 g30 g31 g32 g33 g34 g35 g36 g37 g38  _) lkL_247 ok_X9_image ⟨rfl, rfl, Nat.le_of_ble_eq_true rfl, Nat.le_of_ble_eq_true rfl⟩ (pw_V (ci := 9) (q0 := 0) hK hN rfl rfl hPc hDc) rfl hl.1 rfl (Nat.le_of_ble_eq_true rfl) hcs dL_law_1993) (fun r_1 ur_1 H locs hr_1 hKr_1 hP9 hD9 hS9 => ?_)
  clear hP hD hS
  have hS := hS9
  have hP : va_P D vwCl [(y0, .inr (10, [.int 0, .ref y1, .ref y2, .ref y3, .ref y4, .int 0, .ref y5, .int 0, .int 0, .int 0, .int 0, .int 0, .int 0, .int (-1), .ref y6, .ref y7, .ref y8, .ref y9, .ref y10, .ref y11, .int 0, .int 0, .int 0, .ref y12, .ref y13, .ref y14, .int 0, .int 0, .ref y15, .int 0, .ref y16, .int 0, .ref y17, .int 0, .ref y18, .ref y19, .ref y20, .ref y21])), (y1, .inl (k 0, 168, .inl w0)), (y2, .inl (k 0, 504, .inl w1)), (y3, .inl (k 3, 3, .inl w2))] H := hP9
  have hD : va_D (fun z : Nat => s.heap.size ≤ z) [(y0, .inr (10, [.int 0, .ref y1, .ref y2, .ref y3, .ref y4, .int 0, .ref y5, .int 0, .int 0, .int 0, .int 0, .int 0, .int 0, .int (-1), .ref y6, .ref y7, .ref y8, .ref y9, .ref y10, .ref y11, .int 0, .int 0, .int 0, .ref y12, .ref y13, .ref y14, .int 0, .int 0, .ref y15, .int 0, .ref y16, .int 0, .ref y17, .int 0, .ref y18, .ref y19, .ref y20, .ref y21])), (y1, .inl (k 0, 168, .inl w0)), (y2, .inl (k 0, 504, .inl w1)), (y3, .inl (k 3, 3, .inl w2))] := hD9
  clear hP9 hD9 hS9
  replace hr_1 : r_1 = 0 := hr_1
  subst hr_1
  refine lv_aload_n hx hb dL_law_1996 rfl (lv_at hl 2 rfl) ?_
  refine lv_aload_n hx hb dL_law_1997 rfl (lv_at hl 0 rfl) ?_
  refine lv_iload_n hx hb dL_law_1998 rfl (lv_at hl 3 rfl) ?_
  refine lv_iconst (v := 1) hx hb dL_law_1999 (by decide) ?_
  refine lv_iadd hx hb dL_law_2000 ?_
  refine k_top (y := 1) (by decide) ?_
  refine va_sld hx hb hX hbl hbA hS (by unfold vp_in; decide) dL_law_2001 ?_
  refine k_top (y := 2) ((congrArg xs (by decide)).trans h9) ?_
  refine rw_i (mc := 0) (ms := 0) (wc := [(y0, .inr (10, [.int 0, .ref y1, .ref y2, .ref y3, .ref y4, .int 0, .ref y5, .int 0, .int 0, .int 0, .int 0, .int 0, .int 0, .int (-1), .ref y6, .ref y7, .ref y8, .ref y9, .ref y10, .ref y11, .int 0, .int 0, .int 0, .ref y12, .ref y13, .ref y14, .int 0, .int 0, .ref y15, .int 0, .ref y16, .int 0, .ref y17, .int 0, .ref y18, .ref y19, .ref y20, .ref y21])), (y1, .inl (k 0, 168, .inl w0)), (y2, .inl (k 0, 504, .inl w1)), (y3, .inl (k 3, 3, .inl w2))]) (wr := []) [0, 1, 2, 3] [] rfl rfl (by decide +kernel) (by decide +kernel) (by decide +kernel) hP hD hS hA (fun hPc hDc => run_V (mc := 0) (ms := 0) (As := [.int 2]) (rest := [.int (0)]) S (c_X10_imageW2 l D k y0 y1 y2 y3 y4 y5 y6 y7 y8 y9 y10 y11 y12 y13 y14 y15 y16 y17 y18 y19 y20 y21 w0 w1 w2  _) lkL_250 ok_X10_image ⟨rfl, rfl, Nat.le_of_ble_eq_true rfl, Nat.le_of_ble_eq_true rfl⟩ (pw_V (ci := 10) (q0 := 0) hK hN rfl rfl hPc hDc) rfl hl.1 rfl (Nat.le_of_ble_eq_true rfl) hcs dL_law_2002) (fun r_2 ur_2 H locs hr_2 hKr_2 hP9 hD9 hS9 => ?_)
  clear hP hD hS
  have hS := hS9
  have hP : va_P D vwCl [] H := hP9
  have hD : va_D (fun z : Nat => s.heap.size ≤ z) [] := hD9
  clear hP9 hD9 hS9
  replace hr_2 : r_2 = 0 := hr_2
  subst hr_2
  refine lv_icmp_eq (tgt := 2212) hx hb dL_law_2005 (by decide) (fun _ => hend H locs hS) (fun c_3 => absurd rfl c_3)
set_option maxHeartbeats 4000000 in
set_option maxRecDepth 100000 in
theorem wc_57WN {p : Program} {l : Launch} {e : Env} {s : State} {m : MethodId} {below : List Frame} {meth : Method} {c : Code} {H : Heap} {locs : List Loc} {cells slots : Nat} {Q : State → Prop} {b : Nat} {xs : Nat → Int32} {D : va_G} {k : Nat → ClassId} {ls : Array Slot} {x0 x1 x2 x3 x4 x5 x6 x7 x8 x9 x10 x11 y0 y1 y2 y3 y4 y5 y6 y7 y8 y9 y10 y11 y12 y13 y14 y15 y16 y17 y18 y19 y20 y21 : Nat} (hp : xs 1 < 0 ∨ 3 ≤ xs 1) (S : CallFix p m c cL_law 4 s #[Value.ref b] TB RL) (hK : va_K D vwCl (KT k) s) (hN : NX s) (hX : va_X b 6 xs s s.heap) (hbl : b < s.heap.size) (hP : va_P D vwCl [(x0, .inr (9, [.ref x1, .ref x2, .ref x3, .ref x4, .ref x5, .ref x6, .ref x7, .ref x8, .ref x9, .ref x10, .ref x11])), (y0, .inr (10, [.int 0, .ref y1, .ref y2, .ref y3, .ref y4, .int 0, .ref y5, .int 0, .int 0, .int 0, .int 0, .int 0, .int 0, .int (-1), .ref y6, .ref y7, .ref y8, .ref y9, .ref y10, .ref y11, .int 0, .int 0, .int 0, .ref y12, .ref y13, .ref y14, .int 0, .int 0, .ref y15, .int 0, .ref y16, .int 0, .ref y17, .int 0, .ref y18, .ref y19, .ref y20, .ref y21]))] H) (hD : va_D (fun z : Nat => s.heap.size ≤ z) [(x0, .inr (9, [.ref x1, .ref x2, .ref x3, .ref x4, .ref x5, .ref x6, .ref x7, .ref x8, .ref x9, .ref x10, .ref x11])), (y0, .inr (10, [.int 0, .ref y1, .ref y2, .ref y3, .ref y4, .int 0, .ref y5, .int 0, .int 0, .int 0, .int 0, .int 0, .int 0, .int (-1), .ref y6, .ref y7, .ref y8, .ref y9, .ref y10, .ref y11, .int 0, .int 0, .int 0, .ref y12, .ref y13, .ref y14, .int 0, .int 0, .ref y15, .int 0, .ref y16, .int 0, .ref y17, .int 0, .ref y18, .ref y19, .ref y20, .ref y21]))]) (hS : va_S (fun z : Nat => s.heap.size ≤ z) s.heap H locs) (hl : lv_has ls 4 [(0, .ref b), (1, .ref x0), (2, .ref y0), (3, .int 0)]) (hcs : cells ≤ 600000 ∧ slots ≤ 7302250) (hend : ∀ (H : Heap) (locs : List Loc), va_S (fun z : Nat => s.heap.size ≤ z) s.heap H locs → W p l e room_1 s m #[Value.ref b] below meth c H locs cells slots Q (F0 m 2212 ls [])) : W p l e room_1 s m #[Value.ref b] below meth c H locs cells slots Q (F0 m 1987 ls []) := by
  have hx := S.1
  have hb := S.2.1
  have hbA : ¬ (fun z : Nat => s.heap.size ≤ z) b := Nat.not_le.mpr hbl
  have hA : ∀ q : Nat, s.heap.size ≤ q → (fun z : Nat => s.heap.size ≤ z) q := fun _ h => h
  refine lv_aload_n hx hb dL_law_1987 rfl (lv_at hl 1 rfl) ?_
  refine lv_aload_n hx hb dL_law_1988 rfl (lv_at hl 0 rfl) ?_
  refine lv_iload_n hx hb dL_law_1989 rfl (lv_at hl 3 rfl) ?_
  refine lv_iconst (v := 1) hx hb dL_law_1990 (by decide) ?_
  refine lv_iadd hx hb dL_law_1991 ?_
  refine k_top (y := 1) (by decide) ?_
  refine va_sld hx hb hX hbl hbA hS (by unfold vp_in; decide) dL_law_1992 ?_
  refine k_top (y := xs 1) (congrArg xs (by decide)) ?_
  refine rw_i (mc := 0) (ms := 0) (wc := [(x0, .inr (9, [.ref x1, .ref x2, .ref x3, .ref x4, .ref x5, .ref x6, .ref x7, .ref x8, .ref x9, .ref x10, .ref x11]))]) (wr := [(y0, .inr (10, [.int 0, .ref y1, .ref y2, .ref y3, .ref y4, .int 0, .ref y5, .int 0, .int 0, .int 0, .int 0, .int 0, .int 0, .int (-1), .ref y6, .ref y7, .ref y8, .ref y9, .ref y10, .ref y11, .int 0, .int 0, .int 0, .ref y12, .ref y13, .ref y14, .int 0, .int 0, .ref y15, .int 0, .ref y16, .int 0, .ref y17, .int 0, .ref y18, .ref y19, .ref y20, .ref y21]))]) [0] [1] rfl rfl (by decide +kernel) (by decide +kernel) (by decide +kernel) hP hD hS hA (fun hPc hDc => run_V (mc := 0) (ms := 0) (As := [.int (xs 1)]) (rest := []) S (c_X9_imageWN l D k x0 x1 x2 x3 x4 x5 x6 x7 x8 x9 x10 x11  (xs 1) hp _) lkL_247 ok_X9_image ⟨rfl, rfl, Nat.le_of_ble_eq_true rfl, Nat.le_of_ble_eq_true rfl⟩ (pw_V (ci := 9) (q0 := 0) hK hN rfl rfl hPc hDc) rfl hl.1 rfl (Nat.le_of_ble_eq_true rfl) hcs dL_law_1993) (fun r_1 ur_1 H locs hr_1 hKr_1 hP9 hD9 hS9 => ?_)
  clear hP hD hS
  have hS := hS9
  have hP : va_P D vwCl [(y0, .inr (10, [.int 0, .ref y1, .ref y2, .ref y3, .ref y4, .int 0, .ref y5, .int 0, .int 0, .int 0, .int 0, .int 0, .int 0, .int (-1), .ref y6, .ref y7, .ref y8, .ref y9, .ref y10, .ref y11, .int 0, .int 0, .int 0, .ref y12, .ref y13, .ref y14, .int 0, .int 0, .ref y15, .int 0, .ref y16, .int 0, .ref y17, .int 0, .ref y18, .ref y19, .ref y20, .ref y21]))] H := hP9
  have hD : va_D (fun z : Nat => s.heap.size ≤ z) [(y0, .inr (10, [.int 0, .ref y1, .ref y2, .ref y3, .ref y4, .int 0, .ref y5, .int 0, .int 0, .int 0, .int 0, .int 0, .int 0, .int (-1), .ref y6, .ref y7, .ref y8, .ref y9, .ref y10, .ref y11, .int 0, .int 0, .int 0, .ref y12, .ref y13, .ref y14, .int 0, .int 0, .ref y15, .int 0, .ref y16, .int 0, .ref y17, .int 0, .ref y18, .ref y19, .ref y20, .ref y21]))] := hD9
  clear hP9 hD9 hS9
  replace hr_1 : r_1 = -2 := hr_1
  subst hr_1
  refine lv_aload_n hx hb dL_law_1996 rfl (lv_at hl 2 rfl) ?_
  refine lv_aload_n hx hb dL_law_1997 rfl (lv_at hl 0 rfl) ?_
  refine lv_iload_n hx hb dL_law_1998 rfl (lv_at hl 3 rfl) ?_
  refine lv_iconst (v := 1) hx hb dL_law_1999 (by decide) ?_
  refine lv_iadd hx hb dL_law_2000 ?_
  refine k_top (y := 1) (by decide) ?_
  refine va_sld hx hb hX hbl hbA hS (by unfold vp_in; decide) dL_law_2001 ?_
  refine k_top (y := xs 1) (congrArg xs (by decide)) ?_
  refine rw_i (mc := 0) (ms := 0) (wc := [(y0, .inr (10, [.int 0, .ref y1, .ref y2, .ref y3, .ref y4, .int 0, .ref y5, .int 0, .int 0, .int 0, .int 0, .int 0, .int 0, .int (-1), .ref y6, .ref y7, .ref y8, .ref y9, .ref y10, .ref y11, .int 0, .int 0, .int 0, .ref y12, .ref y13, .ref y14, .int 0, .int 0, .ref y15, .int 0, .ref y16, .int 0, .ref y17, .int 0, .ref y18, .ref y19, .ref y20, .ref y21]))]) (wr := []) [0] [] rfl rfl (by decide +kernel) (by decide +kernel) (by decide +kernel) hP hD hS hA (fun hPc hDc => run_V (mc := 0) (ms := 0) (As := [.int (xs 1)]) (rest := [.int (-2)]) S (c_X10_imageWN l D k y0 y1 y2 y3 y4 y5 y6 y7 y8 y9 y10 y11 y12 y13 y14 y15 y16 y17 y18 y19 y20 y21  (xs 1) hp _) lkL_250 ok_X10_image ⟨rfl, rfl, Nat.le_of_ble_eq_true rfl, Nat.le_of_ble_eq_true rfl⟩ (pw_V (ci := 10) (q0 := 0) hK hN rfl rfl hPc hDc) rfl hl.1 rfl (Nat.le_of_ble_eq_true rfl) hcs dL_law_2002) (fun r_2 ur_2 H locs hr_2 hKr_2 hP9 hD9 hS9 => ?_)
  clear hP hD hS
  have hS := hS9
  have hP : va_P D vwCl [] H := hP9
  have hD : va_D (fun z : Nat => s.heap.size ≤ z) [] := hD9
  clear hP9 hD9 hS9
  replace hr_2 : r_2 = -2 := hr_2
  subst hr_2
  refine lv_icmp_eq (tgt := 2212) hx hb dL_law_2005 (by decide) (fun _ => hend H locs hS) (fun c_3 => absurd rfl c_3)
set_option maxHeartbeats 4000000 in
set_option maxRecDepth 100000 in
theorem wc_59W0 {p : Program} {l : Launch} {e : Env} {s : State} {m : MethodId} {below : List Frame} {meth : Method} {c : Code} {H : Heap} {locs : List Loc} {cells slots : Nat} {Q : State → Prop} {b : Nat} {xs : Nat → Int32} {D : va_G} {k : Nat → ClassId} {ls : Array Slot} {x0 x1 x2 x3 x4 x5 x6 x7 x8 x9 x10 x11 x12 x13 x14 x15 x16 x17 x18 y0 y1 y2 y3 y4 y5 y6 y7 y8 y9 y10 y11 y12 y13 y14 y15 y16 y17 y18 y19 y20 y21 : Nat} {g0 : Nat → Int32} {g1 : Nat → Int32} {g2 : Nat → Int64} {w0 : Nat → Int32} {w1 : Nat → Int32} {w2 : Nat → Int64} (h9 : xs 1 = 0) (S : CallFix p m c cL_law 4 s #[Value.ref b] TB RL) (hK : va_K D vwCl (KT k) s) (hN : NX s) (hX : va_X b 6 xs s s.heap) (hbl : b < s.heap.size) (hP : va_P D vwCl [(x0, .inr (9, [.ref x1, .ref x2, .ref x3, .ref x4, .ref x5, .ref x6, .ref x7, .ref x8, .ref x9, .ref x10, .ref x11])), (x6, .inr (4, [.ref x12, .ref x13, .ref x14])), (x12, .inl (k 0, 4, .inl g0)), (x13, .inl (k 0, 4, .inl g1)), (x14, .inl (k 6, 4, .inr (.inr (.inr (.inr (va_up (va_up (va_up (va_up (fun _ => none) 0 (some x15)) 1 (some x16)) 2 (some x17)) 3 (some x18))))))), (x15, .inl (k 2, 60, .inr (.inl g2))), (y0, .inr (10, [.int 0, .ref y1, .ref y2, .ref y3, .ref y4, .int 0, .ref y5, .int 0, .int 0, .int 0, .int 0, .int 0, .int 0, .int (-1), .ref y6, .ref y7, .ref y8, .ref y9, .ref y10, .ref y11, .int 0, .int 0, .int 0, .ref y12, .ref y13, .ref y14, .int 0, .int 0, .ref y15, .int 0, .ref y16, .int 0, .ref y17, .int 0, .ref y18, .ref y19, .ref y20, .ref y21])), (y18, .inl (k 0, 4, .inl w0)), (y19, .inl (k 0, 4, .inl w1)), (y20, .inl (k 2, 240, .inr (.inl w2)))] H) (hD : va_D (fun z : Nat => s.heap.size ≤ z) [(x0, .inr (9, [.ref x1, .ref x2, .ref x3, .ref x4, .ref x5, .ref x6, .ref x7, .ref x8, .ref x9, .ref x10, .ref x11])), (x6, .inr (4, [.ref x12, .ref x13, .ref x14])), (x12, .inl (k 0, 4, .inl g0)), (x13, .inl (k 0, 4, .inl g1)), (x14, .inl (k 6, 4, .inr (.inr (.inr (.inr (va_up (va_up (va_up (va_up (fun _ => none) 0 (some x15)) 1 (some x16)) 2 (some x17)) 3 (some x18))))))), (x15, .inl (k 2, 60, .inr (.inl g2))), (y0, .inr (10, [.int 0, .ref y1, .ref y2, .ref y3, .ref y4, .int 0, .ref y5, .int 0, .int 0, .int 0, .int 0, .int 0, .int 0, .int (-1), .ref y6, .ref y7, .ref y8, .ref y9, .ref y10, .ref y11, .int 0, .int 0, .int 0, .ref y12, .ref y13, .ref y14, .int 0, .int 0, .ref y15, .int 0, .ref y16, .int 0, .ref y17, .int 0, .ref y18, .ref y19, .ref y20, .ref y21])), (y18, .inl (k 0, 4, .inl w0)), (y19, .inl (k 0, 4, .inl w1)), (y20, .inl (k 2, 240, .inr (.inl w2)))]) (hS : va_S (fun z : Nat => s.heap.size ≤ z) s.heap H locs) (hl : lv_has ls 4 [(0, .ref b), (1, .ref x0), (2, .ref y0), (3, .int 0)]) (hcs : cells ≤ 600000 ∧ slots ≤ 7302250) (hend : ∀ (H : Heap) (locs : List Loc), va_S (fun z : Nat => s.heap.size ≤ z) s.heap H locs → W p l e room_1 s m #[Value.ref b] below meth c H locs cells slots Q (F0 m 2212 ls [])) : W p l e room_1 s m #[Value.ref b] below meth c H locs cells slots Q (F0 m 2033 ls []) := by
  have hx := S.1
  have hb := S.2.1
  have hbA : ¬ (fun z : Nat => s.heap.size ≤ z) b := Nat.not_le.mpr hbl
  have hA : ∀ q : Nat, s.heap.size ≤ q → (fun z : Nat => s.heap.size ≤ z) q := fun _ h => h
  refine lv_aload_n hx hb dL_law_2033 rfl (lv_at hl 1 rfl) ?_
  refine lv_aload_n hx hb dL_law_2034 rfl (lv_at hl 0 rfl) ?_
  refine lv_iload_n hx hb dL_law_2035 rfl (lv_at hl 3 rfl) ?_
  refine lv_iconst (v := 1) hx hb dL_law_2036 (by decide) ?_
  refine lv_iadd hx hb dL_law_2037 ?_
  refine k_top (y := 1) (by decide) ?_
  refine va_sld hx hb hX hbl hbA hS (by unfold vp_in; decide) dL_law_2038 ?_
  refine k_top (y := 0) ((congrArg xs (by decide)).trans h9) ?_
  refine lv_aload_n hx hb dL_law_2039 rfl (lv_at hl 0 rfl) ?_
  refine lv_iload_n hx hb dL_law_2040 rfl (lv_at hl 3 rfl) ?_
  refine lv_iconst (v := 2) hx hb dL_law_2041 (by decide) ?_
  refine lv_iadd hx hb dL_law_2042 ?_
  refine k_top (y := 2) (by decide) ?_
  refine va_sld hx hb hX hbl hbA hS (by unfold vp_in; decide) dL_law_2043 ?_
  refine k_top (y := xs 2) (congrArg xs (by decide)) ?_
  refine lv_aload_n hx hb dL_law_2044 rfl (lv_at hl 0 rfl) ?_
  refine lv_iload_n hx hb dL_law_2045 rfl (lv_at hl 3 rfl) ?_
  refine lv_iconst (v := 3) hx hb dL_law_2046 (by decide) ?_
  refine lv_iadd hx hb dL_law_2047 ?_
  refine k_top (y := 3) (by decide) ?_
  refine va_sld hx hb hX hbl hbA hS (by unfold vp_in; decide) dL_law_2048 ?_
  refine k_top (y := xs 3) (congrArg xs (by decide)) ?_
  refine rw_i (mc := 0) (ms := 0) (wc := [(x0, .inr (9, [.ref x1, .ref x2, .ref x3, .ref x4, .ref x5, .ref x6, .ref x7, .ref x8, .ref x9, .ref x10, .ref x11])), (x6, .inr (4, [.ref x12, .ref x13, .ref x14])), (x12, .inl (k 0, 4, .inl g0)), (x13, .inl (k 0, 4, .inl g1)), (x14, .inl (k 6, 4, .inr (.inr (.inr (.inr (va_up (va_up (va_up (va_up (fun _ => none) 0 (some x15)) 1 (some x16)) 2 (some x17)) 3 (some x18))))))), (x15, .inl (k 2, 60, .inr (.inl g2)))]) (wr := [(y0, .inr (10, [.int 0, .ref y1, .ref y2, .ref y3, .ref y4, .int 0, .ref y5, .int 0, .int 0, .int 0, .int 0, .int 0, .int 0, .int (-1), .ref y6, .ref y7, .ref y8, .ref y9, .ref y10, .ref y11, .int 0, .int 0, .int 0, .ref y12, .ref y13, .ref y14, .int 0, .int 0, .ref y15, .int 0, .ref y16, .int 0, .ref y17, .int 0, .ref y18, .ref y19, .ref y20, .ref y21])), (y18, .inl (k 0, 4, .inl w0)), (y19, .inl (k 0, 4, .inl w1)), (y20, .inl (k 2, 240, .inr (.inl w2)))]) [0, 1, 2, 3, 4, 5] [6, 7, 8, 9] rfl rfl (by decide +kernel) (by decide +kernel) (by decide +kernel) hP hD hS hA (fun hPc hDc => run_V (mc := 0) (ms := 0) (As := [.int 0, .int (xs 2), .int (xs 3)]) (rest := []) S (c_X9_rowW0 l D k x0 x1 x2 x3 x4 x5 x6 x7 x8 x9 x10 x11 x12 x13 x14 x15 x16 x17 x18 g0 g1 g2 (xs 2) (xs 3) _) lkL_255 ok_X9_row ⟨rfl, rfl, Nat.le_of_ble_eq_true rfl, Nat.le_of_ble_eq_true rfl⟩ (pw_V (ci := 9) (q0 := 0) hK hN rfl rfl hPc hDc) rfl hl.1 rfl (Nat.le_of_ble_eq_true rfl) hcs dL_law_2049) (fun r_1 ur_1 H locs hr_1 hKr_1 hP9 hD9 hS9 => ?_)
  clear hP hD hS
  have hS := hS9
  have hP : va_P D vwCl [(y0, .inr (10, [.int 0, .ref y1, .ref y2, .ref y3, .ref y4, .int 0, .ref y5, .int 0, .int 0, .int 0, .int 0, .int 0, .int 0, .int (-1), .ref y6, .ref y7, .ref y8, .ref y9, .ref y10, .ref y11, .int 0, .int 0, .int 0, .ref y12, .ref y13, .ref y14, .int 0, .int 0, .ref y15, .int 0, .ref y16, .int 0, .ref y17, .int 0, .ref y18, .ref y19, .ref y20, .ref y21])), (y18, .inl (k 0, 4, .inl w0)), (y19, .inl (k 0, 4, .inl w1)), (y20, .inl (k 2, 240, .inr (.inl w2)))] H := hP9
  have hD : va_D (fun z : Nat => s.heap.size ≤ z) [(y0, .inr (10, [.int 0, .ref y1, .ref y2, .ref y3, .ref y4, .int 0, .ref y5, .int 0, .int 0, .int 0, .int 0, .int 0, .int 0, .int (-1), .ref y6, .ref y7, .ref y8, .ref y9, .ref y10, .ref y11, .int 0, .int 0, .int 0, .ref y12, .ref y13, .ref y14, .int 0, .int 0, .ref y15, .int 0, .ref y16, .int 0, .ref y17, .int 0, .ref y18, .ref y19, .ref y20, .ref y21])), (y18, .inl (k 0, 4, .inl w0)), (y19, .inl (k 0, 4, .inl w1)), (y20, .inl (k 2, 240, .inr (.inl w2)))] := hD9
  clear hP9 hD9 hS9
  replace hr_1 : r_1 = a_row 0 (xs 2) (xs 3) := hr_1
  subst hr_1
  refine lv_aload_n hx hb dL_law_2052 rfl (lv_at hl 2 rfl) ?_
  refine lv_aload_n hx hb dL_law_2053 rfl (lv_at hl 0 rfl) ?_
  refine lv_iload_n hx hb dL_law_2054 rfl (lv_at hl 3 rfl) ?_
  refine lv_iconst (v := 1) hx hb dL_law_2055 (by decide) ?_
  refine lv_iadd hx hb dL_law_2056 ?_
  refine k_top (y := 1) (by decide) ?_
  refine va_sld hx hb hX hbl hbA hS (by unfold vp_in; decide) dL_law_2057 ?_
  refine k_top (y := 0) ((congrArg xs (by decide)).trans h9) ?_
  refine lv_aload_n hx hb dL_law_2058 rfl (lv_at hl 0 rfl) ?_
  refine lv_iload_n hx hb dL_law_2059 rfl (lv_at hl 3 rfl) ?_
  refine lv_iconst (v := 2) hx hb dL_law_2060 (by decide) ?_
  refine lv_iadd hx hb dL_law_2061 ?_
  refine k_top (y := 2) (by decide) ?_
  refine va_sld hx hb hX hbl hbA hS (by unfold vp_in; decide) dL_law_2062 ?_
  refine k_top (y := xs 2) (congrArg xs (by decide)) ?_
  refine lv_aload_n hx hb dL_law_2063 rfl (lv_at hl 0 rfl) ?_
  refine lv_iload_n hx hb dL_law_2064 rfl (lv_at hl 3 rfl) ?_
  refine lv_iconst (v := 3) hx hb dL_law_2065 (by decide) ?_
  refine lv_iadd hx hb dL_law_2066 ?_
  refine k_top (y := 3) (by decide) ?_
  refine va_sld hx hb hX hbl hbA hS (by unfold vp_in; decide) dL_law_2067 ?_
  refine k_top (y := xs 3) (congrArg xs (by decide)) ?_
  refine rw_i (mc := 0) (ms := 0) (wc := [(y0, .inr (10, [.int 0, .ref y1, .ref y2, .ref y3, .ref y4, .int 0, .ref y5, .int 0, .int 0, .int 0, .int 0, .int 0, .int 0, .int (-1), .ref y6, .ref y7, .ref y8, .ref y9, .ref y10, .ref y11, .int 0, .int 0, .int 0, .ref y12, .ref y13, .ref y14, .int 0, .int 0, .ref y15, .int 0, .ref y16, .int 0, .ref y17, .int 0, .ref y18, .ref y19, .ref y20, .ref y21])), (y18, .inl (k 0, 4, .inl w0)), (y19, .inl (k 0, 4, .inl w1)), (y20, .inl (k 2, 240, .inr (.inl w2)))]) (wr := []) [0, 1, 2, 3] [] rfl rfl (by decide +kernel) (by decide +kernel) (by decide +kernel) hP hD hS hA (fun hPc hDc => run_V (mc := 0) (ms := 0) (As := [.int 0, .int (xs 2), .int (xs 3)]) (rest := [.int (a_row 0 (xs 2) (xs 3))]) S (c_X10_rowW0 l D k y0 y1 y2 y3 y4 y5 y6 y7 y8 y9 y10 y11 y12 y13 y14 y15 y16 y17 y18 y19 y20 y21 w0 w1 w2 (xs 2) (xs 3) _) lkL_258 ok_X10_row ⟨rfl, rfl, Nat.le_of_ble_eq_true rfl, Nat.le_of_ble_eq_true rfl⟩ (pw_V (ci := 10) (q0 := 0) hK hN rfl rfl hPc hDc) rfl hl.1 rfl (Nat.le_of_ble_eq_true rfl) hcs dL_law_2068) (fun r_2 ur_2 H locs hr_2 hKr_2 hP9 hD9 hS9 => ?_)
  clear hP hD hS
  have hS := hS9
  have hP : va_P D vwCl [] H := hP9
  have hD : va_D (fun z : Nat => s.heap.size ≤ z) [] := hD9
  clear hP9 hD9 hS9
  replace hr_2 : r_2 = a_row 0 (xs 2) (xs 3) := hr_2
  subst hr_2
  refine lv_icmp_eq (tgt := 2212) hx hb dL_law_2071 (by decide) (fun _ => hend H locs hS) (fun c_3 => absurd rfl c_3)
set_option maxHeartbeats 4000000 in
set_option maxRecDepth 100000 in
theorem wc_59W1 {p : Program} {l : Launch} {e : Env} {s : State} {m : MethodId} {below : List Frame} {meth : Method} {c : Code} {H : Heap} {locs : List Loc} {cells slots : Nat} {Q : State → Prop} {b : Nat} {xs : Nat → Int32} {D : va_G} {k : Nat → ClassId} {ls : Array Slot} {x0 x1 x2 x3 x4 x5 x6 x7 x8 x9 x10 x11 x12 x13 x14 x15 x16 x17 x18 y0 y1 y2 y3 y4 y5 y6 y7 y8 y9 y10 y11 y12 y13 y14 y15 y16 y17 y18 y19 y20 y21 : Nat} {g0 : Nat → Int32} {g1 : Nat → Int32} {g2 : Nat → Int64} {w0 : Nat → Int32} {w1 : Nat → Int32} {w2 : Nat → Int64} (h9 : xs 1 = 1) (S : CallFix p m c cL_law 4 s #[Value.ref b] TB RL) (hK : va_K D vwCl (KT k) s) (hN : NX s) (hX : va_X b 6 xs s s.heap) (hbl : b < s.heap.size) (hP : va_P D vwCl [(x0, .inr (9, [.ref x1, .ref x2, .ref x3, .ref x4, .ref x5, .ref x6, .ref x7, .ref x8, .ref x9, .ref x10, .ref x11])), (x6, .inr (4, [.ref x12, .ref x13, .ref x14])), (x12, .inl (k 0, 4, .inl g0)), (x13, .inl (k 0, 4, .inl g1)), (x14, .inl (k 6, 4, .inr (.inr (.inr (.inr (va_up (va_up (va_up (va_up (fun _ => none) 0 (some x15)) 1 (some x16)) 2 (some x17)) 3 (some x18))))))), (x16, .inl (k 2, 60, .inr (.inl g2))), (y0, .inr (10, [.int 0, .ref y1, .ref y2, .ref y3, .ref y4, .int 0, .ref y5, .int 0, .int 0, .int 0, .int 0, .int 0, .int 0, .int (-1), .ref y6, .ref y7, .ref y8, .ref y9, .ref y10, .ref y11, .int 0, .int 0, .int 0, .ref y12, .ref y13, .ref y14, .int 0, .int 0, .ref y15, .int 0, .ref y16, .int 0, .ref y17, .int 0, .ref y18, .ref y19, .ref y20, .ref y21])), (y18, .inl (k 0, 4, .inl w0)), (y19, .inl (k 0, 4, .inl w1)), (y20, .inl (k 2, 240, .inr (.inl w2)))] H) (hD : va_D (fun z : Nat => s.heap.size ≤ z) [(x0, .inr (9, [.ref x1, .ref x2, .ref x3, .ref x4, .ref x5, .ref x6, .ref x7, .ref x8, .ref x9, .ref x10, .ref x11])), (x6, .inr (4, [.ref x12, .ref x13, .ref x14])), (x12, .inl (k 0, 4, .inl g0)), (x13, .inl (k 0, 4, .inl g1)), (x14, .inl (k 6, 4, .inr (.inr (.inr (.inr (va_up (va_up (va_up (va_up (fun _ => none) 0 (some x15)) 1 (some x16)) 2 (some x17)) 3 (some x18))))))), (x16, .inl (k 2, 60, .inr (.inl g2))), (y0, .inr (10, [.int 0, .ref y1, .ref y2, .ref y3, .ref y4, .int 0, .ref y5, .int 0, .int 0, .int 0, .int 0, .int 0, .int 0, .int (-1), .ref y6, .ref y7, .ref y8, .ref y9, .ref y10, .ref y11, .int 0, .int 0, .int 0, .ref y12, .ref y13, .ref y14, .int 0, .int 0, .ref y15, .int 0, .ref y16, .int 0, .ref y17, .int 0, .ref y18, .ref y19, .ref y20, .ref y21])), (y18, .inl (k 0, 4, .inl w0)), (y19, .inl (k 0, 4, .inl w1)), (y20, .inl (k 2, 240, .inr (.inl w2)))]) (hS : va_S (fun z : Nat => s.heap.size ≤ z) s.heap H locs) (hl : lv_has ls 4 [(0, .ref b), (1, .ref x0), (2, .ref y0), (3, .int 0)]) (hcs : cells ≤ 600000 ∧ slots ≤ 7302250) (hend : ∀ (H : Heap) (locs : List Loc), va_S (fun z : Nat => s.heap.size ≤ z) s.heap H locs → W p l e room_1 s m #[Value.ref b] below meth c H locs cells slots Q (F0 m 2212 ls [])) : W p l e room_1 s m #[Value.ref b] below meth c H locs cells slots Q (F0 m 2033 ls []) := by
  have hx := S.1
  have hb := S.2.1
  have hbA : ¬ (fun z : Nat => s.heap.size ≤ z) b := Nat.not_le.mpr hbl
  have hA : ∀ q : Nat, s.heap.size ≤ q → (fun z : Nat => s.heap.size ≤ z) q := fun _ h => h
  refine lv_aload_n hx hb dL_law_2033 rfl (lv_at hl 1 rfl) ?_
  refine lv_aload_n hx hb dL_law_2034 rfl (lv_at hl 0 rfl) ?_
  refine lv_iload_n hx hb dL_law_2035 rfl (lv_at hl 3 rfl) ?_
  refine lv_iconst (v := 1) hx hb dL_law_2036 (by decide) ?_
  refine lv_iadd hx hb dL_law_2037 ?_
  refine k_top (y := 1) (by decide) ?_
  refine va_sld hx hb hX hbl hbA hS (by unfold vp_in; decide) dL_law_2038 ?_
  refine k_top (y := 1) ((congrArg xs (by decide)).trans h9) ?_
  refine lv_aload_n hx hb dL_law_2039 rfl (lv_at hl 0 rfl) ?_
  refine lv_iload_n hx hb dL_law_2040 rfl (lv_at hl 3 rfl) ?_
  refine lv_iconst (v := 2) hx hb dL_law_2041 (by decide) ?_
  refine lv_iadd hx hb dL_law_2042 ?_
  refine k_top (y := 2) (by decide) ?_
  refine va_sld hx hb hX hbl hbA hS (by unfold vp_in; decide) dL_law_2043 ?_
  refine k_top (y := xs 2) (congrArg xs (by decide)) ?_
  refine lv_aload_n hx hb dL_law_2044 rfl (lv_at hl 0 rfl) ?_
  refine lv_iload_n hx hb dL_law_2045 rfl (lv_at hl 3 rfl) ?_
  refine lv_iconst (v := 3) hx hb dL_law_2046 (by decide) ?_
  refine lv_iadd hx hb dL_law_2047 ?_
  refine k_top (y := 3) (by decide) ?_
  refine va_sld hx hb hX hbl hbA hS (by unfold vp_in; decide) dL_law_2048 ?_
  refine k_top (y := xs 3) (congrArg xs (by decide)) ?_
  refine rw_i (mc := 0) (ms := 0) (wc := [(x0, .inr (9, [.ref x1, .ref x2, .ref x3, .ref x4, .ref x5, .ref x6, .ref x7, .ref x8, .ref x9, .ref x10, .ref x11])), (x6, .inr (4, [.ref x12, .ref x13, .ref x14])), (x12, .inl (k 0, 4, .inl g0)), (x13, .inl (k 0, 4, .inl g1)), (x14, .inl (k 6, 4, .inr (.inr (.inr (.inr (va_up (va_up (va_up (va_up (fun _ => none) 0 (some x15)) 1 (some x16)) 2 (some x17)) 3 (some x18))))))), (x16, .inl (k 2, 60, .inr (.inl g2)))]) (wr := [(y0, .inr (10, [.int 0, .ref y1, .ref y2, .ref y3, .ref y4, .int 0, .ref y5, .int 0, .int 0, .int 0, .int 0, .int 0, .int 0, .int (-1), .ref y6, .ref y7, .ref y8, .ref y9, .ref y10, .ref y11, .int 0, .int 0, .int 0, .ref y12, .ref y13, .ref y14, .int 0, .int 0, .ref y15, .int 0, .ref y16, .int 0, .ref y17, .int 0, .ref y18, .ref y19, .ref y20, .ref y21])), (y18, .inl (k 0, 4, .inl w0)), (y19, .inl (k 0, 4, .inl w1)), (y20, .inl (k 2, 240, .inr (.inl w2)))]) [0, 1, 2, 3, 4, 5] [6, 7, 8, 9] rfl rfl (by decide +kernel) (by decide +kernel) (by decide +kernel) hP hD hS hA (fun hPc hDc => run_V (mc := 0) (ms := 0) (As := [.int 1, .int (xs 2), .int (xs 3)]) (rest := []) S (c_X9_rowW1 l D k x0 x1 x2 x3 x4 x5 x6 x7 x8 x9 x10 x11 x12 x13 x14 x15 x16 x17 x18 g0 g1 g2 (xs 2) (xs 3) _) lkL_255 ok_X9_row ⟨rfl, rfl, Nat.le_of_ble_eq_true rfl, Nat.le_of_ble_eq_true rfl⟩ (pw_V (ci := 9) (q0 := 0) hK hN rfl rfl hPc hDc) rfl hl.1 rfl (Nat.le_of_ble_eq_true rfl) hcs dL_law_2049) (fun r_1 ur_1 H locs hr_1 hKr_1 hP9 hD9 hS9 => ?_)
  clear hP hD hS
  have hS := hS9
  have hP : va_P D vwCl [(y0, .inr (10, [.int 0, .ref y1, .ref y2, .ref y3, .ref y4, .int 0, .ref y5, .int 0, .int 0, .int 0, .int 0, .int 0, .int 0, .int (-1), .ref y6, .ref y7, .ref y8, .ref y9, .ref y10, .ref y11, .int 0, .int 0, .int 0, .ref y12, .ref y13, .ref y14, .int 0, .int 0, .ref y15, .int 0, .ref y16, .int 0, .ref y17, .int 0, .ref y18, .ref y19, .ref y20, .ref y21])), (y18, .inl (k 0, 4, .inl w0)), (y19, .inl (k 0, 4, .inl w1)), (y20, .inl (k 2, 240, .inr (.inl w2)))] H := hP9
  have hD : va_D (fun z : Nat => s.heap.size ≤ z) [(y0, .inr (10, [.int 0, .ref y1, .ref y2, .ref y3, .ref y4, .int 0, .ref y5, .int 0, .int 0, .int 0, .int 0, .int 0, .int 0, .int (-1), .ref y6, .ref y7, .ref y8, .ref y9, .ref y10, .ref y11, .int 0, .int 0, .int 0, .ref y12, .ref y13, .ref y14, .int 0, .int 0, .ref y15, .int 0, .ref y16, .int 0, .ref y17, .int 0, .ref y18, .ref y19, .ref y20, .ref y21])), (y18, .inl (k 0, 4, .inl w0)), (y19, .inl (k 0, 4, .inl w1)), (y20, .inl (k 2, 240, .inr (.inl w2)))] := hD9
  clear hP9 hD9 hS9
  replace hr_1 : r_1 = a_row 1 (xs 2) (xs 3) := hr_1
  subst hr_1
  refine lv_aload_n hx hb dL_law_2052 rfl (lv_at hl 2 rfl) ?_
  refine lv_aload_n hx hb dL_law_2053 rfl (lv_at hl 0 rfl) ?_
  refine lv_iload_n hx hb dL_law_2054 rfl (lv_at hl 3 rfl) ?_
  refine lv_iconst (v := 1) hx hb dL_law_2055 (by decide) ?_
  refine lv_iadd hx hb dL_law_2056 ?_
  refine k_top (y := 1) (by decide) ?_
  refine va_sld hx hb hX hbl hbA hS (by unfold vp_in; decide) dL_law_2057 ?_
  refine k_top (y := 1) ((congrArg xs (by decide)).trans h9) ?_
  refine lv_aload_n hx hb dL_law_2058 rfl (lv_at hl 0 rfl) ?_
  refine lv_iload_n hx hb dL_law_2059 rfl (lv_at hl 3 rfl) ?_
  refine lv_iconst (v := 2) hx hb dL_law_2060 (by decide) ?_
  refine lv_iadd hx hb dL_law_2061 ?_
  refine k_top (y := 2) (by decide) ?_
  refine va_sld hx hb hX hbl hbA hS (by unfold vp_in; decide) dL_law_2062 ?_
  refine k_top (y := xs 2) (congrArg xs (by decide)) ?_
  refine lv_aload_n hx hb dL_law_2063 rfl (lv_at hl 0 rfl) ?_
  refine lv_iload_n hx hb dL_law_2064 rfl (lv_at hl 3 rfl) ?_
  refine lv_iconst (v := 3) hx hb dL_law_2065 (by decide) ?_
  refine lv_iadd hx hb dL_law_2066 ?_
  refine k_top (y := 3) (by decide) ?_
  refine va_sld hx hb hX hbl hbA hS (by unfold vp_in; decide) dL_law_2067 ?_
  refine k_top (y := xs 3) (congrArg xs (by decide)) ?_
  refine rw_i (mc := 0) (ms := 0) (wc := [(y0, .inr (10, [.int 0, .ref y1, .ref y2, .ref y3, .ref y4, .int 0, .ref y5, .int 0, .int 0, .int 0, .int 0, .int 0, .int 0, .int (-1), .ref y6, .ref y7, .ref y8, .ref y9, .ref y10, .ref y11, .int 0, .int 0, .int 0, .ref y12, .ref y13, .ref y14, .int 0, .int 0, .ref y15, .int 0, .ref y16, .int 0, .ref y17, .int 0, .ref y18, .ref y19, .ref y20, .ref y21])), (y18, .inl (k 0, 4, .inl w0)), (y19, .inl (k 0, 4, .inl w1)), (y20, .inl (k 2, 240, .inr (.inl w2)))]) (wr := []) [0, 1, 2, 3] [] rfl rfl (by decide +kernel) (by decide +kernel) (by decide +kernel) hP hD hS hA (fun hPc hDc => run_V (mc := 0) (ms := 0) (As := [.int 1, .int (xs 2), .int (xs 3)]) (rest := [.int (a_row 1 (xs 2) (xs 3))]) S (c_X10_rowW1 l D k y0 y1 y2 y3 y4 y5 y6 y7 y8 y9 y10 y11 y12 y13 y14 y15 y16 y17 y18 y19 y20 y21 w0 w1 w2 (xs 2) (xs 3) _) lkL_258 ok_X10_row ⟨rfl, rfl, Nat.le_of_ble_eq_true rfl, Nat.le_of_ble_eq_true rfl⟩ (pw_V (ci := 10) (q0 := 0) hK hN rfl rfl hPc hDc) rfl hl.1 rfl (Nat.le_of_ble_eq_true rfl) hcs dL_law_2068) (fun r_2 ur_2 H locs hr_2 hKr_2 hP9 hD9 hS9 => ?_)
  clear hP hD hS
  have hS := hS9
  have hP : va_P D vwCl [] H := hP9
  have hD : va_D (fun z : Nat => s.heap.size ≤ z) [] := hD9
  clear hP9 hD9 hS9
  replace hr_2 : r_2 = a_row 1 (xs 2) (xs 3) := hr_2
  subst hr_2
  refine lv_icmp_eq (tgt := 2212) hx hb dL_law_2071 (by decide) (fun _ => hend H locs hS) (fun c_3 => absurd rfl c_3)
set_option maxHeartbeats 4000000 in
set_option maxRecDepth 100000 in
theorem wc_59W2 {p : Program} {l : Launch} {e : Env} {s : State} {m : MethodId} {below : List Frame} {meth : Method} {c : Code} {H : Heap} {locs : List Loc} {cells slots : Nat} {Q : State → Prop} {b : Nat} {xs : Nat → Int32} {D : va_G} {k : Nat → ClassId} {ls : Array Slot} {x0 x1 x2 x3 x4 x5 x6 x7 x8 x9 x10 x11 x12 x13 x14 x15 x16 x17 x18 y0 y1 y2 y3 y4 y5 y6 y7 y8 y9 y10 y11 y12 y13 y14 y15 y16 y17 y18 y19 y20 y21 : Nat} {g0 : Nat → Int32} {g1 : Nat → Int32} {g2 : Nat → Int64} {w0 : Nat → Int32} {w1 : Nat → Int32} {w2 : Nat → Int64} (h9 : xs 1 = 2) (S : CallFix p m c cL_law 4 s #[Value.ref b] TB RL) (hK : va_K D vwCl (KT k) s) (hN : NX s) (hX : va_X b 6 xs s s.heap) (hbl : b < s.heap.size) (hP : va_P D vwCl [(x0, .inr (9, [.ref x1, .ref x2, .ref x3, .ref x4, .ref x5, .ref x6, .ref x7, .ref x8, .ref x9, .ref x10, .ref x11])), (x6, .inr (4, [.ref x12, .ref x13, .ref x14])), (x12, .inl (k 0, 4, .inl g0)), (x13, .inl (k 0, 4, .inl g1)), (x14, .inl (k 6, 4, .inr (.inr (.inr (.inr (va_up (va_up (va_up (va_up (fun _ => none) 0 (some x15)) 1 (some x16)) 2 (some x17)) 3 (some x18))))))), (x17, .inl (k 2, 60, .inr (.inl g2))), (y0, .inr (10, [.int 0, .ref y1, .ref y2, .ref y3, .ref y4, .int 0, .ref y5, .int 0, .int 0, .int 0, .int 0, .int 0, .int 0, .int (-1), .ref y6, .ref y7, .ref y8, .ref y9, .ref y10, .ref y11, .int 0, .int 0, .int 0, .ref y12, .ref y13, .ref y14, .int 0, .int 0, .ref y15, .int 0, .ref y16, .int 0, .ref y17, .int 0, .ref y18, .ref y19, .ref y20, .ref y21])), (y18, .inl (k 0, 4, .inl w0)), (y19, .inl (k 0, 4, .inl w1)), (y20, .inl (k 2, 240, .inr (.inl w2)))] H) (hD : va_D (fun z : Nat => s.heap.size ≤ z) [(x0, .inr (9, [.ref x1, .ref x2, .ref x3, .ref x4, .ref x5, .ref x6, .ref x7, .ref x8, .ref x9, .ref x10, .ref x11])), (x6, .inr (4, [.ref x12, .ref x13, .ref x14])), (x12, .inl (k 0, 4, .inl g0)), (x13, .inl (k 0, 4, .inl g1)), (x14, .inl (k 6, 4, .inr (.inr (.inr (.inr (va_up (va_up (va_up (va_up (fun _ => none) 0 (some x15)) 1 (some x16)) 2 (some x17)) 3 (some x18))))))), (x17, .inl (k 2, 60, .inr (.inl g2))), (y0, .inr (10, [.int 0, .ref y1, .ref y2, .ref y3, .ref y4, .int 0, .ref y5, .int 0, .int 0, .int 0, .int 0, .int 0, .int 0, .int (-1), .ref y6, .ref y7, .ref y8, .ref y9, .ref y10, .ref y11, .int 0, .int 0, .int 0, .ref y12, .ref y13, .ref y14, .int 0, .int 0, .ref y15, .int 0, .ref y16, .int 0, .ref y17, .int 0, .ref y18, .ref y19, .ref y20, .ref y21])), (y18, .inl (k 0, 4, .inl w0)), (y19, .inl (k 0, 4, .inl w1)), (y20, .inl (k 2, 240, .inr (.inl w2)))]) (hS : va_S (fun z : Nat => s.heap.size ≤ z) s.heap H locs) (hl : lv_has ls 4 [(0, .ref b), (1, .ref x0), (2, .ref y0), (3, .int 0)]) (hcs : cells ≤ 600000 ∧ slots ≤ 7302250) (hend : ∀ (H : Heap) (locs : List Loc), va_S (fun z : Nat => s.heap.size ≤ z) s.heap H locs → W p l e room_1 s m #[Value.ref b] below meth c H locs cells slots Q (F0 m 2212 ls [])) : W p l e room_1 s m #[Value.ref b] below meth c H locs cells slots Q (F0 m 2033 ls []) := by
  have hx := S.1
  have hb := S.2.1
  have hbA : ¬ (fun z : Nat => s.heap.size ≤ z) b := Nat.not_le.mpr hbl
  have hA : ∀ q : Nat, s.heap.size ≤ q → (fun z : Nat => s.heap.size ≤ z) q := fun _ h => h
  refine lv_aload_n hx hb dL_law_2033 rfl (lv_at hl 1 rfl) ?_
  refine lv_aload_n hx hb dL_law_2034 rfl (lv_at hl 0 rfl) ?_
  refine lv_iload_n hx hb dL_law_2035 rfl (lv_at hl 3 rfl) ?_
  refine lv_iconst (v := 1) hx hb dL_law_2036 (by decide) ?_
  refine lv_iadd hx hb dL_law_2037 ?_
  refine k_top (y := 1) (by decide) ?_
  refine va_sld hx hb hX hbl hbA hS (by unfold vp_in; decide) dL_law_2038 ?_
  refine k_top (y := 2) ((congrArg xs (by decide)).trans h9) ?_
  refine lv_aload_n hx hb dL_law_2039 rfl (lv_at hl 0 rfl) ?_
  refine lv_iload_n hx hb dL_law_2040 rfl (lv_at hl 3 rfl) ?_
  refine lv_iconst (v := 2) hx hb dL_law_2041 (by decide) ?_
  refine lv_iadd hx hb dL_law_2042 ?_
  refine k_top (y := 2) (by decide) ?_
  refine va_sld hx hb hX hbl hbA hS (by unfold vp_in; decide) dL_law_2043 ?_
  refine k_top (y := xs 2) (congrArg xs (by decide)) ?_
  refine lv_aload_n hx hb dL_law_2044 rfl (lv_at hl 0 rfl) ?_
  refine lv_iload_n hx hb dL_law_2045 rfl (lv_at hl 3 rfl) ?_
  refine lv_iconst (v := 3) hx hb dL_law_2046 (by decide) ?_
  refine lv_iadd hx hb dL_law_2047 ?_
  refine k_top (y := 3) (by decide) ?_
  refine va_sld hx hb hX hbl hbA hS (by unfold vp_in; decide) dL_law_2048 ?_
  refine k_top (y := xs 3) (congrArg xs (by decide)) ?_
  refine rw_i (mc := 0) (ms := 0) (wc := [(x0, .inr (9, [.ref x1, .ref x2, .ref x3, .ref x4, .ref x5, .ref x6, .ref x7, .ref x8, .ref x9, .ref x10, .ref x11])), (x6, .inr (4, [.ref x12, .ref x13, .ref x14])), (x12, .inl (k 0, 4, .inl g0)), (x13, .inl (k 0, 4, .inl g1)), (x14, .inl (k 6, 4, .inr (.inr (.inr (.inr (va_up (va_up (va_up (va_up (fun _ => none) 0 (some x15)) 1 (some x16)) 2 (some x17)) 3 (some x18))))))), (x17, .inl (k 2, 60, .inr (.inl g2)))]) (wr := [(y0, .inr (10, [.int 0, .ref y1, .ref y2, .ref y3, .ref y4, .int 0, .ref y5, .int 0, .int 0, .int 0, .int 0, .int 0, .int 0, .int (-1), .ref y6, .ref y7, .ref y8, .ref y9, .ref y10, .ref y11, .int 0, .int 0, .int 0, .ref y12, .ref y13, .ref y14, .int 0, .int 0, .ref y15, .int 0, .ref y16, .int 0, .ref y17, .int 0, .ref y18, .ref y19, .ref y20, .ref y21])), (y18, .inl (k 0, 4, .inl w0)), (y19, .inl (k 0, 4, .inl w1)), (y20, .inl (k 2, 240, .inr (.inl w2)))]) [0, 1, 2, 3, 4, 5] [6, 7, 8, 9] rfl rfl (by decide +kernel) (by decide +kernel) (by decide +kernel) hP hD hS hA (fun hPc hDc => run_V (mc := 0) (ms := 0) (As := [.int 2, .int (xs 2), .int (xs 3)]) (rest := []) S (c_X9_rowW2 l D k x0 x1 x2 x3 x4 x5 x6 x7 x8 x9 x10 x11 x12 x13 x14 x15 x16 x17 x18 g0 g1 g2 (xs 2) (xs 3) _) lkL_255 ok_X9_row ⟨rfl, rfl, Nat.le_of_ble_eq_true rfl, Nat.le_of_ble_eq_true rfl⟩ (pw_V (ci := 9) (q0 := 0) hK hN rfl rfl hPc hDc) rfl hl.1 rfl (Nat.le_of_ble_eq_true rfl) hcs dL_law_2049) (fun r_1 ur_1 H locs hr_1 hKr_1 hP9 hD9 hS9 => ?_)
  clear hP hD hS
  have hS := hS9
  have hP : va_P D vwCl [(y0, .inr (10, [.int 0, .ref y1, .ref y2, .ref y3, .ref y4, .int 0, .ref y5, .int 0, .int 0, .int 0, .int 0, .int 0, .int 0, .int (-1), .ref y6, .ref y7, .ref y8, .ref y9, .ref y10, .ref y11, .int 0, .int 0, .int 0, .ref y12, .ref y13, .ref y14, .int 0, .int 0, .ref y15, .int 0, .ref y16, .int 0, .ref y17, .int 0, .ref y18, .ref y19, .ref y20, .ref y21])), (y18, .inl (k 0, 4, .inl w0)), (y19, .inl (k 0, 4, .inl w1)), (y20, .inl (k 2, 240, .inr (.inl w2)))] H := hP9
  have hD : va_D (fun z : Nat => s.heap.size ≤ z) [(y0, .inr (10, [.int 0, .ref y1, .ref y2, .ref y3, .ref y4, .int 0, .ref y5, .int 0, .int 0, .int 0, .int 0, .int 0, .int 0, .int (-1), .ref y6, .ref y7, .ref y8, .ref y9, .ref y10, .ref y11, .int 0, .int 0, .int 0, .ref y12, .ref y13, .ref y14, .int 0, .int 0, .ref y15, .int 0, .ref y16, .int 0, .ref y17, .int 0, .ref y18, .ref y19, .ref y20, .ref y21])), (y18, .inl (k 0, 4, .inl w0)), (y19, .inl (k 0, 4, .inl w1)), (y20, .inl (k 2, 240, .inr (.inl w2)))] := hD9
  clear hP9 hD9 hS9
  replace hr_1 : r_1 = a_row 2 (xs 2) (xs 3) := hr_1
  subst hr_1
  refine lv_aload_n hx hb dL_law_2052 rfl (lv_at hl 2 rfl) ?_
  refine lv_aload_n hx hb dL_law_2053 rfl (lv_at hl 0 rfl) ?_
  refine lv_iload_n hx hb dL_law_2054 rfl (lv_at hl 3 rfl) ?_
  refine lv_iconst (v := 1) hx hb dL_law_2055 (by decide) ?_
  refine lv_iadd hx hb dL_law_2056 ?_
  refine k_top (y := 1) (by decide) ?_
  refine va_sld hx hb hX hbl hbA hS (by unfold vp_in; decide) dL_law_2057 ?_
  refine k_top (y := 2) ((congrArg xs (by decide)).trans h9) ?_
  refine lv_aload_n hx hb dL_law_2058 rfl (lv_at hl 0 rfl) ?_
  refine lv_iload_n hx hb dL_law_2059 rfl (lv_at hl 3 rfl) ?_
  refine lv_iconst (v := 2) hx hb dL_law_2060 (by decide) ?_
  refine lv_iadd hx hb dL_law_2061 ?_
  refine k_top (y := 2) (by decide) ?_
  refine va_sld hx hb hX hbl hbA hS (by unfold vp_in; decide) dL_law_2062 ?_
  refine k_top (y := xs 2) (congrArg xs (by decide)) ?_
  refine lv_aload_n hx hb dL_law_2063 rfl (lv_at hl 0 rfl) ?_
  refine lv_iload_n hx hb dL_law_2064 rfl (lv_at hl 3 rfl) ?_
  refine lv_iconst (v := 3) hx hb dL_law_2065 (by decide) ?_
  refine lv_iadd hx hb dL_law_2066 ?_
  refine k_top (y := 3) (by decide) ?_
  refine va_sld hx hb hX hbl hbA hS (by unfold vp_in; decide) dL_law_2067 ?_
  refine k_top (y := xs 3) (congrArg xs (by decide)) ?_
  refine rw_i (mc := 0) (ms := 0) (wc := [(y0, .inr (10, [.int 0, .ref y1, .ref y2, .ref y3, .ref y4, .int 0, .ref y5, .int 0, .int 0, .int 0, .int 0, .int 0, .int 0, .int (-1), .ref y6, .ref y7, .ref y8, .ref y9, .ref y10, .ref y11, .int 0, .int 0, .int 0, .ref y12, .ref y13, .ref y14, .int 0, .int 0, .ref y15, .int 0, .ref y16, .int 0, .ref y17, .int 0, .ref y18, .ref y19, .ref y20, .ref y21])), (y18, .inl (k 0, 4, .inl w0)), (y19, .inl (k 0, 4, .inl w1)), (y20, .inl (k 2, 240, .inr (.inl w2)))]) (wr := []) [0, 1, 2, 3] [] rfl rfl (by decide +kernel) (by decide +kernel) (by decide +kernel) hP hD hS hA (fun hPc hDc => run_V (mc := 0) (ms := 0) (As := [.int 2, .int (xs 2), .int (xs 3)]) (rest := [.int (a_row 2 (xs 2) (xs 3))]) S (c_X10_rowW2 l D k y0 y1 y2 y3 y4 y5 y6 y7 y8 y9 y10 y11 y12 y13 y14 y15 y16 y17 y18 y19 y20 y21 w0 w1 w2 (xs 2) (xs 3) _) lkL_258 ok_X10_row ⟨rfl, rfl, Nat.le_of_ble_eq_true rfl, Nat.le_of_ble_eq_true rfl⟩ (pw_V (ci := 10) (q0 := 0) hK hN rfl rfl hPc hDc) rfl hl.1 rfl (Nat.le_of_ble_eq_true rfl) hcs dL_law_2068) (fun r_2 ur_2 H locs hr_2 hKr_2 hP9 hD9 hS9 => ?_)
  clear hP hD hS
  have hS := hS9
  have hP : va_P D vwCl [] H := hP9
  have hD : va_D (fun z : Nat => s.heap.size ≤ z) [] := hD9
  clear hP9 hD9 hS9
  replace hr_2 : r_2 = a_row 2 (xs 2) (xs 3) := hr_2
  subst hr_2
  refine lv_icmp_eq (tgt := 2212) hx hb dL_law_2071 (by decide) (fun _ => hend H locs hS) (fun c_3 => absurd rfl c_3)
set_option maxHeartbeats 4000000 in
set_option maxRecDepth 100000 in
theorem wc_59W3 {p : Program} {l : Launch} {e : Env} {s : State} {m : MethodId} {below : List Frame} {meth : Method} {c : Code} {H : Heap} {locs : List Loc} {cells slots : Nat} {Q : State → Prop} {b : Nat} {xs : Nat → Int32} {D : va_G} {k : Nat → ClassId} {ls : Array Slot} {x0 x1 x2 x3 x4 x5 x6 x7 x8 x9 x10 x11 x12 x13 x14 x15 x16 x17 x18 y0 y1 y2 y3 y4 y5 y6 y7 y8 y9 y10 y11 y12 y13 y14 y15 y16 y17 y18 y19 y20 y21 : Nat} {g0 : Nat → Int32} {g1 : Nat → Int32} {g2 : Nat → Int64} {w0 : Nat → Int32} {w1 : Nat → Int32} {w2 : Nat → Int64} (h9 : xs 1 = 3) (S : CallFix p m c cL_law 4 s #[Value.ref b] TB RL) (hK : va_K D vwCl (KT k) s) (hN : NX s) (hX : va_X b 6 xs s s.heap) (hbl : b < s.heap.size) (hP : va_P D vwCl [(x0, .inr (9, [.ref x1, .ref x2, .ref x3, .ref x4, .ref x5, .ref x6, .ref x7, .ref x8, .ref x9, .ref x10, .ref x11])), (x6, .inr (4, [.ref x12, .ref x13, .ref x14])), (x12, .inl (k 0, 4, .inl g0)), (x13, .inl (k 0, 4, .inl g1)), (x14, .inl (k 6, 4, .inr (.inr (.inr (.inr (va_up (va_up (va_up (va_up (fun _ => none) 0 (some x15)) 1 (some x16)) 2 (some x17)) 3 (some x18))))))), (x18, .inl (k 2, 60, .inr (.inl g2))), (y0, .inr (10, [.int 0, .ref y1, .ref y2, .ref y3, .ref y4, .int 0, .ref y5, .int 0, .int 0, .int 0, .int 0, .int 0, .int 0, .int (-1), .ref y6, .ref y7, .ref y8, .ref y9, .ref y10, .ref y11, .int 0, .int 0, .int 0, .ref y12, .ref y13, .ref y14, .int 0, .int 0, .ref y15, .int 0, .ref y16, .int 0, .ref y17, .int 0, .ref y18, .ref y19, .ref y20, .ref y21])), (y18, .inl (k 0, 4, .inl w0)), (y19, .inl (k 0, 4, .inl w1)), (y20, .inl (k 2, 240, .inr (.inl w2)))] H) (hD : va_D (fun z : Nat => s.heap.size ≤ z) [(x0, .inr (9, [.ref x1, .ref x2, .ref x3, .ref x4, .ref x5, .ref x6, .ref x7, .ref x8, .ref x9, .ref x10, .ref x11])), (x6, .inr (4, [.ref x12, .ref x13, .ref x14])), (x12, .inl (k 0, 4, .inl g0)), (x13, .inl (k 0, 4, .inl g1)), (x14, .inl (k 6, 4, .inr (.inr (.inr (.inr (va_up (va_up (va_up (va_up (fun _ => none) 0 (some x15)) 1 (some x16)) 2 (some x17)) 3 (some x18))))))), (x18, .inl (k 2, 60, .inr (.inl g2))), (y0, .inr (10, [.int 0, .ref y1, .ref y2, .ref y3, .ref y4, .int 0, .ref y5, .int 0, .int 0, .int 0, .int 0, .int 0, .int 0, .int (-1), .ref y6, .ref y7, .ref y8, .ref y9, .ref y10, .ref y11, .int 0, .int 0, .int 0, .ref y12, .ref y13, .ref y14, .int 0, .int 0, .ref y15, .int 0, .ref y16, .int 0, .ref y17, .int 0, .ref y18, .ref y19, .ref y20, .ref y21])), (y18, .inl (k 0, 4, .inl w0)), (y19, .inl (k 0, 4, .inl w1)), (y20, .inl (k 2, 240, .inr (.inl w2)))]) (hS : va_S (fun z : Nat => s.heap.size ≤ z) s.heap H locs) (hl : lv_has ls 4 [(0, .ref b), (1, .ref x0), (2, .ref y0), (3, .int 0)]) (hcs : cells ≤ 600000 ∧ slots ≤ 7302250) (hend : ∀ (H : Heap) (locs : List Loc), va_S (fun z : Nat => s.heap.size ≤ z) s.heap H locs → W p l e room_1 s m #[Value.ref b] below meth c H locs cells slots Q (F0 m 2212 ls [])) : W p l e room_1 s m #[Value.ref b] below meth c H locs cells slots Q (F0 m 2033 ls []) := by
  have hx := S.1
  have hb := S.2.1
  have hbA : ¬ (fun z : Nat => s.heap.size ≤ z) b := Nat.not_le.mpr hbl
  have hA : ∀ q : Nat, s.heap.size ≤ q → (fun z : Nat => s.heap.size ≤ z) q := fun _ h => h
  refine lv_aload_n hx hb dL_law_2033 rfl (lv_at hl 1 rfl) ?_
  refine lv_aload_n hx hb dL_law_2034 rfl (lv_at hl 0 rfl) ?_
  refine lv_iload_n hx hb dL_law_2035 rfl (lv_at hl 3 rfl) ?_
  refine lv_iconst (v := 1) hx hb dL_law_2036 (by decide) ?_
  refine lv_iadd hx hb dL_law_2037 ?_
  refine k_top (y := 1) (by decide) ?_
  refine va_sld hx hb hX hbl hbA hS (by unfold vp_in; decide) dL_law_2038 ?_
  refine k_top (y := 3) ((congrArg xs (by decide)).trans h9) ?_
  refine lv_aload_n hx hb dL_law_2039 rfl (lv_at hl 0 rfl) ?_
  refine lv_iload_n hx hb dL_law_2040 rfl (lv_at hl 3 rfl) ?_
  refine lv_iconst (v := 2) hx hb dL_law_2041 (by decide) ?_
  refine lv_iadd hx hb dL_law_2042 ?_
  refine k_top (y := 2) (by decide) ?_
  refine va_sld hx hb hX hbl hbA hS (by unfold vp_in; decide) dL_law_2043 ?_
  refine k_top (y := xs 2) (congrArg xs (by decide)) ?_
  refine lv_aload_n hx hb dL_law_2044 rfl (lv_at hl 0 rfl) ?_
  refine lv_iload_n hx hb dL_law_2045 rfl (lv_at hl 3 rfl) ?_
  refine lv_iconst (v := 3) hx hb dL_law_2046 (by decide) ?_
  refine lv_iadd hx hb dL_law_2047 ?_
  refine k_top (y := 3) (by decide) ?_
  refine va_sld hx hb hX hbl hbA hS (by unfold vp_in; decide) dL_law_2048 ?_
  refine k_top (y := xs 3) (congrArg xs (by decide)) ?_
  refine rw_i (mc := 0) (ms := 0) (wc := [(x0, .inr (9, [.ref x1, .ref x2, .ref x3, .ref x4, .ref x5, .ref x6, .ref x7, .ref x8, .ref x9, .ref x10, .ref x11])), (x6, .inr (4, [.ref x12, .ref x13, .ref x14])), (x12, .inl (k 0, 4, .inl g0)), (x13, .inl (k 0, 4, .inl g1)), (x14, .inl (k 6, 4, .inr (.inr (.inr (.inr (va_up (va_up (va_up (va_up (fun _ => none) 0 (some x15)) 1 (some x16)) 2 (some x17)) 3 (some x18))))))), (x18, .inl (k 2, 60, .inr (.inl g2)))]) (wr := [(y0, .inr (10, [.int 0, .ref y1, .ref y2, .ref y3, .ref y4, .int 0, .ref y5, .int 0, .int 0, .int 0, .int 0, .int 0, .int 0, .int (-1), .ref y6, .ref y7, .ref y8, .ref y9, .ref y10, .ref y11, .int 0, .int 0, .int 0, .ref y12, .ref y13, .ref y14, .int 0, .int 0, .ref y15, .int 0, .ref y16, .int 0, .ref y17, .int 0, .ref y18, .ref y19, .ref y20, .ref y21])), (y18, .inl (k 0, 4, .inl w0)), (y19, .inl (k 0, 4, .inl w1)), (y20, .inl (k 2, 240, .inr (.inl w2)))]) [0, 1, 2, 3, 4, 5] [6, 7, 8, 9] rfl rfl (by decide +kernel) (by decide +kernel) (by decide +kernel) hP hD hS hA (fun hPc hDc => run_V (mc := 0) (ms := 0) (As := [.int 3, .int (xs 2), .int (xs 3)]) (rest := []) S (c_X9_rowW3 l D k x0 x1 x2 x3 x4 x5 x6 x7 x8 x9 x10 x11 x12 x13 x14 x15 x16 x17 x18 g0 g1 g2 (xs 2) (xs 3) _) lkL_255 ok_X9_row ⟨rfl, rfl, Nat.le_of_ble_eq_true rfl, Nat.le_of_ble_eq_true rfl⟩ (pw_V (ci := 9) (q0 := 0) hK hN rfl rfl hPc hDc) rfl hl.1 rfl (Nat.le_of_ble_eq_true rfl) hcs dL_law_2049) (fun r_1 ur_1 H locs hr_1 hKr_1 hP9 hD9 hS9 => ?_)
  clear hP hD hS
  have hS := hS9
  have hP : va_P D vwCl [(y0, .inr (10, [.int 0, .ref y1, .ref y2, .ref y3, .ref y4, .int 0, .ref y5, .int 0, .int 0, .int 0, .int 0, .int 0, .int 0, .int (-1), .ref y6, .ref y7, .ref y8, .ref y9, .ref y10, .ref y11, .int 0, .int 0, .int 0, .ref y12, .ref y13, .ref y14, .int 0, .int 0, .ref y15, .int 0, .ref y16, .int 0, .ref y17, .int 0, .ref y18, .ref y19, .ref y20, .ref y21])), (y18, .inl (k 0, 4, .inl w0)), (y19, .inl (k 0, 4, .inl w1)), (y20, .inl (k 2, 240, .inr (.inl w2)))] H := hP9
  have hD : va_D (fun z : Nat => s.heap.size ≤ z) [(y0, .inr (10, [.int 0, .ref y1, .ref y2, .ref y3, .ref y4, .int 0, .ref y5, .int 0, .int 0, .int 0, .int 0, .int 0, .int 0, .int (-1), .ref y6, .ref y7, .ref y8, .ref y9, .ref y10, .ref y11, .int 0, .int 0, .int 0, .ref y12, .ref y13, .ref y14, .int 0, .int 0, .ref y15, .int 0, .ref y16, .int 0, .ref y17, .int 0, .ref y18, .ref y19, .ref y20, .ref y21])), (y18, .inl (k 0, 4, .inl w0)), (y19, .inl (k 0, 4, .inl w1)), (y20, .inl (k 2, 240, .inr (.inl w2)))] := hD9
  clear hP9 hD9 hS9
  replace hr_1 : r_1 = a_row 3 (xs 2) (xs 3) := hr_1
  subst hr_1
  refine lv_aload_n hx hb dL_law_2052 rfl (lv_at hl 2 rfl) ?_
  refine lv_aload_n hx hb dL_law_2053 rfl (lv_at hl 0 rfl) ?_
  refine lv_iload_n hx hb dL_law_2054 rfl (lv_at hl 3 rfl) ?_
  refine lv_iconst (v := 1) hx hb dL_law_2055 (by decide) ?_
  refine lv_iadd hx hb dL_law_2056 ?_
  refine k_top (y := 1) (by decide) ?_
  refine va_sld hx hb hX hbl hbA hS (by unfold vp_in; decide) dL_law_2057 ?_
  refine k_top (y := 3) ((congrArg xs (by decide)).trans h9) ?_
  refine lv_aload_n hx hb dL_law_2058 rfl (lv_at hl 0 rfl) ?_
  refine lv_iload_n hx hb dL_law_2059 rfl (lv_at hl 3 rfl) ?_
  refine lv_iconst (v := 2) hx hb dL_law_2060 (by decide) ?_
  refine lv_iadd hx hb dL_law_2061 ?_
  refine k_top (y := 2) (by decide) ?_
  refine va_sld hx hb hX hbl hbA hS (by unfold vp_in; decide) dL_law_2062 ?_
  refine k_top (y := xs 2) (congrArg xs (by decide)) ?_
  refine lv_aload_n hx hb dL_law_2063 rfl (lv_at hl 0 rfl) ?_
  refine lv_iload_n hx hb dL_law_2064 rfl (lv_at hl 3 rfl) ?_
  refine lv_iconst (v := 3) hx hb dL_law_2065 (by decide) ?_
  refine lv_iadd hx hb dL_law_2066 ?_
  refine k_top (y := 3) (by decide) ?_
  refine va_sld hx hb hX hbl hbA hS (by unfold vp_in; decide) dL_law_2067 ?_
  refine k_top (y := xs 3) (congrArg xs (by decide)) ?_
  refine rw_i (mc := 0) (ms := 0) (wc := [(y0, .inr (10, [.int 0, .ref y1, .ref y2, .ref y3, .ref y4, .int 0, .ref y5, .int 0, .int 0, .int 0, .int 0, .int 0, .int 0, .int (-1), .ref y6, .ref y7, .ref y8, .ref y9, .ref y10, .ref y11, .int 0, .int 0, .int 0, .ref y12, .ref y13, .ref y14, .int 0, .int 0, .ref y15, .int 0, .ref y16, .int 0, .ref y17, .int 0, .ref y18, .ref y19, .ref y20, .ref y21])), (y18, .inl (k 0, 4, .inl w0)), (y19, .inl (k 0, 4, .inl w1)), (y20, .inl (k 2, 240, .inr (.inl w2)))]) (wr := []) [0, 1, 2, 3] [] rfl rfl (by decide +kernel) (by decide +kernel) (by decide +kernel) hP hD hS hA (fun hPc hDc => run_V (mc := 0) (ms := 0) (As := [.int 3, .int (xs 2), .int (xs 3)]) (rest := [.int (a_row 3 (xs 2) (xs 3))]) S (c_X10_rowW3 l D k y0 y1 y2 y3 y4 y5 y6 y7 y8 y9 y10 y11 y12 y13 y14 y15 y16 y17 y18 y19 y20 y21 w0 w1 w2 (xs 2) (xs 3) _) lkL_258 ok_X10_row ⟨rfl, rfl, Nat.le_of_ble_eq_true rfl, Nat.le_of_ble_eq_true rfl⟩ (pw_V (ci := 10) (q0 := 0) hK hN rfl rfl hPc hDc) rfl hl.1 rfl (Nat.le_of_ble_eq_true rfl) hcs dL_law_2068) (fun r_2 ur_2 H locs hr_2 hKr_2 hP9 hD9 hS9 => ?_)
  clear hP hD hS
  have hS := hS9
  have hP : va_P D vwCl [] H := hP9
  have hD : va_D (fun z : Nat => s.heap.size ≤ z) [] := hD9
  clear hP9 hD9 hS9
  replace hr_2 : r_2 = a_row 3 (xs 2) (xs 3) := hr_2
  subst hr_2
  refine lv_icmp_eq (tgt := 2212) hx hb dL_law_2071 (by decide) (fun _ => hend H locs hS) (fun c_3 => absurd rfl c_3)
set_option maxHeartbeats 4000000 in
set_option maxRecDepth 100000 in
theorem wc_59WN {p : Program} {l : Launch} {e : Env} {s : State} {m : MethodId} {below : List Frame} {meth : Method} {c : Code} {H : Heap} {locs : List Loc} {cells slots : Nat} {Q : State → Prop} {b : Nat} {xs : Nat → Int32} {D : va_G} {k : Nat → ClassId} {ls : Array Slot} {x0 x1 x2 x3 x4 x5 x6 x7 x8 x9 x10 x11 x12 x13 x14 y0 y1 y2 y3 y4 y5 y6 y7 y8 y9 y10 y11 y12 y13 y14 y15 y16 y17 y18 y19 y20 y21 : Nat} (hp : xs 1 < 0 ∨ 4 ≤ xs 1) (S : CallFix p m c cL_law 4 s #[Value.ref b] TB RL) (hK : va_K D vwCl (KT k) s) (hN : NX s) (hX : va_X b 6 xs s s.heap) (hbl : b < s.heap.size) (hP : va_P D vwCl [(x0, .inr (9, [.ref x1, .ref x2, .ref x3, .ref x4, .ref x5, .ref x6, .ref x7, .ref x8, .ref x9, .ref x10, .ref x11])), (x6, .inr (4, [.ref x12, .ref x13, .ref x14])), (y0, .inr (10, [.int 0, .ref y1, .ref y2, .ref y3, .ref y4, .int 0, .ref y5, .int 0, .int 0, .int 0, .int 0, .int 0, .int 0, .int (-1), .ref y6, .ref y7, .ref y8, .ref y9, .ref y10, .ref y11, .int 0, .int 0, .int 0, .ref y12, .ref y13, .ref y14, .int 0, .int 0, .ref y15, .int 0, .ref y16, .int 0, .ref y17, .int 0, .ref y18, .ref y19, .ref y20, .ref y21]))] H) (hD : va_D (fun z : Nat => s.heap.size ≤ z) [(x0, .inr (9, [.ref x1, .ref x2, .ref x3, .ref x4, .ref x5, .ref x6, .ref x7, .ref x8, .ref x9, .ref x10, .ref x11])), (x6, .inr (4, [.ref x12, .ref x13, .ref x14])), (y0, .inr (10, [.int 0, .ref y1, .ref y2, .ref y3, .ref y4, .int 0, .ref y5, .int 0, .int 0, .int 0, .int 0, .int 0, .int 0, .int (-1), .ref y6, .ref y7, .ref y8, .ref y9, .ref y10, .ref y11, .int 0, .int 0, .int 0, .ref y12, .ref y13, .ref y14, .int 0, .int 0, .ref y15, .int 0, .ref y16, .int 0, .ref y17, .int 0, .ref y18, .ref y19, .ref y20, .ref y21]))]) (hS : va_S (fun z : Nat => s.heap.size ≤ z) s.heap H locs) (hl : lv_has ls 4 [(0, .ref b), (1, .ref x0), (2, .ref y0), (3, .int 0)]) (hcs : cells ≤ 600000 ∧ slots ≤ 7302250) (hend : ∀ (H : Heap) (locs : List Loc), va_S (fun z : Nat => s.heap.size ≤ z) s.heap H locs → W p l e room_1 s m #[Value.ref b] below meth c H locs cells slots Q (F0 m 2212 ls [])) : W p l e room_1 s m #[Value.ref b] below meth c H locs cells slots Q (F0 m 2033 ls []) := by
  have hx := S.1
  have hb := S.2.1
  have hbA : ¬ (fun z : Nat => s.heap.size ≤ z) b := Nat.not_le.mpr hbl
  have hA : ∀ q : Nat, s.heap.size ≤ q → (fun z : Nat => s.heap.size ≤ z) q := fun _ h => h
  refine lv_aload_n hx hb dL_law_2033 rfl (lv_at hl 1 rfl) ?_
  refine lv_aload_n hx hb dL_law_2034 rfl (lv_at hl 0 rfl) ?_
  refine lv_iload_n hx hb dL_law_2035 rfl (lv_at hl 3 rfl) ?_
  refine lv_iconst (v := 1) hx hb dL_law_2036 (by decide) ?_
  refine lv_iadd hx hb dL_law_2037 ?_
  refine k_top (y := 1) (by decide) ?_
  refine va_sld hx hb hX hbl hbA hS (by unfold vp_in; decide) dL_law_2038 ?_
  refine k_top (y := xs 1) (congrArg xs (by decide)) ?_
  refine lv_aload_n hx hb dL_law_2039 rfl (lv_at hl 0 rfl) ?_
  refine lv_iload_n hx hb dL_law_2040 rfl (lv_at hl 3 rfl) ?_
  refine lv_iconst (v := 2) hx hb dL_law_2041 (by decide) ?_
  refine lv_iadd hx hb dL_law_2042 ?_
  refine k_top (y := 2) (by decide) ?_
  refine va_sld hx hb hX hbl hbA hS (by unfold vp_in; decide) dL_law_2043 ?_
  refine k_top (y := xs 2) (congrArg xs (by decide)) ?_
  refine lv_aload_n hx hb dL_law_2044 rfl (lv_at hl 0 rfl) ?_
  refine lv_iload_n hx hb dL_law_2045 rfl (lv_at hl 3 rfl) ?_
  refine lv_iconst (v := 3) hx hb dL_law_2046 (by decide) ?_
  refine lv_iadd hx hb dL_law_2047 ?_
  refine k_top (y := 3) (by decide) ?_
  refine va_sld hx hb hX hbl hbA hS (by unfold vp_in; decide) dL_law_2048 ?_
  refine k_top (y := xs 3) (congrArg xs (by decide)) ?_
  refine rw_i (mc := 0) (ms := 0) (wc := [(x0, .inr (9, [.ref x1, .ref x2, .ref x3, .ref x4, .ref x5, .ref x6, .ref x7, .ref x8, .ref x9, .ref x10, .ref x11])), (x6, .inr (4, [.ref x12, .ref x13, .ref x14]))]) (wr := [(y0, .inr (10, [.int 0, .ref y1, .ref y2, .ref y3, .ref y4, .int 0, .ref y5, .int 0, .int 0, .int 0, .int 0, .int 0, .int 0, .int (-1), .ref y6, .ref y7, .ref y8, .ref y9, .ref y10, .ref y11, .int 0, .int 0, .int 0, .ref y12, .ref y13, .ref y14, .int 0, .int 0, .ref y15, .int 0, .ref y16, .int 0, .ref y17, .int 0, .ref y18, .ref y19, .ref y20, .ref y21]))]) [0, 1] [2] rfl rfl (by decide +kernel) (by decide +kernel) (by decide +kernel) hP hD hS hA (fun hPc hDc => run_V (mc := 0) (ms := 0) (As := [.int (xs 1), .int (xs 2), .int (xs 3)]) (rest := []) S (c_X9_rowWN l D k x0 x1 x2 x3 x4 x5 x6 x7 x8 x9 x10 x11 x12 x13 x14  (xs 1) (xs 2) (xs 3) hp _) lkL_255 ok_X9_row ⟨rfl, rfl, Nat.le_of_ble_eq_true rfl, Nat.le_of_ble_eq_true rfl⟩ (pw_V (ci := 9) (q0 := 0) hK hN rfl rfl hPc hDc) rfl hl.1 rfl (Nat.le_of_ble_eq_true rfl) hcs dL_law_2049) (fun r_1 ur_1 H locs hr_1 hKr_1 hP9 hD9 hS9 => ?_)
  clear hP hD hS
  have hS := hS9
  have hP : va_P D vwCl [(y0, .inr (10, [.int 0, .ref y1, .ref y2, .ref y3, .ref y4, .int 0, .ref y5, .int 0, .int 0, .int 0, .int 0, .int 0, .int 0, .int (-1), .ref y6, .ref y7, .ref y8, .ref y9, .ref y10, .ref y11, .int 0, .int 0, .int 0, .ref y12, .ref y13, .ref y14, .int 0, .int 0, .ref y15, .int 0, .ref y16, .int 0, .ref y17, .int 0, .ref y18, .ref y19, .ref y20, .ref y21]))] H := hP9
  have hD : va_D (fun z : Nat => s.heap.size ≤ z) [(y0, .inr (10, [.int 0, .ref y1, .ref y2, .ref y3, .ref y4, .int 0, .ref y5, .int 0, .int 0, .int 0, .int 0, .int 0, .int 0, .int (-1), .ref y6, .ref y7, .ref y8, .ref y9, .ref y10, .ref y11, .int 0, .int 0, .int 0, .ref y12, .ref y13, .ref y14, .int 0, .int 0, .ref y15, .int 0, .ref y16, .int 0, .ref y17, .int 0, .ref y18, .ref y19, .ref y20, .ref y21]))] := hD9
  clear hP9 hD9 hS9
  replace hr_1 : r_1 = a_row (xs 1) (xs 2) (xs 3) := hr_1
  subst hr_1
  refine lv_aload_n hx hb dL_law_2052 rfl (lv_at hl 2 rfl) ?_
  refine lv_aload_n hx hb dL_law_2053 rfl (lv_at hl 0 rfl) ?_
  refine lv_iload_n hx hb dL_law_2054 rfl (lv_at hl 3 rfl) ?_
  refine lv_iconst (v := 1) hx hb dL_law_2055 (by decide) ?_
  refine lv_iadd hx hb dL_law_2056 ?_
  refine k_top (y := 1) (by decide) ?_
  refine va_sld hx hb hX hbl hbA hS (by unfold vp_in; decide) dL_law_2057 ?_
  refine k_top (y := xs 1) (congrArg xs (by decide)) ?_
  refine lv_aload_n hx hb dL_law_2058 rfl (lv_at hl 0 rfl) ?_
  refine lv_iload_n hx hb dL_law_2059 rfl (lv_at hl 3 rfl) ?_
  refine lv_iconst (v := 2) hx hb dL_law_2060 (by decide) ?_
  refine lv_iadd hx hb dL_law_2061 ?_
  refine k_top (y := 2) (by decide) ?_
  refine va_sld hx hb hX hbl hbA hS (by unfold vp_in; decide) dL_law_2062 ?_
  refine k_top (y := xs 2) (congrArg xs (by decide)) ?_
  refine lv_aload_n hx hb dL_law_2063 rfl (lv_at hl 0 rfl) ?_
  refine lv_iload_n hx hb dL_law_2064 rfl (lv_at hl 3 rfl) ?_
  refine lv_iconst (v := 3) hx hb dL_law_2065 (by decide) ?_
  refine lv_iadd hx hb dL_law_2066 ?_
  refine k_top (y := 3) (by decide) ?_
  refine va_sld hx hb hX hbl hbA hS (by unfold vp_in; decide) dL_law_2067 ?_
  refine k_top (y := xs 3) (congrArg xs (by decide)) ?_
  refine rw_i (mc := 0) (ms := 0) (wc := [(y0, .inr (10, [.int 0, .ref y1, .ref y2, .ref y3, .ref y4, .int 0, .ref y5, .int 0, .int 0, .int 0, .int 0, .int 0, .int 0, .int (-1), .ref y6, .ref y7, .ref y8, .ref y9, .ref y10, .ref y11, .int 0, .int 0, .int 0, .ref y12, .ref y13, .ref y14, .int 0, .int 0, .ref y15, .int 0, .ref y16, .int 0, .ref y17, .int 0, .ref y18, .ref y19, .ref y20, .ref y21]))]) (wr := []) [0] [] rfl rfl (by decide +kernel) (by decide +kernel) (by decide +kernel) hP hD hS hA (fun hPc hDc => run_V (mc := 0) (ms := 0) (As := [.int (xs 1), .int (xs 2), .int (xs 3)]) (rest := [.int (a_row (xs 1) (xs 2) (xs 3))]) S (c_X10_rowWN l D k y0 y1 y2 y3 y4 y5 y6 y7 y8 y9 y10 y11 y12 y13 y14 y15 y16 y17 y18 y19 y20 y21  (xs 1) (xs 2) (xs 3) hp _) lkL_258 ok_X10_row ⟨rfl, rfl, Nat.le_of_ble_eq_true rfl, Nat.le_of_ble_eq_true rfl⟩ (pw_V (ci := 10) (q0 := 0) hK hN rfl rfl hPc hDc) rfl hl.1 rfl (Nat.le_of_ble_eq_true rfl) hcs dL_law_2068) (fun r_2 ur_2 H locs hr_2 hKr_2 hP9 hD9 hS9 => ?_)
  clear hP hD hS
  have hS := hS9
  have hP : va_P D vwCl [] H := hP9
  have hD : va_D (fun z : Nat => s.heap.size ≤ z) [] := hD9
  clear hP9 hD9 hS9
  replace hr_2 : r_2 = a_row (xs 1) (xs 2) (xs 3) := hr_2
  subst hr_2
  refine lv_icmp_eq (tgt := 2212) hx hb dL_law_2071 (by decide) (fun _ => hend H locs hS) (fun c_3 => absurd rfl c_3)
