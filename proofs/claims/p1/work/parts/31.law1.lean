/-- what stands at a case of the law: the class's fresh world and the reference's, the script, the locals -/
def LC (p : Program) (s : State) (m : MethodId) (c : Code) (b : Nat) (xs : Nat → Int32) (D : va_G) (k : Nat → ClassId) (q : Nat → Nat) (wf : Nat → Int32) (u : Nat → Nat) (mf : Nat → Int32) (H : Heap) (locs : List Loc) (ls : Array Slot) (cells slots : Nat) : Prop :=
  CallFix p m c cL_law 4 s #[Value.ref b] TB RL ∧ FWH D k q wf s H ∧ MWH D k u mf s H ∧ va_X b 6 xs s s.heap ∧ b < s.heap.size ∧ va_S (fun z : Nat => s.heap.size ≤ z) s.heap H locs ∧ lv_has ls 4 [(0, .ref b), (1, .ref (q 0)), (2, .ref (u 0)), (3, .int 0)] ∧ cells ≤ 600000 ∧ slots ≤ 7302250
set_option maxHeartbeats 4000000 in
set_option maxRecDepth 100000 in
theorem case_3 {p : Program} {l : Launch} {e : Env} {s : State} {m : MethodId} {below : List Frame} {meth : Method} {c : Code} {H : Heap} {locs : List Loc} {cells slots : Nat} {Q : State → Prop} {b : Nat} {xs : Nat → Int32} {D : va_G} {k : Nat → ClassId} {q : Nat → Nat} {wf : Nat → Int32} {u : Nat → Nat} {mf : Nat → Int32} {ls : Array Slot} (C : LC p s m c b xs D k q wf u mf H locs ls cells slots) (hend : W p l e room_1 s m #[Value.ref b] below meth c H locs cells slots Q (F0 m 2212 ls [])) : W p l e room_1 s m #[Value.ref b] below meth c H locs cells slots Q (F0 m 395 ls []) := by
  obtain ⟨S, hF, hM, hX, hbl, hS, hl, hcs⟩ := C
  have hx := S.1
  have hb := S.2.1
  have hown := S.2.2.2.1
  have hT := S.2.2.2.2
  have hbA : ¬ (fun z : Nat => s.heap.size ≤ z) b := Nat.not_le.mpr hbl
  refine lv_aload_n hx hb dL_law_395 rfl (lv_at hl 1 rfl) ?_
  refine lv_aload_n hx hb dL_law_396 rfl (lv_at hl 0 rfl) ?_
  refine lv_iload_n hx hb dL_law_397 rfl (lv_at hl 3 rfl) ?_
  refine lv_iconst (v := 1) hx hb dL_law_398 (by decide) ?_
  refine lv_iadd hx hb dL_law_399 ?_
  refine k_top (y := 1) (by decide) ?_
  refine va_sld hx hb hX hbl hbA hS (by unfold vp_in; decide) dL_law_400 ?_
  refine k_top (y := xs 1) (congrArg xs (by decide)) ?_
  refine ro_V (As := [.int (xs 1)]) (rest := []) S (c_X9_fault l D k q wf (xs 1)) lkL_28 ok_X9_fault ⟨rfl, rfl, Nat.le_of_ble_eq_true rfl, Nat.le_of_ble_eq_true rfl⟩ (fw_V (ci := 9) (q0 := 0) hF rfl rfl) rfl hl.1 rfl (Nat.le_of_ble_eq_true rfl) hcs dL_law_401 (fun r_1 er_1 => ?_)
  subst er_1
  refine lv_aload_n hx hb dL_law_404 rfl (lv_at hl 2 rfl) ?_
  refine lv_aload_n hx hb dL_law_405 rfl (lv_at hl 0 rfl) ?_
  refine lv_iload_n hx hb dL_law_406 rfl (lv_at hl 3 rfl) ?_
  refine lv_iconst (v := 1) hx hb dL_law_407 (by decide) ?_
  refine lv_iadd hx hb dL_law_408 ?_
  refine k_top (y := 1) (by decide) ?_
  refine va_sld hx hb hX hbl hbA hS (by unfold vp_in; decide) dL_law_409 ?_
  refine k_top (y := xs 1) (congrArg xs (by decide)) ?_
  refine ro_V (As := [.int (xs 1)]) (rest := [.int (a_fault (xs 1))]) S (c_X10_fault l D k u mf (xs 1)) lkL_31 ok_X10_fault ⟨rfl, rfl, Nat.le_of_ble_eq_true rfl, Nat.le_of_ble_eq_true rfl⟩ (mw_V (ci := 10) (q0 := 0) hM rfl rfl) rfl hl.1 rfl (Nat.le_of_ble_eq_true rfl) hcs dL_law_410 (fun r_2 er_2 => ?_)
  subst er_2
  refine lv_icmp_eq (tgt := 2212) hx hb dL_law_413 (by decide) (fun _ => hend) (fun c_3 => absurd rfl c_3)
set_option maxHeartbeats 4000000 in
set_option maxRecDepth 100000 in
theorem case_4 {p : Program} {l : Launch} {e : Env} {s : State} {m : MethodId} {below : List Frame} {meth : Method} {c : Code} {H : Heap} {locs : List Loc} {cells slots : Nat} {Q : State → Prop} {b : Nat} {xs : Nat → Int32} {D : va_G} {k : Nat → ClassId} {q : Nat → Nat} {wf : Nat → Int32} {u : Nat → Nat} {mf : Nat → Int32} {ls : Array Slot} (C : LC p s m c b xs D k q wf u mf H locs ls cells slots) (hend : W p l e room_1 s m #[Value.ref b] below meth c H locs cells slots Q (F0 m 2212 ls [])) : W p l e room_1 s m #[Value.ref b] below meth c H locs cells slots Q (F0 m 418 ls []) := by
  obtain ⟨S, hF, hM, hX, hbl, hS, hl, hcs⟩ := C
  have hx := S.1
  have hb := S.2.1
  have hown := S.2.2.2.1
  have hT := S.2.2.2.2
  have hbA : ¬ (fun z : Nat => s.heap.size ≤ z) b := Nat.not_le.mpr hbl
  refine lv_aload_n hx hb dL_law_418 rfl (lv_at hl 1 rfl) ?_
  refine lv_aload_n hx hb dL_law_419 rfl (lv_at hl 0 rfl) ?_
  refine lv_iload_n hx hb dL_law_420 rfl (lv_at hl 3 rfl) ?_
  refine lv_iconst (v := 1) hx hb dL_law_421 (by decide) ?_
  refine lv_iadd hx hb dL_law_422 ?_
  refine k_top (y := 1) (by decide) ?_
  refine va_sld hx hb hX hbl hbA hS (by unfold vp_in; decide) dL_law_423 ?_
  refine k_top (y := xs 1) (congrArg xs (by decide)) ?_
  refine lv_aload_n hx hb dL_law_424 rfl (lv_at hl 0 rfl) ?_
  refine lv_iload_n hx hb dL_law_425 rfl (lv_at hl 3 rfl) ?_
  refine lv_iconst (v := 2) hx hb dL_law_426 (by decide) ?_
  refine lv_iadd hx hb dL_law_427 ?_
  refine k_top (y := 2) (by decide) ?_
  refine va_sld hx hb hX hbl hbA hS (by unfold vp_in; decide) dL_law_428 ?_
  refine k_top (y := xs 2) (congrArg xs (by decide)) ?_
  refine ro_V (As := [.int (xs 1), .int (xs 2)]) (rest := []) S (c_X9_road l D k q wf (xs 1) (xs 2)) lkL_32 ok_X9_road ⟨rfl, rfl, Nat.le_of_ble_eq_true rfl, Nat.le_of_ble_eq_true rfl⟩ (fw_V (ci := 9) (q0 := 0) hF rfl rfl) rfl hl.1 rfl (Nat.le_of_ble_eq_true rfl) hcs dL_law_429 (fun r_1 er_1 => ?_)
  subst er_1
  refine lv_aload_n hx hb dL_law_432 rfl (lv_at hl 2 rfl) ?_
  refine lv_aload_n hx hb dL_law_433 rfl (lv_at hl 0 rfl) ?_
  refine lv_iload_n hx hb dL_law_434 rfl (lv_at hl 3 rfl) ?_
  refine lv_iconst (v := 1) hx hb dL_law_435 (by decide) ?_
  refine lv_iadd hx hb dL_law_436 ?_
  refine k_top (y := 1) (by decide) ?_
  refine va_sld hx hb hX hbl hbA hS (by unfold vp_in; decide) dL_law_437 ?_
  refine k_top (y := xs 1) (congrArg xs (by decide)) ?_
  refine lv_aload_n hx hb dL_law_438 rfl (lv_at hl 0 rfl) ?_
  refine lv_iload_n hx hb dL_law_439 rfl (lv_at hl 3 rfl) ?_
  refine lv_iconst (v := 2) hx hb dL_law_440 (by decide) ?_
  refine lv_iadd hx hb dL_law_441 ?_
  refine k_top (y := 2) (by decide) ?_
  refine va_sld hx hb hX hbl hbA hS (by unfold vp_in; decide) dL_law_442 ?_
  refine k_top (y := xs 2) (congrArg xs (by decide)) ?_
  refine ro_V (As := [.int (xs 1), .int (xs 2)]) (rest := [.int (-2)]) S (c_X10_road l D k u mf (xs 1) (xs 2)) lkL_36 ok_X10_road ⟨rfl, rfl, Nat.le_of_ble_eq_true rfl, Nat.le_of_ble_eq_true rfl⟩ (mw_V (ci := 10) (q0 := 0) hM rfl rfl) rfl hl.1 rfl (Nat.le_of_ble_eq_true rfl) hcs dL_law_443 (fun r_2 er_2 => ?_)
  subst er_2
  refine lv_icmp_eq (tgt := 2212) hx hb dL_law_446 (by decide) (fun _ => hend) (fun c_3 => absurd rfl c_3)
set_option maxHeartbeats 4000000 in
set_option maxRecDepth 100000 in
theorem case_5 {p : Program} {l : Launch} {e : Env} {s : State} {m : MethodId} {below : List Frame} {meth : Method} {c : Code} {H : Heap} {locs : List Loc} {cells slots : Nat} {Q : State → Prop} {b : Nat} {xs : Nat → Int32} {D : va_G} {k : Nat → ClassId} {q : Nat → Nat} {wf : Nat → Int32} {u : Nat → Nat} {mf : Nat → Int32} {ls : Array Slot} (C : LC p s m c b xs D k q wf u mf H locs ls cells slots) (hend : W p l e room_1 s m #[Value.ref b] below meth c H locs cells slots Q (F0 m 2212 ls [])) : W p l e room_1 s m #[Value.ref b] below meth c H locs cells slots Q (F0 m 451 ls []) := by
  obtain ⟨S, hF, hM, hX, hbl, hS, hl, hcs⟩ := C
  have hx := S.1
  have hb := S.2.1
  have hown := S.2.2.2.1
  have hT := S.2.2.2.2
  have hbA : ¬ (fun z : Nat => s.heap.size ≤ z) b := Nat.not_le.mpr hbl
  refine lv_aload_n hx hb dL_law_451 rfl (lv_at hl 1 rfl) ?_
  refine lv_aload_n hx hb dL_law_452 rfl (lv_at hl 0 rfl) ?_
  refine lv_iload_n hx hb dL_law_453 rfl (lv_at hl 3 rfl) ?_
  refine lv_iconst (v := 1) hx hb dL_law_454 (by decide) ?_
  refine lv_iadd hx hb dL_law_455 ?_
  refine k_top (y := 1) (by decide) ?_
  refine va_sld hx hb hX hbl hbA hS (by unfold vp_in; decide) dL_law_456 ?_
  refine k_top (y := xs 1) (congrArg xs (by decide)) ?_
  refine lv_aload_n hx hb dL_law_457 rfl (lv_at hl 0 rfl) ?_
  refine lv_iload_n hx hb dL_law_458 rfl (lv_at hl 3 rfl) ?_
  refine lv_iconst (v := 2) hx hb dL_law_459 (by decide) ?_
  refine lv_iadd hx hb dL_law_460 ?_
  refine k_top (y := 2) (by decide) ?_
  refine va_sld hx hb hX hbl hbA hS (by unfold vp_in; decide) dL_law_461 ?_
  refine k_top (y := xs 2) (congrArg xs (by decide)) ?_
  refine ro_V (As := [.int (xs 1), .int (xs 2)]) (rest := []) S (c_X9_likes l D k q wf (xs 1) (xs 2)) lkL_37 ok_X9_likes ⟨rfl, rfl, Nat.le_of_ble_eq_true rfl, Nat.le_of_ble_eq_true rfl⟩ (fw_V (ci := 9) (q0 := 0) hF rfl rfl) rfl hl.1 rfl (Nat.le_of_ble_eq_true rfl) hcs dL_law_462 (fun r_1 er_1 => ?_)
  subst er_1
  refine lv_aload_n hx hb dL_law_465 rfl (lv_at hl 2 rfl) ?_
  refine lv_aload_n hx hb dL_law_466 rfl (lv_at hl 0 rfl) ?_
  refine lv_iload_n hx hb dL_law_467 rfl (lv_at hl 3 rfl) ?_
  refine lv_iconst (v := 1) hx hb dL_law_468 (by decide) ?_
  refine lv_iadd hx hb dL_law_469 ?_
  refine k_top (y := 1) (by decide) ?_
  refine va_sld hx hb hX hbl hbA hS (by unfold vp_in; decide) dL_law_470 ?_
  refine k_top (y := xs 1) (congrArg xs (by decide)) ?_
  refine lv_aload_n hx hb dL_law_471 rfl (lv_at hl 0 rfl) ?_
  refine lv_iload_n hx hb dL_law_472 rfl (lv_at hl 3 rfl) ?_
  refine lv_iconst (v := 2) hx hb dL_law_473 (by decide) ?_
  refine lv_iadd hx hb dL_law_474 ?_
  refine k_top (y := 2) (by decide) ?_
  refine va_sld hx hb hX hbl hbA hS (by unfold vp_in; decide) dL_law_475 ?_
  refine k_top (y := xs 2) (congrArg xs (by decide)) ?_
  refine ro_V (As := [.int (xs 1), .int (xs 2)]) (rest := [.int (-2)]) S (c_X10_likes l D k u mf (xs 1) (xs 2)) lkL_40 ok_X10_likes ⟨rfl, rfl, Nat.le_of_ble_eq_true rfl, Nat.le_of_ble_eq_true rfl⟩ (mw_V (ci := 10) (q0 := 0) hM rfl rfl) rfl hl.1 rfl (Nat.le_of_ble_eq_true rfl) hcs dL_law_476 (fun r_2 er_2 => ?_)
  subst er_2
  refine lv_icmp_eq (tgt := 2212) hx hb dL_law_479 (by decide) (fun _ => hend) (fun c_3 => absurd rfl c_3)
set_option maxHeartbeats 4000000 in
set_option maxRecDepth 100000 in
theorem case_6 {p : Program} {l : Launch} {e : Env} {s : State} {m : MethodId} {below : List Frame} {meth : Method} {c : Code} {H : Heap} {locs : List Loc} {cells slots : Nat} {Q : State → Prop} {b : Nat} {xs : Nat → Int32} {D : va_G} {k : Nat → ClassId} {q : Nat → Nat} {wf : Nat → Int32} {u : Nat → Nat} {mf : Nat → Int32} {ls : Array Slot} (C : LC p s m c b xs D k q wf u mf H locs ls cells slots) (hend : W p l e room_1 s m #[Value.ref b] below meth c H locs cells slots Q (F0 m 2212 ls [])) : W p l e room_1 s m #[Value.ref b] below meth c H locs cells slots Q (F0 m 484 ls []) := by
  obtain ⟨S, hF, hM, hX, hbl, hS, hl, hcs⟩ := C
  have hx := S.1
  have hb := S.2.1
  have hown := S.2.2.2.1
  have hT := S.2.2.2.2
  have hbA : ¬ (fun z : Nat => s.heap.size ≤ z) b := Nat.not_le.mpr hbl
  refine lv_aload_n hx hb dL_law_484 rfl (lv_at hl 1 rfl) ?_
  refine lv_aload_n hx hb dL_law_485 rfl (lv_at hl 0 rfl) ?_
  refine lv_iload_n hx hb dL_law_486 rfl (lv_at hl 3 rfl) ?_
  refine lv_iconst (v := 1) hx hb dL_law_487 (by decide) ?_
  refine lv_iadd hx hb dL_law_488 ?_
  refine k_top (y := 1) (by decide) ?_
  refine va_sld hx hb hX hbl hbA hS (by unfold vp_in; decide) dL_law_489 ?_
  refine k_top (y := xs 1) (congrArg xs (by decide)) ?_
  refine lv_aload_n hx hb dL_law_490 rfl (lv_at hl 0 rfl) ?_
  refine lv_iload_n hx hb dL_law_491 rfl (lv_at hl 3 rfl) ?_
  refine lv_iconst (v := 2) hx hb dL_law_492 (by decide) ?_
  refine lv_iadd hx hb dL_law_493 ?_
  refine k_top (y := 2) (by decide) ?_
  refine va_sld hx hb hX hbl hbA hS (by unfold vp_in; decide) dL_law_494 ?_
  refine k_top (y := xs 2) (congrArg xs (by decide)) ?_
  refine ro_V (As := [.int (xs 1), .int (xs 2)]) (rest := []) S (c_X9_wheel l D k q wf (xs 1) (xs 2)) lkL_41 ok_X9_wheel ⟨rfl, rfl, Nat.le_of_ble_eq_true rfl, Nat.le_of_ble_eq_true rfl⟩ (fw_V (ci := 9) (q0 := 0) hF rfl rfl) rfl hl.1 rfl (Nat.le_of_ble_eq_true rfl) hcs dL_law_495 (fun r_1 er_1 => ?_)
  subst er_1
  refine lv_aload_n hx hb dL_law_498 rfl (lv_at hl 2 rfl) ?_
  refine lv_aload_n hx hb dL_law_499 rfl (lv_at hl 0 rfl) ?_
  refine lv_iload_n hx hb dL_law_500 rfl (lv_at hl 3 rfl) ?_
  refine lv_iconst (v := 1) hx hb dL_law_501 (by decide) ?_
  refine lv_iadd hx hb dL_law_502 ?_
  refine k_top (y := 1) (by decide) ?_
  refine va_sld hx hb hX hbl hbA hS (by unfold vp_in; decide) dL_law_503 ?_
  refine k_top (y := xs 1) (congrArg xs (by decide)) ?_
  refine lv_aload_n hx hb dL_law_504 rfl (lv_at hl 0 rfl) ?_
  refine lv_iload_n hx hb dL_law_505 rfl (lv_at hl 3 rfl) ?_
  refine lv_iconst (v := 2) hx hb dL_law_506 (by decide) ?_
  refine lv_iadd hx hb dL_law_507 ?_
  refine k_top (y := 2) (by decide) ?_
  refine va_sld hx hb hX hbl hbA hS (by unfold vp_in; decide) dL_law_508 ?_
  refine k_top (y := xs 2) (congrArg xs (by decide)) ?_
  refine ro_V (As := [.int (xs 1), .int (xs 2)]) (rest := [.int (-2)]) S (c_X10_wheel l D k u mf (xs 1) (xs 2)) lkL_44 ok_X10_wheel ⟨rfl, rfl, Nat.le_of_ble_eq_true rfl, Nat.le_of_ble_eq_true rfl⟩ (mw_V (ci := 10) (q0 := 0) hM rfl rfl) rfl hl.1 rfl (Nat.le_of_ble_eq_true rfl) hcs dL_law_509 (fun r_2 er_2 => ?_)
  subst er_2
  refine lv_icmp_eq (tgt := 2212) hx hb dL_law_512 (by decide) (fun _ => hend) (fun c_3 => absurd rfl c_3)
set_option maxHeartbeats 4000000 in
set_option maxRecDepth 100000 in
theorem case_7 {p : Program} {l : Launch} {e : Env} {s : State} {m : MethodId} {below : List Frame} {meth : Method} {c : Code} {H : Heap} {locs : List Loc} {cells slots : Nat} {Q : State → Prop} {b : Nat} {xs : Nat → Int32} {D : va_G} {k : Nat → ClassId} {q : Nat → Nat} {wf : Nat → Int32} {u : Nat → Nat} {mf : Nat → Int32} {ls : Array Slot} (C : LC p s m c b xs D k q wf u mf H locs ls cells slots) (hend : W p l e room_1 s m #[Value.ref b] below meth c H locs cells slots Q (F0 m 2212 ls [])) : W p l e room_1 s m #[Value.ref b] below meth c H locs cells slots Q (F0 m 517 ls []) := by
  obtain ⟨S, hF, hM, hX, hbl, hS, hl, hcs⟩ := C
  have hx := S.1
  have hb := S.2.1
  have hown := S.2.2.2.1
  have hT := S.2.2.2.2
  have hbA : ¬ (fun z : Nat => s.heap.size ≤ z) b := Nat.not_le.mpr hbl
  refine lv_aload_n hx hb dL_law_517 rfl (lv_at hl 1 rfl) ?_
  refine lv_aload_n hx hb dL_law_518 rfl (lv_at hl 0 rfl) ?_
  refine lv_iload_n hx hb dL_law_519 rfl (lv_at hl 3 rfl) ?_
  refine lv_iconst (v := 1) hx hb dL_law_520 (by decide) ?_
  refine lv_iadd hx hb dL_law_521 ?_
  refine k_top (y := 1) (by decide) ?_
  refine va_sld hx hb hX hbl hbA hS (by unfold vp_in; decide) dL_law_522 ?_
  refine k_top (y := xs 1) (congrArg xs (by decide)) ?_
  refine lv_aload_n hx hb dL_law_523 rfl (lv_at hl 0 rfl) ?_
  refine lv_iload_n hx hb dL_law_524 rfl (lv_at hl 3 rfl) ?_
  refine lv_iconst (v := 2) hx hb dL_law_525 (by decide) ?_
  refine lv_iadd hx hb dL_law_526 ?_
  refine k_top (y := 2) (by decide) ?_
  refine va_sld hx hb hX hbl hbA hS (by unfold vp_in; decide) dL_law_527 ?_
  refine k_top (y := xs 2) (congrArg xs (by decide)) ?_
  refine ro_V (As := [.int (xs 1), .int (xs 2)]) (rest := []) S (c_X9_cart l D k q wf (xs 1) (xs 2)) lkL_45 ok_X9_cart ⟨rfl, rfl, Nat.le_of_ble_eq_true rfl, Nat.le_of_ble_eq_true rfl⟩ (fw_V (ci := 9) (q0 := 0) hF rfl rfl) rfl hl.1 rfl (Nat.le_of_ble_eq_true rfl) hcs dL_law_528 (fun r_1 er_1 => ?_)
  subst er_1
  refine lv_aload_n hx hb dL_law_531 rfl (lv_at hl 2 rfl) ?_
  refine lv_aload_n hx hb dL_law_532 rfl (lv_at hl 0 rfl) ?_
  refine lv_iload_n hx hb dL_law_533 rfl (lv_at hl 3 rfl) ?_
  refine lv_iconst (v := 1) hx hb dL_law_534 (by decide) ?_
  refine lv_iadd hx hb dL_law_535 ?_
  refine k_top (y := 1) (by decide) ?_
  refine va_sld hx hb hX hbl hbA hS (by unfold vp_in; decide) dL_law_536 ?_
  refine k_top (y := xs 1) (congrArg xs (by decide)) ?_
  refine lv_aload_n hx hb dL_law_537 rfl (lv_at hl 0 rfl) ?_
  refine lv_iload_n hx hb dL_law_538 rfl (lv_at hl 3 rfl) ?_
  refine lv_iconst (v := 2) hx hb dL_law_539 (by decide) ?_
  refine lv_iadd hx hb dL_law_540 ?_
  refine k_top (y := 2) (by decide) ?_
  refine va_sld hx hb hX hbl hbA hS (by unfold vp_in; decide) dL_law_541 ?_
  refine k_top (y := xs 2) (congrArg xs (by decide)) ?_
  refine ro_V (As := [.int (xs 1), .int (xs 2)]) (rest := [.int (-2)]) S (c_X10_cart l D k u mf (xs 1) (xs 2)) lkL_48 ok_X10_cart ⟨rfl, rfl, Nat.le_of_ble_eq_true rfl, Nat.le_of_ble_eq_true rfl⟩ (mw_V (ci := 10) (q0 := 0) hM rfl rfl) rfl hl.1 rfl (Nat.le_of_ble_eq_true rfl) hcs dL_law_542 (fun r_2 er_2 => ?_)
  subst er_2
  refine lv_icmp_eq (tgt := 2212) hx hb dL_law_545 (by decide) (fun _ => hend) (fun c_3 => absurd rfl c_3)
set_option maxHeartbeats 4000000 in
set_option maxRecDepth 100000 in
theorem case_8 {p : Program} {l : Launch} {e : Env} {s : State} {m : MethodId} {below : List Frame} {meth : Method} {c : Code} {H : Heap} {locs : List Loc} {cells slots : Nat} {Q : State → Prop} {b : Nat} {xs : Nat → Int32} {D : va_G} {k : Nat → ClassId} {q : Nat → Nat} {wf : Nat → Int32} {u : Nat → Nat} {mf : Nat → Int32} {ls : Array Slot} (C : LC p s m c b xs D k q wf u mf H locs ls cells slots) (hend : W p l e room_1 s m #[Value.ref b] below meth c H locs cells slots Q (F0 m 2212 ls [])) : W p l e room_1 s m #[Value.ref b] below meth c H locs cells slots Q (F0 m 550 ls []) := by
  obtain ⟨S, hF, hM, hX, hbl, hS, hl, hcs⟩ := C
  have hx := S.1
  have hb := S.2.1
  have hown := S.2.2.2.1
  have hT := S.2.2.2.2
  have hbA : ¬ (fun z : Nat => s.heap.size ≤ z) b := Nat.not_le.mpr hbl
  refine lv_aload_n hx hb dL_law_550 rfl (lv_at hl 1 rfl) ?_
  refine lv_aload_n hx hb dL_law_551 rfl (lv_at hl 0 rfl) ?_
  refine lv_iload_n hx hb dL_law_552 rfl (lv_at hl 3 rfl) ?_
  refine lv_iconst (v := 1) hx hb dL_law_553 (by decide) ?_
  refine lv_iadd hx hb dL_law_554 ?_
  refine k_top (y := 1) (by decide) ?_
  refine va_sld hx hb hX hbl hbA hS (by unfold vp_in; decide) dL_law_555 ?_
  refine k_top (y := xs 1) (congrArg xs (by decide)) ?_
  refine lv_aload_n hx hb dL_law_556 rfl (lv_at hl 0 rfl) ?_
  refine lv_iload_n hx hb dL_law_557 rfl (lv_at hl 3 rfl) ?_
  refine lv_iconst (v := 2) hx hb dL_law_558 (by decide) ?_
  refine lv_iadd hx hb dL_law_559 ?_
  refine k_top (y := 2) (by decide) ?_
  refine va_sld hx hb hX hbl hbA hS (by unfold vp_in; decide) dL_law_560 ?_
  refine k_top (y := xs 2) (congrArg xs (by decide)) ?_
  refine ro_V (As := [.int (xs 1), .int (xs 2)]) (rest := []) S (c_X9_errand l D k q wf (xs 1) (xs 2)) lkL_49 ok_X9_errand ⟨rfl, rfl, Nat.le_of_ble_eq_true rfl, Nat.le_of_ble_eq_true rfl⟩ (fw_V (ci := 9) (q0 := 0) hF rfl rfl) rfl hl.1 rfl (Nat.le_of_ble_eq_true rfl) hcs dL_law_561 (fun r_1 er_1 => ?_)
  subst er_1
  refine lv_aload_n hx hb dL_law_564 rfl (lv_at hl 2 rfl) ?_
  refine lv_aload_n hx hb dL_law_565 rfl (lv_at hl 0 rfl) ?_
  refine lv_iload_n hx hb dL_law_566 rfl (lv_at hl 3 rfl) ?_
  refine lv_iconst (v := 1) hx hb dL_law_567 (by decide) ?_
  refine lv_iadd hx hb dL_law_568 ?_
  refine k_top (y := 1) (by decide) ?_
  refine va_sld hx hb hX hbl hbA hS (by unfold vp_in; decide) dL_law_569 ?_
  refine k_top (y := xs 1) (congrArg xs (by decide)) ?_
  refine lv_aload_n hx hb dL_law_570 rfl (lv_at hl 0 rfl) ?_
  refine lv_iload_n hx hb dL_law_571 rfl (lv_at hl 3 rfl) ?_
  refine lv_iconst (v := 2) hx hb dL_law_572 (by decide) ?_
  refine lv_iadd hx hb dL_law_573 ?_
  refine k_top (y := 2) (by decide) ?_
  refine va_sld hx hb hX hbl hbA hS (by unfold vp_in; decide) dL_law_574 ?_
  refine k_top (y := xs 2) (congrArg xs (by decide)) ?_
  refine ro_V (As := [.int (xs 1), .int (xs 2)]) (rest := [.int (-2)]) S (c_X10_errand l D k u mf (xs 1) (xs 2)) lkL_52 ok_X10_errand ⟨rfl, rfl, Nat.le_of_ble_eq_true rfl, Nat.le_of_ble_eq_true rfl⟩ (mw_V (ci := 10) (q0 := 0) hM rfl rfl) rfl hl.1 rfl (Nat.le_of_ble_eq_true rfl) hcs dL_law_575 (fun r_2 er_2 => ?_)
  subst er_2
  refine lv_icmp_eq (tgt := 2212) hx hb dL_law_578 (by decide) (fun _ => hend) (fun c_3 => absurd rfl c_3)
set_option maxHeartbeats 4000000 in
set_option maxRecDepth 100000 in
theorem case_9 {p : Program} {l : Launch} {e : Env} {s : State} {m : MethodId} {below : List Frame} {meth : Method} {c : Code} {H : Heap} {locs : List Loc} {cells slots : Nat} {Q : State → Prop} {b : Nat} {xs : Nat → Int32} {D : va_G} {k : Nat → ClassId} {q : Nat → Nat} {wf : Nat → Int32} {u : Nat → Nat} {mf : Nat → Int32} {ls : Array Slot} (C : LC p s m c b xs D k q wf u mf H locs ls cells slots) (hend : W p l e room_1 s m #[Value.ref b] below meth c H locs cells slots Q (F0 m 2212 ls [])) : W p l e room_1 s m #[Value.ref b] below meth c H locs cells slots Q (F0 m 583 ls []) := by
  obtain ⟨S, hF, hM, hX, hbl, hS, hl, hcs⟩ := C
  have hx := S.1
  have hb := S.2.1
  have hown := S.2.2.2.1
  have hT := S.2.2.2.2
  have hbA : ¬ (fun z : Nat => s.heap.size ≤ z) b := Nat.not_le.mpr hbl
  refine lv_aload_n hx hb dL_law_583 rfl (lv_at hl 1 rfl) ?_
  refine lv_aload_n hx hb dL_law_584 rfl (lv_at hl 0 rfl) ?_
  refine lv_iload_n hx hb dL_law_585 rfl (lv_at hl 3 rfl) ?_
  refine lv_iconst (v := 1) hx hb dL_law_586 (by decide) ?_
  refine lv_iadd hx hb dL_law_587 ?_
  refine k_top (y := 1) (by decide) ?_
  refine va_sld hx hb hX hbl hbA hS (by unfold vp_in; decide) dL_law_588 ?_
  refine k_top (y := xs 1) (congrArg xs (by decide)) ?_
  refine ro_V (As := [.int (xs 1)]) (rest := []) S (c_X9_roads l D k q wf (xs 1)) lkL_53 ok_X9_roads ⟨rfl, rfl, Nat.le_of_ble_eq_true rfl, Nat.le_of_ble_eq_true rfl⟩ (fw_V (ci := 9) (q0 := 0) hF rfl rfl) rfl hl.1 rfl (Nat.le_of_ble_eq_true rfl) hcs dL_law_589 (fun r_1 er_1 => ?_)
  subst er_1
  refine lv_aload_n hx hb dL_law_592 rfl (lv_at hl 2 rfl) ?_
  refine lv_aload_n hx hb dL_law_593 rfl (lv_at hl 0 rfl) ?_
  refine lv_iload_n hx hb dL_law_594 rfl (lv_at hl 3 rfl) ?_
  refine lv_iconst (v := 1) hx hb dL_law_595 (by decide) ?_
  refine lv_iadd hx hb dL_law_596 ?_
  refine k_top (y := 1) (by decide) ?_
  refine va_sld hx hb hX hbl hbA hS (by unfold vp_in; decide) dL_law_597 ?_
  refine k_top (y := xs 1) (congrArg xs (by decide)) ?_
  refine ro_V (As := [.int (xs 1)]) (rest := [.int (-2)]) S (c_X10_roads l D k u mf (xs 1)) lkL_56 ok_X10_roads ⟨rfl, rfl, Nat.le_of_ble_eq_true rfl, Nat.le_of_ble_eq_true rfl⟩ (mw_V (ci := 10) (q0 := 0) hM rfl rfl) rfl hl.1 rfl (Nat.le_of_ble_eq_true rfl) hcs dL_law_598 (fun r_2 er_2 => ?_)
  subst er_2
  refine lv_icmp_eq (tgt := 2212) hx hb dL_law_601 (by decide) (fun _ => hend) (fun c_3 => absurd rfl c_3)
set_option maxHeartbeats 4000000 in
set_option maxRecDepth 100000 in
theorem case_10 {p : Program} {l : Launch} {e : Env} {s : State} {m : MethodId} {below : List Frame} {meth : Method} {c : Code} {H : Heap} {locs : List Loc} {cells slots : Nat} {Q : State → Prop} {b : Nat} {xs : Nat → Int32} {D : va_G} {k : Nat → ClassId} {q : Nat → Nat} {wf : Nat → Int32} {u : Nat → Nat} {mf : Nat → Int32} {ls : Array Slot} (C : LC p s m c b xs D k q wf u mf H locs ls cells slots) (hend : W p l e room_1 s m #[Value.ref b] below meth c H locs cells slots Q (F0 m 2212 ls [])) : W p l e room_1 s m #[Value.ref b] below meth c H locs cells slots Q (F0 m 606 ls []) := by
  obtain ⟨S, hF, hM, hX, hbl, hS, hl, hcs⟩ := C
  have hx := S.1
  have hb := S.2.1
  have hown := S.2.2.2.1
  have hT := S.2.2.2.2
  have hbA : ¬ (fun z : Nat => s.heap.size ≤ z) b := Nat.not_le.mpr hbl
  refine lv_aload_n hx hb dL_law_606 rfl (lv_at hl 1 rfl) ?_
  refine lv_aload_n hx hb dL_law_607 rfl (lv_at hl 0 rfl) ?_
  refine lv_iload_n hx hb dL_law_608 rfl (lv_at hl 3 rfl) ?_
  refine lv_iconst (v := 1) hx hb dL_law_609 (by decide) ?_
  refine lv_iadd hx hb dL_law_610 ?_
  refine k_top (y := 1) (by decide) ?_
  refine va_sld hx hb hX hbl hbA hS (by unfold vp_in; decide) dL_law_611 ?_
  refine k_top (y := xs 1) (congrArg xs (by decide)) ?_
  refine lv_aload_n hx hb dL_law_612 rfl (lv_at hl 0 rfl) ?_
  refine lv_iload_n hx hb dL_law_613 rfl (lv_at hl 3 rfl) ?_
  refine lv_iconst (v := 2) hx hb dL_law_614 (by decide) ?_
  refine lv_iadd hx hb dL_law_615 ?_
  refine k_top (y := 2) (by decide) ?_
  refine va_sld hx hb hX hbl hbA hS (by unfold vp_in; decide) dL_law_616 ?_
  refine k_top (y := xs 2) (congrArg xs (by decide)) ?_
  refine ro_V (As := [.int (xs 1), .int (xs 2)]) (rest := []) S (c_X9_pull l D k q wf (xs 1) (xs 2)) lkL_57 ok_X9_pull ⟨rfl, rfl, Nat.le_of_ble_eq_true rfl, Nat.le_of_ble_eq_true rfl⟩ (fw_V (ci := 9) (q0 := 0) hF rfl rfl) rfl hl.1 rfl (Nat.le_of_ble_eq_true rfl) hcs dL_law_617 (fun r_1 er_1 => ?_)
  subst er_1
  refine lv_aload_n hx hb dL_law_620 rfl (lv_at hl 2 rfl) ?_
  refine lv_aload_n hx hb dL_law_621 rfl (lv_at hl 0 rfl) ?_
  refine lv_iload_n hx hb dL_law_622 rfl (lv_at hl 3 rfl) ?_
  refine lv_iconst (v := 1) hx hb dL_law_623 (by decide) ?_
  refine lv_iadd hx hb dL_law_624 ?_
  refine k_top (y := 1) (by decide) ?_
  refine va_sld hx hb hX hbl hbA hS (by unfold vp_in; decide) dL_law_625 ?_
  refine k_top (y := xs 1) (congrArg xs (by decide)) ?_
  refine lv_aload_n hx hb dL_law_626 rfl (lv_at hl 0 rfl) ?_
  refine lv_iload_n hx hb dL_law_627 rfl (lv_at hl 3 rfl) ?_
  refine lv_iconst (v := 2) hx hb dL_law_628 (by decide) ?_
  refine lv_iadd hx hb dL_law_629 ?_
  refine k_top (y := 2) (by decide) ?_
  refine va_sld hx hb hX hbl hbA hS (by unfold vp_in; decide) dL_law_630 ?_
  refine k_top (y := xs 2) (congrArg xs (by decide)) ?_
  refine ro_V (As := [.int (xs 1), .int (xs 2)]) (rest := [.int (-2)]) S (c_X10_pull l D k u mf (xs 1) (xs 2)) lkL_60 ok_X10_pull ⟨rfl, rfl, Nat.le_of_ble_eq_true rfl, Nat.le_of_ble_eq_true rfl⟩ (mw_V (ci := 10) (q0 := 0) hM rfl rfl) rfl hl.1 rfl (Nat.le_of_ble_eq_true rfl) hcs dL_law_631 (fun r_2 er_2 => ?_)
  subst er_2
  refine lv_icmp_eq (tgt := 2212) hx hb dL_law_634 (by decide) (fun _ => hend) (fun c_3 => absurd rfl c_3)
set_option maxHeartbeats 4000000 in
set_option maxRecDepth 100000 in
theorem case_11 {p : Program} {l : Launch} {e : Env} {s : State} {m : MethodId} {below : List Frame} {meth : Method} {c : Code} {H : Heap} {locs : List Loc} {cells slots : Nat} {Q : State → Prop} {b : Nat} {xs : Nat → Int32} {D : va_G} {k : Nat → ClassId} {q : Nat → Nat} {wf : Nat → Int32} {u : Nat → Nat} {mf : Nat → Int32} {ls : Array Slot} (C : LC p s m c b xs D k q wf u mf H locs ls cells slots) (hend : W p l e room_1 s m #[Value.ref b] below meth c H locs cells slots Q (F0 m 2212 ls [])) : W p l e room_1 s m #[Value.ref b] below meth c H locs cells slots Q (F0 m 639 ls []) := by
  obtain ⟨S, hF, hM, hX, hbl, hS, hl, hcs⟩ := C
  have hx := S.1
  have hb := S.2.1
  have hown := S.2.2.2.1
  have hT := S.2.2.2.2
  have hbA : ¬ (fun z : Nat => s.heap.size ≤ z) b := Nat.not_le.mpr hbl
  refine lv_aload_n hx hb dL_law_639 rfl (lv_at hl 1 rfl) ?_
  refine lv_aload_n hx hb dL_law_640 rfl (lv_at hl 0 rfl) ?_
  refine lv_iload_n hx hb dL_law_641 rfl (lv_at hl 3 rfl) ?_
  refine lv_iconst (v := 1) hx hb dL_law_642 (by decide) ?_
  refine lv_iadd hx hb dL_law_643 ?_
  refine k_top (y := 1) (by decide) ?_
  refine va_sld hx hb hX hbl hbA hS (by unfold vp_in; decide) dL_law_644 ?_
  refine k_top (y := xs 1) (congrArg xs (by decide)) ?_
  refine lv_aload_n hx hb dL_law_645 rfl (lv_at hl 0 rfl) ?_
  refine lv_iload_n hx hb dL_law_646 rfl (lv_at hl 3 rfl) ?_
  refine lv_iconst (v := 2) hx hb dL_law_647 (by decide) ?_
  refine lv_iadd hx hb dL_law_648 ?_
  refine k_top (y := 2) (by decide) ?_
  refine va_sld hx hb hX hbl hbA hS (by unfold vp_in; decide) dL_law_649 ?_
  refine k_top (y := xs 2) (congrArg xs (by decide)) ?_
  refine ro_V (As := [.int (xs 1), .int (xs 2)]) (rest := []) S (c_X9_takes l D k q wf (xs 1) (xs 2)) lkL_61 ok_X9_takes ⟨rfl, rfl, Nat.le_of_ble_eq_true rfl, Nat.le_of_ble_eq_true rfl⟩ (fw_V (ci := 9) (q0 := 0) hF rfl rfl) rfl hl.1 rfl (Nat.le_of_ble_eq_true rfl) hcs dL_law_650 (fun r_1 er_1 => ?_)
  subst er_1
  refine lv_aload_n hx hb dL_law_653 rfl (lv_at hl 2 rfl) ?_
  refine lv_aload_n hx hb dL_law_654 rfl (lv_at hl 0 rfl) ?_
  refine lv_iload_n hx hb dL_law_655 rfl (lv_at hl 3 rfl) ?_
  refine lv_iconst (v := 1) hx hb dL_law_656 (by decide) ?_
  refine lv_iadd hx hb dL_law_657 ?_
  refine k_top (y := 1) (by decide) ?_
  refine va_sld hx hb hX hbl hbA hS (by unfold vp_in; decide) dL_law_658 ?_
  refine k_top (y := xs 1) (congrArg xs (by decide)) ?_
  refine lv_aload_n hx hb dL_law_659 rfl (lv_at hl 0 rfl) ?_
  refine lv_iload_n hx hb dL_law_660 rfl (lv_at hl 3 rfl) ?_
  refine lv_iconst (v := 2) hx hb dL_law_661 (by decide) ?_
  refine lv_iadd hx hb dL_law_662 ?_
  refine k_top (y := 2) (by decide) ?_
  refine va_sld hx hb hX hbl hbA hS (by unfold vp_in; decide) dL_law_663 ?_
  refine k_top (y := xs 2) (congrArg xs (by decide)) ?_
  refine ro_V (As := [.int (xs 1), .int (xs 2)]) (rest := [.int (-2)]) S (c_X10_takes_ l D k u mf (xs 1) (xs 2)) lkL_64 ok_X10_takes_ ⟨rfl, rfl, Nat.le_of_ble_eq_true rfl, Nat.le_of_ble_eq_true rfl⟩ (mw_V (ci := 10) (q0 := 0) hM rfl rfl) rfl hl.1 rfl (Nat.le_of_ble_eq_true rfl) hcs dL_law_664 (fun r_2 er_2 => ?_)
  subst er_2
  refine lv_icmp_eq (tgt := 2212) hx hb dL_law_667 (by decide) (fun _ => hend) (fun c_3 => absurd rfl c_3)
set_option maxHeartbeats 4000000 in
set_option maxRecDepth 100000 in
theorem case_12 {p : Program} {l : Launch} {e : Env} {s : State} {m : MethodId} {below : List Frame} {meth : Method} {c : Code} {H : Heap} {locs : List Loc} {cells slots : Nat} {Q : State → Prop} {b : Nat} {xs : Nat → Int32} {D : va_G} {k : Nat → ClassId} {q : Nat → Nat} {wf : Nat → Int32} {u : Nat → Nat} {mf : Nat → Int32} {ls : Array Slot} (C : LC p s m c b xs D k q wf u mf H locs ls cells slots) (hend : W p l e room_1 s m #[Value.ref b] below meth c H locs cells slots Q (F0 m 2212 ls [])) : W p l e room_1 s m #[Value.ref b] below meth c H locs cells slots Q (F0 m 672 ls []) := by
  obtain ⟨S, hF, hM, hX, hbl, hS, hl, hcs⟩ := C
  have hx := S.1
  have hb := S.2.1
  have hown := S.2.2.2.1
  have hT := S.2.2.2.2
  have hbA : ¬ (fun z : Nat => s.heap.size ≤ z) b := Nat.not_le.mpr hbl
  refine lv_aload_n hx hb dL_law_672 rfl (lv_at hl 1 rfl) ?_
  refine lv_aload_n hx hb dL_law_673 rfl (lv_at hl 0 rfl) ?_
  refine lv_iload_n hx hb dL_law_674 rfl (lv_at hl 3 rfl) ?_
  refine lv_iconst (v := 1) hx hb dL_law_675 (by decide) ?_
  refine lv_iadd hx hb dL_law_676 ?_
  refine k_top (y := 1) (by decide) ?_
  refine va_sld hx hb hX hbl hbA hS (by unfold vp_in; decide) dL_law_677 ?_
  refine k_top (y := xs 1) (congrArg xs (by decide)) ?_
  refine ro_V (As := [.int (xs 1)]) (rest := []) S (c_X9_aside l D k q wf (xs 1)) lkL_65 ok_X9_aside ⟨rfl, rfl, Nat.le_of_ble_eq_true rfl, Nat.le_of_ble_eq_true rfl⟩ (fw_V (ci := 9) (q0 := 0) hF rfl rfl) rfl hl.1 rfl (Nat.le_of_ble_eq_true rfl) hcs dL_law_678 (fun r_1 er_1 => ?_)
  subst er_1
  refine lv_aload_n hx hb dL_law_681 rfl (lv_at hl 2 rfl) ?_
  refine lv_aload_n hx hb dL_law_682 rfl (lv_at hl 0 rfl) ?_
  refine lv_iload_n hx hb dL_law_683 rfl (lv_at hl 3 rfl) ?_
  refine lv_iconst (v := 1) hx hb dL_law_684 (by decide) ?_
  refine lv_iadd hx hb dL_law_685 ?_
  refine k_top (y := 1) (by decide) ?_
  refine va_sld hx hb hX hbl hbA hS (by unfold vp_in; decide) dL_law_686 ?_
  refine k_top (y := xs 1) (congrArg xs (by decide)) ?_
  refine ro_V (As := [.int (xs 1)]) (rest := [.int (-2)]) S (c_X10_aside l D k u mf (xs 1)) lkL_68 ok_X10_aside ⟨rfl, rfl, Nat.le_of_ble_eq_true rfl, Nat.le_of_ble_eq_true rfl⟩ (mw_V (ci := 10) (q0 := 0) hM rfl rfl) rfl hl.1 rfl (Nat.le_of_ble_eq_true rfl) hcs dL_law_687 (fun r_2 er_2 => ?_)
  subst er_2
  refine lv_icmp_eq (tgt := 2212) hx hb dL_law_690 (by decide) (fun _ => hend) (fun c_3 => absurd rfl c_3)
set_option maxHeartbeats 4000000 in
set_option maxRecDepth 100000 in
theorem case_13 {p : Program} {l : Launch} {e : Env} {s : State} {m : MethodId} {below : List Frame} {meth : Method} {c : Code} {H : Heap} {locs : List Loc} {cells slots : Nat} {Q : State → Prop} {b : Nat} {xs : Nat → Int32} {D : va_G} {k : Nat → ClassId} {q : Nat → Nat} {wf : Nat → Int32} {u : Nat → Nat} {mf : Nat → Int32} {ls : Array Slot} (C : LC p s m c b xs D k q wf u mf H locs ls cells slots) (hend : W p l e room_1 s m #[Value.ref b] below meth c H locs cells slots Q (F0 m 2212 ls [])) : W p l e room_1 s m #[Value.ref b] below meth c H locs cells slots Q (F0 m 695 ls []) := by
  obtain ⟨S, hF, hM, hX, hbl, hS, hl, hcs⟩ := C
  have hx := S.1
  have hb := S.2.1
  have hown := S.2.2.2.1
  have hT := S.2.2.2.2
  have hbA : ¬ (fun z : Nat => s.heap.size ≤ z) b := Nat.not_le.mpr hbl
  refine lv_aload_n hx hb dL_law_695 rfl (lv_at hl 1 rfl) ?_
  refine lv_aload_n hx hb dL_law_696 rfl (lv_at hl 0 rfl) ?_
  refine lv_iload_n hx hb dL_law_697 rfl (lv_at hl 3 rfl) ?_
  refine lv_iconst (v := 1) hx hb dL_law_698 (by decide) ?_
  refine lv_iadd hx hb dL_law_699 ?_
  refine k_top (y := 1) (by decide) ?_
  refine va_sld hx hb hX hbl hbA hS (by unfold vp_in; decide) dL_law_700 ?_
  refine k_top (y := xs 1) (congrArg xs (by decide)) ?_
  refine lv_aload_n hx hb dL_law_701 rfl (lv_at hl 0 rfl) ?_
  refine lv_iload_n hx hb dL_law_702 rfl (lv_at hl 3 rfl) ?_
  refine lv_iconst (v := 2) hx hb dL_law_703 (by decide) ?_
  refine lv_iadd hx hb dL_law_704 ?_
  refine k_top (y := 2) (by decide) ?_
  refine va_sld hx hb hX hbl hbA hS (by unfold vp_in; decide) dL_law_705 ?_
  refine k_top (y := xs 2) (congrArg xs (by decide)) ?_
  refine ro_V (As := [.int (xs 1), .int (xs 2)]) (rest := []) S (c_X9_argue l D k q wf (xs 1) (xs 2)) lkL_69 ok_X9_argue ⟨rfl, rfl, Nat.le_of_ble_eq_true rfl, Nat.le_of_ble_eq_true rfl⟩ (fw_V (ci := 9) (q0 := 0) hF rfl rfl) rfl hl.1 rfl (Nat.le_of_ble_eq_true rfl) hcs dL_law_706 (fun r_1 er_1 => ?_)
  subst er_1
  refine lv_aload_n hx hb dL_law_709 rfl (lv_at hl 2 rfl) ?_
  refine lv_aload_n hx hb dL_law_710 rfl (lv_at hl 0 rfl) ?_
  refine lv_iload_n hx hb dL_law_711 rfl (lv_at hl 3 rfl) ?_
  refine lv_iconst (v := 1) hx hb dL_law_712 (by decide) ?_
  refine lv_iadd hx hb dL_law_713 ?_
  refine k_top (y := 1) (by decide) ?_
  refine va_sld hx hb hX hbl hbA hS (by unfold vp_in; decide) dL_law_714 ?_
  refine k_top (y := xs 1) (congrArg xs (by decide)) ?_
  refine lv_aload_n hx hb dL_law_715 rfl (lv_at hl 0 rfl) ?_
  refine lv_iload_n hx hb dL_law_716 rfl (lv_at hl 3 rfl) ?_
  refine lv_iconst (v := 2) hx hb dL_law_717 (by decide) ?_
  refine lv_iadd hx hb dL_law_718 ?_
  refine k_top (y := 2) (by decide) ?_
  refine va_sld hx hb hX hbl hbA hS (by unfold vp_in; decide) dL_law_719 ?_
  refine k_top (y := xs 2) (congrArg xs (by decide)) ?_
  refine ro_V (As := [.int (xs 1), .int (xs 2)]) (rest := [.int (-2)]) S (c_X10_argue l D k u mf (xs 1) (xs 2)) lkL_72 ok_X10_argue ⟨rfl, rfl, Nat.le_of_ble_eq_true rfl, Nat.le_of_ble_eq_true rfl⟩ (mw_V (ci := 10) (q0 := 0) hM rfl rfl) rfl hl.1 rfl (Nat.le_of_ble_eq_true rfl) hcs dL_law_720 (fun r_2 er_2 => ?_)
  subst er_2
  refine lv_icmp_eq (tgt := 2212) hx hb dL_law_723 (by decide) (fun _ => hend) (fun c_3 => absurd rfl c_3)
set_option maxHeartbeats 4000000 in
set_option maxRecDepth 100000 in
theorem case_14 {p : Program} {l : Launch} {e : Env} {s : State} {m : MethodId} {below : List Frame} {meth : Method} {c : Code} {H : Heap} {locs : List Loc} {cells slots : Nat} {Q : State → Prop} {b : Nat} {xs : Nat → Int32} {D : va_G} {k : Nat → ClassId} {q : Nat → Nat} {wf : Nat → Int32} {u : Nat → Nat} {mf : Nat → Int32} {ls : Array Slot} (C : LC p s m c b xs D k q wf u mf H locs ls cells slots) (hend : W p l e room_1 s m #[Value.ref b] below meth c H locs cells slots Q (F0 m 2212 ls [])) : W p l e room_1 s m #[Value.ref b] below meth c H locs cells slots Q (F0 m 728 ls []) := by
  obtain ⟨S, hF, hM, hX, hbl, hS, hl, hcs⟩ := C
  have hx := S.1
  have hb := S.2.1
  have hown := S.2.2.2.1
  have hT := S.2.2.2.2
  have hbA : ¬ (fun z : Nat => s.heap.size ≤ z) b := Nat.not_le.mpr hbl
  refine lv_aload_n hx hb dL_law_728 rfl (lv_at hl 1 rfl) ?_
  refine lv_aload_n hx hb dL_law_729 rfl (lv_at hl 0 rfl) ?_
  refine lv_iload_n hx hb dL_law_730 rfl (lv_at hl 3 rfl) ?_
  refine lv_iconst (v := 1) hx hb dL_law_731 (by decide) ?_
  refine lv_iadd hx hb dL_law_732 ?_
  refine k_top (y := 1) (by decide) ?_
  refine va_sld hx hb hX hbl hbA hS (by unfold vp_in; decide) dL_law_733 ?_
  refine k_top (y := xs 1) (congrArg xs (by decide)) ?_
  refine lv_aload_n hx hb dL_law_734 rfl (lv_at hl 0 rfl) ?_
  refine lv_iload_n hx hb dL_law_735 rfl (lv_at hl 3 rfl) ?_
  refine lv_iconst (v := 2) hx hb dL_law_736 (by decide) ?_
  refine lv_iadd hx hb dL_law_737 ?_
  refine k_top (y := 2) (by decide) ?_
  refine va_sld hx hb hX hbl hbA hS (by unfold vp_in; decide) dL_law_738 ?_
  refine k_top (y := xs 2) (congrArg xs (by decide)) ?_
  refine ro_V (As := [.int (xs 1), .int (xs 2)]) (rest := []) S (c_X9_drive l D k q wf (xs 1) (xs 2)) lkL_73 ok_X9_drive ⟨rfl, rfl, Nat.le_of_ble_eq_true rfl, Nat.le_of_ble_eq_true rfl⟩ (fw_V (ci := 9) (q0 := 0) hF rfl rfl) rfl hl.1 rfl (Nat.le_of_ble_eq_true rfl) hcs dL_law_739 (fun r_1 er_1 => ?_)
  subst er_1
  refine lv_aload_n hx hb dL_law_742 rfl (lv_at hl 2 rfl) ?_
  refine lv_aload_n hx hb dL_law_743 rfl (lv_at hl 0 rfl) ?_
  refine lv_iload_n hx hb dL_law_744 rfl (lv_at hl 3 rfl) ?_
  refine lv_iconst (v := 1) hx hb dL_law_745 (by decide) ?_
  refine lv_iadd hx hb dL_law_746 ?_
  refine k_top (y := 1) (by decide) ?_
  refine va_sld hx hb hX hbl hbA hS (by unfold vp_in; decide) dL_law_747 ?_
  refine k_top (y := xs 1) (congrArg xs (by decide)) ?_
  refine lv_aload_n hx hb dL_law_748 rfl (lv_at hl 0 rfl) ?_
  refine lv_iload_n hx hb dL_law_749 rfl (lv_at hl 3 rfl) ?_
  refine lv_iconst (v := 2) hx hb dL_law_750 (by decide) ?_
  refine lv_iadd hx hb dL_law_751 ?_
  refine k_top (y := 2) (by decide) ?_
  refine va_sld hx hb hX hbl hbA hS (by unfold vp_in; decide) dL_law_752 ?_
  refine k_top (y := xs 2) (congrArg xs (by decide)) ?_
  refine ro_V (As := [.int (xs 1), .int (xs 2)]) (rest := [.int (-2)]) S (c_X10_drive l D k u mf (xs 1) (xs 2)) lkL_76 ok_X10_drive ⟨rfl, rfl, Nat.le_of_ble_eq_true rfl, Nat.le_of_ble_eq_true rfl⟩ (mw_V (ci := 10) (q0 := 0) hM rfl rfl) rfl hl.1 rfl (Nat.le_of_ble_eq_true rfl) hcs dL_law_753 (fun r_2 er_2 => ?_)
  subst er_2
  refine lv_icmp_eq (tgt := 2212) hx hb dL_law_756 (by decide) (fun _ => hend) (fun c_3 => absurd rfl c_3)
set_option maxHeartbeats 4000000 in
set_option maxRecDepth 100000 in
theorem case_15 {p : Program} {l : Launch} {e : Env} {s : State} {m : MethodId} {below : List Frame} {meth : Method} {c : Code} {H : Heap} {locs : List Loc} {cells slots : Nat} {Q : State → Prop} {b : Nat} {xs : Nat → Int32} {D : va_G} {k : Nat → ClassId} {q : Nat → Nat} {wf : Nat → Int32} {u : Nat → Nat} {mf : Nat → Int32} {ls : Array Slot} (C : LC p s m c b xs D k q wf u mf H locs ls cells slots) (hend : W p l e room_1 s m #[Value.ref b] below meth c H locs cells slots Q (F0 m 2212 ls [])) : W p l e room_1 s m #[Value.ref b] below meth c H locs cells slots Q (F0 m 761 ls []) := by
  obtain ⟨S, hF, hM, hX, hbl, hS, hl, hcs⟩ := C
  have hx := S.1
  have hb := S.2.1
  have hown := S.2.2.2.1
  have hT := S.2.2.2.2
  have hbA : ¬ (fun z : Nat => s.heap.size ≤ z) b := Nat.not_le.mpr hbl
  refine lv_aload_n hx hb dL_law_761 rfl (lv_at hl 1 rfl) ?_
  refine lv_aload_n hx hb dL_law_762 rfl (lv_at hl 0 rfl) ?_
  refine lv_iload_n hx hb dL_law_763 rfl (lv_at hl 3 rfl) ?_
  refine lv_iconst (v := 1) hx hb dL_law_764 (by decide) ?_
  refine lv_iadd hx hb dL_law_765 ?_
  refine k_top (y := 1) (by decide) ?_
  refine va_sld hx hb hX hbl hbA hS (by unfold vp_in; decide) dL_law_766 ?_
  refine k_top (y := xs 1) (congrArg xs (by decide)) ?_
  refine lv_aload_n hx hb dL_law_767 rfl (lv_at hl 0 rfl) ?_
  refine lv_iload_n hx hb dL_law_768 rfl (lv_at hl 3 rfl) ?_
  refine lv_iconst (v := 2) hx hb dL_law_769 (by decide) ?_
  refine lv_iadd hx hb dL_law_770 ?_
  refine k_top (y := 2) (by decide) ?_
  refine va_sld hx hb hX hbl hbA hS (by unfold vp_in; decide) dL_law_771 ?_
  refine k_top (y := xs 2) (congrArg xs (by decide)) ?_
  refine ro_V (As := [.int (xs 1), .int (xs 2)]) (rest := []) S (c_X9_swap l D k q wf (xs 1) (xs 2)) lkL_77 ok_X9_swap ⟨rfl, rfl, Nat.le_of_ble_eq_true rfl, Nat.le_of_ble_eq_true rfl⟩ (fw_V (ci := 9) (q0 := 0) hF rfl rfl) rfl hl.1 rfl (Nat.le_of_ble_eq_true rfl) hcs dL_law_772 (fun r_1 er_1 => ?_)
  subst er_1
  refine lv_aload_n hx hb dL_law_775 rfl (lv_at hl 2 rfl) ?_
  refine lv_aload_n hx hb dL_law_776 rfl (lv_at hl 0 rfl) ?_
  refine lv_iload_n hx hb dL_law_777 rfl (lv_at hl 3 rfl) ?_
  refine lv_iconst (v := 1) hx hb dL_law_778 (by decide) ?_
  refine lv_iadd hx hb dL_law_779 ?_
  refine k_top (y := 1) (by decide) ?_
  refine va_sld hx hb hX hbl hbA hS (by unfold vp_in; decide) dL_law_780 ?_
  refine k_top (y := xs 1) (congrArg xs (by decide)) ?_
  refine lv_aload_n hx hb dL_law_781 rfl (lv_at hl 0 rfl) ?_
  refine lv_iload_n hx hb dL_law_782 rfl (lv_at hl 3 rfl) ?_
  refine lv_iconst (v := 2) hx hb dL_law_783 (by decide) ?_
  refine lv_iadd hx hb dL_law_784 ?_
  refine k_top (y := 2) (by decide) ?_
  refine va_sld hx hb hX hbl hbA hS (by unfold vp_in; decide) dL_law_785 ?_
  refine k_top (y := xs 2) (congrArg xs (by decide)) ?_
  refine ro_V (As := [.int (xs 1), .int (xs 2)]) (rest := [.int (-2)]) S (c_X10_swap l D k u mf (xs 1) (xs 2)) lkL_80 ok_X10_swap ⟨rfl, rfl, Nat.le_of_ble_eq_true rfl, Nat.le_of_ble_eq_true rfl⟩ (mw_V (ci := 10) (q0 := 0) hM rfl rfl) rfl hl.1 rfl (Nat.le_of_ble_eq_true rfl) hcs dL_law_786 (fun r_2 er_2 => ?_)
  subst er_2
  refine lv_icmp_eq (tgt := 2212) hx hb dL_law_789 (by decide) (fun _ => hend) (fun c_3 => absurd rfl c_3)
set_option maxHeartbeats 4000000 in
set_option maxRecDepth 100000 in
theorem case_16 {p : Program} {l : Launch} {e : Env} {s : State} {m : MethodId} {below : List Frame} {meth : Method} {c : Code} {H : Heap} {locs : List Loc} {cells slots : Nat} {Q : State → Prop} {b : Nat} {xs : Nat → Int32} {D : va_G} {k : Nat → ClassId} {q : Nat → Nat} {wf : Nat → Int32} {u : Nat → Nat} {mf : Nat → Int32} {ls : Array Slot} (C : LC p s m c b xs D k q wf u mf H locs ls cells slots) (hend : W p l e room_1 s m #[Value.ref b] below meth c H locs cells slots Q (F0 m 2212 ls [])) : W p l e room_1 s m #[Value.ref b] below meth c H locs cells slots Q (F0 m 794 ls []) := by
  obtain ⟨S, hF, hM, hX, hbl, hS, hl, hcs⟩ := C
  have hx := S.1
  have hb := S.2.1
  have hown := S.2.2.2.1
  have hT := S.2.2.2.2
  have hbA : ¬ (fun z : Nat => s.heap.size ≤ z) b := Nat.not_le.mpr hbl
  refine lv_aload_n hx hb dL_law_794 rfl (lv_at hl 1 rfl) ?_
  refine lv_aload_n hx hb dL_law_795 rfl (lv_at hl 0 rfl) ?_
  refine lv_iload_n hx hb dL_law_796 rfl (lv_at hl 3 rfl) ?_
  refine lv_iconst (v := 1) hx hb dL_law_797 (by decide) ?_
  refine lv_iadd hx hb dL_law_798 ?_
  refine k_top (y := 1) (by decide) ?_
  refine va_sld hx hb hX hbl hbA hS (by unfold vp_in; decide) dL_law_799 ?_
  refine k_top (y := xs 1) (congrArg xs (by decide)) ?_
  refine ro_V (As := [.int (xs 1)]) (rest := []) S (c_X9_grease l D k q wf (xs 1)) lkL_81 ok_X9_grease ⟨rfl, rfl, Nat.le_of_ble_eq_true rfl, Nat.le_of_ble_eq_true rfl⟩ (fw_V (ci := 9) (q0 := 0) hF rfl rfl) rfl hl.1 rfl (Nat.le_of_ble_eq_true rfl) hcs dL_law_800 (fun r_1 er_1 => ?_)
  subst er_1
  refine lv_aload_n hx hb dL_law_803 rfl (lv_at hl 2 rfl) ?_
  refine lv_aload_n hx hb dL_law_804 rfl (lv_at hl 0 rfl) ?_
  refine lv_iload_n hx hb dL_law_805 rfl (lv_at hl 3 rfl) ?_
  refine lv_iconst (v := 1) hx hb dL_law_806 (by decide) ?_
  refine lv_iadd hx hb dL_law_807 ?_
  refine k_top (y := 1) (by decide) ?_
  refine va_sld hx hb hX hbl hbA hS (by unfold vp_in; decide) dL_law_808 ?_
  refine k_top (y := xs 1) (congrArg xs (by decide)) ?_
  refine ro_V (As := [.int (xs 1)]) (rest := [.int (-2)]) S (c_X10_grease l D k u mf (xs 1)) lkL_84 ok_X10_grease ⟨rfl, rfl, Nat.le_of_ble_eq_true rfl, Nat.le_of_ble_eq_true rfl⟩ (mw_V (ci := 10) (q0 := 0) hM rfl rfl) rfl hl.1 rfl (Nat.le_of_ble_eq_true rfl) hcs dL_law_809 (fun r_2 er_2 => ?_)
  subst er_2
  refine lv_icmp_eq (tgt := 2212) hx hb dL_law_812 (by decide) (fun _ => hend) (fun c_3 => absurd rfl c_3)
set_option maxHeartbeats 4000000 in
set_option maxRecDepth 100000 in
theorem case_17 {p : Program} {l : Launch} {e : Env} {s : State} {m : MethodId} {below : List Frame} {meth : Method} {c : Code} {H : Heap} {locs : List Loc} {cells slots : Nat} {Q : State → Prop} {b : Nat} {xs : Nat → Int32} {D : va_G} {k : Nat → ClassId} {q : Nat → Nat} {wf : Nat → Int32} {u : Nat → Nat} {mf : Nat → Int32} {ls : Array Slot} (C : LC p s m c b xs D k q wf u mf H locs ls cells slots) (hend : W p l e room_1 s m #[Value.ref b] below meth c H locs cells slots Q (F0 m 2212 ls [])) : W p l e room_1 s m #[Value.ref b] below meth c H locs cells slots Q (F0 m 817 ls []) := by
  obtain ⟨S, hF, hM, hX, hbl, hS, hl, hcs⟩ := C
  have hx := S.1
  have hb := S.2.1
  have hown := S.2.2.2.1
  have hT := S.2.2.2.2
  have hbA : ¬ (fun z : Nat => s.heap.size ≤ z) b := Nat.not_le.mpr hbl
  refine lv_aload_n hx hb dL_law_817 rfl (lv_at hl 1 rfl) ?_
  refine ro_V (As := []) (rest := []) S (c_X9_undo l D k q wf ) lkL_85 ok_X9_undo ⟨rfl, rfl, Nat.le_of_ble_eq_true rfl, Nat.le_of_ble_eq_true rfl⟩ (fw_V (ci := 9) (q0 := 0) hF rfl rfl) rfl hl.1 rfl (Nat.le_of_ble_eq_true rfl) hcs dL_law_818 (fun r_1 er_1 => ?_)
  subst er_1
  refine lv_aload_n hx hb dL_law_821 rfl (lv_at hl 2 rfl) ?_
  refine ro_V (As := []) (rest := [.int (-2)]) S (c_X10_undo l D k u mf ) lkL_88 ok_X10_undo ⟨rfl, rfl, Nat.le_of_ble_eq_true rfl, Nat.le_of_ble_eq_true rfl⟩ (mw_V (ci := 10) (q0 := 0) hM rfl rfl) rfl hl.1 rfl (Nat.le_of_ble_eq_true rfl) hcs dL_law_822 (fun r_2 er_2 => ?_)
  subst er_2
  refine lv_icmp_eq (tgt := 2212) hx hb dL_law_825 (by decide) (fun _ => hend) (fun c_3 => absurd rfl c_3)
set_option maxHeartbeats 4000000 in
set_option maxRecDepth 100000 in
theorem case_18 {p : Program} {l : Launch} {e : Env} {s : State} {m : MethodId} {below : List Frame} {meth : Method} {c : Code} {H : Heap} {locs : List Loc} {cells slots : Nat} {Q : State → Prop} {b : Nat} {xs : Nat → Int32} {D : va_G} {k : Nat → ClassId} {q : Nat → Nat} {wf : Nat → Int32} {u : Nat → Nat} {mf : Nat → Int32} {ls : Array Slot} (C : LC p s m c b xs D k q wf u mf H locs ls cells slots) (hend : W p l e room_1 s m #[Value.ref b] below meth c H locs cells slots Q (F0 m 2212 ls [])) : W p l e room_1 s m #[Value.ref b] below meth c H locs cells slots Q (F0 m 830 ls []) := by
  obtain ⟨S, hF, hM, hX, hbl, hS, hl, hcs⟩ := C
  have hx := S.1
  have hb := S.2.1
  have hown := S.2.2.2.1
  have hT := S.2.2.2.2
  have hbA : ¬ (fun z : Nat => s.heap.size ≤ z) b := Nat.not_le.mpr hbl
  refine lv_aload_n hx hb dL_law_830 rfl (lv_at hl 1 rfl) ?_
  refine ro_V (As := []) (rest := []) S (c_X9_anew l D k q wf ) lkL_89 ok_X9_anew ⟨rfl, rfl, Nat.le_of_ble_eq_true rfl, Nat.le_of_ble_eq_true rfl⟩ (fw_V (ci := 9) (q0 := 0) hF rfl rfl) rfl hl.1 rfl (Nat.le_of_ble_eq_true rfl) hcs dL_law_831 (fun r_1 er_1 => ?_)
  subst er_1
  refine lv_aload_n hx hb dL_law_834 rfl (lv_at hl 2 rfl) ?_
  refine ro_V (As := []) (rest := [.int (-2)]) S (c_X10_anew l D k u mf ) lkL_92 ok_X10_anew ⟨rfl, rfl, Nat.le_of_ble_eq_true rfl, Nat.le_of_ble_eq_true rfl⟩ (mw_V (ci := 10) (q0 := 0) hM rfl rfl) rfl hl.1 rfl (Nat.le_of_ble_eq_true rfl) hcs dL_law_835 (fun r_2 er_2 => ?_)
  subst er_2
  refine lv_icmp_eq (tgt := 2212) hx hb dL_law_838 (by decide) (fun _ => hend) (fun c_3 => absurd rfl c_3)
set_option maxHeartbeats 4000000 in
set_option maxRecDepth 100000 in
theorem case_19 {p : Program} {l : Launch} {e : Env} {s : State} {m : MethodId} {below : List Frame} {meth : Method} {c : Code} {H : Heap} {locs : List Loc} {cells slots : Nat} {Q : State → Prop} {b : Nat} {xs : Nat → Int32} {D : va_G} {k : Nat → ClassId} {q : Nat → Nat} {wf : Nat → Int32} {u : Nat → Nat} {mf : Nat → Int32} {ls : Array Slot} (C : LC p s m c b xs D k q wf u mf H locs ls cells slots) (hend : W p l e room_1 s m #[Value.ref b] below meth c H locs cells slots Q (F0 m 2212 ls [])) : W p l e room_1 s m #[Value.ref b] below meth c H locs cells slots Q (F0 m 843 ls []) := by
  obtain ⟨S, hF, hM, hX, hbl, hS, hl, hcs⟩ := C
  have hx := S.1
  have hb := S.2.1
  have hown := S.2.2.2.1
  have hT := S.2.2.2.2
  have hbA : ¬ (fun z : Nat => s.heap.size ≤ z) b := Nat.not_le.mpr hbl
  refine lv_aload_n hx hb dL_law_843 rfl (lv_at hl 1 rfl) ?_
  refine lv_aload_n hx hb dL_law_844 rfl (lv_at hl 0 rfl) ?_
  refine lv_iload_n hx hb dL_law_845 rfl (lv_at hl 3 rfl) ?_
  refine lv_iconst (v := 1) hx hb dL_law_846 (by decide) ?_
  refine lv_iadd hx hb dL_law_847 ?_
  refine k_top (y := 1) (by decide) ?_
  refine va_sld hx hb hX hbl hbA hS (by unfold vp_in; decide) dL_law_848 ?_
  refine k_top (y := xs 1) (congrArg xs (by decide)) ?_
  refine lv_aload_n hx hb dL_law_849 rfl (lv_at hl 0 rfl) ?_
  refine lv_iload_n hx hb dL_law_850 rfl (lv_at hl 3 rfl) ?_
  refine lv_iconst (v := 2) hx hb dL_law_851 (by decide) ?_
  refine lv_iadd hx hb dL_law_852 ?_
  refine k_top (y := 2) (by decide) ?_
  refine va_sld hx hb hX hbl hbA hS (by unfold vp_in; decide) dL_law_853 ?_
  refine k_top (y := xs 2) (congrArg xs (by decide)) ?_
  refine ro_V (As := [.int (xs 1), .int (xs 2)]) (rest := []) S (c_X9_goes l D k q wf (xs 1) (xs 2)) lkL_93 ok_X9_goes ⟨rfl, rfl, Nat.le_of_ble_eq_true rfl, Nat.le_of_ble_eq_true rfl⟩ (fw_V (ci := 9) (q0 := 0) hF rfl rfl) rfl hl.1 rfl (Nat.le_of_ble_eq_true rfl) hcs dL_law_854 (fun r_1 er_1 => ?_)
  subst er_1
  refine lv_aload_n hx hb dL_law_857 rfl (lv_at hl 2 rfl) ?_
  refine lv_aload_n hx hb dL_law_858 rfl (lv_at hl 0 rfl) ?_
  refine lv_iload_n hx hb dL_law_859 rfl (lv_at hl 3 rfl) ?_
  refine lv_iconst (v := 1) hx hb dL_law_860 (by decide) ?_
  refine lv_iadd hx hb dL_law_861 ?_
  refine k_top (y := 1) (by decide) ?_
  refine va_sld hx hb hX hbl hbA hS (by unfold vp_in; decide) dL_law_862 ?_
  refine k_top (y := xs 1) (congrArg xs (by decide)) ?_
  refine lv_aload_n hx hb dL_law_863 rfl (lv_at hl 0 rfl) ?_
  refine lv_iload_n hx hb dL_law_864 rfl (lv_at hl 3 rfl) ?_
  refine lv_iconst (v := 2) hx hb dL_law_865 (by decide) ?_
  refine lv_iadd hx hb dL_law_866 ?_
  refine k_top (y := 2) (by decide) ?_
  refine va_sld hx hb hX hbl hbA hS (by unfold vp_in; decide) dL_law_867 ?_
  refine k_top (y := xs 2) (congrArg xs (by decide)) ?_
  refine ro_V (As := [.int (xs 1), .int (xs 2)]) (rest := [.int (-2)]) S (c_X10_goes l D k u mf (xs 1) (xs 2)) lkL_96 ok_X10_goes ⟨rfl, rfl, Nat.le_of_ble_eq_true rfl, Nat.le_of_ble_eq_true rfl⟩ (mw_V (ci := 10) (q0 := 0) hM rfl rfl) rfl hl.1 rfl (Nat.le_of_ble_eq_true rfl) hcs dL_law_868 (fun r_2 er_2 => ?_)
  subst er_2
  refine lv_icmp_eq (tgt := 2212) hx hb dL_law_871 (by decide) (fun _ => hend) (fun c_3 => absurd rfl c_3)
set_option maxHeartbeats 4000000 in
set_option maxRecDepth 100000 in
theorem case_20 {p : Program} {l : Launch} {e : Env} {s : State} {m : MethodId} {below : List Frame} {meth : Method} {c : Code} {H : Heap} {locs : List Loc} {cells slots : Nat} {Q : State → Prop} {b : Nat} {xs : Nat → Int32} {D : va_G} {k : Nat → ClassId} {q : Nat → Nat} {wf : Nat → Int32} {u : Nat → Nat} {mf : Nat → Int32} {ls : Array Slot} (C : LC p s m c b xs D k q wf u mf H locs ls cells slots) (hend : W p l e room_1 s m #[Value.ref b] below meth c H locs cells slots Q (F0 m 2212 ls [])) : W p l e room_1 s m #[Value.ref b] below meth c H locs cells slots Q (F0 m 876 ls []) := by
  obtain ⟨S, hF, hM, hX, hbl, hS, hl, hcs⟩ := C
  have hx := S.1
  have hb := S.2.1
  have hown := S.2.2.2.1
  have hT := S.2.2.2.2
  have hbA : ¬ (fun z : Nat => s.heap.size ≤ z) b := Nat.not_le.mpr hbl
  refine lv_aload_n hx hb dL_law_876 rfl (lv_at hl 1 rfl) ?_
  refine lv_aload_n hx hb dL_law_877 rfl (lv_at hl 0 rfl) ?_
  refine lv_iload_n hx hb dL_law_878 rfl (lv_at hl 3 rfl) ?_
  refine lv_iconst (v := 1) hx hb dL_law_879 (by decide) ?_
  refine lv_iadd hx hb dL_law_880 ?_
  refine k_top (y := 1) (by decide) ?_
  refine va_sld hx hb hX hbl hbA hS (by unfold vp_in; decide) dL_law_881 ?_
  refine k_top (y := xs 1) (congrArg xs (by decide)) ?_
  refine lv_aload_n hx hb dL_law_882 rfl (lv_at hl 0 rfl) ?_
  refine lv_iload_n hx hb dL_law_883 rfl (lv_at hl 3 rfl) ?_
  refine lv_iconst (v := 2) hx hb dL_law_884 (by decide) ?_
  refine lv_iadd hx hb dL_law_885 ?_
  refine k_top (y := 2) (by decide) ?_
  refine va_sld hx hb hX hbl hbA hS (by unfold vp_in; decide) dL_law_886 ?_
  refine k_top (y := xs 2) (congrArg xs (by decide)) ?_
  refine ro_V (As := [.int (xs 1), .int (xs 2)]) (rest := []) S (c_X9_ends l D k q wf (xs 1) (xs 2)) lkL_97 ok_X9_ends ⟨rfl, rfl, Nat.le_of_ble_eq_true rfl, Nat.le_of_ble_eq_true rfl⟩ (fw_V (ci := 9) (q0 := 0) hF rfl rfl) rfl hl.1 rfl (Nat.le_of_ble_eq_true rfl) hcs dL_law_887 (fun r_1 er_1 => ?_)
  subst er_1
  refine lv_aload_n hx hb dL_law_890 rfl (lv_at hl 2 rfl) ?_
  refine lv_aload_n hx hb dL_law_891 rfl (lv_at hl 0 rfl) ?_
  refine lv_iload_n hx hb dL_law_892 rfl (lv_at hl 3 rfl) ?_
  refine lv_iconst (v := 1) hx hb dL_law_893 (by decide) ?_
  refine lv_iadd hx hb dL_law_894 ?_
  refine k_top (y := 1) (by decide) ?_
  refine va_sld hx hb hX hbl hbA hS (by unfold vp_in; decide) dL_law_895 ?_
  refine k_top (y := xs 1) (congrArg xs (by decide)) ?_
  refine lv_aload_n hx hb dL_law_896 rfl (lv_at hl 0 rfl) ?_
  refine lv_iload_n hx hb dL_law_897 rfl (lv_at hl 3 rfl) ?_
  refine lv_iconst (v := 2) hx hb dL_law_898 (by decide) ?_
  refine lv_iadd hx hb dL_law_899 ?_
  refine k_top (y := 2) (by decide) ?_
  refine va_sld hx hb hX hbl hbA hS (by unfold vp_in; decide) dL_law_900 ?_
  refine k_top (y := xs 2) (congrArg xs (by decide)) ?_
  refine ro_V (As := [.int (xs 1), .int (xs 2)]) (rest := [.int (-2)]) S (c_X10_ends l D k u mf (xs 1) (xs 2)) lkL_100 ok_X10_ends ⟨rfl, rfl, Nat.le_of_ble_eq_true rfl, Nat.le_of_ble_eq_true rfl⟩ (mw_V (ci := 10) (q0 := 0) hM rfl rfl) rfl hl.1 rfl (Nat.le_of_ble_eq_true rfl) hcs dL_law_901 (fun r_2 er_2 => ?_)
  subst er_2
  refine lv_icmp_eq (tgt := 2212) hx hb dL_law_904 (by decide) (fun _ => hend) (fun c_3 => absurd rfl c_3)
set_option maxHeartbeats 4000000 in
set_option maxRecDepth 100000 in
theorem case_21 {p : Program} {l : Launch} {e : Env} {s : State} {m : MethodId} {below : List Frame} {meth : Method} {c : Code} {H : Heap} {locs : List Loc} {cells slots : Nat} {Q : State → Prop} {b : Nat} {xs : Nat → Int32} {D : va_G} {k : Nat → ClassId} {q : Nat → Nat} {wf : Nat → Int32} {u : Nat → Nat} {mf : Nat → Int32} {ls : Array Slot} (C : LC p s m c b xs D k q wf u mf H locs ls cells slots) (hend : W p l e room_1 s m #[Value.ref b] below meth c H locs cells slots Q (F0 m 2212 ls [])) : W p l e room_1 s m #[Value.ref b] below meth c H locs cells slots Q (F0 m 909 ls []) := by
  obtain ⟨S, hF, hM, hX, hbl, hS, hl, hcs⟩ := C
  have hx := S.1
  have hb := S.2.1
  have hown := S.2.2.2.1
  have hT := S.2.2.2.2
  have hbA : ¬ (fun z : Nat => s.heap.size ≤ z) b := Nat.not_le.mpr hbl
  refine lv_aload_n hx hb dL_law_909 rfl (lv_at hl 1 rfl) ?_
  refine lv_aload_n hx hb dL_law_910 rfl (lv_at hl 0 rfl) ?_
  refine lv_iload_n hx hb dL_law_911 rfl (lv_at hl 3 rfl) ?_
  refine lv_iconst (v := 1) hx hb dL_law_912 (by decide) ?_
  refine lv_iadd hx hb dL_law_913 ?_
  refine k_top (y := 1) (by decide) ?_
  refine va_sld hx hb hX hbl hbA hS (by unfold vp_in; decide) dL_law_914 ?_
  refine k_top (y := xs 1) (congrArg xs (by decide)) ?_
  refine lv_aload_n hx hb dL_law_915 rfl (lv_at hl 0 rfl) ?_
  refine lv_iload_n hx hb dL_law_916 rfl (lv_at hl 3 rfl) ?_
  refine lv_iconst (v := 2) hx hb dL_law_917 (by decide) ?_
  refine lv_iadd hx hb dL_law_918 ?_
  refine k_top (y := 2) (by decide) ?_
  refine va_sld hx hb hX hbl hbA hS (by unfold vp_in; decide) dL_law_919 ?_
  refine k_top (y := xs 2) (congrArg xs (by decide)) ?_
  refine ro_V (As := [.int (xs 1), .int (xs 2)]) (rest := []) S (c_X9_ran l D k q wf (xs 1) (xs 2)) lkL_101 ok_X9_ran ⟨rfl, rfl, Nat.le_of_ble_eq_true rfl, Nat.le_of_ble_eq_true rfl⟩ (fw_V (ci := 9) (q0 := 0) hF rfl rfl) rfl hl.1 rfl (Nat.le_of_ble_eq_true rfl) hcs dL_law_920 (fun r_1 er_1 => ?_)
  subst er_1
  refine lv_aload_n hx hb dL_law_923 rfl (lv_at hl 2 rfl) ?_
  refine lv_aload_n hx hb dL_law_924 rfl (lv_at hl 0 rfl) ?_
  refine lv_iload_n hx hb dL_law_925 rfl (lv_at hl 3 rfl) ?_
  refine lv_iconst (v := 1) hx hb dL_law_926 (by decide) ?_
  refine lv_iadd hx hb dL_law_927 ?_
  refine k_top (y := 1) (by decide) ?_
  refine va_sld hx hb hX hbl hbA hS (by unfold vp_in; decide) dL_law_928 ?_
  refine k_top (y := xs 1) (congrArg xs (by decide)) ?_
  refine lv_aload_n hx hb dL_law_929 rfl (lv_at hl 0 rfl) ?_
  refine lv_iload_n hx hb dL_law_930 rfl (lv_at hl 3 rfl) ?_
  refine lv_iconst (v := 2) hx hb dL_law_931 (by decide) ?_
  refine lv_iadd hx hb dL_law_932 ?_
  refine k_top (y := 2) (by decide) ?_
  refine va_sld hx hb hX hbl hbA hS (by unfold vp_in; decide) dL_law_933 ?_
  refine k_top (y := xs 2) (congrArg xs (by decide)) ?_
  refine ro_V (As := [.int (xs 1), .int (xs 2)]) (rest := [.int (-2)]) S (c_X10_ran l D k u mf (xs 1) (xs 2)) lkL_104 ok_X10_ran ⟨rfl, rfl, Nat.le_of_ble_eq_true rfl, Nat.le_of_ble_eq_true rfl⟩ (mw_V (ci := 10) (q0 := 0) hM rfl rfl) rfl hl.1 rfl (Nat.le_of_ble_eq_true rfl) hcs dL_law_934 (fun r_2 er_2 => ?_)
  subst er_2
  refine lv_icmp_eq (tgt := 2212) hx hb dL_law_937 (by decide) (fun _ => hend) (fun c_3 => absurd rfl c_3)
set_option maxHeartbeats 4000000 in
set_option maxRecDepth 100000 in
theorem case_22 {p : Program} {l : Launch} {e : Env} {s : State} {m : MethodId} {below : List Frame} {meth : Method} {c : Code} {H : Heap} {locs : List Loc} {cells slots : Nat} {Q : State → Prop} {b : Nat} {xs : Nat → Int32} {D : va_G} {k : Nat → ClassId} {q : Nat → Nat} {wf : Nat → Int32} {u : Nat → Nat} {mf : Nat → Int32} {ls : Array Slot} (C : LC p s m c b xs D k q wf u mf H locs ls cells slots) (hend : W p l e room_1 s m #[Value.ref b] below meth c H locs cells slots Q (F0 m 2212 ls [])) : W p l e room_1 s m #[Value.ref b] below meth c H locs cells slots Q (F0 m 942 ls []) := by
  obtain ⟨S, hF, hM, hX, hbl, hS, hl, hcs⟩ := C
  have hx := S.1
  have hb := S.2.1
  have hown := S.2.2.2.1
  have hT := S.2.2.2.2
  have hbA : ¬ (fun z : Nat => s.heap.size ≤ z) b := Nat.not_le.mpr hbl
  refine lv_aload_n hx hb dL_law_942 rfl (lv_at hl 1 rfl) ?_
  refine lv_aload_n hx hb dL_law_943 rfl (lv_at hl 0 rfl) ?_
  refine lv_iload_n hx hb dL_law_944 rfl (lv_at hl 3 rfl) ?_
  refine lv_iconst (v := 1) hx hb dL_law_945 (by decide) ?_
  refine lv_iadd hx hb dL_law_946 ?_
  refine k_top (y := 1) (by decide) ?_
  refine va_sld hx hb hX hbl hbA hS (by unfold vp_in; decide) dL_law_947 ?_
  refine k_top (y := xs 1) (congrArg xs (by decide)) ?_
  refine lv_aload_n hx hb dL_law_948 rfl (lv_at hl 0 rfl) ?_
  refine lv_iload_n hx hb dL_law_949 rfl (lv_at hl 3 rfl) ?_
  refine lv_iconst (v := 2) hx hb dL_law_950 (by decide) ?_
  refine lv_iadd hx hb dL_law_951 ?_
  refine k_top (y := 2) (by decide) ?_
  refine va_sld hx hb hX hbl hbA hS (by unfold vp_in; decide) dL_law_952 ?_
  refine k_top (y := xs 2) (congrArg xs (by decide)) ?_
  refine ro_V (As := [.int (xs 1), .int (xs 2)]) (rest := []) S (c_X9_astray l D k q wf (xs 1) (xs 2)) lkL_105 ok_X9_astray ⟨rfl, rfl, Nat.le_of_ble_eq_true rfl, Nat.le_of_ble_eq_true rfl⟩ (fw_V (ci := 9) (q0 := 0) hF rfl rfl) rfl hl.1 rfl (Nat.le_of_ble_eq_true rfl) hcs dL_law_953 (fun r_1 er_1 => ?_)
  subst er_1
  refine lv_aload_n hx hb dL_law_956 rfl (lv_at hl 2 rfl) ?_
  refine lv_aload_n hx hb dL_law_957 rfl (lv_at hl 0 rfl) ?_
  refine lv_iload_n hx hb dL_law_958 rfl (lv_at hl 3 rfl) ?_
  refine lv_iconst (v := 1) hx hb dL_law_959 (by decide) ?_
  refine lv_iadd hx hb dL_law_960 ?_
  refine k_top (y := 1) (by decide) ?_
  refine va_sld hx hb hX hbl hbA hS (by unfold vp_in; decide) dL_law_961 ?_
  refine k_top (y := xs 1) (congrArg xs (by decide)) ?_
  refine lv_aload_n hx hb dL_law_962 rfl (lv_at hl 0 rfl) ?_
  refine lv_iload_n hx hb dL_law_963 rfl (lv_at hl 3 rfl) ?_
  refine lv_iconst (v := 2) hx hb dL_law_964 (by decide) ?_
  refine lv_iadd hx hb dL_law_965 ?_
  refine k_top (y := 2) (by decide) ?_
  refine va_sld hx hb hX hbl hbA hS (by unfold vp_in; decide) dL_law_966 ?_
  refine k_top (y := xs 2) (congrArg xs (by decide)) ?_
  refine ro_V (As := [.int (xs 1), .int (xs 2)]) (rest := [.int (-2)]) S (c_X10_astray l D k u mf (xs 1) (xs 2)) lkL_108 ok_X10_astray ⟨rfl, rfl, Nat.le_of_ble_eq_true rfl, Nat.le_of_ble_eq_true rfl⟩ (mw_V (ci := 10) (q0 := 0) hM rfl rfl) rfl hl.1 rfl (Nat.le_of_ble_eq_true rfl) hcs dL_law_967 (fun r_2 er_2 => ?_)
  subst er_2
  refine lv_icmp_eq (tgt := 2212) hx hb dL_law_970 (by decide) (fun _ => hend) (fun c_3 => absurd rfl c_3)
set_option maxHeartbeats 4000000 in
set_option maxRecDepth 100000 in
theorem case_23 {p : Program} {l : Launch} {e : Env} {s : State} {m : MethodId} {below : List Frame} {meth : Method} {c : Code} {H : Heap} {locs : List Loc} {cells slots : Nat} {Q : State → Prop} {b : Nat} {xs : Nat → Int32} {D : va_G} {k : Nat → ClassId} {q : Nat → Nat} {wf : Nat → Int32} {u : Nat → Nat} {mf : Nat → Int32} {ls : Array Slot} (C : LC p s m c b xs D k q wf u mf H locs ls cells slots) (hend : W p l e room_1 s m #[Value.ref b] below meth c H locs cells slots Q (F0 m 2212 ls [])) : W p l e room_1 s m #[Value.ref b] below meth c H locs cells slots Q (F0 m 975 ls []) := by
  obtain ⟨S, hF, hM, hX, hbl, hS, hl, hcs⟩ := C
  have hx := S.1
  have hb := S.2.1
  have hown := S.2.2.2.1
  have hT := S.2.2.2.2
  have hbA : ¬ (fun z : Nat => s.heap.size ≤ z) b := Nat.not_le.mpr hbl
  refine lv_aload_n hx hb dL_law_975 rfl (lv_at hl 1 rfl) ?_
  refine lv_aload_n hx hb dL_law_976 rfl (lv_at hl 0 rfl) ?_
  refine lv_iload_n hx hb dL_law_977 rfl (lv_at hl 3 rfl) ?_
  refine lv_iconst (v := 1) hx hb dL_law_978 (by decide) ?_
  refine lv_iadd hx hb dL_law_979 ?_
  refine k_top (y := 1) (by decide) ?_
  refine va_sld hx hb hX hbl hbA hS (by unfold vp_in; decide) dL_law_980 ?_
  refine k_top (y := xs 1) (congrArg xs (by decide)) ?_
  refine lv_aload_n hx hb dL_law_981 rfl (lv_at hl 0 rfl) ?_
  refine lv_iload_n hx hb dL_law_982 rfl (lv_at hl 3 rfl) ?_
  refine lv_iconst (v := 2) hx hb dL_law_983 (by decide) ?_
  refine lv_iadd hx hb dL_law_984 ?_
  refine k_top (y := 2) (by decide) ?_
  refine va_sld hx hb hX hbl hbA hS (by unfold vp_in; decide) dL_law_985 ?_
  refine k_top (y := xs 2) (congrArg xs (by decide)) ?_
  refine ro_V (As := [.int (xs 1), .int (xs 2)]) (rest := []) S (c_X9_worn l D k q wf (xs 1) (xs 2)) lkL_109 ok_X9_worn ⟨rfl, rfl, Nat.le_of_ble_eq_true rfl, Nat.le_of_ble_eq_true rfl⟩ (fw_V (ci := 9) (q0 := 0) hF rfl rfl) rfl hl.1 rfl (Nat.le_of_ble_eq_true rfl) hcs dL_law_986 (fun r_1 er_1 => ?_)
  subst er_1
  refine lv_aload_n hx hb dL_law_989 rfl (lv_at hl 2 rfl) ?_
  refine lv_aload_n hx hb dL_law_990 rfl (lv_at hl 0 rfl) ?_
  refine lv_iload_n hx hb dL_law_991 rfl (lv_at hl 3 rfl) ?_
  refine lv_iconst (v := 1) hx hb dL_law_992 (by decide) ?_
  refine lv_iadd hx hb dL_law_993 ?_
  refine k_top (y := 1) (by decide) ?_
  refine va_sld hx hb hX hbl hbA hS (by unfold vp_in; decide) dL_law_994 ?_
  refine k_top (y := xs 1) (congrArg xs (by decide)) ?_
  refine lv_aload_n hx hb dL_law_995 rfl (lv_at hl 0 rfl) ?_
  refine lv_iload_n hx hb dL_law_996 rfl (lv_at hl 3 rfl) ?_
  refine lv_iconst (v := 2) hx hb dL_law_997 (by decide) ?_
  refine lv_iadd hx hb dL_law_998 ?_
  refine k_top (y := 2) (by decide) ?_
  refine va_sld hx hb hX hbl hbA hS (by unfold vp_in; decide) dL_law_999 ?_
  refine k_top (y := xs 2) (congrArg xs (by decide)) ?_
  refine ro_V (As := [.int (xs 1), .int (xs 2)]) (rest := [.int (-2)]) S (c_X10_worn l D k u mf (xs 1) (xs 2)) lkL_112 ok_X10_worn ⟨rfl, rfl, Nat.le_of_ble_eq_true rfl, Nat.le_of_ble_eq_true rfl⟩ (mw_V (ci := 10) (q0 := 0) hM rfl rfl) rfl hl.1 rfl (Nat.le_of_ble_eq_true rfl) hcs dL_law_1000 (fun r_2 er_2 => ?_)
  subst er_2
  refine lv_icmp_eq (tgt := 2212) hx hb dL_law_1003 (by decide) (fun _ => hend) (fun c_3 => absurd rfl c_3)
set_option maxHeartbeats 4000000 in
set_option maxRecDepth 100000 in
theorem case_24 {p : Program} {l : Launch} {e : Env} {s : State} {m : MethodId} {below : List Frame} {meth : Method} {c : Code} {H : Heap} {locs : List Loc} {cells slots : Nat} {Q : State → Prop} {b : Nat} {xs : Nat → Int32} {D : va_G} {k : Nat → ClassId} {q : Nat → Nat} {wf : Nat → Int32} {u : Nat → Nat} {mf : Nat → Int32} {ls : Array Slot} (C : LC p s m c b xs D k q wf u mf H locs ls cells slots) (hend : W p l e room_1 s m #[Value.ref b] below meth c H locs cells slots Q (F0 m 2212 ls [])) : W p l e room_1 s m #[Value.ref b] below meth c H locs cells slots Q (F0 m 1008 ls []) := by
  obtain ⟨S, hF, hM, hX, hbl, hS, hl, hcs⟩ := C
  have hx := S.1
  have hb := S.2.1
  have hown := S.2.2.2.1
  have hT := S.2.2.2.2
  have hbA : ¬ (fun z : Nat => s.heap.size ≤ z) b := Nat.not_le.mpr hbl
  refine lv_aload_n hx hb dL_law_1008 rfl (lv_at hl 1 rfl) ?_
  refine lv_aload_n hx hb dL_law_1009 rfl (lv_at hl 0 rfl) ?_
  refine lv_iload_n hx hb dL_law_1010 rfl (lv_at hl 3 rfl) ?_
  refine lv_iconst (v := 1) hx hb dL_law_1011 (by decide) ?_
  refine lv_iadd hx hb dL_law_1012 ?_
  refine k_top (y := 1) (by decide) ?_
  refine va_sld hx hb hX hbl hbA hS (by unfold vp_in; decide) dL_law_1013 ?_
  refine k_top (y := xs 1) (congrArg xs (by decide)) ?_
  refine lv_aload_n hx hb dL_law_1014 rfl (lv_at hl 0 rfl) ?_
  refine lv_iload_n hx hb dL_law_1015 rfl (lv_at hl 3 rfl) ?_
  refine lv_iconst (v := 2) hx hb dL_law_1016 (by decide) ?_
  refine lv_iadd hx hb dL_law_1017 ?_
  refine k_top (y := 2) (by decide) ?_
  refine va_sld hx hb hX hbl hbA hS (by unfold vp_in; decide) dL_law_1018 ?_
  refine k_top (y := xs 2) (congrArg xs (by decide)) ?_
  refine ro_V (As := [.int (xs 1), .int (xs 2)]) (rest := []) S (c_X9_way l D k q wf (xs 1) (xs 2)) lkL_113 ok_X9_way ⟨rfl, rfl, Nat.le_of_ble_eq_true rfl, Nat.le_of_ble_eq_true rfl⟩ (fw_V (ci := 9) (q0 := 0) hF rfl rfl) rfl hl.1 rfl (Nat.le_of_ble_eq_true rfl) hcs dL_law_1019 (fun r_1 er_1 => ?_)
  subst er_1
  refine lv_aload_n hx hb dL_law_1022 rfl (lv_at hl 2 rfl) ?_
  refine lv_aload_n hx hb dL_law_1023 rfl (lv_at hl 0 rfl) ?_
  refine lv_iload_n hx hb dL_law_1024 rfl (lv_at hl 3 rfl) ?_
  refine lv_iconst (v := 1) hx hb dL_law_1025 (by decide) ?_
  refine lv_iadd hx hb dL_law_1026 ?_
  refine k_top (y := 1) (by decide) ?_
  refine va_sld hx hb hX hbl hbA hS (by unfold vp_in; decide) dL_law_1027 ?_
  refine k_top (y := xs 1) (congrArg xs (by decide)) ?_
  refine lv_aload_n hx hb dL_law_1028 rfl (lv_at hl 0 rfl) ?_
  refine lv_iload_n hx hb dL_law_1029 rfl (lv_at hl 3 rfl) ?_
  refine lv_iconst (v := 2) hx hb dL_law_1030 (by decide) ?_
  refine lv_iadd hx hb dL_law_1031 ?_
  refine k_top (y := 2) (by decide) ?_
  refine va_sld hx hb hX hbl hbA hS (by unfold vp_in; decide) dL_law_1032 ?_
  refine k_top (y := xs 2) (congrArg xs (by decide)) ?_
  refine ro_V (As := [.int (xs 1), .int (xs 2)]) (rest := [.int (-2)]) S (c_X10_way l D k u mf (xs 1) (xs 2)) lkL_116 ok_X10_way ⟨rfl, rfl, Nat.le_of_ble_eq_true rfl, Nat.le_of_ble_eq_true rfl⟩ (mw_V (ci := 10) (q0 := 0) hM rfl rfl) rfl hl.1 rfl (Nat.le_of_ble_eq_true rfl) hcs dL_law_1033 (fun r_2 er_2 => ?_)
  subst er_2
  refine lv_icmp_eq (tgt := 2212) hx hb dL_law_1036 (by decide) (fun _ => hend) (fun c_3 => absurd rfl c_3)
set_option maxHeartbeats 4000000 in
set_option maxRecDepth 100000 in
theorem case_25 {p : Program} {l : Launch} {e : Env} {s : State} {m : MethodId} {below : List Frame} {meth : Method} {c : Code} {H : Heap} {locs : List Loc} {cells slots : Nat} {Q : State → Prop} {b : Nat} {xs : Nat → Int32} {D : va_G} {k : Nat → ClassId} {q : Nat → Nat} {wf : Nat → Int32} {u : Nat → Nat} {mf : Nat → Int32} {ls : Array Slot} (C : LC p s m c b xs D k q wf u mf H locs ls cells slots) (hend : W p l e room_1 s m #[Value.ref b] below meth c H locs cells slots Q (F0 m 2212 ls [])) : W p l e room_1 s m #[Value.ref b] below meth c H locs cells slots Q (F0 m 1041 ls []) := by
  obtain ⟨S, hF, hM, hX, hbl, hS, hl, hcs⟩ := C
  have hx := S.1
  have hb := S.2.1
  have hown := S.2.2.2.1
  have hT := S.2.2.2.2
  have hbA : ¬ (fun z : Nat => s.heap.size ≤ z) b := Nat.not_le.mpr hbl
  refine lv_aload_n hx hb dL_law_1041 rfl (lv_at hl 1 rfl) ?_
  refine lv_aload_n hx hb dL_law_1042 rfl (lv_at hl 0 rfl) ?_
  refine lv_iload_n hx hb dL_law_1043 rfl (lv_at hl 3 rfl) ?_
  refine lv_iconst (v := 1) hx hb dL_law_1044 (by decide) ?_
  refine lv_iadd hx hb dL_law_1045 ?_
  refine k_top (y := 1) (by decide) ?_
  refine va_sld hx hb hX hbl hbA hS (by unfold vp_in; decide) dL_law_1046 ?_
  refine k_top (y := xs 1) (congrArg xs (by decide)) ?_
  refine lv_aload_n hx hb dL_law_1047 rfl (lv_at hl 0 rfl) ?_
  refine lv_iload_n hx hb dL_law_1048 rfl (lv_at hl 3 rfl) ?_
  refine lv_iconst (v := 2) hx hb dL_law_1049 (by decide) ?_
  refine lv_iadd hx hb dL_law_1050 ?_
  refine k_top (y := 2) (by decide) ?_
  refine va_sld hx hb hX hbl hbA hS (by unfold vp_in; decide) dL_law_1051 ?_
  refine k_top (y := xs 2) (congrArg xs (by decide)) ?_
  refine lv_aload_n hx hb dL_law_1052 rfl (lv_at hl 0 rfl) ?_
  refine lv_iload_n hx hb dL_law_1053 rfl (lv_at hl 3 rfl) ?_
  refine lv_iconst (v := 3) hx hb dL_law_1054 (by decide) ?_
  refine lv_iadd hx hb dL_law_1055 ?_
  refine k_top (y := 3) (by decide) ?_
  refine va_sld hx hb hX hbl hbA hS (by unfold vp_in; decide) dL_law_1056 ?_
  refine k_top (y := xs 3) (congrArg xs (by decide)) ?_
  refine ro_V (As := [.int (xs 1), .int (xs 2), .int (xs 3)]) (rest := []) S (c_X9_wants l D k q wf (xs 1) (xs 2) (xs 3)) lkL_117 ok_X9_wants ⟨rfl, rfl, Nat.le_of_ble_eq_true rfl, Nat.le_of_ble_eq_true rfl⟩ (fw_V (ci := 9) (q0 := 0) hF rfl rfl) rfl hl.1 rfl (Nat.le_of_ble_eq_true rfl) hcs dL_law_1057 (fun r_1 er_1 => ?_)
  subst er_1
  refine lv_aload_n hx hb dL_law_1060 rfl (lv_at hl 2 rfl) ?_
  refine lv_aload_n hx hb dL_law_1061 rfl (lv_at hl 0 rfl) ?_
  refine lv_iload_n hx hb dL_law_1062 rfl (lv_at hl 3 rfl) ?_
  refine lv_iconst (v := 1) hx hb dL_law_1063 (by decide) ?_
  refine lv_iadd hx hb dL_law_1064 ?_
  refine k_top (y := 1) (by decide) ?_
  refine va_sld hx hb hX hbl hbA hS (by unfold vp_in; decide) dL_law_1065 ?_
  refine k_top (y := xs 1) (congrArg xs (by decide)) ?_
  refine lv_aload_n hx hb dL_law_1066 rfl (lv_at hl 0 rfl) ?_
  refine lv_iload_n hx hb dL_law_1067 rfl (lv_at hl 3 rfl) ?_
  refine lv_iconst (v := 2) hx hb dL_law_1068 (by decide) ?_
  refine lv_iadd hx hb dL_law_1069 ?_
  refine k_top (y := 2) (by decide) ?_
  refine va_sld hx hb hX hbl hbA hS (by unfold vp_in; decide) dL_law_1070 ?_
  refine k_top (y := xs 2) (congrArg xs (by decide)) ?_
  refine lv_aload_n hx hb dL_law_1071 rfl (lv_at hl 0 rfl) ?_
  refine lv_iload_n hx hb dL_law_1072 rfl (lv_at hl 3 rfl) ?_
  refine lv_iconst (v := 3) hx hb dL_law_1073 (by decide) ?_
  refine lv_iadd hx hb dL_law_1074 ?_
  refine k_top (y := 3) (by decide) ?_
  refine va_sld hx hb hX hbl hbA hS (by unfold vp_in; decide) dL_law_1075 ?_
  refine k_top (y := xs 3) (congrArg xs (by decide)) ?_
  refine ro_V (As := [.int (xs 1), .int (xs 2), .int (xs 3)]) (rest := [.int (-2)]) S (c_X10_wants l D k u mf (xs 1) (xs 2) (xs 3)) lkL_121 ok_X10_wants ⟨rfl, rfl, Nat.le_of_ble_eq_true rfl, Nat.le_of_ble_eq_true rfl⟩ (mw_V (ci := 10) (q0 := 0) hM rfl rfl) rfl hl.1 rfl (Nat.le_of_ble_eq_true rfl) hcs dL_law_1076 (fun r_2 er_2 => ?_)
  subst er_2
  refine lv_icmp_eq (tgt := 2212) hx hb dL_law_1079 (by decide) (fun _ => hend) (fun c_3 => absurd rfl c_3)
set_option maxHeartbeats 4000000 in
set_option maxRecDepth 100000 in
theorem case_26 {p : Program} {l : Launch} {e : Env} {s : State} {m : MethodId} {below : List Frame} {meth : Method} {c : Code} {H : Heap} {locs : List Loc} {cells slots : Nat} {Q : State → Prop} {b : Nat} {xs : Nat → Int32} {D : va_G} {k : Nat → ClassId} {q : Nat → Nat} {wf : Nat → Int32} {u : Nat → Nat} {mf : Nat → Int32} {ls : Array Slot} (C : LC p s m c b xs D k q wf u mf H locs ls cells slots) (hend : W p l e room_1 s m #[Value.ref b] below meth c H locs cells slots Q (F0 m 2212 ls [])) : W p l e room_1 s m #[Value.ref b] below meth c H locs cells slots Q (F0 m 1084 ls []) := by
  obtain ⟨S, hF, hM, hX, hbl, hS, hl, hcs⟩ := C
  have hx := S.1
  have hb := S.2.1
  have hown := S.2.2.2.1
  have hT := S.2.2.2.2
  have hbA : ¬ (fun z : Nat => s.heap.size ≤ z) b := Nat.not_le.mpr hbl
  refine lv_aload_n hx hb dL_law_1084 rfl (lv_at hl 1 rfl) ?_
  refine lv_aload_n hx hb dL_law_1085 rfl (lv_at hl 0 rfl) ?_
  refine lv_iload_n hx hb dL_law_1086 rfl (lv_at hl 3 rfl) ?_
  refine lv_iconst (v := 1) hx hb dL_law_1087 (by decide) ?_
  refine lv_iadd hx hb dL_law_1088 ?_
  refine k_top (y := 1) (by decide) ?_
  refine va_sld hx hb hX hbl hbA hS (by unfold vp_in; decide) dL_law_1089 ?_
  refine k_top (y := xs 1) (congrArg xs (by decide)) ?_
  refine ro_V (As := [.int (xs 1)]) (rest := []) S (c_X9_reach l D k q wf (xs 1)) lkL_122 ok_X9_reach ⟨rfl, rfl, Nat.le_of_ble_eq_true rfl, Nat.le_of_ble_eq_true rfl⟩ (fw_V (ci := 9) (q0 := 0) hF rfl rfl) rfl hl.1 rfl (Nat.le_of_ble_eq_true rfl) hcs dL_law_1090 (fun r_1 er_1 => ?_)
  subst er_1
  refine lv_aload_n hx hb dL_law_1093 rfl (lv_at hl 2 rfl) ?_
  refine lv_aload_n hx hb dL_law_1094 rfl (lv_at hl 0 rfl) ?_
  refine lv_iload_n hx hb dL_law_1095 rfl (lv_at hl 3 rfl) ?_
  refine lv_iconst (v := 1) hx hb dL_law_1096 (by decide) ?_
  refine lv_iadd hx hb dL_law_1097 ?_
  refine k_top (y := 1) (by decide) ?_
  refine va_sld hx hb hX hbl hbA hS (by unfold vp_in; decide) dL_law_1098 ?_
  refine k_top (y := xs 1) (congrArg xs (by decide)) ?_
  refine ro_V (As := [.int (xs 1)]) (rest := [.int (-2)]) S (c_X10_reach l D k u mf (xs 1)) lkL_125 ok_X10_reach ⟨rfl, rfl, Nat.le_of_ble_eq_true rfl, Nat.le_of_ble_eq_true rfl⟩ (mw_V (ci := 10) (q0 := 0) hM rfl rfl) rfl hl.1 rfl (Nat.le_of_ble_eq_true rfl) hcs dL_law_1099 (fun r_2 er_2 => ?_)
  subst er_2
  refine lv_icmp_eq (tgt := 2212) hx hb dL_law_1102 (by decide) (fun _ => hend) (fun c_3 => absurd rfl c_3)
set_option maxHeartbeats 4000000 in
set_option maxRecDepth 100000 in
theorem case_27 {p : Program} {l : Launch} {e : Env} {s : State} {m : MethodId} {below : List Frame} {meth : Method} {c : Code} {H : Heap} {locs : List Loc} {cells slots : Nat} {Q : State → Prop} {b : Nat} {xs : Nat → Int32} {D : va_G} {k : Nat → ClassId} {q : Nat → Nat} {wf : Nat → Int32} {u : Nat → Nat} {mf : Nat → Int32} {ls : Array Slot} (C : LC p s m c b xs D k q wf u mf H locs ls cells slots) (hend : W p l e room_1 s m #[Value.ref b] below meth c H locs cells slots Q (F0 m 2212 ls [])) : W p l e room_1 s m #[Value.ref b] below meth c H locs cells slots Q (F0 m 1107 ls []) := by
  obtain ⟨S, hF, hM, hX, hbl, hS, hl, hcs⟩ := C
  have hx := S.1
  have hb := S.2.1
  have hown := S.2.2.2.1
  have hT := S.2.2.2.2
  have hbA : ¬ (fun z : Nat => s.heap.size ≤ z) b := Nat.not_le.mpr hbl
  refine lv_aload_n hx hb dL_law_1107 rfl (lv_at hl 1 rfl) ?_
  refine lv_aload_n hx hb dL_law_1108 rfl (lv_at hl 0 rfl) ?_
  refine lv_iload_n hx hb dL_law_1109 rfl (lv_at hl 3 rfl) ?_
  refine lv_iconst (v := 1) hx hb dL_law_1110 (by decide) ?_
  refine lv_iadd hx hb dL_law_1111 ?_
  refine k_top (y := 1) (by decide) ?_
  refine va_sld hx hb hX hbl hbA hS (by unfold vp_in; decide) dL_law_1112 ?_
  refine k_top (y := xs 1) (congrArg xs (by decide)) ?_
  refine lv_aload_n hx hb dL_law_1113 rfl (lv_at hl 0 rfl) ?_
  refine lv_iload_n hx hb dL_law_1114 rfl (lv_at hl 3 rfl) ?_
  refine lv_iconst (v := 2) hx hb dL_law_1115 (by decide) ?_
  refine lv_iadd hx hb dL_law_1116 ?_
  refine k_top (y := 2) (by decide) ?_
  refine va_sld hx hb hX hbl hbA hS (by unfold vp_in; decide) dL_law_1117 ?_
  refine k_top (y := xs 2) (congrArg xs (by decide)) ?_
  refine ro_V (As := [.int (xs 1), .int (xs 2)]) (rest := []) S (c_X9_far l D k q wf (xs 1) (xs 2)) lkL_126 ok_X9_far ⟨rfl, rfl, Nat.le_of_ble_eq_true rfl, Nat.le_of_ble_eq_true rfl⟩ (fw_V (ci := 9) (q0 := 0) hF rfl rfl) rfl hl.1 rfl (Nat.le_of_ble_eq_true rfl) hcs dL_law_1118 (fun r_1 er_1 => ?_)
  subst er_1
  refine lv_aload_n hx hb dL_law_1121 rfl (lv_at hl 2 rfl) ?_
  refine lv_aload_n hx hb dL_law_1122 rfl (lv_at hl 0 rfl) ?_
  refine lv_iload_n hx hb dL_law_1123 rfl (lv_at hl 3 rfl) ?_
  refine lv_iconst (v := 1) hx hb dL_law_1124 (by decide) ?_
  refine lv_iadd hx hb dL_law_1125 ?_
  refine k_top (y := 1) (by decide) ?_
  refine va_sld hx hb hX hbl hbA hS (by unfold vp_in; decide) dL_law_1126 ?_
  refine k_top (y := xs 1) (congrArg xs (by decide)) ?_
  refine lv_aload_n hx hb dL_law_1127 rfl (lv_at hl 0 rfl) ?_
  refine lv_iload_n hx hb dL_law_1128 rfl (lv_at hl 3 rfl) ?_
  refine lv_iconst (v := 2) hx hb dL_law_1129 (by decide) ?_
  refine lv_iadd hx hb dL_law_1130 ?_
  refine k_top (y := 2) (by decide) ?_
  refine va_sld hx hb hX hbl hbA hS (by unfold vp_in; decide) dL_law_1131 ?_
  refine k_top (y := xs 2) (congrArg xs (by decide)) ?_
  refine ro_V (As := [.int (xs 1), .int (xs 2)]) (rest := [.int (-2)]) S (c_X10_far l D k u mf (xs 1) (xs 2)) lkL_129 ok_X10_far ⟨rfl, rfl, Nat.le_of_ble_eq_true rfl, Nat.le_of_ble_eq_true rfl⟩ (mw_V (ci := 10) (q0 := 0) hM rfl rfl) rfl hl.1 rfl (Nat.le_of_ble_eq_true rfl) hcs dL_law_1132 (fun r_2 er_2 => ?_)
  subst er_2
  refine lv_icmp_eq (tgt := 2212) hx hb dL_law_1135 (by decide) (fun _ => hend) (fun c_3 => absurd rfl c_3)
set_option maxHeartbeats 4000000 in
set_option maxRecDepth 100000 in
theorem case_28 {p : Program} {l : Launch} {e : Env} {s : State} {m : MethodId} {below : List Frame} {meth : Method} {c : Code} {H : Heap} {locs : List Loc} {cells slots : Nat} {Q : State → Prop} {b : Nat} {xs : Nat → Int32} {D : va_G} {k : Nat → ClassId} {q : Nat → Nat} {wf : Nat → Int32} {u : Nat → Nat} {mf : Nat → Int32} {ls : Array Slot} (C : LC p s m c b xs D k q wf u mf H locs ls cells slots) (hend : W p l e room_1 s m #[Value.ref b] below meth c H locs cells slots Q (F0 m 2212 ls [])) : W p l e room_1 s m #[Value.ref b] below meth c H locs cells slots Q (F0 m 1140 ls []) := by
  obtain ⟨S, hF, hM, hX, hbl, hS, hl, hcs⟩ := C
  have hx := S.1
  have hb := S.2.1
  have hown := S.2.2.2.1
  have hT := S.2.2.2.2
  have hbA : ¬ (fun z : Nat => s.heap.size ≤ z) b := Nat.not_le.mpr hbl
  refine lv_aload_n hx hb dL_law_1140 rfl (lv_at hl 1 rfl) ?_
  refine ro_V (As := []) (rest := []) S (c_X9_dues l D k q wf ) lkL_130 ok_X9_dues ⟨rfl, rfl, Nat.le_of_ble_eq_true rfl, Nat.le_of_ble_eq_true rfl⟩ (fw_V (ci := 9) (q0 := 0) hF rfl rfl) rfl hl.1 rfl (Nat.le_of_ble_eq_true rfl) hcs dL_law_1141 (fun r_1 er_1 => ?_)
  subst er_1
  refine lv_aload_n hx hb dL_law_1144 rfl (lv_at hl 2 rfl) ?_
  refine ro_V (As := []) (rest := [.int (-2)]) S (c_X10_dues l D k u mf ) lkL_133 ok_X10_dues ⟨rfl, rfl, Nat.le_of_ble_eq_true rfl, Nat.le_of_ble_eq_true rfl⟩ (mw_V (ci := 10) (q0 := 0) hM rfl rfl) rfl hl.1 rfl (Nat.le_of_ble_eq_true rfl) hcs dL_law_1145 (fun r_2 er_2 => ?_)
  subst er_2
  refine lv_icmp_eq (tgt := 2212) hx hb dL_law_1148 (by decide) (fun _ => hend) (fun c_3 => absurd rfl c_3)
set_option maxHeartbeats 4000000 in
set_option maxRecDepth 100000 in
theorem case_29 {p : Program} {l : Launch} {e : Env} {s : State} {m : MethodId} {below : List Frame} {meth : Method} {c : Code} {H : Heap} {locs : List Loc} {cells slots : Nat} {Q : State → Prop} {b : Nat} {xs : Nat → Int32} {D : va_G} {k : Nat → ClassId} {q : Nat → Nat} {wf : Nat → Int32} {u : Nat → Nat} {mf : Nat → Int32} {ls : Array Slot} (C : LC p s m c b xs D k q wf u mf H locs ls cells slots) (hend : W p l e room_1 s m #[Value.ref b] below meth c H locs cells slots Q (F0 m 2212 ls [])) : W p l e room_1 s m #[Value.ref b] below meth c H locs cells slots Q (F0 m 1153 ls []) := by
  obtain ⟨S, hF, hM, hX, hbl, hS, hl, hcs⟩ := C
  have hx := S.1
  have hb := S.2.1
  have hown := S.2.2.2.1
  have hT := S.2.2.2.2
  have hbA : ¬ (fun z : Nat => s.heap.size ≤ z) b := Nat.not_le.mpr hbl
  refine lv_aload_n hx hb dL_law_1153 rfl (lv_at hl 1 rfl) ?_
  refine lv_aload_n hx hb dL_law_1154 rfl (lv_at hl 0 rfl) ?_
  refine lv_iload_n hx hb dL_law_1155 rfl (lv_at hl 3 rfl) ?_
  refine lv_iconst (v := 1) hx hb dL_law_1156 (by decide) ?_
  refine lv_iadd hx hb dL_law_1157 ?_
  refine k_top (y := 1) (by decide) ?_
  refine va_sld hx hb hX hbl hbA hS (by unfold vp_in; decide) dL_law_1158 ?_
  refine k_top (y := xs 1) (congrArg xs (by decide)) ?_
  refine lv_aload_n hx hb dL_law_1159 rfl (lv_at hl 0 rfl) ?_
  refine lv_iload_n hx hb dL_law_1160 rfl (lv_at hl 3 rfl) ?_
  refine lv_iconst (v := 2) hx hb dL_law_1161 (by decide) ?_
  refine lv_iadd hx hb dL_law_1162 ?_
  refine k_top (y := 2) (by decide) ?_
  refine va_sld hx hb hX hbl hbA hS (by unfold vp_in; decide) dL_law_1163 ?_
  refine k_top (y := xs 2) (congrArg xs (by decide)) ?_
  refine ro_V (As := [.int (xs 1), .int (xs 2)]) (rest := []) S (c_X9_choose l D k q wf (xs 1) (xs 2)) lkL_134 ok_X9_choose ⟨rfl, rfl, Nat.le_of_ble_eq_true rfl, Nat.le_of_ble_eq_true rfl⟩ (fw_V (ci := 9) (q0 := 0) hF rfl rfl) rfl hl.1 rfl (Nat.le_of_ble_eq_true rfl) hcs dL_law_1164 (fun r_1 er_1 => ?_)
  subst er_1
  refine lv_aload_n hx hb dL_law_1167 rfl (lv_at hl 2 rfl) ?_
  refine lv_aload_n hx hb dL_law_1168 rfl (lv_at hl 0 rfl) ?_
  refine lv_iload_n hx hb dL_law_1169 rfl (lv_at hl 3 rfl) ?_
  refine lv_iconst (v := 1) hx hb dL_law_1170 (by decide) ?_
  refine lv_iadd hx hb dL_law_1171 ?_
  refine k_top (y := 1) (by decide) ?_
  refine va_sld hx hb hX hbl hbA hS (by unfold vp_in; decide) dL_law_1172 ?_
  refine k_top (y := xs 1) (congrArg xs (by decide)) ?_
  refine lv_aload_n hx hb dL_law_1173 rfl (lv_at hl 0 rfl) ?_
  refine lv_iload_n hx hb dL_law_1174 rfl (lv_at hl 3 rfl) ?_
  refine lv_iconst (v := 2) hx hb dL_law_1175 (by decide) ?_
  refine lv_iadd hx hb dL_law_1176 ?_
  refine k_top (y := 2) (by decide) ?_
  refine va_sld hx hb hX hbl hbA hS (by unfold vp_in; decide) dL_law_1177 ?_
  refine k_top (y := xs 2) (congrArg xs (by decide)) ?_
  refine ro_V (As := [.int (xs 1), .int (xs 2)]) (rest := [.int (-2)]) S (c_X10_choose l D k u mf (xs 1) (xs 2)) lkL_137 ok_X10_choose ⟨rfl, rfl, Nat.le_of_ble_eq_true rfl, Nat.le_of_ble_eq_true rfl⟩ (mw_V (ci := 10) (q0 := 0) hM rfl rfl) rfl hl.1 rfl (Nat.le_of_ble_eq_true rfl) hcs dL_law_1178 (fun r_2 er_2 => ?_)
  subst er_2
  refine lv_icmp_eq (tgt := 2212) hx hb dL_law_1181 (by decide) (fun _ => hend) (fun c_3 => absurd rfl c_3)
set_option maxHeartbeats 4000000 in
set_option maxRecDepth 100000 in
theorem case_30 {p : Program} {l : Launch} {e : Env} {s : State} {m : MethodId} {below : List Frame} {meth : Method} {c : Code} {H : Heap} {locs : List Loc} {cells slots : Nat} {Q : State → Prop} {b : Nat} {xs : Nat → Int32} {D : va_G} {k : Nat → ClassId} {q : Nat → Nat} {wf : Nat → Int32} {u : Nat → Nat} {mf : Nat → Int32} {ls : Array Slot} (C : LC p s m c b xs D k q wf u mf H locs ls cells slots) (hend : W p l e room_1 s m #[Value.ref b] below meth c H locs cells slots Q (F0 m 2212 ls [])) : W p l e room_1 s m #[Value.ref b] below meth c H locs cells slots Q (F0 m 1186 ls []) := by
  obtain ⟨S, hF, hM, hX, hbl, hS, hl, hcs⟩ := C
  have hx := S.1
  have hb := S.2.1
  have hown := S.2.2.2.1
  have hT := S.2.2.2.2
  have hbA : ¬ (fun z : Nat => s.heap.size ≤ z) b := Nat.not_le.mpr hbl
  refine lv_aload_n hx hb dL_law_1186 rfl (lv_at hl 1 rfl) ?_
  refine lv_aload_n hx hb dL_law_1187 rfl (lv_at hl 0 rfl) ?_
  refine lv_iload_n hx hb dL_law_1188 rfl (lv_at hl 3 rfl) ?_
  refine lv_iconst (v := 1) hx hb dL_law_1189 (by decide) ?_
  refine lv_iadd hx hb dL_law_1190 ?_
  refine k_top (y := 1) (by decide) ?_
  refine va_sld hx hb hX hbl hbA hS (by unfold vp_in; decide) dL_law_1191 ?_
  refine k_top (y := xs 1) (congrArg xs (by decide)) ?_
  refine lv_aload_n hx hb dL_law_1192 rfl (lv_at hl 0 rfl) ?_
  refine lv_iload_n hx hb dL_law_1193 rfl (lv_at hl 3 rfl) ?_
  refine lv_iconst (v := 2) hx hb dL_law_1194 (by decide) ?_
  refine lv_iadd hx hb dL_law_1195 ?_
  refine k_top (y := 2) (by decide) ?_
  refine va_sld hx hb hX hbl hbA hS (by unfold vp_in; decide) dL_law_1196 ?_
  refine k_top (y := xs 2) (congrArg xs (by decide)) ?_
  refine ro_V (As := [.int (xs 1), .int (xs 2)]) (rest := []) S (c_X9_chosen l D k q wf (xs 1) (xs 2)) lkL_138 ok_X9_chosen ⟨rfl, rfl, Nat.le_of_ble_eq_true rfl, Nat.le_of_ble_eq_true rfl⟩ (fw_V (ci := 9) (q0 := 0) hF rfl rfl) rfl hl.1 rfl (Nat.le_of_ble_eq_true rfl) hcs dL_law_1197 (fun r_1 er_1 => ?_)
  subst er_1
  refine lv_aload_n hx hb dL_law_1200 rfl (lv_at hl 2 rfl) ?_
  refine lv_aload_n hx hb dL_law_1201 rfl (lv_at hl 0 rfl) ?_
  refine lv_iload_n hx hb dL_law_1202 rfl (lv_at hl 3 rfl) ?_
  refine lv_iconst (v := 1) hx hb dL_law_1203 (by decide) ?_
  refine lv_iadd hx hb dL_law_1204 ?_
  refine k_top (y := 1) (by decide) ?_
  refine va_sld hx hb hX hbl hbA hS (by unfold vp_in; decide) dL_law_1205 ?_
  refine k_top (y := xs 1) (congrArg xs (by decide)) ?_
  refine lv_aload_n hx hb dL_law_1206 rfl (lv_at hl 0 rfl) ?_
  refine lv_iload_n hx hb dL_law_1207 rfl (lv_at hl 3 rfl) ?_
  refine lv_iconst (v := 2) hx hb dL_law_1208 (by decide) ?_
  refine lv_iadd hx hb dL_law_1209 ?_
  refine k_top (y := 2) (by decide) ?_
  refine va_sld hx hb hX hbl hbA hS (by unfold vp_in; decide) dL_law_1210 ?_
  refine k_top (y := xs 2) (congrArg xs (by decide)) ?_
  refine ro_V (As := [.int (xs 1), .int (xs 2)]) (rest := [.int (-2)]) S (c_X10_chosen l D k u mf (xs 1) (xs 2)) lkL_141 ok_X10_chosen ⟨rfl, rfl, Nat.le_of_ble_eq_true rfl, Nat.le_of_ble_eq_true rfl⟩ (mw_V (ci := 10) (q0 := 0) hM rfl rfl) rfl hl.1 rfl (Nat.le_of_ble_eq_true rfl) hcs dL_law_1211 (fun r_2 er_2 => ?_)
  subst er_2
  refine lv_icmp_eq (tgt := 2212) hx hb dL_law_1214 (by decide) (fun _ => hend) (fun c_3 => absurd rfl c_3)
