set_option maxHeartbeats 4000000 in
set_option maxRecDepth 100000 in
theorem lc_40 {p : Program} {l : Launch} {e : Env} {s : State} {m : MethodId} {below : List Frame} {meth : Method} {c : Code} {H : Heap} {locs : List Loc} {cells slots : Nat} {Q : State → Prop} {b L : Nat} {xs : Nat → Int32} {D : va_G} {k : Nat → ClassId} {a q : Nat → Nat} {st mt : CT} {sl ml : CL} {i : Int32} {ls : Array Slot} (G : LSX p s m c b L xs D k) (hv : ∀ j : Int32, 0 ≤ j.toInt → j.toInt ≤ 5 → vp_in (i + j) L) (hl : lv_has ls 4 [(0, .ref b), (1, .ref (a 0)), (2, .ref (q 0)), (3, .int i)]) (hcs : cells ≤ 600000 ∧ slots ≤ 7302250) (hI : INV st mt) (hP1 : va_P D vwCl (CWS k a st sl) H) (hP2 : va_P D vwCl (MWS k q mt ml) H) (hD : va_D (fun z : Nat => s.heap.size ≤ z) (CWS k a st sl ++ MWS k q mt ml)) (hS : va_S (fun z : Nat => s.heap.size ≤ z) s.heap H locs) (hend : ∀ (st mt : CT) (sl ml : CL) (H : Heap) (locs : List Loc), INV st mt → va_P D vwCl (CWS k a st sl) H → va_P D vwCl (MWS k q mt ml) H → va_D (fun z : Nat => s.heap.size ≤ z) (CWS k a st sl ++ MWS k q mt ml) → va_S (fun z : Nat => s.heap.size ≤ z) s.heap H locs → W p l e room_1 s m #[Value.ref b] below meth c H locs cells slots Q (F0 m 2212 ls [])) : W p l e room_1 s m #[Value.ref b] below meth c H locs cells slots Q (F0 m 1466 ls []) := by
  obtain ⟨S, hK, hN, hNS, hX, hbl⟩ := G
  obtain ⟨hB, hXB, hM, hWK, hXM, hR⟩ := hI
  have hx := S.1
  have hb := S.2.1
  have hown := S.2.2.2.1
  have hT := S.2.2.2.2
  have hbA : ¬ (fun z : Nat => s.heap.size ≤ z) b := Nat.not_le.mpr hbl
  have hA : ∀ q : Nat, s.heap.size ≤ q → (fun z : Nat => s.heap.size ≤ z) q := fun _ h => h
  refine lv_aload_n hx hb dL_law_1466 rfl (lv_at hl 1 rfl) ?_
  refine lv_aload_n hx hb dL_law_1467 rfl (lv_at hl 0 rfl) ?_
  refine lv_iload_n hx hb dL_law_1468 rfl (lv_at hl 3 rfl) ?_
  refine lv_iconst (v := 1) hx hb dL_law_1469 (by decide) ?_
  refine lv_iadd hx hb dL_law_1470 ?_
  refine va_sld hx hb hX hbl hbA hS (hv 1 (by decide) (by decide)) dL_law_1471 ?_
  refine ro_V (As := [.int (xs (i + 1).toNatClampNeg)]) (rest := []) S (s_X9_loved l D k a st sl (xs (i + 1).toNatClampNeg) _ hB ) lkL_178 ok_X9_loved ⟨rfl, rfl, Nat.le_of_ble_eq_true rfl, Nat.le_of_ble_eq_true rfl⟩ (pw_V (ci := 9) (q0 := 0) hK hN rfl cw_0 hP1 ((d_left hD).weaken (fun _ _ _ _ => trivial))) rfl hl.1 rfl (Nat.le_of_ble_eq_true rfl) hcs dL_law_1472 (fun r1 er1 => ?_)
  refine lv_pop hx hb dL_law_1475 rfl ?_
  refine lv_aload_n hx hb dL_law_1476 rfl (lv_at hl 2 rfl) ?_
  refine lv_aload_n hx hb dL_law_1477 rfl (lv_at hl 0 rfl) ?_
  refine lv_iload_n hx hb dL_law_1478 rfl (lv_at hl 3 rfl) ?_
  refine lv_iconst (v := 1) hx hb dL_law_1479 (by decide) ?_
  refine lv_iadd hx hb dL_law_1480 ?_
  refine va_sld hx hb hX hbl hbA hS (hv 1 (by decide) (by decide)) dL_law_1481 ?_
  refine tw_i hP2 hP1 (d_swap hD) hS hA (fun hDc => run_V (mc := 0) (ms := 0) (As := [.int (xs (i + 1).toNatClampNeg)]) (rest := []) S (m_X10_loved l D k q mt ml (xs (i + 1).toNatClampNeg) _ hM hWK) lkL_181 ok_X10_loved ⟨rfl, rfl, Nat.le_of_ble_eq_true rfl, Nat.le_of_ble_eq_true rfl⟩ (pw_V (ci := 10) (q0 := 0) hK hN rfl mw_0 hP2 hDc) rfl hl.1 rfl (Nat.le_of_ble_eq_true rfl) hcs dL_law_1482) (fun r2 m3 H9 locs9 hm3 hPa hPb hD9 hS9 => ?_)
  clear hP1 hP2 hD hS
  have hS := hS9
  have hP2 : va_P D vwCl (MWS k q m3 ml) H9 := hPa
  have hP1 := hPb
  have hD : va_D (fun z : Nat => s.heap.size ≤ z) (CWS k a st sl ++ MWS k q m3 ml) := d_swap hD9
  clear hPa hPb hD9 hS9
  obtain ⟨hBm3, gm3, fm3⟩ := hm3
  refine lv_pop hx hb dL_law_1485 rfl ?_
  refine lv_goto (tgt := 2212) hx hb dL_law_1486 (by decide) ?_
  exact hend st m3 sl ml _ _ ⟨hB, hXB, hBm3, (wok_of (gm3 1 (by decide)) hWK), (xm_fr hXM (gm3 2 (by decide)) (gm3 3 (by decide))), (rel_fr hR rfl rfl rfl (gm3 3 (by decide)) (gm3 18 (by decide)) (gm3 19 (by decide)))⟩ hP1 hP2 hD hS
set_option maxHeartbeats 4000000 in
set_option maxRecDepth 100000 in
theorem lc_41 {p : Program} {l : Launch} {e : Env} {s : State} {m : MethodId} {below : List Frame} {meth : Method} {c : Code} {H : Heap} {locs : List Loc} {cells slots : Nat} {Q : State → Prop} {b L : Nat} {xs : Nat → Int32} {D : va_G} {k : Nat → ClassId} {a q : Nat → Nat} {st mt : CT} {sl ml : CL} {i : Int32} {ls : Array Slot} (G : LSX p s m c b L xs D k) (hv : ∀ j : Int32, 0 ≤ j.toInt → j.toInt ≤ 5 → vp_in (i + j) L) (hl : lv_has ls 4 [(0, .ref b), (1, .ref (a 0)), (2, .ref (q 0)), (3, .int i)]) (hcs : cells ≤ 600000 ∧ slots ≤ 7302250) (hI : INV st mt) (hP1 : va_P D vwCl (CWS k a st sl) H) (hP2 : va_P D vwCl (MWS k q mt ml) H) (hD : va_D (fun z : Nat => s.heap.size ≤ z) (CWS k a st sl ++ MWS k q mt ml)) (hS : va_S (fun z : Nat => s.heap.size ≤ z) s.heap H locs) (hend : ∀ (st mt : CT) (sl ml : CL) (H : Heap) (locs : List Loc), INV st mt → va_P D vwCl (CWS k a st sl) H → va_P D vwCl (MWS k q mt ml) H → va_D (fun z : Nat => s.heap.size ≤ z) (CWS k a st sl ++ MWS k q mt ml) → va_S (fun z : Nat => s.heap.size ≤ z) s.heap H locs → W p l e room_1 s m #[Value.ref b] below meth c H locs cells slots Q (F0 m 2212 ls [])) : W p l e room_1 s m #[Value.ref b] below meth c H locs cells slots Q (F0 m 1489 ls []) := by
  obtain ⟨S, hK, hN, hNS, hX, hbl⟩ := G
  obtain ⟨hB, hXB, hM, hWK, hXM, hR⟩ := hI
  have hx := S.1
  have hb := S.2.1
  have hown := S.2.2.2.1
  have hT := S.2.2.2.2
  have hbA : ¬ (fun z : Nat => s.heap.size ≤ z) b := Nat.not_le.mpr hbl
  have hA : ∀ q : Nat, s.heap.size ≤ q → (fun z : Nat => s.heap.size ≤ z) q := fun _ h => h
  refine lv_aload_n hx hb dL_law_1489 rfl (lv_at hl 1 rfl) ?_
  refine ro_V (As := []) (rest := []) S (s_X9_dearest l D k a st sl  _ hB ) lkL_182 ok_X9_dearest ⟨rfl, rfl, Nat.le_of_ble_eq_true rfl, Nat.le_of_ble_eq_true rfl⟩ (pw_V (ci := 9) (q0 := 0) hK hN rfl cw_0 hP1 ((d_left hD).weaken (fun _ _ _ _ => trivial))) rfl hl.1 rfl (Nat.le_of_ble_eq_true rfl) hcs dL_law_1490 (fun r1 er1 => ?_)
  refine lv_pop hx hb dL_law_1493 rfl ?_
  refine lv_aload_n hx hb dL_law_1494 rfl (lv_at hl 2 rfl) ?_
  refine tw_i hP2 hP1 (d_swap hD) hS hA (fun hDc => run_V (mc := 0) (ms := 0) (As := []) (rest := []) S (m_X10_dearest l D k q mt ml  _ hM hWK) lkL_185 ok_X10_dearest ⟨rfl, rfl, Nat.le_of_ble_eq_true rfl, Nat.le_of_ble_eq_true rfl⟩ (pw_V (ci := 10) (q0 := 0) hK hN rfl mw_0 hP2 hDc) rfl hl.1 rfl (Nat.le_of_ble_eq_true rfl) hcs dL_law_1495) (fun r2 m3 H9 locs9 hm3 hPa hPb hD9 hS9 => ?_)
  clear hP1 hP2 hD hS
  have hS := hS9
  have hP2 : va_P D vwCl (MWS k q m3 ml) H9 := hPa
  have hP1 := hPb
  have hD : va_D (fun z : Nat => s.heap.size ≤ z) (CWS k a st sl ++ MWS k q m3 ml) := d_swap hD9
  clear hPa hPb hD9 hS9
  obtain ⟨hBm3, gm3, fm3⟩ := hm3
  refine lv_pop hx hb dL_law_1498 rfl ?_
  refine lv_goto (tgt := 2212) hx hb dL_law_1499 (by decide) ?_
  exact hend st m3 sl ml _ _ ⟨hB, hXB, hBm3, (wok_of (gm3 1 (by decide)) hWK), (xm_fr hXM (gm3 2 (by decide)) (gm3 3 (by decide))), (rel_fr hR rfl rfl rfl (gm3 3 (by decide)) (gm3 18 (by decide)) (gm3 19 (by decide)))⟩ hP1 hP2 hD hS
set_option maxHeartbeats 4000000 in
set_option maxRecDepth 100000 in
theorem lc_42 {p : Program} {l : Launch} {e : Env} {s : State} {m : MethodId} {below : List Frame} {meth : Method} {c : Code} {H : Heap} {locs : List Loc} {cells slots : Nat} {Q : State → Prop} {b L : Nat} {xs : Nat → Int32} {D : va_G} {k : Nat → ClassId} {a q : Nat → Nat} {st mt : CT} {sl ml : CL} {i : Int32} {ls : Array Slot} (G : LSX p s m c b L xs D k) (hv : ∀ j : Int32, 0 ≤ j.toInt → j.toInt ≤ 5 → vp_in (i + j) L) (hl : lv_has ls 4 [(0, .ref b), (1, .ref (a 0)), (2, .ref (q 0)), (3, .int i)]) (hcs : cells ≤ 600000 ∧ slots ≤ 7302250) (hI : INV st mt) (hP1 : va_P D vwCl (CWS k a st sl) H) (hP2 : va_P D vwCl (MWS k q mt ml) H) (hD : va_D (fun z : Nat => s.heap.size ≤ z) (CWS k a st sl ++ MWS k q mt ml)) (hS : va_S (fun z : Nat => s.heap.size ≤ z) s.heap H locs) (hend : ∀ (st mt : CT) (sl ml : CL) (H : Heap) (locs : List Loc), INV st mt → va_P D vwCl (CWS k a st sl) H → va_P D vwCl (MWS k q mt ml) H → va_D (fun z : Nat => s.heap.size ≤ z) (CWS k a st sl ++ MWS k q mt ml) → va_S (fun z : Nat => s.heap.size ≤ z) s.heap H locs → W p l e room_1 s m #[Value.ref b] below meth c H locs cells slots Q (F0 m 2212 ls [])) : W p l e room_1 s m #[Value.ref b] below meth c H locs cells slots Q (F0 m 1502 ls []) := by
  obtain ⟨S, hK, hN, hNS, hX, hbl⟩ := G
  obtain ⟨hB, hXB, hM, hWK, hXM, hR⟩ := hI
  have hx := S.1
  have hb := S.2.1
  have hown := S.2.2.2.1
  have hT := S.2.2.2.2
  have hbA : ¬ (fun z : Nat => s.heap.size ≤ z) b := Nat.not_le.mpr hbl
  have hA : ∀ q : Nat, s.heap.size ≤ q → (fun z : Nat => s.heap.size ≤ z) q := fun _ h => h
  refine lv_aload_n hx hb dL_law_1502 rfl (lv_at hl 1 rfl) ?_
  refine lv_aload_n hx hb dL_law_1503 rfl (lv_at hl 0 rfl) ?_
  refine lv_iload_n hx hb dL_law_1504 rfl (lv_at hl 3 rfl) ?_
  refine lv_iconst (v := 1) hx hb dL_law_1505 (by decide) ?_
  refine lv_iadd hx hb dL_law_1506 ?_
  refine va_sld hx hb hX hbl hbA hS (hv 1 (by decide) (by decide)) dL_law_1507 ?_
  refine lv_aload_n hx hb dL_law_1508 rfl (lv_at hl 0 rfl) ?_
  refine lv_iload_n hx hb dL_law_1509 rfl (lv_at hl 3 rfl) ?_
  refine lv_iconst (v := 2) hx hb dL_law_1510 (by decide) ?_
  refine lv_iadd hx hb dL_law_1511 ?_
  refine va_sld hx hb hX hbl hbA hS (hv 2 (by decide) (by decide)) dL_law_1512 ?_
  refine ro_V (As := [.int (xs (i + 1).toNatClampNeg), .int (xs (i + 2).toNatClampNeg)]) (rest := []) S (s_X9_agree l D k a st sl (xs (i + 1).toNatClampNeg) (xs (i + 2).toNatClampNeg) _ hB ) lkL_186 ok_X9_agree ⟨rfl, rfl, Nat.le_of_ble_eq_true rfl, Nat.le_of_ble_eq_true rfl⟩ (pw_V (ci := 9) (q0 := 0) hK hN rfl cw_0 hP1 ((d_left hD).weaken (fun _ _ _ _ => trivial))) rfl hl.1 rfl (Nat.le_of_ble_eq_true rfl) hcs dL_law_1513 (fun r1 er1 => ?_)
  refine lv_pop hx hb dL_law_1516 rfl ?_
  refine lv_aload_n hx hb dL_law_1517 rfl (lv_at hl 2 rfl) ?_
  refine lv_aload_n hx hb dL_law_1518 rfl (lv_at hl 0 rfl) ?_
  refine lv_iload_n hx hb dL_law_1519 rfl (lv_at hl 3 rfl) ?_
  refine lv_iconst (v := 1) hx hb dL_law_1520 (by decide) ?_
  refine lv_iadd hx hb dL_law_1521 ?_
  refine va_sld hx hb hX hbl hbA hS (hv 1 (by decide) (by decide)) dL_law_1522 ?_
  refine lv_aload_n hx hb dL_law_1523 rfl (lv_at hl 0 rfl) ?_
  refine lv_iload_n hx hb dL_law_1524 rfl (lv_at hl 3 rfl) ?_
  refine lv_iconst (v := 2) hx hb dL_law_1525 (by decide) ?_
  refine lv_iadd hx hb dL_law_1526 ?_
  refine va_sld hx hb hX hbl hbA hS (hv 2 (by decide) (by decide)) dL_law_1527 ?_
  refine tw_i hP2 hP1 (d_swap hD) hS hA (fun hDc => run_V (mc := 0) (ms := 0) (As := [.int (xs (i + 1).toNatClampNeg), .int (xs (i + 2).toNatClampNeg)]) (rest := []) S (m_X10_agree l D k q mt ml (xs (i + 1).toNatClampNeg) (xs (i + 2).toNatClampNeg) _ hM hWK) lkL_189 ok_X10_agree ⟨rfl, rfl, Nat.le_of_ble_eq_true rfl, Nat.le_of_ble_eq_true rfl⟩ (pw_V (ci := 10) (q0 := 0) hK hN rfl mw_0 hP2 hDc) rfl hl.1 rfl (Nat.le_of_ble_eq_true rfl) hcs dL_law_1528) (fun r2 m3 H9 locs9 hm3 hPa hPb hD9 hS9 => ?_)
  clear hP1 hP2 hD hS
  have hS := hS9
  have hP2 : va_P D vwCl (MWS k q m3 ml) H9 := hPa
  have hP1 := hPb
  have hD : va_D (fun z : Nat => s.heap.size ≤ z) (CWS k a st sl ++ MWS k q m3 ml) := d_swap hD9
  clear hPa hPb hD9 hS9
  obtain ⟨hBm3, gm3, fm3⟩ := hm3
  refine lv_pop hx hb dL_law_1531 rfl ?_
  refine lv_goto (tgt := 2212) hx hb dL_law_1532 (by decide) ?_
  exact hend st m3 sl ml _ _ ⟨hB, hXB, hBm3, (wok_of (gm3 1 (by decide)) hWK), (xm_fr hXM (gm3 2 (by decide)) (gm3 3 (by decide))), (rel_fr hR rfl rfl rfl (gm3 3 (by decide)) (gm3 18 (by decide)) (gm3 19 (by decide)))⟩ hP1 hP2 hD hS
set_option maxHeartbeats 4000000 in
set_option maxRecDepth 100000 in
theorem lc_43 {p : Program} {l : Launch} {e : Env} {s : State} {m : MethodId} {below : List Frame} {meth : Method} {c : Code} {H : Heap} {locs : List Loc} {cells slots : Nat} {Q : State → Prop} {b L : Nat} {xs : Nat → Int32} {D : va_G} {k : Nat → ClassId} {a q : Nat → Nat} {st mt : CT} {sl ml : CL} {i : Int32} {ls : Array Slot} (G : LSX p s m c b L xs D k) (hv : ∀ j : Int32, 0 ≤ j.toInt → j.toInt ≤ 5 → vp_in (i + j) L) (hl : lv_has ls 4 [(0, .ref b), (1, .ref (a 0)), (2, .ref (q 0)), (3, .int i)]) (hcs : cells ≤ 600000 ∧ slots ≤ 7302250) (hI : INV st mt) (hP1 : va_P D vwCl (CWS k a st sl) H) (hP2 : va_P D vwCl (MWS k q mt ml) H) (hD : va_D (fun z : Nat => s.heap.size ≤ z) (CWS k a st sl ++ MWS k q mt ml)) (hS : va_S (fun z : Nat => s.heap.size ≤ z) s.heap H locs) (hend : ∀ (st mt : CT) (sl ml : CL) (H : Heap) (locs : List Loc), INV st mt → va_P D vwCl (CWS k a st sl) H → va_P D vwCl (MWS k q mt ml) H → va_D (fun z : Nat => s.heap.size ≤ z) (CWS k a st sl ++ MWS k q mt ml) → va_S (fun z : Nat => s.heap.size ≤ z) s.heap H locs → W p l e room_1 s m #[Value.ref b] below meth c H locs cells slots Q (F0 m 2212 ls [])) : W p l e room_1 s m #[Value.ref b] below meth c H locs cells slots Q (F0 m 1535 ls []) := by
  obtain ⟨S, hK, hN, hNS, hX, hbl⟩ := G
  obtain ⟨hB, hXB, hM, hWK, hXM, hR⟩ := hI
  have hx := S.1
  have hb := S.2.1
  have hown := S.2.2.2.1
  have hT := S.2.2.2.2
  have hbA : ¬ (fun z : Nat => s.heap.size ≤ z) b := Nat.not_le.mpr hbl
  have hA : ∀ q : Nat, s.heap.size ≤ q → (fun z : Nat => s.heap.size ≤ z) q := fun _ h => h
  refine lv_aload_n hx hb dL_law_1535 rfl (lv_at hl 1 rfl) ?_
  refine lv_aload_n hx hb dL_law_1536 rfl (lv_at hl 0 rfl) ?_
  refine lv_iload_n hx hb dL_law_1537 rfl (lv_at hl 3 rfl) ?_
  refine lv_iconst (v := 1) hx hb dL_law_1538 (by decide) ?_
  refine lv_iadd hx hb dL_law_1539 ?_
  refine va_sld hx hb hX hbl hbA hS (hv 1 (by decide) (by decide)) dL_law_1540 ?_
  refine ro_V (As := [.int (xs (i + 1).toNatClampNeg)]) (rest := []) S (s_X9_mate l D k a st sl (xs (i + 1).toNatClampNeg) _ hB ) lkL_190 ok_X9_mate ⟨rfl, rfl, Nat.le_of_ble_eq_true rfl, Nat.le_of_ble_eq_true rfl⟩ (pw_V (ci := 9) (q0 := 0) hK hN rfl cw_0 hP1 ((d_left hD).weaken (fun _ _ _ _ => trivial))) rfl hl.1 rfl (Nat.le_of_ble_eq_true rfl) hcs dL_law_1541 (fun r1 er1 => ?_)
  refine lv_pop hx hb dL_law_1544 rfl ?_
  refine lv_aload_n hx hb dL_law_1545 rfl (lv_at hl 2 rfl) ?_
  refine lv_aload_n hx hb dL_law_1546 rfl (lv_at hl 0 rfl) ?_
  refine lv_iload_n hx hb dL_law_1547 rfl (lv_at hl 3 rfl) ?_
  refine lv_iconst (v := 1) hx hb dL_law_1548 (by decide) ?_
  refine lv_iadd hx hb dL_law_1549 ?_
  refine va_sld hx hb hX hbl hbA hS (hv 1 (by decide) (by decide)) dL_law_1550 ?_
  refine tw_i hP2 hP1 (d_swap hD) hS hA (fun hDc => run_V (mc := 0) (ms := 0) (As := [.int (xs (i + 1).toNatClampNeg)]) (rest := []) S (m_X10_mate l D k q mt ml (xs (i + 1).toNatClampNeg) _ hM hWK) lkL_193 ok_X10_mate ⟨rfl, rfl, Nat.le_of_ble_eq_true rfl, Nat.le_of_ble_eq_true rfl⟩ (pw_V (ci := 10) (q0 := 0) hK hN rfl mw_0 hP2 hDc) rfl hl.1 rfl (Nat.le_of_ble_eq_true rfl) hcs dL_law_1551) (fun r2 m3 H9 locs9 hm3 hPa hPb hD9 hS9 => ?_)
  clear hP1 hP2 hD hS
  have hS := hS9
  have hP2 : va_P D vwCl (MWS k q m3 ml) H9 := hPa
  have hP1 := hPb
  have hD : va_D (fun z : Nat => s.heap.size ≤ z) (CWS k a st sl ++ MWS k q m3 ml) := d_swap hD9
  clear hPa hPb hD9 hS9
  obtain ⟨hBm3, gm3, fm3⟩ := hm3
  refine lv_pop hx hb dL_law_1554 rfl ?_
  refine lv_goto (tgt := 2212) hx hb dL_law_1555 (by decide) ?_
  exact hend st m3 sl ml _ _ ⟨hB, hXB, hBm3, (wok_of (gm3 1 (by decide)) hWK), (xm_fr hXM (gm3 2 (by decide)) (gm3 3 (by decide))), (rel_fr hR rfl rfl rfl (gm3 3 (by decide)) (gm3 18 (by decide)) (gm3 19 (by decide)))⟩ hP1 hP2 hD hS
set_option maxHeartbeats 4000000 in
set_option maxRecDepth 100000 in
theorem lc_44 {p : Program} {l : Launch} {e : Env} {s : State} {m : MethodId} {below : List Frame} {meth : Method} {c : Code} {H : Heap} {locs : List Loc} {cells slots : Nat} {Q : State → Prop} {b L : Nat} {xs : Nat → Int32} {D : va_G} {k : Nat → ClassId} {a q : Nat → Nat} {st mt : CT} {sl ml : CL} {i : Int32} {ls : Array Slot} (G : LSX p s m c b L xs D k) (hv : ∀ j : Int32, 0 ≤ j.toInt → j.toInt ≤ 5 → vp_in (i + j) L) (hl : lv_has ls 4 [(0, .ref b), (1, .ref (a 0)), (2, .ref (q 0)), (3, .int i)]) (hcs : cells ≤ 600000 ∧ slots ≤ 7302250) (hI : INV st mt) (hP1 : va_P D vwCl (CWS k a st sl) H) (hP2 : va_P D vwCl (MWS k q mt ml) H) (hD : va_D (fun z : Nat => s.heap.size ≤ z) (CWS k a st sl ++ MWS k q mt ml)) (hS : va_S (fun z : Nat => s.heap.size ≤ z) s.heap H locs) (hend : ∀ (st mt : CT) (sl ml : CL) (H : Heap) (locs : List Loc), INV st mt → va_P D vwCl (CWS k a st sl) H → va_P D vwCl (MWS k q mt ml) H → va_D (fun z : Nat => s.heap.size ≤ z) (CWS k a st sl ++ MWS k q mt ml) → va_S (fun z : Nat => s.heap.size ≤ z) s.heap H locs → W p l e room_1 s m #[Value.ref b] below meth c H locs cells slots Q (F0 m 2212 ls [])) : W p l e room_1 s m #[Value.ref b] below meth c H locs cells slots Q (F0 m 1558 ls []) := by
  obtain ⟨S, hK, hN, hNS, hX, hbl⟩ := G
  obtain ⟨hB, hXB, hM, hWK, hXM, hR⟩ := hI
  have hx := S.1
  have hb := S.2.1
  have hown := S.2.2.2.1
  have hT := S.2.2.2.2
  have hbA : ¬ (fun z : Nat => s.heap.size ≤ z) b := Nat.not_le.mpr hbl
  have hA : ∀ q : Nat, s.heap.size ≤ q → (fun z : Nat => s.heap.size ≤ z) q := fun _ h => h
  refine lv_aload_n hx hb dL_law_1558 rfl (lv_at hl 1 rfl) ?_
  refine lv_aload_n hx hb dL_law_1559 rfl (lv_at hl 0 rfl) ?_
  refine lv_iload_n hx hb dL_law_1560 rfl (lv_at hl 3 rfl) ?_
  refine lv_iconst (v := 1) hx hb dL_law_1561 (by decide) ?_
  refine lv_iadd hx hb dL_law_1562 ?_
  refine va_sld hx hb hX hbl hbA hS (hv 1 (by decide) (by decide)) dL_law_1563 ?_
  refine lv_aload_n hx hb dL_law_1564 rfl (lv_at hl 0 rfl) ?_
  refine lv_iload_n hx hb dL_law_1565 rfl (lv_at hl 3 rfl) ?_
  refine lv_iconst (v := 2) hx hb dL_law_1566 (by decide) ?_
  refine lv_iadd hx hb dL_law_1567 ?_
  refine va_sld hx hb hX hbl hbA hS (hv 2 (by decide) (by decide)) dL_law_1568 ?_
  refine tw_i hP1 hP2 hD hS hA (fun hDc => run_V (mc := 0) (ms := 0) (As := [.int (xs (i + 1).toNatClampNeg), .int (xs (i + 2).toNatClampNeg)]) (rest := []) S (s_X9_teach l D k a st sl (xs (i + 1).toNatClampNeg) (xs (i + 2).toNatClampNeg) _ hB ) lkL_194 ok_X9_teach ⟨rfl, rfl, Nat.le_of_ble_eq_true rfl, Nat.le_of_ble_eq_true rfl⟩ (pw_V (ci := 9) (q0 := 0) hK hN rfl cw_0 hP1 hDc) rfl hl.1 rfl (Nat.le_of_ble_eq_true rfl) hcs dL_law_1569) (fun r1 s2 H9 locs9 hs2 hPa hPb hD9 hS9 => ?_)
  clear hP1 hP2 hD hS
  have hS := hS9
  have hP1 : va_P D vwCl (CWS k a s2 sl) H9 := hPa
  have hP2 := hPb
  have hD : va_D (fun z : Nat => s.heap.size ≤ z) (CWS k a s2 sl ++ MWS k q mt ml) := hD9
  clear hPa hPb hD9 hS9
  obtain ⟨hBs2, gs2, fs2⟩ := hs2
  refine lv_pop hx hb dL_law_1572 rfl ?_
  refine lv_aload_n hx hb dL_law_1573 rfl (lv_at hl 2 rfl) ?_
  refine lv_aload_n hx hb dL_law_1574 rfl (lv_at hl 0 rfl) ?_
  refine lv_iload_n hx hb dL_law_1575 rfl (lv_at hl 3 rfl) ?_
  refine lv_iconst (v := 1) hx hb dL_law_1576 (by decide) ?_
  refine lv_iadd hx hb dL_law_1577 ?_
  refine va_sld hx hb hX hbl hbA hS (hv 1 (by decide) (by decide)) dL_law_1578 ?_
  refine lv_aload_n hx hb dL_law_1579 rfl (lv_at hl 0 rfl) ?_
  refine lv_iload_n hx hb dL_law_1580 rfl (lv_at hl 3 rfl) ?_
  refine lv_iconst (v := 2) hx hb dL_law_1581 (by decide) ?_
  refine lv_iadd hx hb dL_law_1582 ?_
  refine va_sld hx hb hX hbl hbA hS (hv 2 (by decide) (by decide)) dL_law_1583 ?_
  refine tw_i hP2 hP1 (d_swap hD) hS hA (fun hDc => run_V (mc := 0) (ms := 0) (As := [.int (xs (i + 1).toNatClampNeg), .int (xs (i + 2).toNatClampNeg)]) (rest := []) S (m_X10_teach l D k q mt ml (xs (i + 1).toNatClampNeg) (xs (i + 2).toNatClampNeg) _ hM hWK) lkL_197 ok_X10_teach ⟨rfl, rfl, Nat.le_of_ble_eq_true rfl, Nat.le_of_ble_eq_true rfl⟩ (pw_V (ci := 10) (q0 := 0) hK hN rfl mw_0 hP2 hDc) rfl hl.1 rfl (Nat.le_of_ble_eq_true rfl) hcs dL_law_1584) (fun r3 m4 H9 locs9 hm4 hPa hPb hD9 hS9 => ?_)
  clear hP1 hP2 hD hS
  have hS := hS9
  have hP2 : va_P D vwCl (MWS k q m4 ml) H9 := hPa
  have hP1 := hPb
  have hD : va_D (fun z : Nat => s.heap.size ≤ z) (CWS k a s2 sl ++ MWS k q m4 ml) := d_swap hD9
  clear hPa hPb hD9 hS9
  obtain ⟨hBm4, gm4, fm4⟩ := hm4
  refine lv_pop hx hb dL_law_1587 rfl ?_
  refine lv_goto (tgt := 2212) hx hb dL_law_1588 (by decide) ?_
  exact hend s2 m4 sl ml _ _ ⟨hBs2, (xb_fr hXB gs2 (by decide)), hBm4, (wok_of (gm4 1 (by decide)) hWK), (xm_fr hXM (gm4 2 (by decide)) (gm4 3 (by decide))), (rel_fr hR (gs2 110 (by decide)) (gs2 112 (by decide)) (gs2 113 (by decide)) (gm4 3 (by decide)) (gm4 18 (by decide)) (gm4 19 (by decide)))⟩ hP1 hP2 hD hS
set_option maxHeartbeats 4000000 in
set_option maxRecDepth 100000 in
theorem lc_45 {p : Program} {l : Launch} {e : Env} {s : State} {m : MethodId} {below : List Frame} {meth : Method} {c : Code} {H : Heap} {locs : List Loc} {cells slots : Nat} {Q : State → Prop} {b L : Nat} {xs : Nat → Int32} {D : va_G} {k : Nat → ClassId} {a q : Nat → Nat} {st mt : CT} {sl ml : CL} {i : Int32} {ls : Array Slot} (G : LSX p s m c b L xs D k) (hv : ∀ j : Int32, 0 ≤ j.toInt → j.toInt ≤ 5 → vp_in (i + j) L) (hl : lv_has ls 4 [(0, .ref b), (1, .ref (a 0)), (2, .ref (q 0)), (3, .int i)]) (hcs : cells ≤ 600000 ∧ slots ≤ 7302250) (hI : INV st mt) (hP1 : va_P D vwCl (CWS k a st sl) H) (hP2 : va_P D vwCl (MWS k q mt ml) H) (hD : va_D (fun z : Nat => s.heap.size ≤ z) (CWS k a st sl ++ MWS k q mt ml)) (hS : va_S (fun z : Nat => s.heap.size ≤ z) s.heap H locs) (hend : ∀ (st mt : CT) (sl ml : CL) (H : Heap) (locs : List Loc), INV st mt → va_P D vwCl (CWS k a st sl) H → va_P D vwCl (MWS k q mt ml) H → va_D (fun z : Nat => s.heap.size ≤ z) (CWS k a st sl ++ MWS k q mt ml) → va_S (fun z : Nat => s.heap.size ≤ z) s.heap H locs → W p l e room_1 s m #[Value.ref b] below meth c H locs cells slots Q (F0 m 2212 ls [])) : W p l e room_1 s m #[Value.ref b] below meth c H locs cells slots Q (F0 m 1591 ls []) := by
  obtain ⟨S, hK, hN, hNS, hX, hbl⟩ := G
  obtain ⟨hB, hXB, hM, hWK, hXM, hR⟩ := hI
  have hx := S.1
  have hb := S.2.1
  have hown := S.2.2.2.1
  have hT := S.2.2.2.2
  have hbA : ¬ (fun z : Nat => s.heap.size ≤ z) b := Nat.not_le.mpr hbl
  have hA : ∀ q : Nat, s.heap.size ≤ q → (fun z : Nat => s.heap.size ≤ z) q := fun _ h => h
  refine lv_aload_n hx hb dL_law_1591 rfl (lv_at hl 1 rfl) ?_
  refine lv_aload_n hx hb dL_law_1592 rfl (lv_at hl 0 rfl) ?_
  refine lv_iload_n hx hb dL_law_1593 rfl (lv_at hl 3 rfl) ?_
  refine lv_iconst (v := 1) hx hb dL_law_1594 (by decide) ?_
  refine lv_iadd hx hb dL_law_1595 ?_
  refine va_sld hx hb hX hbl hbA hS (hv 1 (by decide) (by decide)) dL_law_1596 ?_
  refine lv_aload_n hx hb dL_law_1597 rfl (lv_at hl 0 rfl) ?_
  refine lv_iload_n hx hb dL_law_1598 rfl (lv_at hl 3 rfl) ?_
  refine lv_iconst (v := 2) hx hb dL_law_1599 (by decide) ?_
  refine lv_iadd hx hb dL_law_1600 ?_
  refine va_sld hx hb hX hbl hbA hS (hv 2 (by decide) (by decide)) dL_law_1601 ?_
  refine ro_V (As := [.int (xs (i + 1).toNatClampNeg), .int (xs (i + 2).toNatClampNeg)]) (rest := []) S (s_X9_blind l D k a st sl (xs (i + 1).toNatClampNeg) (xs (i + 2).toNatClampNeg) _ hB ) lkL_198 ok_X9_blind ⟨rfl, rfl, Nat.le_of_ble_eq_true rfl, Nat.le_of_ble_eq_true rfl⟩ (pw_V (ci := 9) (q0 := 0) hK hN rfl cw_0 hP1 ((d_left hD).weaken (fun _ _ _ _ => trivial))) rfl hl.1 rfl (Nat.le_of_ble_eq_true rfl) hcs dL_law_1602 (fun r1 er1 => ?_)
  refine lv_pop hx hb dL_law_1605 rfl ?_
  refine lv_aload_n hx hb dL_law_1606 rfl (lv_at hl 2 rfl) ?_
  refine lv_aload_n hx hb dL_law_1607 rfl (lv_at hl 0 rfl) ?_
  refine lv_iload_n hx hb dL_law_1608 rfl (lv_at hl 3 rfl) ?_
  refine lv_iconst (v := 1) hx hb dL_law_1609 (by decide) ?_
  refine lv_iadd hx hb dL_law_1610 ?_
  refine va_sld hx hb hX hbl hbA hS (hv 1 (by decide) (by decide)) dL_law_1611 ?_
  refine lv_aload_n hx hb dL_law_1612 rfl (lv_at hl 0 rfl) ?_
  refine lv_iload_n hx hb dL_law_1613 rfl (lv_at hl 3 rfl) ?_
  refine lv_iconst (v := 2) hx hb dL_law_1614 (by decide) ?_
  refine lv_iadd hx hb dL_law_1615 ?_
  refine va_sld hx hb hX hbl hbA hS (hv 2 (by decide) (by decide)) dL_law_1616 ?_
  refine tw_i hP2 hP1 (d_swap hD) hS hA (fun hDc => run_V (mc := 0) (ms := 0) (As := [.int (xs (i + 1).toNatClampNeg), .int (xs (i + 2).toNatClampNeg)]) (rest := []) S (m_X10_blind l D k q mt ml (xs (i + 1).toNatClampNeg) (xs (i + 2).toNatClampNeg) _ hM hWK) lkL_201 ok_X10_blind ⟨rfl, rfl, Nat.le_of_ble_eq_true rfl, Nat.le_of_ble_eq_true rfl⟩ (pw_V (ci := 10) (q0 := 0) hK hN rfl mw_0 hP2 hDc) rfl hl.1 rfl (Nat.le_of_ble_eq_true rfl) hcs dL_law_1617) (fun r2 m3 H9 locs9 hm3 hPa hPb hD9 hS9 => ?_)
  clear hP1 hP2 hD hS
  have hS := hS9
  have hP2 : va_P D vwCl (MWS k q m3 ml) H9 := hPa
  have hP1 := hPb
  have hD : va_D (fun z : Nat => s.heap.size ≤ z) (CWS k a st sl ++ MWS k q m3 ml) := d_swap hD9
  clear hPa hPb hD9 hS9
  obtain ⟨hBm3, gm3, fm3⟩ := hm3
  refine lv_pop hx hb dL_law_1620 rfl ?_
  refine lv_goto (tgt := 2212) hx hb dL_law_1621 (by decide) ?_
  exact hend st m3 sl ml _ _ ⟨hB, hXB, hBm3, (wok_of (gm3 1 (by decide)) hWK), (xm_fr hXM (gm3 2 (by decide)) (gm3 3 (by decide))), (rel_fr hR rfl rfl rfl (gm3 3 (by decide)) (gm3 18 (by decide)) (gm3 19 (by decide)))⟩ hP1 hP2 hD hS
set_option maxHeartbeats 4000000 in
set_option maxRecDepth 100000 in
theorem lc_46 {p : Program} {l : Launch} {e : Env} {s : State} {m : MethodId} {below : List Frame} {meth : Method} {c : Code} {H : Heap} {locs : List Loc} {cells slots : Nat} {Q : State → Prop} {b L : Nat} {xs : Nat → Int32} {D : va_G} {k : Nat → ClassId} {a q : Nat → Nat} {st mt : CT} {sl ml : CL} {i : Int32} {ls : Array Slot} (G : LSX p s m c b L xs D k) (hv : ∀ j : Int32, 0 ≤ j.toInt → j.toInt ≤ 5 → vp_in (i + j) L) (hl : lv_has ls 4 [(0, .ref b), (1, .ref (a 0)), (2, .ref (q 0)), (3, .int i)]) (hcs : cells ≤ 600000 ∧ slots ≤ 7302250) (hI : INV st mt) (hP1 : va_P D vwCl (CWS k a st sl) H) (hP2 : va_P D vwCl (MWS k q mt ml) H) (hD : va_D (fun z : Nat => s.heap.size ≤ z) (CWS k a st sl ++ MWS k q mt ml)) (hS : va_S (fun z : Nat => s.heap.size ≤ z) s.heap H locs) (hend : ∀ (st mt : CT) (sl ml : CL) (H : Heap) (locs : List Loc), INV st mt → va_P D vwCl (CWS k a st sl) H → va_P D vwCl (MWS k q mt ml) H → va_D (fun z : Nat => s.heap.size ≤ z) (CWS k a st sl ++ MWS k q mt ml) → va_S (fun z : Nat => s.heap.size ≤ z) s.heap H locs → W p l e room_1 s m #[Value.ref b] below meth c H locs cells slots Q (F0 m 2212 ls [])) : W p l e room_1 s m #[Value.ref b] below meth c H locs cells slots Q (F0 m 1624 ls []) := by
  obtain ⟨S, hK, hN, hNS, hX, hbl⟩ := G
  obtain ⟨hB, hXB, hM, hWK, hXM, hR⟩ := hI
  have hx := S.1
  have hb := S.2.1
  have hown := S.2.2.2.1
  have hT := S.2.2.2.2
  have hbA : ¬ (fun z : Nat => s.heap.size ≤ z) b := Nat.not_le.mpr hbl
  have hA : ∀ q : Nat, s.heap.size ≤ q → (fun z : Nat => s.heap.size ≤ z) q := fun _ h => h
  refine lv_aload_n hx hb dL_law_1624 rfl (lv_at hl 1 rfl) ?_
  refine lv_aload_n hx hb dL_law_1625 rfl (lv_at hl 0 rfl) ?_
  refine lv_iload_n hx hb dL_law_1626 rfl (lv_at hl 3 rfl) ?_
  refine lv_iconst (v := 1) hx hb dL_law_1627 (by decide) ?_
  refine lv_iadd hx hb dL_law_1628 ?_
  refine va_sld hx hb hX hbl hbA hS (hv 1 (by decide) (by decide)) dL_law_1629 ?_
  refine lv_aload_n hx hb dL_law_1630 rfl (lv_at hl 0 rfl) ?_
  refine lv_iload_n hx hb dL_law_1631 rfl (lv_at hl 3 rfl) ?_
  refine lv_iconst (v := 2) hx hb dL_law_1632 (by decide) ?_
  refine lv_iadd hx hb dL_law_1633 ?_
  refine va_sld hx hb hX hbl hbA hS (hv 2 (by decide) (by decide)) dL_law_1634 ?_
  refine ro_V (As := [.int (xs (i + 1).toNatClampNeg), .int (xs (i + 2).toNatClampNeg)]) (rest := []) S (s_X9_blinds l D k a st sl (xs (i + 1).toNatClampNeg) (xs (i + 2).toNatClampNeg) _ hB ) lkL_202 ok_X9_blinds ⟨rfl, rfl, Nat.le_of_ble_eq_true rfl, Nat.le_of_ble_eq_true rfl⟩ (pw_V (ci := 9) (q0 := 0) hK hN rfl cw_0 hP1 ((d_left hD).weaken (fun _ _ _ _ => trivial))) rfl hl.1 rfl (Nat.le_of_ble_eq_true rfl) hcs dL_law_1635 (fun r1 er1 => ?_)
  refine lv_pop hx hb dL_law_1638 rfl ?_
  refine lv_aload_n hx hb dL_law_1639 rfl (lv_at hl 2 rfl) ?_
  refine lv_aload_n hx hb dL_law_1640 rfl (lv_at hl 0 rfl) ?_
  refine lv_iload_n hx hb dL_law_1641 rfl (lv_at hl 3 rfl) ?_
  refine lv_iconst (v := 1) hx hb dL_law_1642 (by decide) ?_
  refine lv_iadd hx hb dL_law_1643 ?_
  refine va_sld hx hb hX hbl hbA hS (hv 1 (by decide) (by decide)) dL_law_1644 ?_
  refine lv_aload_n hx hb dL_law_1645 rfl (lv_at hl 0 rfl) ?_
  refine lv_iload_n hx hb dL_law_1646 rfl (lv_at hl 3 rfl) ?_
  refine lv_iconst (v := 2) hx hb dL_law_1647 (by decide) ?_
  refine lv_iadd hx hb dL_law_1648 ?_
  refine va_sld hx hb hX hbl hbA hS (hv 2 (by decide) (by decide)) dL_law_1649 ?_
  refine tw_i hP2 hP1 (d_swap hD) hS hA (fun hDc => run_V (mc := 0) (ms := 0) (As := [.int (xs (i + 1).toNatClampNeg), .int (xs (i + 2).toNatClampNeg)]) (rest := []) S (m_X10_blinds l D k q mt ml (xs (i + 1).toNatClampNeg) (xs (i + 2).toNatClampNeg) _ hM hWK) lkL_205 ok_X10_blinds ⟨rfl, rfl, Nat.le_of_ble_eq_true rfl, Nat.le_of_ble_eq_true rfl⟩ (pw_V (ci := 10) (q0 := 0) hK hN rfl mw_0 hP2 hDc) rfl hl.1 rfl (Nat.le_of_ble_eq_true rfl) hcs dL_law_1650) (fun r2 m3 H9 locs9 hm3 hPa hPb hD9 hS9 => ?_)
  clear hP1 hP2 hD hS
  have hS := hS9
  have hP2 : va_P D vwCl (MWS k q m3 ml) H9 := hPa
  have hP1 := hPb
  have hD : va_D (fun z : Nat => s.heap.size ≤ z) (CWS k a st sl ++ MWS k q m3 ml) := d_swap hD9
  clear hPa hPb hD9 hS9
  obtain ⟨hBm3, gm3, fm3⟩ := hm3
  refine lv_pop hx hb dL_law_1653 rfl ?_
  refine lv_goto (tgt := 2212) hx hb dL_law_1654 (by decide) ?_
  exact hend st m3 sl ml _ _ ⟨hB, hXB, hBm3, (wok_of (gm3 1 (by decide)) hWK), (xm_fr hXM (gm3 2 (by decide)) (gm3 3 (by decide))), (rel_fr hR rfl rfl rfl (gm3 3 (by decide)) (gm3 18 (by decide)) (gm3 19 (by decide)))⟩ hP1 hP2 hD hS
set_option maxHeartbeats 4000000 in
set_option maxRecDepth 100000 in
theorem lc_47 {p : Program} {l : Launch} {e : Env} {s : State} {m : MethodId} {below : List Frame} {meth : Method} {c : Code} {H : Heap} {locs : List Loc} {cells slots : Nat} {Q : State → Prop} {b L : Nat} {xs : Nat → Int32} {D : va_G} {k : Nat → ClassId} {a q : Nat → Nat} {st mt : CT} {sl ml : CL} {i : Int32} {ls : Array Slot} (G : LSX p s m c b L xs D k) (hv : ∀ j : Int32, 0 ≤ j.toInt → j.toInt ≤ 5 → vp_in (i + j) L) (hl : lv_has ls 4 [(0, .ref b), (1, .ref (a 0)), (2, .ref (q 0)), (3, .int i)]) (hcs : cells ≤ 600000 ∧ slots ≤ 7302250) (hI : INV st mt) (hP1 : va_P D vwCl (CWS k a st sl) H) (hP2 : va_P D vwCl (MWS k q mt ml) H) (hD : va_D (fun z : Nat => s.heap.size ≤ z) (CWS k a st sl ++ MWS k q mt ml)) (hS : va_S (fun z : Nat => s.heap.size ≤ z) s.heap H locs) (hend : ∀ (st mt : CT) (sl ml : CL) (H : Heap) (locs : List Loc), INV st mt → va_P D vwCl (CWS k a st sl) H → va_P D vwCl (MWS k q mt ml) H → va_D (fun z : Nat => s.heap.size ≤ z) (CWS k a st sl ++ MWS k q mt ml) → va_S (fun z : Nat => s.heap.size ≤ z) s.heap H locs → W p l e room_1 s m #[Value.ref b] below meth c H locs cells slots Q (F0 m 2212 ls [])) : W p l e room_1 s m #[Value.ref b] below meth c H locs cells slots Q (F0 m 1657 ls []) := by
  obtain ⟨S, hK, hN, hNS, hX, hbl⟩ := G
  obtain ⟨hB, hXB, hM, hWK, hXM, hR⟩ := hI
  have hx := S.1
  have hb := S.2.1
  have hown := S.2.2.2.1
  have hT := S.2.2.2.2
  have hbA : ¬ (fun z : Nat => s.heap.size ≤ z) b := Nat.not_le.mpr hbl
  have hA : ∀ q : Nat, s.heap.size ≤ q → (fun z : Nat => s.heap.size ≤ z) q := fun _ h => h
  refine lv_aload_n hx hb dL_law_1657 rfl (lv_at hl 1 rfl) ?_
  refine lv_aload_n hx hb dL_law_1658 rfl (lv_at hl 0 rfl) ?_
  refine lv_iload_n hx hb dL_law_1659 rfl (lv_at hl 3 rfl) ?_
  refine lv_iconst (v := 1) hx hb dL_law_1660 (by decide) ?_
  refine lv_iadd hx hb dL_law_1661 ?_
  refine va_sld hx hb hX hbl hbA hS (hv 1 (by decide) (by decide)) dL_law_1662 ?_
  refine lv_aload_n hx hb dL_law_1663 rfl (lv_at hl 0 rfl) ?_
  refine lv_iload_n hx hb dL_law_1664 rfl (lv_at hl 3 rfl) ?_
  refine lv_iconst (v := 2) hx hb dL_law_1665 (by decide) ?_
  refine lv_iadd hx hb dL_law_1666 ?_
  refine va_sld hx hb hX hbl hbA hS (hv 2 (by decide) (by decide)) dL_law_1667 ?_
  refine ro_V (As := [.int (xs (i + 1).toNatClampNeg), .int (xs (i + 2).toNatClampNeg)]) (rest := []) S (s_X9_lasts l D k a st sl (xs (i + 1).toNatClampNeg) (xs (i + 2).toNatClampNeg) _ hB ) lkL_206 ok_X9_lasts ⟨rfl, rfl, Nat.le_of_ble_eq_true rfl, Nat.le_of_ble_eq_true rfl⟩ (pw_V (ci := 9) (q0 := 0) hK hN rfl cw_0 hP1 ((d_left hD).weaken (fun _ _ _ _ => trivial))) rfl hl.1 rfl (Nat.le_of_ble_eq_true rfl) hcs dL_law_1668 (fun r1 er1 => ?_)
  refine lv_pop hx hb dL_law_1671 rfl ?_
  refine lv_aload_n hx hb dL_law_1672 rfl (lv_at hl 2 rfl) ?_
  refine lv_aload_n hx hb dL_law_1673 rfl (lv_at hl 0 rfl) ?_
  refine lv_iload_n hx hb dL_law_1674 rfl (lv_at hl 3 rfl) ?_
  refine lv_iconst (v := 1) hx hb dL_law_1675 (by decide) ?_
  refine lv_iadd hx hb dL_law_1676 ?_
  refine va_sld hx hb hX hbl hbA hS (hv 1 (by decide) (by decide)) dL_law_1677 ?_
  refine lv_aload_n hx hb dL_law_1678 rfl (lv_at hl 0 rfl) ?_
  refine lv_iload_n hx hb dL_law_1679 rfl (lv_at hl 3 rfl) ?_
  refine lv_iconst (v := 2) hx hb dL_law_1680 (by decide) ?_
  refine lv_iadd hx hb dL_law_1681 ?_
  refine va_sld hx hb hX hbl hbA hS (hv 2 (by decide) (by decide)) dL_law_1682 ?_
  refine tw_i hP2 hP1 (d_swap hD) hS hA (fun hDc => run_V (mc := 0) (ms := 0) (As := [.int (xs (i + 1).toNatClampNeg), .int (xs (i + 2).toNatClampNeg)]) (rest := []) S (m_X10_lasts l D k q mt ml (xs (i + 1).toNatClampNeg) (xs (i + 2).toNatClampNeg) _ hM hWK) lkL_209 ok_X10_lasts ⟨rfl, rfl, Nat.le_of_ble_eq_true rfl, Nat.le_of_ble_eq_true rfl⟩ (pw_V (ci := 10) (q0 := 0) hK hN rfl mw_0 hP2 hDc) rfl hl.1 rfl (Nat.le_of_ble_eq_true rfl) hcs dL_law_1683) (fun r2 m3 H9 locs9 hm3 hPa hPb hD9 hS9 => ?_)
  clear hP1 hP2 hD hS
  have hS := hS9
  have hP2 : va_P D vwCl (MWS k q m3 ml) H9 := hPa
  have hP1 := hPb
  have hD : va_D (fun z : Nat => s.heap.size ≤ z) (CWS k a st sl ++ MWS k q m3 ml) := d_swap hD9
  clear hPa hPb hD9 hS9
  obtain ⟨hBm3, gm3, fm3⟩ := hm3
  refine lv_pop hx hb dL_law_1686 rfl ?_
  refine lv_goto (tgt := 2212) hx hb dL_law_1687 (by decide) ?_
  exact hend st m3 sl ml _ _ ⟨hB, hXB, hBm3, (wok_of (gm3 1 (by decide)) hWK), (xm_fr hXM (gm3 2 (by decide)) (gm3 3 (by decide))), (rel_fr hR rfl rfl rfl (gm3 3 (by decide)) (gm3 18 (by decide)) (gm3 19 (by decide)))⟩ hP1 hP2 hD hS
