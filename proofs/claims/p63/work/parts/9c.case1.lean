set_option maxHeartbeats 4000000 in
set_option maxRecDepth 100000 in
theorem lc_8 {p : Program} {l : Launch} {e : Env} {s : State} {m : MethodId} {below : List Frame} {meth : Method} {c : Code} {H : Heap} {locs : List Loc} {cells slots : Nat} {Q : State → Prop} {b L : Nat} {xs : Nat → Int32} {D : va_G} {k : Nat → ClassId} {a q : Nat → Nat} {st mt : CT} {sl ml : CL} {i : Int32} {ls : Array Slot} (G : LSX p s m c b L xs D k) (hv : ∀ j : Int32, 0 ≤ j.toInt → j.toInt ≤ 5 → vp_in (i + j) L) (hl : lv_has ls 4 [(0, .ref b), (1, .ref (a 0)), (2, .ref (q 0)), (3, .int i)]) (hcs : cells ≤ 600000 ∧ slots ≤ 7302250) (hI : INV st mt) (hP1 : va_P D vwCl (CWS k a st sl) H) (hP2 : va_P D vwCl (MWS k q mt ml) H) (hD : va_D (fun z : Nat => s.heap.size ≤ z) (CWS k a st sl ++ MWS k q mt ml)) (hS : va_S (fun z : Nat => s.heap.size ≤ z) s.heap H locs) (hend : ∀ (st mt : CT) (sl ml : CL) (H : Heap) (locs : List Loc), INV st mt → va_P D vwCl (CWS k a st sl) H → va_P D vwCl (MWS k q mt ml) H → va_D (fun z : Nat => s.heap.size ≤ z) (CWS k a st sl ++ MWS k q mt ml) → va_S (fun z : Nat => s.heap.size ≤ z) s.heap H locs → W p l e room_1 s m #[Value.ref b] below meth c H locs cells slots Q (F0 m 2212 ls [])) : W p l e room_1 s m #[Value.ref b] below meth c H locs cells slots Q (F0 m 550 ls []) := by
  obtain ⟨S, hK, hN, hNS, hX, hbl⟩ := G
  obtain ⟨hB, hXB, hM, hWK, hXM, hR⟩ := hI
  have hx := S.1
  have hb := S.2.1
  have hown := S.2.2.2.1
  have hT := S.2.2.2.2
  have hbA : ¬ (fun z : Nat => s.heap.size ≤ z) b := Nat.not_le.mpr hbl
  have hA : ∀ q : Nat, s.heap.size ≤ q → (fun z : Nat => s.heap.size ≤ z) q := fun _ h => h
  refine lv_aload_n hx hb dL_law_550 rfl (lv_at hl 1 rfl) ?_
  refine lv_aload_n hx hb dL_law_551 rfl (lv_at hl 0 rfl) ?_
  refine lv_iload_n hx hb dL_law_552 rfl (lv_at hl 3 rfl) ?_
  refine lv_iconst (v := 1) hx hb dL_law_553 (by decide) ?_
  refine lv_iadd hx hb dL_law_554 ?_
  refine va_sld hx hb hX hbl hbA hS (hv 1 (by decide) (by decide)) dL_law_555 ?_
  refine lv_aload_n hx hb dL_law_556 rfl (lv_at hl 0 rfl) ?_
  refine lv_iload_n hx hb dL_law_557 rfl (lv_at hl 3 rfl) ?_
  refine lv_iconst (v := 2) hx hb dL_law_558 (by decide) ?_
  refine lv_iadd hx hb dL_law_559 ?_
  refine va_sld hx hb hX hbl hbA hS (hv 2 (by decide) (by decide)) dL_law_560 ?_
  refine ro_V (As := [.int (xs (i + 1).toNatClampNeg), .int (xs (i + 2).toNatClampNeg)]) (rest := []) S (s_X9_errand l D k a st sl (xs (i + 1).toNatClampNeg) (xs (i + 2).toNatClampNeg) _ hB ) lkL_49 ok_X9_errand ⟨rfl, rfl, Nat.le_of_ble_eq_true rfl, Nat.le_of_ble_eq_true rfl⟩ (pw_V (ci := 9) (q0 := 0) hK hN rfl cw_0 hP1 ((d_left hD).weaken (fun _ _ _ _ => trivial))) rfl hl.1 rfl (Nat.le_of_ble_eq_true rfl) hcs dL_law_561 (fun r1 er1 => ?_)
  refine lv_pop hx hb dL_law_564 rfl ?_
  refine lv_aload_n hx hb dL_law_565 rfl (lv_at hl 2 rfl) ?_
  refine lv_aload_n hx hb dL_law_566 rfl (lv_at hl 0 rfl) ?_
  refine lv_iload_n hx hb dL_law_567 rfl (lv_at hl 3 rfl) ?_
  refine lv_iconst (v := 1) hx hb dL_law_568 (by decide) ?_
  refine lv_iadd hx hb dL_law_569 ?_
  refine va_sld hx hb hX hbl hbA hS (hv 1 (by decide) (by decide)) dL_law_570 ?_
  refine lv_aload_n hx hb dL_law_571 rfl (lv_at hl 0 rfl) ?_
  refine lv_iload_n hx hb dL_law_572 rfl (lv_at hl 3 rfl) ?_
  refine lv_iconst (v := 2) hx hb dL_law_573 (by decide) ?_
  refine lv_iadd hx hb dL_law_574 ?_
  refine va_sld hx hb hX hbl hbA hS (hv 2 (by decide) (by decide)) dL_law_575 ?_
  refine ro_V (As := [.int (xs (i + 1).toNatClampNeg), .int (xs (i + 2).toNatClampNeg)]) (rest := []) S (m_X10_errand l D k q mt ml (xs (i + 1).toNatClampNeg) (xs (i + 2).toNatClampNeg) _ hM hWK) lkL_52 ok_X10_errand ⟨rfl, rfl, Nat.le_of_ble_eq_true rfl, Nat.le_of_ble_eq_true rfl⟩ (pw_V (ci := 10) (q0 := 0) hK hN rfl mw_0 hP2 ((d_left (d_swap hD)).weaken (fun _ _ _ _ => trivial))) rfl hl.1 rfl (Nat.le_of_ble_eq_true rfl) hcs dL_law_576 (fun r2 er2 => ?_)
  refine lv_pop hx hb dL_law_579 rfl ?_
  refine lv_goto (tgt := 2212) hx hb dL_law_580 (by decide) ?_
  exact hend st mt sl ml _ _ ⟨hB, hXB, hM, hWK, hXM, (rel_fr hR rfl rfl rfl rfl rfl rfl)⟩ hP1 hP2 hD hS
set_option maxHeartbeats 4000000 in
set_option maxRecDepth 100000 in
theorem lc_9 {p : Program} {l : Launch} {e : Env} {s : State} {m : MethodId} {below : List Frame} {meth : Method} {c : Code} {H : Heap} {locs : List Loc} {cells slots : Nat} {Q : State → Prop} {b L : Nat} {xs : Nat → Int32} {D : va_G} {k : Nat → ClassId} {a q : Nat → Nat} {st mt : CT} {sl ml : CL} {i : Int32} {ls : Array Slot} (G : LSX p s m c b L xs D k) (hv : ∀ j : Int32, 0 ≤ j.toInt → j.toInt ≤ 5 → vp_in (i + j) L) (hl : lv_has ls 4 [(0, .ref b), (1, .ref (a 0)), (2, .ref (q 0)), (3, .int i)]) (hcs : cells ≤ 600000 ∧ slots ≤ 7302250) (hI : INV st mt) (hP1 : va_P D vwCl (CWS k a st sl) H) (hP2 : va_P D vwCl (MWS k q mt ml) H) (hD : va_D (fun z : Nat => s.heap.size ≤ z) (CWS k a st sl ++ MWS k q mt ml)) (hS : va_S (fun z : Nat => s.heap.size ≤ z) s.heap H locs) (hend : ∀ (st mt : CT) (sl ml : CL) (H : Heap) (locs : List Loc), INV st mt → va_P D vwCl (CWS k a st sl) H → va_P D vwCl (MWS k q mt ml) H → va_D (fun z : Nat => s.heap.size ≤ z) (CWS k a st sl ++ MWS k q mt ml) → va_S (fun z : Nat => s.heap.size ≤ z) s.heap H locs → W p l e room_1 s m #[Value.ref b] below meth c H locs cells slots Q (F0 m 2212 ls [])) : W p l e room_1 s m #[Value.ref b] below meth c H locs cells slots Q (F0 m 583 ls []) := by
  obtain ⟨S, hK, hN, hNS, hX, hbl⟩ := G
  obtain ⟨hB, hXB, hM, hWK, hXM, hR⟩ := hI
  have hx := S.1
  have hb := S.2.1
  have hown := S.2.2.2.1
  have hT := S.2.2.2.2
  have hbA : ¬ (fun z : Nat => s.heap.size ≤ z) b := Nat.not_le.mpr hbl
  have hA : ∀ q : Nat, s.heap.size ≤ q → (fun z : Nat => s.heap.size ≤ z) q := fun _ h => h
  refine lv_aload_n hx hb dL_law_583 rfl (lv_at hl 1 rfl) ?_
  refine lv_aload_n hx hb dL_law_584 rfl (lv_at hl 0 rfl) ?_
  refine lv_iload_n hx hb dL_law_585 rfl (lv_at hl 3 rfl) ?_
  refine lv_iconst (v := 1) hx hb dL_law_586 (by decide) ?_
  refine lv_iadd hx hb dL_law_587 ?_
  refine va_sld hx hb hX hbl hbA hS (hv 1 (by decide) (by decide)) dL_law_588 ?_
  refine ro_V (As := [.int (xs (i + 1).toNatClampNeg)]) (rest := []) S (s_X9_roads l D k a st sl (xs (i + 1).toNatClampNeg) _ hB ) lkL_53 ok_X9_roads ⟨rfl, rfl, Nat.le_of_ble_eq_true rfl, Nat.le_of_ble_eq_true rfl⟩ (pw_V (ci := 9) (q0 := 0) hK hN rfl cw_0 hP1 ((d_left hD).weaken (fun _ _ _ _ => trivial))) rfl hl.1 rfl (Nat.le_of_ble_eq_true rfl) hcs dL_law_589 (fun r1 er1 => ?_)
  refine lv_pop hx hb dL_law_592 rfl ?_
  refine lv_aload_n hx hb dL_law_593 rfl (lv_at hl 2 rfl) ?_
  refine lv_aload_n hx hb dL_law_594 rfl (lv_at hl 0 rfl) ?_
  refine lv_iload_n hx hb dL_law_595 rfl (lv_at hl 3 rfl) ?_
  refine lv_iconst (v := 1) hx hb dL_law_596 (by decide) ?_
  refine lv_iadd hx hb dL_law_597 ?_
  refine va_sld hx hb hX hbl hbA hS (hv 1 (by decide) (by decide)) dL_law_598 ?_
  refine ro_V (As := [.int (xs (i + 1).toNatClampNeg)]) (rest := []) S (m_X10_roads l D k q mt ml (xs (i + 1).toNatClampNeg) _ hM hWK) lkL_56 ok_X10_roads ⟨rfl, rfl, Nat.le_of_ble_eq_true rfl, Nat.le_of_ble_eq_true rfl⟩ (pw_V (ci := 10) (q0 := 0) hK hN rfl mw_0 hP2 ((d_left (d_swap hD)).weaken (fun _ _ _ _ => trivial))) rfl hl.1 rfl (Nat.le_of_ble_eq_true rfl) hcs dL_law_599 (fun r2 er2 => ?_)
  refine lv_pop hx hb dL_law_602 rfl ?_
  refine lv_goto (tgt := 2212) hx hb dL_law_603 (by decide) ?_
  exact hend st mt sl ml _ _ ⟨hB, hXB, hM, hWK, hXM, (rel_fr hR rfl rfl rfl rfl rfl rfl)⟩ hP1 hP2 hD hS
set_option maxHeartbeats 4000000 in
set_option maxRecDepth 100000 in
theorem lc_10 {p : Program} {l : Launch} {e : Env} {s : State} {m : MethodId} {below : List Frame} {meth : Method} {c : Code} {H : Heap} {locs : List Loc} {cells slots : Nat} {Q : State → Prop} {b L : Nat} {xs : Nat → Int32} {D : va_G} {k : Nat → ClassId} {a q : Nat → Nat} {st mt : CT} {sl ml : CL} {i : Int32} {ls : Array Slot} (G : LSX p s m c b L xs D k) (hv : ∀ j : Int32, 0 ≤ j.toInt → j.toInt ≤ 5 → vp_in (i + j) L) (hl : lv_has ls 4 [(0, .ref b), (1, .ref (a 0)), (2, .ref (q 0)), (3, .int i)]) (hcs : cells ≤ 600000 ∧ slots ≤ 7302250) (hI : INV st mt) (hP1 : va_P D vwCl (CWS k a st sl) H) (hP2 : va_P D vwCl (MWS k q mt ml) H) (hD : va_D (fun z : Nat => s.heap.size ≤ z) (CWS k a st sl ++ MWS k q mt ml)) (hS : va_S (fun z : Nat => s.heap.size ≤ z) s.heap H locs) (hend : ∀ (st mt : CT) (sl ml : CL) (H : Heap) (locs : List Loc), INV st mt → va_P D vwCl (CWS k a st sl) H → va_P D vwCl (MWS k q mt ml) H → va_D (fun z : Nat => s.heap.size ≤ z) (CWS k a st sl ++ MWS k q mt ml) → va_S (fun z : Nat => s.heap.size ≤ z) s.heap H locs → W p l e room_1 s m #[Value.ref b] below meth c H locs cells slots Q (F0 m 2212 ls [])) : W p l e room_1 s m #[Value.ref b] below meth c H locs cells slots Q (F0 m 606 ls []) := by
  obtain ⟨S, hK, hN, hNS, hX, hbl⟩ := G
  obtain ⟨hB, hXB, hM, hWK, hXM, hR⟩ := hI
  have hx := S.1
  have hb := S.2.1
  have hown := S.2.2.2.1
  have hT := S.2.2.2.2
  have hbA : ¬ (fun z : Nat => s.heap.size ≤ z) b := Nat.not_le.mpr hbl
  have hA : ∀ q : Nat, s.heap.size ≤ q → (fun z : Nat => s.heap.size ≤ z) q := fun _ h => h
  refine lv_aload_n hx hb dL_law_606 rfl (lv_at hl 1 rfl) ?_
  refine lv_aload_n hx hb dL_law_607 rfl (lv_at hl 0 rfl) ?_
  refine lv_iload_n hx hb dL_law_608 rfl (lv_at hl 3 rfl) ?_
  refine lv_iconst (v := 1) hx hb dL_law_609 (by decide) ?_
  refine lv_iadd hx hb dL_law_610 ?_
  refine va_sld hx hb hX hbl hbA hS (hv 1 (by decide) (by decide)) dL_law_611 ?_
  refine lv_aload_n hx hb dL_law_612 rfl (lv_at hl 0 rfl) ?_
  refine lv_iload_n hx hb dL_law_613 rfl (lv_at hl 3 rfl) ?_
  refine lv_iconst (v := 2) hx hb dL_law_614 (by decide) ?_
  refine lv_iadd hx hb dL_law_615 ?_
  refine va_sld hx hb hX hbl hbA hS (hv 2 (by decide) (by decide)) dL_law_616 ?_
  refine ro_V (As := [.int (xs (i + 1).toNatClampNeg), .int (xs (i + 2).toNatClampNeg)]) (rest := []) S (s_X9_pull l D k a st sl (xs (i + 1).toNatClampNeg) (xs (i + 2).toNatClampNeg) _ hB ) lkL_57 ok_X9_pull ⟨rfl, rfl, Nat.le_of_ble_eq_true rfl, Nat.le_of_ble_eq_true rfl⟩ (pw_V (ci := 9) (q0 := 0) hK hN rfl cw_0 hP1 ((d_left hD).weaken (fun _ _ _ _ => trivial))) rfl hl.1 rfl (Nat.le_of_ble_eq_true rfl) hcs dL_law_617 (fun r1 er1 => ?_)
  refine lv_pop hx hb dL_law_620 rfl ?_
  refine lv_aload_n hx hb dL_law_621 rfl (lv_at hl 2 rfl) ?_
  refine lv_aload_n hx hb dL_law_622 rfl (lv_at hl 0 rfl) ?_
  refine lv_iload_n hx hb dL_law_623 rfl (lv_at hl 3 rfl) ?_
  refine lv_iconst (v := 1) hx hb dL_law_624 (by decide) ?_
  refine lv_iadd hx hb dL_law_625 ?_
  refine va_sld hx hb hX hbl hbA hS (hv 1 (by decide) (by decide)) dL_law_626 ?_
  refine lv_aload_n hx hb dL_law_627 rfl (lv_at hl 0 rfl) ?_
  refine lv_iload_n hx hb dL_law_628 rfl (lv_at hl 3 rfl) ?_
  refine lv_iconst (v := 2) hx hb dL_law_629 (by decide) ?_
  refine lv_iadd hx hb dL_law_630 ?_
  refine va_sld hx hb hX hbl hbA hS (hv 2 (by decide) (by decide)) dL_law_631 ?_
  refine tw_i hP2 hP1 (d_swap hD) hS hA (fun hDc => run_V (mc := 0) (ms := 0) (As := [.int (xs (i + 1).toNatClampNeg), .int (xs (i + 2).toNatClampNeg)]) (rest := []) S (m_X10_pull l D k q mt ml (xs (i + 1).toNatClampNeg) (xs (i + 2).toNatClampNeg) _ hM hWK) lkL_60 ok_X10_pull ⟨rfl, rfl, Nat.le_of_ble_eq_true rfl, Nat.le_of_ble_eq_true rfl⟩ (pw_V (ci := 10) (q0 := 0) hK hN rfl mw_0 hP2 hDc) rfl hl.1 rfl (Nat.le_of_ble_eq_true rfl) hcs dL_law_632) (fun r2 m3 H9 locs9 hm3 hPa hPb hD9 hS9 => ?_)
  clear hP1 hP2 hD hS
  have hS := hS9
  have hP2 : va_P D vwCl (MWS k q m3 ml) H9 := hPa
  have hP1 := hPb
  have hD : va_D (fun z : Nat => s.heap.size ≤ z) (CWS k a st sl ++ MWS k q m3 ml) := d_swap hD9
  clear hPa hPb hD9 hS9
  obtain ⟨hBm3, gm3, fm3⟩ := hm3
  refine lv_pop hx hb dL_law_635 rfl ?_
  refine lv_goto (tgt := 2212) hx hb dL_law_636 (by decide) ?_
  exact hend st m3 sl ml _ _ ⟨hB, hXB, hBm3, (wok_of (gm3 1 (by decide)) hWK), (xm_fr hXM (gm3 2 (by decide)) (gm3 3 (by decide))), (rel_fr hR rfl rfl rfl (gm3 3 (by decide)) (gm3 18 (by decide)) (gm3 19 (by decide)))⟩ hP1 hP2 hD hS
set_option maxHeartbeats 4000000 in
set_option maxRecDepth 100000 in
theorem lc_11 {p : Program} {l : Launch} {e : Env} {s : State} {m : MethodId} {below : List Frame} {meth : Method} {c : Code} {H : Heap} {locs : List Loc} {cells slots : Nat} {Q : State → Prop} {b L : Nat} {xs : Nat → Int32} {D : va_G} {k : Nat → ClassId} {a q : Nat → Nat} {st mt : CT} {sl ml : CL} {i : Int32} {ls : Array Slot} (G : LSX p s m c b L xs D k) (hv : ∀ j : Int32, 0 ≤ j.toInt → j.toInt ≤ 5 → vp_in (i + j) L) (hl : lv_has ls 4 [(0, .ref b), (1, .ref (a 0)), (2, .ref (q 0)), (3, .int i)]) (hcs : cells ≤ 600000 ∧ slots ≤ 7302250) (hI : INV st mt) (hP1 : va_P D vwCl (CWS k a st sl) H) (hP2 : va_P D vwCl (MWS k q mt ml) H) (hD : va_D (fun z : Nat => s.heap.size ≤ z) (CWS k a st sl ++ MWS k q mt ml)) (hS : va_S (fun z : Nat => s.heap.size ≤ z) s.heap H locs) (hend : ∀ (st mt : CT) (sl ml : CL) (H : Heap) (locs : List Loc), INV st mt → va_P D vwCl (CWS k a st sl) H → va_P D vwCl (MWS k q mt ml) H → va_D (fun z : Nat => s.heap.size ≤ z) (CWS k a st sl ++ MWS k q mt ml) → va_S (fun z : Nat => s.heap.size ≤ z) s.heap H locs → W p l e room_1 s m #[Value.ref b] below meth c H locs cells slots Q (F0 m 2212 ls [])) : W p l e room_1 s m #[Value.ref b] below meth c H locs cells slots Q (F0 m 639 ls []) := by
  obtain ⟨S, hK, hN, hNS, hX, hbl⟩ := G
  obtain ⟨hB, hXB, hM, hWK, hXM, hR⟩ := hI
  have hx := S.1
  have hb := S.2.1
  have hown := S.2.2.2.1
  have hT := S.2.2.2.2
  have hbA : ¬ (fun z : Nat => s.heap.size ≤ z) b := Nat.not_le.mpr hbl
  have hA : ∀ q : Nat, s.heap.size ≤ q → (fun z : Nat => s.heap.size ≤ z) q := fun _ h => h
  refine lv_aload_n hx hb dL_law_639 rfl (lv_at hl 1 rfl) ?_
  refine lv_aload_n hx hb dL_law_640 rfl (lv_at hl 0 rfl) ?_
  refine lv_iload_n hx hb dL_law_641 rfl (lv_at hl 3 rfl) ?_
  refine lv_iconst (v := 1) hx hb dL_law_642 (by decide) ?_
  refine lv_iadd hx hb dL_law_643 ?_
  refine va_sld hx hb hX hbl hbA hS (hv 1 (by decide) (by decide)) dL_law_644 ?_
  refine lv_aload_n hx hb dL_law_645 rfl (lv_at hl 0 rfl) ?_
  refine lv_iload_n hx hb dL_law_646 rfl (lv_at hl 3 rfl) ?_
  refine lv_iconst (v := 2) hx hb dL_law_647 (by decide) ?_
  refine lv_iadd hx hb dL_law_648 ?_
  refine va_sld hx hb hX hbl hbA hS (hv 2 (by decide) (by decide)) dL_law_649 ?_
  refine ro_V (As := [.int (xs (i + 1).toNatClampNeg), .int (xs (i + 2).toNatClampNeg)]) (rest := []) S (s_X9_takes l D k a st sl (xs (i + 1).toNatClampNeg) (xs (i + 2).toNatClampNeg) _ hB ) lkL_61 ok_X9_takes ⟨rfl, rfl, Nat.le_of_ble_eq_true rfl, Nat.le_of_ble_eq_true rfl⟩ (pw_V (ci := 9) (q0 := 0) hK hN rfl cw_0 hP1 ((d_left hD).weaken (fun _ _ _ _ => trivial))) rfl hl.1 rfl (Nat.le_of_ble_eq_true rfl) hcs dL_law_650 (fun r1 er1 => ?_)
  refine lv_pop hx hb dL_law_653 rfl ?_
  refine lv_aload_n hx hb dL_law_654 rfl (lv_at hl 2 rfl) ?_
  refine lv_aload_n hx hb dL_law_655 rfl (lv_at hl 0 rfl) ?_
  refine lv_iload_n hx hb dL_law_656 rfl (lv_at hl 3 rfl) ?_
  refine lv_iconst (v := 1) hx hb dL_law_657 (by decide) ?_
  refine lv_iadd hx hb dL_law_658 ?_
  refine va_sld hx hb hX hbl hbA hS (hv 1 (by decide) (by decide)) dL_law_659 ?_
  refine lv_aload_n hx hb dL_law_660 rfl (lv_at hl 0 rfl) ?_
  refine lv_iload_n hx hb dL_law_661 rfl (lv_at hl 3 rfl) ?_
  refine lv_iconst (v := 2) hx hb dL_law_662 (by decide) ?_
  refine lv_iadd hx hb dL_law_663 ?_
  refine va_sld hx hb hX hbl hbA hS (hv 2 (by decide) (by decide)) dL_law_664 ?_
  refine tw_i hP2 hP1 (d_swap hD) hS hA (fun hDc => run_V (mc := 0) (ms := 0) (As := [.int (xs (i + 1).toNatClampNeg), .int (xs (i + 2).toNatClampNeg)]) (rest := []) S (m_X10_takes_ l D k q mt ml (xs (i + 1).toNatClampNeg) (xs (i + 2).toNatClampNeg) _ hM hWK) lkL_64 ok_X10_takes_ ⟨rfl, rfl, Nat.le_of_ble_eq_true rfl, Nat.le_of_ble_eq_true rfl⟩ (pw_V (ci := 10) (q0 := 0) hK hN rfl mw_0 hP2 hDc) rfl hl.1 rfl (Nat.le_of_ble_eq_true rfl) hcs dL_law_665) (fun r2 m3 H9 locs9 hm3 hPa hPb hD9 hS9 => ?_)
  clear hP1 hP2 hD hS
  have hS := hS9
  have hP2 : va_P D vwCl (MWS k q m3 ml) H9 := hPa
  have hP1 := hPb
  have hD : va_D (fun z : Nat => s.heap.size ≤ z) (CWS k a st sl ++ MWS k q m3 ml) := d_swap hD9
  clear hPa hPb hD9 hS9
  obtain ⟨hBm3, gm3, fm3⟩ := hm3
  refine lv_pop hx hb dL_law_668 rfl ?_
  refine lv_goto (tgt := 2212) hx hb dL_law_669 (by decide) ?_
  exact hend st m3 sl ml _ _ ⟨hB, hXB, hBm3, (wok_of (gm3 1 (by decide)) hWK), (xm_fr hXM (gm3 2 (by decide)) (gm3 3 (by decide))), (rel_fr hR rfl rfl rfl (gm3 3 (by decide)) (gm3 18 (by decide)) (gm3 19 (by decide)))⟩ hP1 hP2 hD hS
set_option maxHeartbeats 4000000 in
set_option maxRecDepth 100000 in
theorem lc_12 {p : Program} {l : Launch} {e : Env} {s : State} {m : MethodId} {below : List Frame} {meth : Method} {c : Code} {H : Heap} {locs : List Loc} {cells slots : Nat} {Q : State → Prop} {b L : Nat} {xs : Nat → Int32} {D : va_G} {k : Nat → ClassId} {a q : Nat → Nat} {st mt : CT} {sl ml : CL} {i : Int32} {ls : Array Slot} (G : LSX p s m c b L xs D k) (hv : ∀ j : Int32, 0 ≤ j.toInt → j.toInt ≤ 5 → vp_in (i + j) L) (hl : lv_has ls 4 [(0, .ref b), (1, .ref (a 0)), (2, .ref (q 0)), (3, .int i)]) (hcs : cells ≤ 600000 ∧ slots ≤ 7302250) (hI : INV st mt) (hP1 : va_P D vwCl (CWS k a st sl) H) (hP2 : va_P D vwCl (MWS k q mt ml) H) (hD : va_D (fun z : Nat => s.heap.size ≤ z) (CWS k a st sl ++ MWS k q mt ml)) (hS : va_S (fun z : Nat => s.heap.size ≤ z) s.heap H locs) (hend : ∀ (st mt : CT) (sl ml : CL) (H : Heap) (locs : List Loc), INV st mt → va_P D vwCl (CWS k a st sl) H → va_P D vwCl (MWS k q mt ml) H → va_D (fun z : Nat => s.heap.size ≤ z) (CWS k a st sl ++ MWS k q mt ml) → va_S (fun z : Nat => s.heap.size ≤ z) s.heap H locs → W p l e room_1 s m #[Value.ref b] below meth c H locs cells slots Q (F0 m 2212 ls [])) : W p l e room_1 s m #[Value.ref b] below meth c H locs cells slots Q (F0 m 672 ls []) := by
  obtain ⟨S, hK, hN, hNS, hX, hbl⟩ := G
  obtain ⟨hB, hXB, hM, hWK, hXM, hR⟩ := hI
  have hx := S.1
  have hb := S.2.1
  have hown := S.2.2.2.1
  have hT := S.2.2.2.2
  have hbA : ¬ (fun z : Nat => s.heap.size ≤ z) b := Nat.not_le.mpr hbl
  have hA : ∀ q : Nat, s.heap.size ≤ q → (fun z : Nat => s.heap.size ≤ z) q := fun _ h => h
  refine lv_aload_n hx hb dL_law_672 rfl (lv_at hl 1 rfl) ?_
  refine lv_aload_n hx hb dL_law_673 rfl (lv_at hl 0 rfl) ?_
  refine lv_iload_n hx hb dL_law_674 rfl (lv_at hl 3 rfl) ?_
  refine lv_iconst (v := 1) hx hb dL_law_675 (by decide) ?_
  refine lv_iadd hx hb dL_law_676 ?_
  refine va_sld hx hb hX hbl hbA hS (hv 1 (by decide) (by decide)) dL_law_677 ?_
  refine ro_V (As := [.int (xs (i + 1).toNatClampNeg)]) (rest := []) S (s_X9_aside l D k a st sl (xs (i + 1).toNatClampNeg) _ hB ) lkL_65 ok_X9_aside ⟨rfl, rfl, Nat.le_of_ble_eq_true rfl, Nat.le_of_ble_eq_true rfl⟩ (pw_V (ci := 9) (q0 := 0) hK hN rfl cw_0 hP1 ((d_left hD).weaken (fun _ _ _ _ => trivial))) rfl hl.1 rfl (Nat.le_of_ble_eq_true rfl) hcs dL_law_678 (fun r1 er1 => ?_)
  refine lv_pop hx hb dL_law_681 rfl ?_
  refine lv_aload_n hx hb dL_law_682 rfl (lv_at hl 2 rfl) ?_
  refine lv_aload_n hx hb dL_law_683 rfl (lv_at hl 0 rfl) ?_
  refine lv_iload_n hx hb dL_law_684 rfl (lv_at hl 3 rfl) ?_
  refine lv_iconst (v := 1) hx hb dL_law_685 (by decide) ?_
  refine lv_iadd hx hb dL_law_686 ?_
  refine va_sld hx hb hX hbl hbA hS (hv 1 (by decide) (by decide)) dL_law_687 ?_
  refine tw_i hP2 hP1 (d_swap hD) hS hA (fun hDc => run_V (mc := 0) (ms := 0) (As := [.int (xs (i + 1).toNatClampNeg)]) (rest := []) S (m_X10_aside l D k q mt ml (xs (i + 1).toNatClampNeg) _ hM hWK) lkL_68 ok_X10_aside ⟨rfl, rfl, Nat.le_of_ble_eq_true rfl, Nat.le_of_ble_eq_true rfl⟩ (pw_V (ci := 10) (q0 := 0) hK hN rfl mw_0 hP2 hDc) rfl hl.1 rfl (Nat.le_of_ble_eq_true rfl) hcs dL_law_688) (fun r2 m3 H9 locs9 hm3 hPa hPb hD9 hS9 => ?_)
  clear hP1 hP2 hD hS
  have hS := hS9
  have hP2 : va_P D vwCl (MWS k q m3 ml) H9 := hPa
  have hP1 := hPb
  have hD : va_D (fun z : Nat => s.heap.size ≤ z) (CWS k a st sl ++ MWS k q m3 ml) := d_swap hD9
  clear hPa hPb hD9 hS9
  obtain ⟨hBm3, gm3, fm3⟩ := hm3
  refine lv_pop hx hb dL_law_691 rfl ?_
  refine lv_goto (tgt := 2212) hx hb dL_law_692 (by decide) ?_
  exact hend st m3 sl ml _ _ ⟨hB, hXB, hBm3, (wok_of (gm3 1 (by decide)) hWK), (xm_fr hXM (gm3 2 (by decide)) (gm3 3 (by decide))), (rel_fr hR rfl rfl rfl (gm3 3 (by decide)) (gm3 18 (by decide)) (gm3 19 (by decide)))⟩ hP1 hP2 hD hS
set_option maxHeartbeats 4000000 in
set_option maxRecDepth 100000 in
theorem lc_13 {p : Program} {l : Launch} {e : Env} {s : State} {m : MethodId} {below : List Frame} {meth : Method} {c : Code} {H : Heap} {locs : List Loc} {cells slots : Nat} {Q : State → Prop} {b L : Nat} {xs : Nat → Int32} {D : va_G} {k : Nat → ClassId} {a q : Nat → Nat} {st mt : CT} {sl ml : CL} {i : Int32} {ls : Array Slot} (G : LSX p s m c b L xs D k) (hv : ∀ j : Int32, 0 ≤ j.toInt → j.toInt ≤ 5 → vp_in (i + j) L) (hl : lv_has ls 4 [(0, .ref b), (1, .ref (a 0)), (2, .ref (q 0)), (3, .int i)]) (hcs : cells ≤ 600000 ∧ slots ≤ 7302250) (hI : INV st mt) (hP1 : va_P D vwCl (CWS k a st sl) H) (hP2 : va_P D vwCl (MWS k q mt ml) H) (hD : va_D (fun z : Nat => s.heap.size ≤ z) (CWS k a st sl ++ MWS k q mt ml)) (hS : va_S (fun z : Nat => s.heap.size ≤ z) s.heap H locs) (hend : ∀ (st mt : CT) (sl ml : CL) (H : Heap) (locs : List Loc), INV st mt → va_P D vwCl (CWS k a st sl) H → va_P D vwCl (MWS k q mt ml) H → va_D (fun z : Nat => s.heap.size ≤ z) (CWS k a st sl ++ MWS k q mt ml) → va_S (fun z : Nat => s.heap.size ≤ z) s.heap H locs → W p l e room_1 s m #[Value.ref b] below meth c H locs cells slots Q (F0 m 2212 ls [])) : W p l e room_1 s m #[Value.ref b] below meth c H locs cells slots Q (F0 m 695 ls []) := by
  obtain ⟨S, hK, hN, hNS, hX, hbl⟩ := G
  obtain ⟨hB, hXB, hM, hWK, hXM, hR⟩ := hI
  have hx := S.1
  have hb := S.2.1
  have hown := S.2.2.2.1
  have hT := S.2.2.2.2
  have hbA : ¬ (fun z : Nat => s.heap.size ≤ z) b := Nat.not_le.mpr hbl
  have hA : ∀ q : Nat, s.heap.size ≤ q → (fun z : Nat => s.heap.size ≤ z) q := fun _ h => h
  refine lv_aload_n hx hb dL_law_695 rfl (lv_at hl 1 rfl) ?_
  refine lv_aload_n hx hb dL_law_696 rfl (lv_at hl 0 rfl) ?_
  refine lv_iload_n hx hb dL_law_697 rfl (lv_at hl 3 rfl) ?_
  refine lv_iconst (v := 1) hx hb dL_law_698 (by decide) ?_
  refine lv_iadd hx hb dL_law_699 ?_
  refine va_sld hx hb hX hbl hbA hS (hv 1 (by decide) (by decide)) dL_law_700 ?_
  refine lv_aload_n hx hb dL_law_701 rfl (lv_at hl 0 rfl) ?_
  refine lv_iload_n hx hb dL_law_702 rfl (lv_at hl 3 rfl) ?_
  refine lv_iconst (v := 2) hx hb dL_law_703 (by decide) ?_
  refine lv_iadd hx hb dL_law_704 ?_
  refine va_sld hx hb hX hbl hbA hS (hv 2 (by decide) (by decide)) dL_law_705 ?_
  refine ro_V (As := [.int (xs (i + 1).toNatClampNeg), .int (xs (i + 2).toNatClampNeg)]) (rest := []) S (s_X9_argue l D k a st sl (xs (i + 1).toNatClampNeg) (xs (i + 2).toNatClampNeg) _ hB ) lkL_69 ok_X9_argue ⟨rfl, rfl, Nat.le_of_ble_eq_true rfl, Nat.le_of_ble_eq_true rfl⟩ (pw_V (ci := 9) (q0 := 0) hK hN rfl cw_0 hP1 ((d_left hD).weaken (fun _ _ _ _ => trivial))) rfl hl.1 rfl (Nat.le_of_ble_eq_true rfl) hcs dL_law_706 (fun r1 er1 => ?_)
  refine lv_pop hx hb dL_law_709 rfl ?_
  refine lv_aload_n hx hb dL_law_710 rfl (lv_at hl 2 rfl) ?_
  refine lv_aload_n hx hb dL_law_711 rfl (lv_at hl 0 rfl) ?_
  refine lv_iload_n hx hb dL_law_712 rfl (lv_at hl 3 rfl) ?_
  refine lv_iconst (v := 1) hx hb dL_law_713 (by decide) ?_
  refine lv_iadd hx hb dL_law_714 ?_
  refine va_sld hx hb hX hbl hbA hS (hv 1 (by decide) (by decide)) dL_law_715 ?_
  refine lv_aload_n hx hb dL_law_716 rfl (lv_at hl 0 rfl) ?_
  refine lv_iload_n hx hb dL_law_717 rfl (lv_at hl 3 rfl) ?_
  refine lv_iconst (v := 2) hx hb dL_law_718 (by decide) ?_
  refine lv_iadd hx hb dL_law_719 ?_
  refine va_sld hx hb hX hbl hbA hS (hv 2 (by decide) (by decide)) dL_law_720 ?_
  refine tw_i hP2 hP1 (d_swap hD) hS hA (fun hDc => run_V (mc := 0) (ms := 0) (As := [.int (xs (i + 1).toNatClampNeg), .int (xs (i + 2).toNatClampNeg)]) (rest := []) S (m_X10_argue l D k q mt ml (xs (i + 1).toNatClampNeg) (xs (i + 2).toNatClampNeg) _ hM hWK) lkL_72 ok_X10_argue ⟨rfl, rfl, Nat.le_of_ble_eq_true rfl, Nat.le_of_ble_eq_true rfl⟩ (pw_V (ci := 10) (q0 := 0) hK hN rfl mw_0 hP2 hDc) rfl hl.1 rfl (Nat.le_of_ble_eq_true rfl) hcs dL_law_721) (fun r2 m3 H9 locs9 hm3 hPa hPb hD9 hS9 => ?_)
  clear hP1 hP2 hD hS
  have hS := hS9
  have hP2 : va_P D vwCl (MWS k q m3 ml) H9 := hPa
  have hP1 := hPb
  have hD : va_D (fun z : Nat => s.heap.size ≤ z) (CWS k a st sl ++ MWS k q m3 ml) := d_swap hD9
  clear hPa hPb hD9 hS9
  obtain ⟨hBm3, gm3, fm3⟩ := hm3
  refine lv_pop hx hb dL_law_724 rfl ?_
  refine lv_goto (tgt := 2212) hx hb dL_law_725 (by decide) ?_
  exact hend st m3 sl ml _ _ ⟨hB, hXB, hBm3, (wok_of (gm3 1 (by decide)) hWK), (xm_fr hXM (gm3 2 (by decide)) (gm3 3 (by decide))), (rel_fr hR rfl rfl rfl (gm3 3 (by decide)) (gm3 18 (by decide)) (gm3 19 (by decide)))⟩ hP1 hP2 hD hS
set_option maxHeartbeats 4000000 in
set_option maxRecDepth 100000 in
theorem lc_14 {p : Program} {l : Launch} {e : Env} {s : State} {m : MethodId} {below : List Frame} {meth : Method} {c : Code} {H : Heap} {locs : List Loc} {cells slots : Nat} {Q : State → Prop} {b L : Nat} {xs : Nat → Int32} {D : va_G} {k : Nat → ClassId} {a q : Nat → Nat} {st mt : CT} {sl ml : CL} {i : Int32} {ls : Array Slot} (G : LSX p s m c b L xs D k) (hv : ∀ j : Int32, 0 ≤ j.toInt → j.toInt ≤ 5 → vp_in (i + j) L) (hl : lv_has ls 4 [(0, .ref b), (1, .ref (a 0)), (2, .ref (q 0)), (3, .int i)]) (hcs : cells ≤ 600000 ∧ slots ≤ 7302250) (hI : INV st mt) (hP1 : va_P D vwCl (CWS k a st sl) H) (hP2 : va_P D vwCl (MWS k q mt ml) H) (hD : va_D (fun z : Nat => s.heap.size ≤ z) (CWS k a st sl ++ MWS k q mt ml)) (hS : va_S (fun z : Nat => s.heap.size ≤ z) s.heap H locs) (hend : ∀ (st mt : CT) (sl ml : CL) (H : Heap) (locs : List Loc), INV st mt → va_P D vwCl (CWS k a st sl) H → va_P D vwCl (MWS k q mt ml) H → va_D (fun z : Nat => s.heap.size ≤ z) (CWS k a st sl ++ MWS k q mt ml) → va_S (fun z : Nat => s.heap.size ≤ z) s.heap H locs → W p l e room_1 s m #[Value.ref b] below meth c H locs cells slots Q (F0 m 2212 ls [])) : W p l e room_1 s m #[Value.ref b] below meth c H locs cells slots Q (F0 m 728 ls []) := by
  obtain ⟨S, hK, hN, hNS, hX, hbl⟩ := G
  obtain ⟨hB, hXB, hM, hWK, hXM, hR⟩ := hI
  have hx := S.1
  have hb := S.2.1
  have hown := S.2.2.2.1
  have hT := S.2.2.2.2
  have hbA : ¬ (fun z : Nat => s.heap.size ≤ z) b := Nat.not_le.mpr hbl
  have hA : ∀ q : Nat, s.heap.size ≤ q → (fun z : Nat => s.heap.size ≤ z) q := fun _ h => h
  refine lv_aload_n hx hb dL_law_728 rfl (lv_at hl 1 rfl) ?_
  refine lv_aload_n hx hb dL_law_729 rfl (lv_at hl 0 rfl) ?_
  refine lv_iload_n hx hb dL_law_730 rfl (lv_at hl 3 rfl) ?_
  refine lv_iconst (v := 1) hx hb dL_law_731 (by decide) ?_
  refine lv_iadd hx hb dL_law_732 ?_
  refine va_sld hx hb hX hbl hbA hS (hv 1 (by decide) (by decide)) dL_law_733 ?_
  refine lv_aload_n hx hb dL_law_734 rfl (lv_at hl 0 rfl) ?_
  refine lv_iload_n hx hb dL_law_735 rfl (lv_at hl 3 rfl) ?_
  refine lv_iconst (v := 2) hx hb dL_law_736 (by decide) ?_
  refine lv_iadd hx hb dL_law_737 ?_
  refine va_sld hx hb hX hbl hbA hS (hv 2 (by decide) (by decide)) dL_law_738 ?_
  refine tw_i hP1 hP2 hD hS hA (fun hDc => run_V (mc := 0) (ms := 0) (As := [.int (xs (i + 1).toNatClampNeg), .int (xs (i + 2).toNatClampNeg)]) (rest := []) S (s_X9_drive l D k a st sl (xs (i + 1).toNatClampNeg) (xs (i + 2).toNatClampNeg) _ hB hXB.1) lkL_73 ok_X9_drive ⟨rfl, rfl, Nat.le_of_ble_eq_true rfl, Nat.le_of_ble_eq_true rfl⟩ (pw_V (ci := 9) (q0 := 0) hK hN rfl cw_0 hP1 hDc) rfl hl.1 rfl (Nat.le_of_ble_eq_true rfl) hcs dL_law_739) (fun r1 s2 H9 locs9 hs2 hPa hPb hD9 hS9 => ?_)
  clear hP1 hP2 hD hS
  have hS := hS9
  have hP1 : va_P D vwCl (CWS k a s2 sl) H9 := hPa
  have hP2 := hPb
  have hD : va_D (fun z : Nat => s.heap.size ≤ z) (CWS k a s2 sl ++ MWS k q mt ml) := hD9
  clear hPa hPb hD9 hS9
  obtain ⟨hBs2, gs2, fs2⟩ := hs2
  refine lv_pop hx hb dL_law_742 rfl ?_
  refine lv_aload_n hx hb dL_law_743 rfl (lv_at hl 2 rfl) ?_
  refine lv_aload_n hx hb dL_law_744 rfl (lv_at hl 0 rfl) ?_
  refine lv_iload_n hx hb dL_law_745 rfl (lv_at hl 3 rfl) ?_
  refine lv_iconst (v := 1) hx hb dL_law_746 (by decide) ?_
  refine lv_iadd hx hb dL_law_747 ?_
  refine va_sld hx hb hX hbl hbA hS (hv 1 (by decide) (by decide)) dL_law_748 ?_
  refine lv_aload_n hx hb dL_law_749 rfl (lv_at hl 0 rfl) ?_
  refine lv_iload_n hx hb dL_law_750 rfl (lv_at hl 3 rfl) ?_
  refine lv_iconst (v := 2) hx hb dL_law_751 (by decide) ?_
  refine lv_iadd hx hb dL_law_752 ?_
  refine va_sld hx hb hX hbl hbA hS (hv 2 (by decide) (by decide)) dL_law_753 ?_
  refine tw_i hP2 hP1 (d_swap hD) hS hA (fun hDc => run_V (mc := 0) (ms := 0) (As := [.int (xs (i + 1).toNatClampNeg), .int (xs (i + 2).toNatClampNeg)]) (rest := []) S (m_X10_drive l D k q mt ml (xs (i + 1).toNatClampNeg) (xs (i + 2).toNatClampNeg) _ hM hWK) lkL_76 ok_X10_drive ⟨rfl, rfl, Nat.le_of_ble_eq_true rfl, Nat.le_of_ble_eq_true rfl⟩ (pw_V (ci := 10) (q0 := 0) hK hN rfl mw_0 hP2 hDc) rfl hl.1 rfl (Nat.le_of_ble_eq_true rfl) hcs dL_law_754) (fun r3 m4 H9 locs9 hm4 hPa hPb hD9 hS9 => ?_)
  clear hP1 hP2 hD hS
  have hS := hS9
  have hP2 : va_P D vwCl (MWS k q m4 ml) H9 := hPa
  have hP1 := hPb
  have hD : va_D (fun z : Nat => s.heap.size ≤ z) (CWS k a s2 sl ++ MWS k q m4 ml) := d_swap hD9
  clear hPa hPb hD9 hS9
  obtain ⟨hBm4, gm4, fm4⟩ := hm4
  refine lv_pop hx hb dL_law_757 rfl ?_
  refine lv_goto (tgt := 2212) hx hb dL_law_758 (by decide) ?_
  exact hend s2 m4 sl ml _ _ ⟨hBs2, (xb_17 hXB fs2.2 gs2 (by decide)), hBm4, fm4, (xm_fr hXM (gm4 2 (by decide)) (gm4 3 (by decide))), (rel_fr hR (gs2 110 (by decide)) (gs2 112 (by decide)) (gs2 113 (by decide)) (gm4 3 (by decide)) (gm4 18 (by decide)) (gm4 19 (by decide)))⟩ hP1 hP2 hD hS
set_option maxHeartbeats 4000000 in
set_option maxRecDepth 100000 in
theorem lc_15 {p : Program} {l : Launch} {e : Env} {s : State} {m : MethodId} {below : List Frame} {meth : Method} {c : Code} {H : Heap} {locs : List Loc} {cells slots : Nat} {Q : State → Prop} {b L : Nat} {xs : Nat → Int32} {D : va_G} {k : Nat → ClassId} {a q : Nat → Nat} {st mt : CT} {sl ml : CL} {i : Int32} {ls : Array Slot} (G : LSX p s m c b L xs D k) (hv : ∀ j : Int32, 0 ≤ j.toInt → j.toInt ≤ 5 → vp_in (i + j) L) (hl : lv_has ls 4 [(0, .ref b), (1, .ref (a 0)), (2, .ref (q 0)), (3, .int i)]) (hcs : cells ≤ 600000 ∧ slots ≤ 7302250) (hI : INV st mt) (hP1 : va_P D vwCl (CWS k a st sl) H) (hP2 : va_P D vwCl (MWS k q mt ml) H) (hD : va_D (fun z : Nat => s.heap.size ≤ z) (CWS k a st sl ++ MWS k q mt ml)) (hS : va_S (fun z : Nat => s.heap.size ≤ z) s.heap H locs) (hend : ∀ (st mt : CT) (sl ml : CL) (H : Heap) (locs : List Loc), INV st mt → va_P D vwCl (CWS k a st sl) H → va_P D vwCl (MWS k q mt ml) H → va_D (fun z : Nat => s.heap.size ≤ z) (CWS k a st sl ++ MWS k q mt ml) → va_S (fun z : Nat => s.heap.size ≤ z) s.heap H locs → W p l e room_1 s m #[Value.ref b] below meth c H locs cells slots Q (F0 m 2212 ls [])) : W p l e room_1 s m #[Value.ref b] below meth c H locs cells slots Q (F0 m 761 ls []) := by
  obtain ⟨S, hK, hN, hNS, hX, hbl⟩ := G
  obtain ⟨hB, hXB, hM, hWK, hXM, hR⟩ := hI
  have hx := S.1
  have hb := S.2.1
  have hown := S.2.2.2.1
  have hT := S.2.2.2.2
  have hbA : ¬ (fun z : Nat => s.heap.size ≤ z) b := Nat.not_le.mpr hbl
  have hA : ∀ q : Nat, s.heap.size ≤ q → (fun z : Nat => s.heap.size ≤ z) q := fun _ h => h
  refine lv_aload_n hx hb dL_law_761 rfl (lv_at hl 1 rfl) ?_
  refine lv_aload_n hx hb dL_law_762 rfl (lv_at hl 0 rfl) ?_
  refine lv_iload_n hx hb dL_law_763 rfl (lv_at hl 3 rfl) ?_
  refine lv_iconst (v := 1) hx hb dL_law_764 (by decide) ?_
  refine lv_iadd hx hb dL_law_765 ?_
  refine va_sld hx hb hX hbl hbA hS (hv 1 (by decide) (by decide)) dL_law_766 ?_
  refine lv_aload_n hx hb dL_law_767 rfl (lv_at hl 0 rfl) ?_
  refine lv_iload_n hx hb dL_law_768 rfl (lv_at hl 3 rfl) ?_
  refine lv_iconst (v := 2) hx hb dL_law_769 (by decide) ?_
  refine lv_iadd hx hb dL_law_770 ?_
  refine va_sld hx hb hX hbl hbA hS (hv 2 (by decide) (by decide)) dL_law_771 ?_
  refine tw_i hP1 hP2 hD hS hA (fun hDc => run_V (mc := 0) (ms := 0) (As := [.int (xs (i + 1).toNatClampNeg), .int (xs (i + 2).toNatClampNeg)]) (rest := []) S (s_X9_swap l D k a st sl (xs (i + 1).toNatClampNeg) (xs (i + 2).toNatClampNeg) _ hB hXB.1) lkL_77 ok_X9_swap ⟨rfl, rfl, Nat.le_of_ble_eq_true rfl, Nat.le_of_ble_eq_true rfl⟩ (pw_V (ci := 9) (q0 := 0) hK hN rfl cw_0 hP1 hDc) rfl hl.1 rfl (Nat.le_of_ble_eq_true rfl) hcs dL_law_772) (fun r1 s2 H9 locs9 hs2 hPa hPb hD9 hS9 => ?_)
  clear hP1 hP2 hD hS
  have hS := hS9
  have hP1 : va_P D vwCl (CWS k a s2 sl) H9 := hPa
  have hP2 := hPb
  have hD : va_D (fun z : Nat => s.heap.size ≤ z) (CWS k a s2 sl ++ MWS k q mt ml) := hD9
  clear hPa hPb hD9 hS9
  obtain ⟨hBs2, gs2, fs2⟩ := hs2
  refine lv_pop hx hb dL_law_775 rfl ?_
  refine lv_aload_n hx hb dL_law_776 rfl (lv_at hl 2 rfl) ?_
  refine lv_aload_n hx hb dL_law_777 rfl (lv_at hl 0 rfl) ?_
  refine lv_iload_n hx hb dL_law_778 rfl (lv_at hl 3 rfl) ?_
  refine lv_iconst (v := 1) hx hb dL_law_779 (by decide) ?_
  refine lv_iadd hx hb dL_law_780 ?_
  refine va_sld hx hb hX hbl hbA hS (hv 1 (by decide) (by decide)) dL_law_781 ?_
  refine lv_aload_n hx hb dL_law_782 rfl (lv_at hl 0 rfl) ?_
  refine lv_iload_n hx hb dL_law_783 rfl (lv_at hl 3 rfl) ?_
  refine lv_iconst (v := 2) hx hb dL_law_784 (by decide) ?_
  refine lv_iadd hx hb dL_law_785 ?_
  refine va_sld hx hb hX hbl hbA hS (hv 2 (by decide) (by decide)) dL_law_786 ?_
  refine tw_i hP2 hP1 (d_swap hD) hS hA (fun hDc => run_V (mc := 0) (ms := 0) (As := [.int (xs (i + 1).toNatClampNeg), .int (xs (i + 2).toNatClampNeg)]) (rest := []) S (m_X10_swap l D k q mt ml (xs (i + 1).toNatClampNeg) (xs (i + 2).toNatClampNeg) _ hM hWK) lkL_80 ok_X10_swap ⟨rfl, rfl, Nat.le_of_ble_eq_true rfl, Nat.le_of_ble_eq_true rfl⟩ (pw_V (ci := 10) (q0 := 0) hK hN rfl mw_0 hP2 hDc) rfl hl.1 rfl (Nat.le_of_ble_eq_true rfl) hcs dL_law_787) (fun r3 m4 H9 locs9 hm4 hPa hPb hD9 hS9 => ?_)
  clear hP1 hP2 hD hS
  have hS := hS9
  have hP2 : va_P D vwCl (MWS k q m4 ml) H9 := hPa
  have hP1 := hPb
  have hD : va_D (fun z : Nat => s.heap.size ≤ z) (CWS k a s2 sl ++ MWS k q m4 ml) := d_swap hD9
  clear hPa hPb hD9 hS9
  obtain ⟨hBm4, gm4, fm4⟩ := hm4
  refine lv_pop hx hb dL_law_790 rfl ?_
  refine lv_goto (tgt := 2212) hx hb dL_law_791 (by decide) ?_
  exact hend s2 m4 sl ml _ _ ⟨hBs2, (xb_17 hXB fs2.2 gs2 (by decide)), hBm4, fm4.2, (xm_fr hXM (gm4 2 (by decide)) (gm4 3 (by decide))), (rel_fr hR (gs2 110 (by decide)) (gs2 112 (by decide)) (gs2 113 (by decide)) (gm4 3 (by decide)) (gm4 18 (by decide)) (gm4 19 (by decide)))⟩ hP1 hP2 hD hS
