set_option maxHeartbeats 4000000 in
set_option maxRecDepth 100000 in
theorem lc_48 {p : Program} {l : Launch} {e : Env} {s : State} {m : MethodId} {below : List Frame} {meth : Method} {c : Code} {H : Heap} {locs : List Loc} {cells slots : Nat} {Q : State → Prop} {b L : Nat} {xs : Nat → Int32} {D : va_G} {k : Nat → ClassId} {a q : Nat → Nat} {st mt : CT} {sl ml : CL} {i : Int32} {ls : Array Slot} (G : LSX p s m c b L xs D k) (hv : ∀ j : Int32, 0 ≤ j.toInt → j.toInt ≤ 5 → vp_in (i + j) L) (hl : lv_has ls 4 [(0, .ref b), (1, .ref (a 0)), (2, .ref (q 0)), (3, .int i)]) (hcs : cells ≤ 600000 ∧ slots ≤ 7302250) (hI : INV st mt) (hP1 : va_P D vwCl (CWS k a st sl) H) (hP2 : va_P D vwCl (MWS k q mt ml) H) (hD : va_D (fun z : Nat => s.heap.size ≤ z) (CWS k a st sl ++ MWS k q mt ml)) (hS : va_S (fun z : Nat => s.heap.size ≤ z) s.heap H locs) (hend : ∀ (st mt : CT) (sl ml : CL) (H : Heap) (locs : List Loc), INV st mt → va_P D vwCl (CWS k a st sl) H → va_P D vwCl (MWS k q mt ml) H → va_D (fun z : Nat => s.heap.size ≤ z) (CWS k a st sl ++ MWS k q mt ml) → va_S (fun z : Nat => s.heap.size ≤ z) s.heap H locs → W p l e room_1 s m #[Value.ref b] below meth c H locs cells slots Q (F0 m 2212 ls [])) : W p l e room_1 s m #[Value.ref b] below meth c H locs cells slots Q (F0 m 1690 ls []) := by
  obtain ⟨S, hK, hN, hNS, hX, hbl⟩ := G
  obtain ⟨hB, hXB, hM, hWK, hXM, hR⟩ := hI
  have hx := S.1
  have hb := S.2.1
  have hown := S.2.2.2.1
  have hT := S.2.2.2.2
  have hbA : ¬ (fun z : Nat => s.heap.size ≤ z) b := Nat.not_le.mpr hbl
  have hA : ∀ q : Nat, s.heap.size ≤ q → (fun z : Nat => s.heap.size ≤ z) q := fun _ h => h
  refine lv_aload_n hx hb dL_law_1690 rfl (lv_at hl 1 rfl) ?_
  refine lv_aload_n hx hb dL_law_1691 rfl (lv_at hl 0 rfl) ?_
  refine lv_iload_n hx hb dL_law_1692 rfl (lv_at hl 3 rfl) ?_
  refine lv_iconst (v := 1) hx hb dL_law_1693 (by decide) ?_
  refine lv_iadd hx hb dL_law_1694 ?_
  refine va_sld hx hb hX hbl hbA hS (hv 1 (by decide) (by decide)) dL_law_1695 ?_
  refine lv_aload_n hx hb dL_law_1696 rfl (lv_at hl 0 rfl) ?_
  refine lv_iload_n hx hb dL_law_1697 rfl (lv_at hl 3 rfl) ?_
  refine lv_iconst (v := 2) hx hb dL_law_1698 (by decide) ?_
  refine lv_iadd hx hb dL_law_1699 ?_
  refine va_sld hx hb hX hbl hbA hS (hv 2 (by decide) (by decide)) dL_law_1700 ?_
  refine lv_aload_n hx hb dL_law_1701 rfl (lv_at hl 0 rfl) ?_
  refine lv_iload_n hx hb dL_law_1702 rfl (lv_at hl 3 rfl) ?_
  refine lv_iconst (v := 3) hx hb dL_law_1703 (by decide) ?_
  refine lv_iadd hx hb dL_law_1704 ?_
  refine va_sld hx hb hX hbl hbA hS (hv 3 (by decide) (by decide)) dL_law_1705 ?_
  refine ro_V (As := [.int (xs (i + 1).toNatClampNeg), .int (xs (i + 2).toNatClampNeg), .int (xs (i + 3).toNatClampNeg)]) (rest := []) S (s_X9_share l D k a st sl (xs (i + 1).toNatClampNeg) (xs (i + 2).toNatClampNeg) (xs (i + 3).toNatClampNeg) _ hB ) lkL_210 ok_X9_share ⟨rfl, rfl, Nat.le_of_ble_eq_true rfl, Nat.le_of_ble_eq_true rfl⟩ (pw_V (ci := 9) (q0 := 0) hK hN rfl cw_0 hP1 ((d_left hD).weaken (fun _ _ _ _ => trivial))) rfl hl.1 rfl (Nat.le_of_ble_eq_true rfl) hcs dL_law_1706 (fun r1 er1 => ?_)
  refine lv_pop hx hb dL_law_1709 rfl ?_
  refine lv_aload_n hx hb dL_law_1710 rfl (lv_at hl 2 rfl) ?_
  refine lv_aload_n hx hb dL_law_1711 rfl (lv_at hl 0 rfl) ?_
  refine lv_iload_n hx hb dL_law_1712 rfl (lv_at hl 3 rfl) ?_
  refine lv_iconst (v := 1) hx hb dL_law_1713 (by decide) ?_
  refine lv_iadd hx hb dL_law_1714 ?_
  refine va_sld hx hb hX hbl hbA hS (hv 1 (by decide) (by decide)) dL_law_1715 ?_
  refine lv_aload_n hx hb dL_law_1716 rfl (lv_at hl 0 rfl) ?_
  refine lv_iload_n hx hb dL_law_1717 rfl (lv_at hl 3 rfl) ?_
  refine lv_iconst (v := 2) hx hb dL_law_1718 (by decide) ?_
  refine lv_iadd hx hb dL_law_1719 ?_
  refine va_sld hx hb hX hbl hbA hS (hv 2 (by decide) (by decide)) dL_law_1720 ?_
  refine lv_aload_n hx hb dL_law_1721 rfl (lv_at hl 0 rfl) ?_
  refine lv_iload_n hx hb dL_law_1722 rfl (lv_at hl 3 rfl) ?_
  refine lv_iconst (v := 3) hx hb dL_law_1723 (by decide) ?_
  refine lv_iadd hx hb dL_law_1724 ?_
  refine va_sld hx hb hX hbl hbA hS (hv 3 (by decide) (by decide)) dL_law_1725 ?_
  refine tw_i hP2 hP1 (d_swap hD) hS hA (fun hDc => run_V (mc := 0) (ms := 0) (As := [.int (xs (i + 1).toNatClampNeg), .int (xs (i + 2).toNatClampNeg), .int (xs (i + 3).toNatClampNeg)]) (rest := []) S (m_X10_share l D k q mt ml (xs (i + 1).toNatClampNeg) (xs (i + 2).toNatClampNeg) (xs (i + 3).toNatClampNeg) _ hM hWK) lkL_213 ok_X10_share ⟨rfl, rfl, Nat.le_of_ble_eq_true rfl, Nat.le_of_ble_eq_true rfl⟩ (pw_V (ci := 10) (q0 := 0) hK hN rfl mw_0 hP2 hDc) rfl hl.1 rfl (Nat.le_of_ble_eq_true rfl) hcs dL_law_1726) (fun r2 m3 H9 locs9 hm3 hPa hPb hD9 hS9 => ?_)
  clear hP1 hP2 hD hS
  have hS := hS9
  have hP2 : va_P D vwCl (MWS k q m3 ml) H9 := hPa
  have hP1 := hPb
  have hD : va_D (fun z : Nat => s.heap.size ≤ z) (CWS k a st sl ++ MWS k q m3 ml) := d_swap hD9
  clear hPa hPb hD9 hS9
  obtain ⟨hBm3, gm3, fm3⟩ := hm3
  refine lv_pop hx hb dL_law_1729 rfl ?_
  refine lv_goto (tgt := 2212) hx hb dL_law_1730 (by decide) ?_
  exact hend st m3 sl ml _ _ ⟨hB, hXB, hBm3, (wok_of (gm3 1 (by decide)) hWK), (xm_fr hXM (gm3 2 (by decide)) (gm3 3 (by decide))), (rel_fr hR rfl rfl rfl (gm3 3 (by decide)) (gm3 18 (by decide)) (gm3 19 (by decide)))⟩ hP1 hP2 hD hS
set_option maxHeartbeats 4000000 in
set_option maxRecDepth 100000 in
theorem lc_49 {p : Program} {l : Launch} {e : Env} {s : State} {m : MethodId} {below : List Frame} {meth : Method} {c : Code} {H : Heap} {locs : List Loc} {cells slots : Nat} {Q : State → Prop} {b L : Nat} {xs : Nat → Int32} {D : va_G} {k : Nat → ClassId} {a q : Nat → Nat} {st mt : CT} {sl ml : CL} {i : Int32} {ls : Array Slot} (G : LSX p s m c b L xs D k) (hv : ∀ j : Int32, 0 ≤ j.toInt → j.toInt ≤ 5 → vp_in (i + j) L) (hl : lv_has ls 4 [(0, .ref b), (1, .ref (a 0)), (2, .ref (q 0)), (3, .int i)]) (hcs : cells ≤ 600000 ∧ slots ≤ 7302250) (hI : INV st mt) (hP1 : va_P D vwCl (CWS k a st sl) H) (hP2 : va_P D vwCl (MWS k q mt ml) H) (hD : va_D (fun z : Nat => s.heap.size ≤ z) (CWS k a st sl ++ MWS k q mt ml)) (hS : va_S (fun z : Nat => s.heap.size ≤ z) s.heap H locs) (hend : ∀ (st mt : CT) (sl ml : CL) (H : Heap) (locs : List Loc), INV st mt → va_P D vwCl (CWS k a st sl) H → va_P D vwCl (MWS k q mt ml) H → va_D (fun z : Nat => s.heap.size ≤ z) (CWS k a st sl ++ MWS k q mt ml) → va_S (fun z : Nat => s.heap.size ≤ z) s.heap H locs → W p l e room_1 s m #[Value.ref b] below meth c H locs cells slots Q (F0 m 2212 ls [])) : W p l e room_1 s m #[Value.ref b] below meth c H locs cells slots Q (F0 m 1733 ls []) := by
  obtain ⟨S, hK, hN, hNS, hX, hbl⟩ := G
  obtain ⟨hB, hXB, hM, hWK, hXM, hR⟩ := hI
  have hx := S.1
  have hb := S.2.1
  have hown := S.2.2.2.1
  have hT := S.2.2.2.2
  have hbA : ¬ (fun z : Nat => s.heap.size ≤ z) b := Nat.not_le.mpr hbl
  have hA : ∀ q : Nat, s.heap.size ≤ q → (fun z : Nat => s.heap.size ≤ z) q := fun _ h => h
  refine lv_aload_n hx hb dL_law_1733 rfl (lv_at hl 1 rfl) ?_
  refine lv_aload_n hx hb dL_law_1734 rfl (lv_at hl 0 rfl) ?_
  refine lv_iload_n hx hb dL_law_1735 rfl (lv_at hl 3 rfl) ?_
  refine lv_iconst (v := 1) hx hb dL_law_1736 (by decide) ?_
  refine lv_iadd hx hb dL_law_1737 ?_
  refine va_sld hx hb hX hbl hbA hS (hv 1 (by decide) (by decide)) dL_law_1738 ?_
  refine ro_V (As := [.int (xs (i + 1).toNatClampNeg)]) (rest := []) S (s_X9_worth l D k a st sl (xs (i + 1).toNatClampNeg) _ hB ) lkL_214 ok_X9_worth ⟨rfl, rfl, Nat.le_of_ble_eq_true rfl, Nat.le_of_ble_eq_true rfl⟩ (pw_V (ci := 9) (q0 := 0) hK hN rfl cw_0 hP1 ((d_left hD).weaken (fun _ _ _ _ => trivial))) rfl hl.1 rfl (Nat.le_of_ble_eq_true rfl) hcs dL_law_1739 (fun r1 er1 => ?_)
  refine lv_pop hx hb dL_law_1742 rfl ?_
  refine lv_aload_n hx hb dL_law_1743 rfl (lv_at hl 2 rfl) ?_
  refine lv_aload_n hx hb dL_law_1744 rfl (lv_at hl 0 rfl) ?_
  refine lv_iload_n hx hb dL_law_1745 rfl (lv_at hl 3 rfl) ?_
  refine lv_iconst (v := 1) hx hb dL_law_1746 (by decide) ?_
  refine lv_iadd hx hb dL_law_1747 ?_
  refine va_sld hx hb hX hbl hbA hS (hv 1 (by decide) (by decide)) dL_law_1748 ?_
  refine tw_i hP2 hP1 (d_swap hD) hS hA (fun hDc => run_V (mc := 0) (ms := 0) (As := [.int (xs (i + 1).toNatClampNeg)]) (rest := []) S (m_X10_worth l D k q mt ml (xs (i + 1).toNatClampNeg) _ hM hWK) lkL_217 ok_X10_worth ⟨rfl, rfl, Nat.le_of_ble_eq_true rfl, Nat.le_of_ble_eq_true rfl⟩ (pw_V (ci := 10) (q0 := 0) hK hN rfl mw_0 hP2 hDc) rfl hl.1 rfl (Nat.le_of_ble_eq_true rfl) hcs dL_law_1749) (fun r2 m3 H9 locs9 hm3 hPa hPb hD9 hS9 => ?_)
  clear hP1 hP2 hD hS
  have hS := hS9
  have hP2 : va_P D vwCl (MWS k q m3 ml) H9 := hPa
  have hP1 := hPb
  have hD : va_D (fun z : Nat => s.heap.size ≤ z) (CWS k a st sl ++ MWS k q m3 ml) := d_swap hD9
  clear hPa hPb hD9 hS9
  obtain ⟨hBm3, gm3, fm3⟩ := hm3
  refine lv_pop hx hb dL_law_1752 rfl ?_
  refine lv_goto (tgt := 2212) hx hb dL_law_1753 (by decide) ?_
  exact hend st m3 sl ml _ _ ⟨hB, hXB, hBm3, (wok_of (gm3 1 (by decide)) hWK), (xm_fr hXM (gm3 2 (by decide)) (gm3 3 (by decide))), (rel_fr hR rfl rfl rfl (gm3 3 (by decide)) (gm3 18 (by decide)) (gm3 19 (by decide)))⟩ hP1 hP2 hD hS
set_option maxHeartbeats 4000000 in
set_option maxRecDepth 100000 in
theorem lc_50 {p : Program} {l : Launch} {e : Env} {s : State} {m : MethodId} {below : List Frame} {meth : Method} {c : Code} {H : Heap} {locs : List Loc} {cells slots : Nat} {Q : State → Prop} {b L : Nat} {xs : Nat → Int32} {D : va_G} {k : Nat → ClassId} {a q : Nat → Nat} {st mt : CT} {sl ml : CL} {i : Int32} {ls : Array Slot} (G : LSX p s m c b L xs D k) (hv : ∀ j : Int32, 0 ≤ j.toInt → j.toInt ≤ 5 → vp_in (i + j) L) (hl : lv_has ls 4 [(0, .ref b), (1, .ref (a 0)), (2, .ref (q 0)), (3, .int i)]) (hcs : cells ≤ 600000 ∧ slots ≤ 7302250) (hI : INV st mt) (hP1 : va_P D vwCl (CWS k a st sl) H) (hP2 : va_P D vwCl (MWS k q mt ml) H) (hD : va_D (fun z : Nat => s.heap.size ≤ z) (CWS k a st sl ++ MWS k q mt ml)) (hS : va_S (fun z : Nat => s.heap.size ≤ z) s.heap H locs) (hend : ∀ (st mt : CT) (sl ml : CL) (H : Heap) (locs : List Loc), INV st mt → va_P D vwCl (CWS k a st sl) H → va_P D vwCl (MWS k q mt ml) H → va_D (fun z : Nat => s.heap.size ≤ z) (CWS k a st sl ++ MWS k q mt ml) → va_S (fun z : Nat => s.heap.size ≤ z) s.heap H locs → W p l e room_1 s m #[Value.ref b] below meth c H locs cells slots Q (F0 m 2212 ls [])) : W p l e room_1 s m #[Value.ref b] below meth c H locs cells slots Q (F0 m 1756 ls []) := by
  obtain ⟨S, hK, hN, hNS, hX, hbl⟩ := G
  obtain ⟨hB, hXB, hM, hWK, hXM, hR⟩ := hI
  have hx := S.1
  have hb := S.2.1
  have hown := S.2.2.2.1
  have hT := S.2.2.2.2
  have hbA : ¬ (fun z : Nat => s.heap.size ≤ z) b := Nat.not_le.mpr hbl
  have hA : ∀ q : Nat, s.heap.size ≤ q → (fun z : Nat => s.heap.size ≤ z) q := fun _ h => h
  refine lv_aload_n hx hb dL_law_1756 rfl (lv_at hl 1 rfl) ?_
  refine tw_i hP1 hP2 hD hS hA (fun hDc => run_V (mc := 0) (ms := 0) (As := []) (rest := []) S (s_X9_smiths l D k a st sl  _ hB ) lkL_218 ok_X9_smiths ⟨rfl, rfl, Nat.le_of_ble_eq_true rfl, Nat.le_of_ble_eq_true rfl⟩ (pw_V (ci := 9) (q0 := 0) hK hN rfl cw_0 hP1 hDc) rfl hl.1 rfl (Nat.le_of_ble_eq_true rfl) hcs dL_law_1757) (fun r1 s2 H9 locs9 hs2 hPa hPb hD9 hS9 => ?_)
  clear hP1 hP2 hD hS
  have hS := hS9
  have hP1 : va_P D vwCl (CWS k a s2 sl) H9 := hPa
  have hP2 := hPb
  have hD : va_D (fun z : Nat => s.heap.size ≤ z) (CWS k a s2 sl ++ MWS k q mt ml) := hD9
  clear hPa hPb hD9 hS9
  obtain ⟨hBs2, gs2, fs2⟩ := hs2
  refine lv_pop hx hb dL_law_1760 rfl ?_
  refine lv_aload_n hx hb dL_law_1761 rfl (lv_at hl 2 rfl) ?_
  refine tw_i hP2 hP1 (d_swap hD) hS hA (fun hDc => run_V (mc := 0) (ms := 0) (As := []) (rest := []) S (m_X10_smiths l D k q mt ml  _ hM hWK) lkL_221 ok_X10_smiths ⟨rfl, rfl, Nat.le_of_ble_eq_true rfl, Nat.le_of_ble_eq_true rfl⟩ (pw_V (ci := 10) (q0 := 0) hK hN rfl mw_0 hP2 hDc) rfl hl.1 rfl (Nat.le_of_ble_eq_true rfl) hcs dL_law_1762) (fun r3 m4 H9 locs9 hm4 hPa hPb hD9 hS9 => ?_)
  clear hP1 hP2 hD hS
  have hS := hS9
  have hP2 : va_P D vwCl (MWS k q m4 ml) H9 := hPa
  have hP1 := hPb
  have hD : va_D (fun z : Nat => s.heap.size ≤ z) (CWS k a s2 sl ++ MWS k q m4 ml) := d_swap hD9
  clear hPa hPb hD9 hS9
  obtain ⟨hBm4, gm4, fm4⟩ := hm4
  refine lv_pop hx hb dL_law_1765 rfl ?_
  refine lv_goto (tgt := 2212) hx hb dL_law_1766 (by decide) ?_
  exact hend s2 m4 sl ml _ _ ⟨hBs2, (xb_fr hXB gs2 (by decide)), hBm4, (wok_of (gm4 1 (by decide)) hWK), (xm_fr hXM (gm4 2 (by decide)) (gm4 3 (by decide))), (rel_fr hR (gs2 110 (by decide)) (gs2 112 (by decide)) (gs2 113 (by decide)) (gm4 3 (by decide)) (gm4 18 (by decide)) (gm4 19 (by decide)))⟩ hP1 hP2 hD hS
set_option maxHeartbeats 4000000 in
set_option maxRecDepth 100000 in
theorem lc_51 {p : Program} {l : Launch} {e : Env} {s : State} {m : MethodId} {below : List Frame} {meth : Method} {c : Code} {H : Heap} {locs : List Loc} {cells slots : Nat} {Q : State → Prop} {b L : Nat} {xs : Nat → Int32} {D : va_G} {k : Nat → ClassId} {a q : Nat → Nat} {st mt : CT} {sl ml : CL} {i : Int32} {ls : Array Slot} (G : LSX p s m c b L xs D k) (hv : ∀ j : Int32, 0 ≤ j.toInt → j.toInt ≤ 5 → vp_in (i + j) L) (hl : lv_has ls 4 [(0, .ref b), (1, .ref (a 0)), (2, .ref (q 0)), (3, .int i)]) (hcs : cells ≤ 600000 ∧ slots ≤ 7302250) (hI : INV st mt) (hP1 : va_P D vwCl (CWS k a st sl) H) (hP2 : va_P D vwCl (MWS k q mt ml) H) (hD : va_D (fun z : Nat => s.heap.size ≤ z) (CWS k a st sl ++ MWS k q mt ml)) (hS : va_S (fun z : Nat => s.heap.size ≤ z) s.heap H locs) (hend : ∀ (st mt : CT) (sl ml : CL) (H : Heap) (locs : List Loc), INV st mt → va_P D vwCl (CWS k a st sl) H → va_P D vwCl (MWS k q mt ml) H → va_D (fun z : Nat => s.heap.size ≤ z) (CWS k a st sl ++ MWS k q mt ml) → va_S (fun z : Nat => s.heap.size ≤ z) s.heap H locs → W p l e room_1 s m #[Value.ref b] below meth c H locs cells slots Q (F0 m 2212 ls [])) : W p l e room_1 s m #[Value.ref b] below meth c H locs cells slots Q (F0 m 1769 ls []) := by
  obtain ⟨S, hK, hN, hNS, hX, hbl⟩ := G
  obtain ⟨hB, hXB, hM, hWK, hXM, hR⟩ := hI
  have hx := S.1
  have hb := S.2.1
  have hown := S.2.2.2.1
  have hT := S.2.2.2.2
  have hbA : ¬ (fun z : Nat => s.heap.size ≤ z) b := Nat.not_le.mpr hbl
  have hA : ∀ q : Nat, s.heap.size ≤ q → (fun z : Nat => s.heap.size ≤ z) q := fun _ h => h
  refine lv_aload_n hx hb dL_law_1769 rfl (lv_at hl 1 rfl) ?_
  refine tw_i hP1 hP2 hD hS hA (fun hDc => run_V (mc := 0) (ms := 0) (As := []) (rest := []) S (s_X9_picks l D k a st sl  _ hB ) lkL_222 ok_X9_picks ⟨rfl, rfl, Nat.le_of_ble_eq_true rfl, Nat.le_of_ble_eq_true rfl⟩ (pw_V (ci := 9) (q0 := 0) hK hN rfl cw_0 hP1 hDc) rfl hl.1 rfl (Nat.le_of_ble_eq_true rfl) hcs dL_law_1770) (fun r1 s2 H9 locs9 hs2 hPa hPb hD9 hS9 => ?_)
  clear hP1 hP2 hD hS
  have hS := hS9
  have hP1 : va_P D vwCl (CWS k a s2 sl) H9 := hPa
  have hP2 := hPb
  have hD : va_D (fun z : Nat => s.heap.size ≤ z) (CWS k a s2 sl ++ MWS k q mt ml) := hD9
  clear hPa hPb hD9 hS9
  obtain ⟨hBs2, gs2, fs2⟩ := hs2
  refine lv_pop hx hb dL_law_1773 rfl ?_
  refine lv_aload_n hx hb dL_law_1774 rfl (lv_at hl 2 rfl) ?_
  refine tw_i hP2 hP1 (d_swap hD) hS hA (fun hDc => run_V (mc := 0) (ms := 0) (As := []) (rest := []) S (m_X10_picks l D k q mt ml  _ hM hWK) lkL_225 ok_X10_picks ⟨rfl, rfl, Nat.le_of_ble_eq_true rfl, Nat.le_of_ble_eq_true rfl⟩ (pw_V (ci := 10) (q0 := 0) hK hN rfl mw_0 hP2 hDc) rfl hl.1 rfl (Nat.le_of_ble_eq_true rfl) hcs dL_law_1775) (fun r3 m4 H9 locs9 hm4 hPa hPb hD9 hS9 => ?_)
  clear hP1 hP2 hD hS
  have hS := hS9
  have hP2 : va_P D vwCl (MWS k q m4 ml) H9 := hPa
  have hP1 := hPb
  have hD : va_D (fun z : Nat => s.heap.size ≤ z) (CWS k a s2 sl ++ MWS k q m4 ml) := d_swap hD9
  clear hPa hPb hD9 hS9
  obtain ⟨hBm4, gm4, fm4⟩ := hm4
  refine lv_pop hx hb dL_law_1778 rfl ?_
  refine lv_goto (tgt := 2212) hx hb dL_law_1779 (by decide) ?_
  exact hend s2 m4 sl ml _ _ ⟨hBs2, (xb_fr hXB gs2 (by decide)), hBm4, (wok_of (gm4 1 (by decide)) hWK), (xm_fr hXM (gm4 2 (by decide)) (gm4 3 (by decide))), (rel_fr hR (gs2 110 (by decide)) (gs2 112 (by decide)) (gs2 113 (by decide)) (gm4 3 (by decide)) (gm4 18 (by decide)) (gm4 19 (by decide)))⟩ hP1 hP2 hD hS
set_option maxHeartbeats 4000000 in
set_option maxRecDepth 100000 in
theorem lc_52 {p : Program} {l : Launch} {e : Env} {s : State} {m : MethodId} {below : List Frame} {meth : Method} {c : Code} {H : Heap} {locs : List Loc} {cells slots : Nat} {Q : State → Prop} {b L : Nat} {xs : Nat → Int32} {D : va_G} {k : Nat → ClassId} {a q : Nat → Nat} {st mt : CT} {sl ml : CL} {i : Int32} {ls : Array Slot} (G : LSX p s m c b L xs D k) (hv : ∀ j : Int32, 0 ≤ j.toInt → j.toInt ≤ 5 → vp_in (i + j) L) (hl : lv_has ls 4 [(0, .ref b), (1, .ref (a 0)), (2, .ref (q 0)), (3, .int i)]) (hcs : cells ≤ 600000 ∧ slots ≤ 7302250) (hI : INV st mt) (hP1 : va_P D vwCl (CWS k a st sl) H) (hP2 : va_P D vwCl (MWS k q mt ml) H) (hD : va_D (fun z : Nat => s.heap.size ≤ z) (CWS k a st sl ++ MWS k q mt ml)) (hS : va_S (fun z : Nat => s.heap.size ≤ z) s.heap H locs) (hend : ∀ (st mt : CT) (sl ml : CL) (H : Heap) (locs : List Loc), INV st mt → va_P D vwCl (CWS k a st sl) H → va_P D vwCl (MWS k q mt ml) H → va_D (fun z : Nat => s.heap.size ≤ z) (CWS k a st sl ++ MWS k q mt ml) → va_S (fun z : Nat => s.heap.size ≤ z) s.heap H locs → W p l e room_1 s m #[Value.ref b] below meth c H locs cells slots Q (F0 m 2212 ls [])) : W p l e room_1 s m #[Value.ref b] below meth c H locs cells slots Q (F0 m 1782 ls []) := by
  obtain ⟨S, hK, hN, hNS, hX, hbl⟩ := G
  obtain ⟨hB, hXB, hM, hWK, hXM, hR⟩ := hI
  have hx := S.1
  have hb := S.2.1
  have hown := S.2.2.2.1
  have hT := S.2.2.2.2
  have hbA : ¬ (fun z : Nat => s.heap.size ≤ z) b := Nat.not_le.mpr hbl
  have hA : ∀ q : Nat, s.heap.size ≤ q → (fun z : Nat => s.heap.size ≤ z) q := fun _ h => h
  refine lv_aload_n hx hb dL_law_1782 rfl (lv_at hl 1 rfl) ?_
  refine lv_aload_n hx hb dL_law_1783 rfl (lv_at hl 0 rfl) ?_
  refine lv_iload_n hx hb dL_law_1784 rfl (lv_at hl 3 rfl) ?_
  refine lv_iconst (v := 1) hx hb dL_law_1785 (by decide) ?_
  refine lv_iadd hx hb dL_law_1786 ?_
  refine va_sld hx hb hX hbl hbA hS (hv 1 (by decide) (by decide)) dL_law_1787 ?_
  refine lv_aload_n hx hb dL_law_1788 rfl (lv_at hl 0 rfl) ?_
  refine lv_iload_n hx hb dL_law_1789 rfl (lv_at hl 3 rfl) ?_
  refine lv_iconst (v := 2) hx hb dL_law_1790 (by decide) ?_
  refine lv_iadd hx hb dL_law_1791 ?_
  refine va_sld hx hb hX hbl hbA hS (hv 2 (by decide) (by decide)) dL_law_1792 ?_
  refine lv_aload_n hx hb dL_law_1793 rfl (lv_at hl 0 rfl) ?_
  refine lv_iload_n hx hb dL_law_1794 rfl (lv_at hl 3 rfl) ?_
  refine lv_iconst (v := 3) hx hb dL_law_1795 (by decide) ?_
  refine lv_iadd hx hb dL_law_1796 ?_
  refine va_sld hx hb hX hbl hbA hS (hv 3 (by decide) (by decide)) dL_law_1797 ?_
  refine lv_aload_n hx hb dL_law_1798 rfl (lv_at hl 0 rfl) ?_
  refine lv_iload_n hx hb dL_law_1799 rfl (lv_at hl 3 rfl) ?_
  refine lv_iconst (v := 4) hx hb dL_law_1800 (by decide) ?_
  refine lv_iadd hx hb dL_law_1801 ?_
  refine va_sld hx hb hX hbl hbA hS (hv 4 (by decide) (by decide)) dL_law_1802 ?_
  refine tw_i hP1 hP2 hD hS hA (fun hDc => run_V (mc := 0) (ms := 0) (As := [.int (xs (i + 1).toNatClampNeg), .int (xs (i + 2).toNatClampNeg), .int (xs (i + 3).toNatClampNeg), .int (xs (i + 4).toNatClampNeg)]) (rest := []) S (s_X9_drawn l D k a st sl (xs (i + 1).toNatClampNeg) (xs (i + 2).toNatClampNeg) (xs (i + 3).toNatClampNeg) (xs (i + 4).toNatClampNeg) _ hB ) lkL_226 ok_X9_drawn ⟨rfl, rfl, Nat.le_of_ble_eq_true rfl, Nat.le_of_ble_eq_true rfl⟩ (pw_V (ci := 9) (q0 := 0) hK hN rfl cw_0 hP1 hDc) rfl hl.1 rfl (Nat.le_of_ble_eq_true rfl) hcs dL_law_1803) (fun r1 s2 H9 locs9 hs2 hPa hPb hD9 hS9 => ?_)
  clear hP1 hP2 hD hS
  have hS := hS9
  have hP1 : va_P D vwCl (CWS k a s2 sl) H9 := hPa
  have hP2 := hPb
  have hD : va_D (fun z : Nat => s.heap.size ≤ z) (CWS k a s2 sl ++ MWS k q mt ml) := hD9
  clear hPa hPb hD9 hS9
  obtain ⟨hBs2, gs2, fs2⟩ := hs2
  refine lv_pop hx hb dL_law_1806 rfl ?_
  refine lv_aload_n hx hb dL_law_1807 rfl (lv_at hl 2 rfl) ?_
  refine lv_aload_n hx hb dL_law_1808 rfl (lv_at hl 0 rfl) ?_
  refine lv_iload_n hx hb dL_law_1809 rfl (lv_at hl 3 rfl) ?_
  refine lv_iconst (v := 1) hx hb dL_law_1810 (by decide) ?_
  refine lv_iadd hx hb dL_law_1811 ?_
  refine va_sld hx hb hX hbl hbA hS (hv 1 (by decide) (by decide)) dL_law_1812 ?_
  refine lv_aload_n hx hb dL_law_1813 rfl (lv_at hl 0 rfl) ?_
  refine lv_iload_n hx hb dL_law_1814 rfl (lv_at hl 3 rfl) ?_
  refine lv_iconst (v := 2) hx hb dL_law_1815 (by decide) ?_
  refine lv_iadd hx hb dL_law_1816 ?_
  refine va_sld hx hb hX hbl hbA hS (hv 2 (by decide) (by decide)) dL_law_1817 ?_
  refine lv_aload_n hx hb dL_law_1818 rfl (lv_at hl 0 rfl) ?_
  refine lv_iload_n hx hb dL_law_1819 rfl (lv_at hl 3 rfl) ?_
  refine lv_iconst (v := 3) hx hb dL_law_1820 (by decide) ?_
  refine lv_iadd hx hb dL_law_1821 ?_
  refine va_sld hx hb hX hbl hbA hS (hv 3 (by decide) (by decide)) dL_law_1822 ?_
  refine lv_aload_n hx hb dL_law_1823 rfl (lv_at hl 0 rfl) ?_
  refine lv_iload_n hx hb dL_law_1824 rfl (lv_at hl 3 rfl) ?_
  refine lv_iconst (v := 4) hx hb dL_law_1825 (by decide) ?_
  refine lv_iadd hx hb dL_law_1826 ?_
  refine va_sld hx hb hX hbl hbA hS (hv 4 (by decide) (by decide)) dL_law_1827 ?_
  refine tw_i hP2 hP1 (d_swap hD) hS hA (fun hDc => run_V (mc := 0) (ms := 0) (As := [.int (xs (i + 1).toNatClampNeg), .int (xs (i + 2).toNatClampNeg), .int (xs (i + 3).toNatClampNeg), .int (xs (i + 4).toNatClampNeg)]) (rest := []) S (m_X10_drawn l D k q mt ml (xs (i + 1).toNatClampNeg) (xs (i + 2).toNatClampNeg) (xs (i + 3).toNatClampNeg) (xs (i + 4).toNatClampNeg) _ hM hWK) lkL_230 ok_X10_drawn ⟨rfl, rfl, Nat.le_of_ble_eq_true rfl, Nat.le_of_ble_eq_true rfl⟩ (pw_V (ci := 10) (q0 := 0) hK hN rfl mw_0 hP2 hDc) rfl hl.1 rfl (Nat.le_of_ble_eq_true rfl) hcs dL_law_1828) (fun r3 m4 H9 locs9 hm4 hPa hPb hD9 hS9 => ?_)
  clear hP1 hP2 hD hS
  have hS := hS9
  have hP2 : va_P D vwCl (MWS k q m4 ml) H9 := hPa
  have hP1 := hPb
  have hD : va_D (fun z : Nat => s.heap.size ≤ z) (CWS k a s2 sl ++ MWS k q m4 ml) := d_swap hD9
  clear hPa hPb hD9 hS9
  obtain ⟨hBm4, gm4, qm4_0, qm4_1, qm4_2, qm4_3, qm4_4, qm4_5, qm4_6, qm4_7, qm4_8, qm4_9, qm4_10, qm4_11, qm4_12, qm4_13, qm4_14, qm4_15, fm4⟩ := hm4
  refine lv_pop hx hb dL_law_1831 rfl ?_
  refine lv_goto (tgt := 2212) hx hb dL_law_1832 (by decide) ?_
  exact hend s2 m4 sl ml _ _ ⟨hBs2, (xb_fr hXB gs2 (by decide)), hBm4, (wok_of (gm4 1 (by decide)) hWK), (xm_fr hXM (gm4 2 (by decide)) (gm4 3 (by decide))), (rel_fr hR (gs2 110 (by decide)) (gs2 112 (by decide)) (gs2 113 (by decide)) (gm4 3 (by decide)) (gm4 18 (by decide)) (gm4 19 (by decide)))⟩ hP1 hP2 hD hS
set_option maxHeartbeats 4000000 in
set_option maxRecDepth 100000 in
theorem lc_53 {p : Program} {l : Launch} {e : Env} {s : State} {m : MethodId} {below : List Frame} {meth : Method} {c : Code} {H : Heap} {locs : List Loc} {cells slots : Nat} {Q : State → Prop} {b L : Nat} {xs : Nat → Int32} {D : va_G} {k : Nat → ClassId} {a q : Nat → Nat} {st mt : CT} {sl ml : CL} {i : Int32} {ls : Array Slot} (G : LSX p s m c b L xs D k) (hv : ∀ j : Int32, 0 ≤ j.toInt → j.toInt ≤ 5 → vp_in (i + j) L) (hl : lv_has ls 4 [(0, .ref b), (1, .ref (a 0)), (2, .ref (q 0)), (3, .int i)]) (hcs : cells ≤ 600000 ∧ slots ≤ 7302250) (hI : INV st mt) (hP1 : va_P D vwCl (CWS k a st sl) H) (hP2 : va_P D vwCl (MWS k q mt ml) H) (hD : va_D (fun z : Nat => s.heap.size ≤ z) (CWS k a st sl ++ MWS k q mt ml)) (hS : va_S (fun z : Nat => s.heap.size ≤ z) s.heap H locs) (hend : ∀ (st mt : CT) (sl ml : CL) (H : Heap) (locs : List Loc), INV st mt → va_P D vwCl (CWS k a st sl) H → va_P D vwCl (MWS k q mt ml) H → va_D (fun z : Nat => s.heap.size ≤ z) (CWS k a st sl ++ MWS k q mt ml) → va_S (fun z : Nat => s.heap.size ≤ z) s.heap H locs → W p l e room_1 s m #[Value.ref b] below meth c H locs cells slots Q (F0 m 2212 ls [])) : W p l e room_1 s m #[Value.ref b] below meth c H locs cells slots Q (F0 m 1835 ls []) := by
  obtain ⟨S, hK, hN, hNS, hX, hbl⟩ := G
  obtain ⟨hB, hXB, hM, hWK, hXM, hR⟩ := hI
  have hx := S.1
  have hb := S.2.1
  have hown := S.2.2.2.1
  have hT := S.2.2.2.2
  have hbA : ¬ (fun z : Nat => s.heap.size ≤ z) b := Nat.not_le.mpr hbl
  have hA : ∀ q : Nat, s.heap.size ≤ q → (fun z : Nat => s.heap.size ≤ z) q := fun _ h => h
  refine lv_aload_n hx hb dL_law_1835 rfl (lv_at hl 1 rfl) ?_
  refine lv_aload_n hx hb dL_law_1836 rfl (lv_at hl 0 rfl) ?_
  refine lv_iload_n hx hb dL_law_1837 rfl (lv_at hl 3 rfl) ?_
  refine lv_iconst (v := 1) hx hb dL_law_1838 (by decide) ?_
  refine lv_iadd hx hb dL_law_1839 ?_
  refine va_sld hx hb hX hbl hbA hS (hv 1 (by decide) (by decide)) dL_law_1840 ?_
  refine lv_aload_n hx hb dL_law_1841 rfl (lv_at hl 0 rfl) ?_
  refine lv_iload_n hx hb dL_law_1842 rfl (lv_at hl 3 rfl) ?_
  refine lv_iconst (v := 2) hx hb dL_law_1843 (by decide) ?_
  refine lv_iadd hx hb dL_law_1844 ?_
  refine va_sld hx hb hX hbl hbA hS (hv 2 (by decide) (by decide)) dL_law_1845 ?_
  refine lv_aload_n hx hb dL_law_1846 rfl (lv_at hl 0 rfl) ?_
  refine lv_iload_n hx hb dL_law_1847 rfl (lv_at hl 3 rfl) ?_
  refine lv_iconst (v := 3) hx hb dL_law_1848 (by decide) ?_
  refine lv_iadd hx hb dL_law_1849 ?_
  refine va_sld hx hb hX hbl hbA hS (hv 3 (by decide) (by decide)) dL_law_1850 ?_
  refine lv_aload_n hx hb dL_law_1851 rfl (lv_at hl 0 rfl) ?_
  refine lv_iload_n hx hb dL_law_1852 rfl (lv_at hl 3 rfl) ?_
  refine lv_iconst (v := 4) hx hb dL_law_1853 (by decide) ?_
  refine lv_iadd hx hb dL_law_1854 ?_
  refine va_sld hx hb hX hbl hbA hS (hv 4 (by decide) (by decide)) dL_law_1855 ?_
  refine lv_aload_n hx hb dL_law_1856 rfl (lv_at hl 0 rfl) ?_
  refine lv_iload_n hx hb dL_law_1857 rfl (lv_at hl 3 rfl) ?_
  refine lv_iconst (v := 5) hx hb dL_law_1858 (by decide) ?_
  refine lv_iadd hx hb dL_law_1859 ?_
  refine va_sld hx hb hX hbl hbA hS (hv 5 (by decide) (by decide)) dL_law_1860 ?_
  refine tw_i hP1 hP2 hD hS hA (fun hDc => run_V (mc := 0) (ms := 0) (As := [.int (xs (i + 1).toNatClampNeg), .int (xs (i + 2).toNatClampNeg), .int (xs (i + 3).toNatClampNeg), .int (xs (i + 4).toNatClampNeg), .int (xs (i + 5).toNatClampNeg)]) (rest := []) S (s_X9_luck l D k a st sl (xs (i + 1).toNatClampNeg) (xs (i + 2).toNatClampNeg) (xs (i + 3).toNatClampNeg) (xs (i + 4).toNatClampNeg) (xs (i + 5).toNatClampNeg) _ hB ) lkL_231 ok_X9_luck ⟨rfl, rfl, Nat.le_of_ble_eq_true rfl, Nat.le_of_ble_eq_true rfl⟩ (pw_V (ci := 9) (q0 := 0) hK hN rfl cw_0 hP1 hDc) rfl hl.1 rfl (Nat.le_of_ble_eq_true rfl) hcs dL_law_1861) (fun r1 s2 H9 locs9 hs2 hPa hPb hD9 hS9 => ?_)
  clear hP1 hP2 hD hS
  have hS := hS9
  have hP1 : va_P D vwCl (CWS k a s2 sl) H9 := hPa
  have hP2 := hPb
  have hD : va_D (fun z : Nat => s.heap.size ≤ z) (CWS k a s2 sl ++ MWS k q mt ml) := hD9
  clear hPa hPb hD9 hS9
  obtain ⟨hBs2, gs2, fs2⟩ := hs2
  refine lv_pop hx hb dL_law_1864 rfl ?_
  refine lv_aload_n hx hb dL_law_1865 rfl (lv_at hl 2 rfl) ?_
  refine lv_aload_n hx hb dL_law_1866 rfl (lv_at hl 0 rfl) ?_
  refine lv_iload_n hx hb dL_law_1867 rfl (lv_at hl 3 rfl) ?_
  refine lv_iconst (v := 1) hx hb dL_law_1868 (by decide) ?_
  refine lv_iadd hx hb dL_law_1869 ?_
  refine va_sld hx hb hX hbl hbA hS (hv 1 (by decide) (by decide)) dL_law_1870 ?_
  refine lv_aload_n hx hb dL_law_1871 rfl (lv_at hl 0 rfl) ?_
  refine lv_iload_n hx hb dL_law_1872 rfl (lv_at hl 3 rfl) ?_
  refine lv_iconst (v := 2) hx hb dL_law_1873 (by decide) ?_
  refine lv_iadd hx hb dL_law_1874 ?_
  refine va_sld hx hb hX hbl hbA hS (hv 2 (by decide) (by decide)) dL_law_1875 ?_
  refine lv_aload_n hx hb dL_law_1876 rfl (lv_at hl 0 rfl) ?_
  refine lv_iload_n hx hb dL_law_1877 rfl (lv_at hl 3 rfl) ?_
  refine lv_iconst (v := 3) hx hb dL_law_1878 (by decide) ?_
  refine lv_iadd hx hb dL_law_1879 ?_
  refine va_sld hx hb hX hbl hbA hS (hv 3 (by decide) (by decide)) dL_law_1880 ?_
  refine lv_aload_n hx hb dL_law_1881 rfl (lv_at hl 0 rfl) ?_
  refine lv_iload_n hx hb dL_law_1882 rfl (lv_at hl 3 rfl) ?_
  refine lv_iconst (v := 4) hx hb dL_law_1883 (by decide) ?_
  refine lv_iadd hx hb dL_law_1884 ?_
  refine va_sld hx hb hX hbl hbA hS (hv 4 (by decide) (by decide)) dL_law_1885 ?_
  refine lv_aload_n hx hb dL_law_1886 rfl (lv_at hl 0 rfl) ?_
  refine lv_iload_n hx hb dL_law_1887 rfl (lv_at hl 3 rfl) ?_
  refine lv_iconst (v := 5) hx hb dL_law_1888 (by decide) ?_
  refine lv_iadd hx hb dL_law_1889 ?_
  refine va_sld hx hb hX hbl hbA hS (hv 5 (by decide) (by decide)) dL_law_1890 ?_
  refine tw_i hP2 hP1 (d_swap hD) hS hA (fun hDc => run_V (mc := 0) (ms := 0) (As := [.int (xs (i + 1).toNatClampNeg), .int (xs (i + 2).toNatClampNeg), .int (xs (i + 3).toNatClampNeg), .int (xs (i + 4).toNatClampNeg), .int (xs (i + 5).toNatClampNeg)]) (rest := []) S (m_X10_luck l D k q mt ml (xs (i + 1).toNatClampNeg) (xs (i + 2).toNatClampNeg) (xs (i + 3).toNatClampNeg) (xs (i + 4).toNatClampNeg) (xs (i + 5).toNatClampNeg) _ hM hWK) lkL_234 ok_X10_luck ⟨rfl, rfl, Nat.le_of_ble_eq_true rfl, Nat.le_of_ble_eq_true rfl⟩ (pw_V (ci := 10) (q0 := 0) hK hN rfl mw_0 hP2 hDc) rfl hl.1 rfl (Nat.le_of_ble_eq_true rfl) hcs dL_law_1891) (fun r3 m4 H9 locs9 hm4 hPa hPb hD9 hS9 => ?_)
  clear hP1 hP2 hD hS
  have hS := hS9
  have hP2 : va_P D vwCl (MWS k q m4 ml) H9 := hPa
  have hP1 := hPb
  have hD : va_D (fun z : Nat => s.heap.size ≤ z) (CWS k a s2 sl ++ MWS k q m4 ml) := d_swap hD9
  clear hPa hPb hD9 hS9
  obtain ⟨hBm4, gm4, qm4_0, qm4_1, qm4_2, qm4_3, qm4_4, qm4_5, qm4_6, qm4_7, qm4_8, qm4_9, qm4_10, qm4_11, qm4_12, qm4_13, qm4_14, qm4_15, fm4⟩ := hm4
  refine lv_pop hx hb dL_law_1894 rfl ?_
  refine lv_goto (tgt := 2212) hx hb dL_law_1895 (by decide) ?_
  exact hend s2 m4 sl ml _ _ ⟨hBs2, (xb_fr hXB gs2 (by decide)), hBm4, (wok_of (gm4 1 (by decide)) hWK), (xm_fr hXM (gm4 2 (by decide)) (gm4 3 (by decide))), (rel_fr hR (gs2 110 (by decide)) (gs2 112 (by decide)) (gs2 113 (by decide)) (gm4 3 (by decide)) (gm4 18 (by decide)) (gm4 19 (by decide)))⟩ hP1 hP2 hD hS
set_option maxHeartbeats 4000000 in
set_option maxRecDepth 100000 in
theorem lc_54 {p : Program} {l : Launch} {e : Env} {s : State} {m : MethodId} {below : List Frame} {meth : Method} {c : Code} {H : Heap} {locs : List Loc} {cells slots : Nat} {Q : State → Prop} {b L : Nat} {xs : Nat → Int32} {D : va_G} {k : Nat → ClassId} {a q : Nat → Nat} {st mt : CT} {sl ml : CL} {i : Int32} {ls : Array Slot} (G : LSX p s m c b L xs D k) (hv : ∀ j : Int32, 0 ≤ j.toInt → j.toInt ≤ 5 → vp_in (i + j) L) (hl : lv_has ls 4 [(0, .ref b), (1, .ref (a 0)), (2, .ref (q 0)), (3, .int i)]) (hcs : cells ≤ 600000 ∧ slots ≤ 7302250) (hI : INV st mt) (hP1 : va_P D vwCl (CWS k a st sl) H) (hP2 : va_P D vwCl (MWS k q mt ml) H) (hD : va_D (fun z : Nat => s.heap.size ≤ z) (CWS k a st sl ++ MWS k q mt ml)) (hS : va_S (fun z : Nat => s.heap.size ≤ z) s.heap H locs) (hend : ∀ (st mt : CT) (sl ml : CL) (H : Heap) (locs : List Loc), INV st mt → va_P D vwCl (CWS k a st sl) H → va_P D vwCl (MWS k q mt ml) H → va_D (fun z : Nat => s.heap.size ≤ z) (CWS k a st sl ++ MWS k q mt ml) → va_S (fun z : Nat => s.heap.size ≤ z) s.heap H locs → W p l e room_1 s m #[Value.ref b] below meth c H locs cells slots Q (F0 m 2212 ls [])) : W p l e room_1 s m #[Value.ref b] below meth c H locs cells slots Q (F0 m 1898 ls []) := by
  obtain ⟨S, hK, hN, hNS, hX, hbl⟩ := G
  obtain ⟨hB, hXB, hM, hWK, hXM, hR⟩ := hI
  have hx := S.1
  have hb := S.2.1
  have hown := S.2.2.2.1
  have hT := S.2.2.2.2
  have hbA : ¬ (fun z : Nat => s.heap.size ≤ z) b := Nat.not_le.mpr hbl
  have hA : ∀ q : Nat, s.heap.size ≤ q → (fun z : Nat => s.heap.size ≤ z) q := fun _ h => h
  refine lv_aload_n hx hb dL_law_1898 rfl (lv_at hl 1 rfl) ?_
  refine lv_aload_n hx hb dL_law_1899 rfl (lv_at hl 0 rfl) ?_
  refine lv_iload_n hx hb dL_law_1900 rfl (lv_at hl 3 rfl) ?_
  refine lv_iconst (v := 1) hx hb dL_law_1901 (by decide) ?_
  refine lv_iadd hx hb dL_law_1902 ?_
  refine va_sld hx hb hX hbl hbA hS (hv 1 (by decide) (by decide)) dL_law_1903 ?_
  refine lv_aload_n hx hb dL_law_1904 rfl (lv_at hl 0 rfl) ?_
  refine lv_iload_n hx hb dL_law_1905 rfl (lv_at hl 3 rfl) ?_
  refine lv_iconst (v := 2) hx hb dL_law_1906 (by decide) ?_
  refine lv_iadd hx hb dL_law_1907 ?_
  refine va_sld hx hb hX hbl hbA hS (hv 2 (by decide) (by decide)) dL_law_1908 ?_
  refine lv_aload_n hx hb dL_law_1909 rfl (lv_at hl 0 rfl) ?_
  refine lv_iload_n hx hb dL_law_1910 rfl (lv_at hl 3 rfl) ?_
  refine lv_iconst (v := 3) hx hb dL_law_1911 (by decide) ?_
  refine lv_iadd hx hb dL_law_1912 ?_
  refine va_sld hx hb hX hbl hbA hS (hv 3 (by decide) (by decide)) dL_law_1913 ?_
  refine tw_i hP1 hP2 hD hS hA (fun hDc => run_V (mc := 0) (ms := 0) (As := [.int (xs (i + 1).toNatClampNeg), .int (xs (i + 2).toNatClampNeg), .int (xs (i + 3).toNatClampNeg)]) (rest := []) S (s_X9_tell l D k a st sl (xs (i + 1).toNatClampNeg) (xs (i + 2).toNatClampNeg) (xs (i + 3).toNatClampNeg) _ hB ) lkL_235 ok_X9_tell ⟨rfl, rfl, Nat.le_of_ble_eq_true rfl, Nat.le_of_ble_eq_true rfl⟩ (pw_V (ci := 9) (q0 := 0) hK hN rfl cw_0 hP1 hDc) rfl hl.1 rfl (Nat.le_of_ble_eq_true rfl) hcs dL_law_1914) (fun r1 s2 H9 locs9 hs2 hPa hPb hD9 hS9 => ?_)
  clear hP1 hP2 hD hS
  have hS := hS9
  have hP1 : va_P D vwCl (CWS k a s2 sl) H9 := hPa
  have hP2 := hPb
  have hD : va_D (fun z : Nat => s.heap.size ≤ z) (CWS k a s2 sl ++ MWS k q mt ml) := hD9
  clear hPa hPb hD9 hS9
  obtain ⟨hBs2, gs2, fs2⟩ := hs2
  refine lv_pop hx hb dL_law_1917 rfl ?_
  refine lv_aload_n hx hb dL_law_1918 rfl (lv_at hl 2 rfl) ?_
  refine lv_aload_n hx hb dL_law_1919 rfl (lv_at hl 0 rfl) ?_
  refine lv_iload_n hx hb dL_law_1920 rfl (lv_at hl 3 rfl) ?_
  refine lv_iconst (v := 1) hx hb dL_law_1921 (by decide) ?_
  refine lv_iadd hx hb dL_law_1922 ?_
  refine va_sld hx hb hX hbl hbA hS (hv 1 (by decide) (by decide)) dL_law_1923 ?_
  refine lv_aload_n hx hb dL_law_1924 rfl (lv_at hl 0 rfl) ?_
  refine lv_iload_n hx hb dL_law_1925 rfl (lv_at hl 3 rfl) ?_
  refine lv_iconst (v := 2) hx hb dL_law_1926 (by decide) ?_
  refine lv_iadd hx hb dL_law_1927 ?_
  refine va_sld hx hb hX hbl hbA hS (hv 2 (by decide) (by decide)) dL_law_1928 ?_
  refine lv_aload_n hx hb dL_law_1929 rfl (lv_at hl 0 rfl) ?_
  refine lv_iload_n hx hb dL_law_1930 rfl (lv_at hl 3 rfl) ?_
  refine lv_iconst (v := 3) hx hb dL_law_1931 (by decide) ?_
  refine lv_iadd hx hb dL_law_1932 ?_
  refine va_sld hx hb hX hbl hbA hS (hv 3 (by decide) (by decide)) dL_law_1933 ?_
  refine tw_i hP2 hP1 (d_swap hD) hS hA (fun hDc => run_V (mc := 0) (ms := 0) (As := [.int (xs (i + 1).toNatClampNeg), .int (xs (i + 2).toNatClampNeg), .int (xs (i + 3).toNatClampNeg)]) (rest := []) S (m_X10_tell l D k q mt ml (xs (i + 1).toNatClampNeg) (xs (i + 2).toNatClampNeg) (xs (i + 3).toNatClampNeg) _ hM hWK) lkL_238 ok_X10_tell ⟨rfl, rfl, Nat.le_of_ble_eq_true rfl, Nat.le_of_ble_eq_true rfl⟩ (pw_V (ci := 10) (q0 := 0) hK hN rfl mw_0 hP2 hDc) rfl hl.1 rfl (Nat.le_of_ble_eq_true rfl) hcs dL_law_1934) (fun r3 m4 H9 locs9 hm4 hPa hPb hD9 hS9 => ?_)
  clear hP1 hP2 hD hS
  have hS := hS9
  have hP2 : va_P D vwCl (MWS k q m4 ml) H9 := hPa
  have hP1 := hPb
  have hD : va_D (fun z : Nat => s.heap.size ≤ z) (CWS k a s2 sl ++ MWS k q m4 ml) := d_swap hD9
  clear hPa hPb hD9 hS9
  obtain ⟨hBm4, gm4, fm4⟩ := hm4
  refine lv_pop hx hb dL_law_1937 rfl ?_
  refine lv_goto (tgt := 2212) hx hb dL_law_1938 (by decide) ?_
  exact hend s2 m4 sl ml _ _ ⟨hBs2, (xb_fr hXB gs2 (by decide)), hBm4, fm4, (xm_fr hXM (gm4 2 (by decide)) (gm4 3 (by decide))), (rel_fr hR (gs2 110 (by decide)) (gs2 112 (by decide)) (gs2 113 (by decide)) (gm4 3 (by decide)) (gm4 18 (by decide)) (gm4 19 (by decide)))⟩ hP1 hP2 hD hS
set_option maxHeartbeats 4000000 in
set_option maxRecDepth 100000 in
theorem lc_55 {p : Program} {l : Launch} {e : Env} {s : State} {m : MethodId} {below : List Frame} {meth : Method} {c : Code} {H : Heap} {locs : List Loc} {cells slots : Nat} {Q : State → Prop} {b L : Nat} {xs : Nat → Int32} {D : va_G} {k : Nat → ClassId} {a q : Nat → Nat} {st mt : CT} {sl ml : CL} {i : Int32} {ls : Array Slot} (G : LSX p s m c b L xs D k) (hv : ∀ j : Int32, 0 ≤ j.toInt → j.toInt ≤ 5 → vp_in (i + j) L) (hl : lv_has ls 4 [(0, .ref b), (1, .ref (a 0)), (2, .ref (q 0)), (3, .int i)]) (hcs : cells ≤ 600000 ∧ slots ≤ 7302250) (hI : INV st mt) (hP1 : va_P D vwCl (CWS k a st sl) H) (hP2 : va_P D vwCl (MWS k q mt ml) H) (hD : va_D (fun z : Nat => s.heap.size ≤ z) (CWS k a st sl ++ MWS k q mt ml)) (hS : va_S (fun z : Nat => s.heap.size ≤ z) s.heap H locs) (hend : ∀ (st mt : CT) (sl ml : CL) (H : Heap) (locs : List Loc), INV st mt → va_P D vwCl (CWS k a st sl) H → va_P D vwCl (MWS k q mt ml) H → va_D (fun z : Nat => s.heap.size ≤ z) (CWS k a st sl ++ MWS k q mt ml) → va_S (fun z : Nat => s.heap.size ≤ z) s.heap H locs → W p l e room_1 s m #[Value.ref b] below meth c H locs cells slots Q (F0 m 2212 ls [])) : W p l e room_1 s m #[Value.ref b] below meth c H locs cells slots Q (F0 m 1941 ls []) := by
  obtain ⟨S, hK, hN, hNS, hX, hbl⟩ := G
  obtain ⟨hB, hXB, hM, hWK, hXM, hR⟩ := hI
  have hx := S.1
  have hb := S.2.1
  have hown := S.2.2.2.1
  have hT := S.2.2.2.2
  have hbA : ¬ (fun z : Nat => s.heap.size ≤ z) b := Nat.not_le.mpr hbl
  have hA : ∀ q : Nat, s.heap.size ≤ q → (fun z : Nat => s.heap.size ≤ z) q := fun _ h => h
  refine lv_aload_n hx hb dL_law_1941 rfl (lv_at hl 1 rfl) ?_
  refine lv_aload_n hx hb dL_law_1942 rfl (lv_at hl 0 rfl) ?_
  refine lv_iload_n hx hb dL_law_1943 rfl (lv_at hl 3 rfl) ?_
  refine lv_iconst (v := 1) hx hb dL_law_1944 (by decide) ?_
  refine lv_iadd hx hb dL_law_1945 ?_
  refine va_sld hx hb hX hbl hbA hS (hv 1 (by decide) (by decide)) dL_law_1946 ?_
  refine tw_i hP1 hP2 hD hS hA (fun hDc => run_V (mc := 0) (ms := 0) (As := [.int (xs (i + 1).toNatClampNeg)]) (rest := []) S (s_X9_hand l D k a st sl (xs (i + 1).toNatClampNeg) _ hB ) lkL_239 ok_X9_hand ⟨rfl, rfl, Nat.le_of_ble_eq_true rfl, Nat.le_of_ble_eq_true rfl⟩ (pw_V (ci := 9) (q0 := 0) hK hN rfl cw_0 hP1 hDc) rfl hl.1 rfl (Nat.le_of_ble_eq_true rfl) hcs dL_law_1947) (fun r1 s2 H9 locs9 hs2 hPa hPb hD9 hS9 => ?_)
  clear hP1 hP2 hD hS
  have hS := hS9
  have hP1 : va_P D vwCl (CWS k a s2 sl) H9 := hPa
  have hP2 := hPb
  have hD : va_D (fun z : Nat => s.heap.size ≤ z) (CWS k a s2 sl ++ MWS k q mt ml) := hD9
  clear hPa hPb hD9 hS9
  obtain ⟨hBs2, gs2, qs2_0, qs2_1, qs2_2, qs2_3, qs2_4, qs2_5, fs2⟩ := hs2
  refine lv_pop hx hb dL_law_1950 rfl ?_
  refine lv_aload_n hx hb dL_law_1951 rfl (lv_at hl 2 rfl) ?_
  refine lv_aload_n hx hb dL_law_1952 rfl (lv_at hl 0 rfl) ?_
  refine lv_iload_n hx hb dL_law_1953 rfl (lv_at hl 3 rfl) ?_
  refine lv_iconst (v := 1) hx hb dL_law_1954 (by decide) ?_
  refine lv_iadd hx hb dL_law_1955 ?_
  refine va_sld hx hb hX hbl hbA hS (hv 1 (by decide) (by decide)) dL_law_1956 ?_
  refine tw_i hP2 hP1 (d_swap hD) hS hA (fun hDc => run_V (mc := 0) (ms := 0) (As := [.int (xs (i + 1).toNatClampNeg)]) (rest := []) S (m_X10_hand l D k q mt ml (xs (i + 1).toNatClampNeg) _ hM hWK) lkL_242 ok_X10_hand ⟨rfl, rfl, Nat.le_of_ble_eq_true rfl, Nat.le_of_ble_eq_true rfl⟩ (pw_V (ci := 10) (q0 := 0) hK hN rfl mw_0 hP2 hDc) rfl hl.1 rfl (Nat.le_of_ble_eq_true rfl) hcs dL_law_1957) (fun r3 m4 H9 locs9 hm4 hPa hPb hD9 hS9 => ?_)
  clear hP1 hP2 hD hS
  have hS := hS9
  have hP2 : va_P D vwCl (MWS k q m4 ml) H9 := hPa
  have hP1 := hPb
  have hD : va_D (fun z : Nat => s.heap.size ≤ z) (CWS k a s2 sl ++ MWS k q m4 ml) := d_swap hD9
  clear hPa hPb hD9 hS9
  obtain ⟨hBm4, gm4, fm4⟩ := hm4
  refine lv_pop hx hb dL_law_1960 rfl ?_
  refine lv_goto (tgt := 2212) hx hb dL_law_1961 (by decide) ?_
  exact hend s2 m4 sl ml _ _ ⟨hBs2, (xb_fr hXB gs2 (by decide)), hBm4, fm4, (xm_fr hXM (gm4 2 (by decide)) (gm4 3 (by decide))), (rel_fr hR (gs2 110 (by decide)) (gs2 112 (by decide)) (gs2 113 (by decide)) (gm4 3 (by decide)) (gm4 18 (by decide)) (gm4 19 (by decide)))⟩ hP1 hP2 hD hS
