set_option maxHeartbeats 4000000 in
set_option maxRecDepth 100000 in
theorem lc_16 {p : Program} {l : Launch} {e : Env} {s : State} {m : MethodId} {below : List Frame} {meth : Method} {c : Code} {H : Heap} {locs : List Loc} {cells slots : Nat} {Q : State → Prop} {b L : Nat} {xs : Nat → Int32} {D : va_G} {k : Nat → ClassId} {a q : Nat → Nat} {st mt : CT} {sl ml : CL} {i : Int32} {ls : Array Slot} (G : LSX p s m c b L xs D k) (hv : ∀ j : Int32, 0 ≤ j.toInt → j.toInt ≤ 5 → vp_in (i + j) L) (hl : lv_has ls 4 [(0, .ref b), (1, .ref (a 0)), (2, .ref (q 0)), (3, .int i)]) (hcs : cells ≤ 600000 ∧ slots ≤ 7302250) (hI : INV st mt) (hP1 : va_P D vwCl (CWS k a st sl) H) (hP2 : va_P D vwCl (MWS k q mt ml) H) (hD : va_D (fun z : Nat => s.heap.size ≤ z) (CWS k a st sl ++ MWS k q mt ml)) (hS : va_S (fun z : Nat => s.heap.size ≤ z) s.heap H locs) (hend : ∀ (st mt : CT) (sl ml : CL) (H : Heap) (locs : List Loc), INV st mt → va_P D vwCl (CWS k a st sl) H → va_P D vwCl (MWS k q mt ml) H → va_D (fun z : Nat => s.heap.size ≤ z) (CWS k a st sl ++ MWS k q mt ml) → va_S (fun z : Nat => s.heap.size ≤ z) s.heap H locs → W p l e room_1 s m #[Value.ref b] below meth c H locs cells slots Q (F0 m 2212 ls [])) : W p l e room_1 s m #[Value.ref b] below meth c H locs cells slots Q (F0 m 794 ls []) := by
  obtain ⟨S, hK, hN, hNS, hX, hbl⟩ := G
  obtain ⟨hB, hXB, hM, hWK, hXM, hR⟩ := hI
  have hx := S.1
  have hb := S.2.1
  have hown := S.2.2.2.1
  have hT := S.2.2.2.2
  have hbA : ¬ (fun z : Nat => s.heap.size ≤ z) b := Nat.not_le.mpr hbl
  have hA : ∀ q : Nat, s.heap.size ≤ q → (fun z : Nat => s.heap.size ≤ z) q := fun _ h => h
  refine lv_aload_n hx hb dL_law_794 rfl (lv_at hl 1 rfl) ?_
  refine lv_aload_n hx hb dL_law_795 rfl (lv_at hl 0 rfl) ?_
  refine lv_iload_n hx hb dL_law_796 rfl (lv_at hl 3 rfl) ?_
  refine lv_iconst (v := 1) hx hb dL_law_797 (by decide) ?_
  refine lv_iadd hx hb dL_law_798 ?_
  refine va_sld hx hb hX hbl hbA hS (hv 1 (by decide) (by decide)) dL_law_799 ?_
  refine tw_i hP1 hP2 hD hS hA (fun hDc => run_V (mc := 0) (ms := 0) (As := [.int (xs (i + 1).toNatClampNeg)]) (rest := []) S (s_X9_grease l D k a st sl (xs (i + 1).toNatClampNeg) _ hB hXB.1) lkL_81 ok_X9_grease ⟨rfl, rfl, Nat.le_of_ble_eq_true rfl, Nat.le_of_ble_eq_true rfl⟩ (pw_V (ci := 9) (q0 := 0) hK hN rfl cw_0 hP1 hDc) rfl hl.1 rfl (Nat.le_of_ble_eq_true rfl) hcs dL_law_800) (fun r1 s2 H9 locs9 hs2 hPa hPb hD9 hS9 => ?_)
  clear hP1 hP2 hD hS
  have hS := hS9
  have hP1 : va_P D vwCl (CWS k a s2 sl) H9 := hPa
  have hP2 := hPb
  have hD : va_D (fun z : Nat => s.heap.size ≤ z) (CWS k a s2 sl ++ MWS k q mt ml) := hD9
  clear hPa hPb hD9 hS9
  obtain ⟨hBs2, gs2, fs2⟩ := hs2
  refine lv_pop hx hb dL_law_803 rfl ?_
  refine lv_aload_n hx hb dL_law_804 rfl (lv_at hl 2 rfl) ?_
  refine lv_aload_n hx hb dL_law_805 rfl (lv_at hl 0 rfl) ?_
  refine lv_iload_n hx hb dL_law_806 rfl (lv_at hl 3 rfl) ?_
  refine lv_iconst (v := 1) hx hb dL_law_807 (by decide) ?_
  refine lv_iadd hx hb dL_law_808 ?_
  refine va_sld hx hb hX hbl hbA hS (hv 1 (by decide) (by decide)) dL_law_809 ?_
  refine tw_i hP2 hP1 (d_swap hD) hS hA (fun hDc => run_V (mc := 0) (ms := 0) (As := [.int (xs (i + 1).toNatClampNeg)]) (rest := []) S (m_X10_grease l D k q mt ml (xs (i + 1).toNatClampNeg) _ hM hWK) lkL_84 ok_X10_grease ⟨rfl, rfl, Nat.le_of_ble_eq_true rfl, Nat.le_of_ble_eq_true rfl⟩ (pw_V (ci := 10) (q0 := 0) hK hN rfl mw_0 hP2 hDc) rfl hl.1 rfl (Nat.le_of_ble_eq_true rfl) hcs dL_law_810) (fun r3 m4 H9 locs9 hm4 hPa hPb hD9 hS9 => ?_)
  clear hP1 hP2 hD hS
  have hS := hS9
  have hP2 : va_P D vwCl (MWS k q m4 ml) H9 := hPa
  have hP1 := hPb
  have hD : va_D (fun z : Nat => s.heap.size ≤ z) (CWS k a s2 sl ++ MWS k q m4 ml) := d_swap hD9
  clear hPa hPb hD9 hS9
  obtain ⟨hBm4, gm4, fm4⟩ := hm4
  refine lv_pop hx hb dL_law_813 rfl ?_
  refine lv_goto (tgt := 2212) hx hb dL_law_814 (by decide) ?_
  exact hend s2 m4 sl ml _ _ ⟨hBs2, (xb_17 hXB fs2 gs2 (by decide)), hBm4, fm4, (xm_fr hXM (gm4 2 (by decide)) (gm4 3 (by decide))), (rel_fr hR (gs2 110 (by decide)) (gs2 112 (by decide)) (gs2 113 (by decide)) (gm4 3 (by decide)) (gm4 18 (by decide)) (gm4 19 (by decide)))⟩ hP1 hP2 hD hS
set_option maxHeartbeats 4000000 in
set_option maxRecDepth 100000 in
theorem lc_17 {p : Program} {l : Launch} {e : Env} {s : State} {m : MethodId} {below : List Frame} {meth : Method} {c : Code} {H : Heap} {locs : List Loc} {cells slots : Nat} {Q : State → Prop} {b L : Nat} {xs : Nat → Int32} {D : va_G} {k : Nat → ClassId} {a q : Nat → Nat} {st mt : CT} {sl ml : CL} {i : Int32} {ls : Array Slot} (G : LSX p s m c b L xs D k) (hv : ∀ j : Int32, 0 ≤ j.toInt → j.toInt ≤ 5 → vp_in (i + j) L) (hl : lv_has ls 4 [(0, .ref b), (1, .ref (a 0)), (2, .ref (q 0)), (3, .int i)]) (hcs : cells ≤ 600000 ∧ slots ≤ 7302250) (hI : INV st mt) (hP1 : va_P D vwCl (CWS k a st sl) H) (hP2 : va_P D vwCl (MWS k q mt ml) H) (hD : va_D (fun z : Nat => s.heap.size ≤ z) (CWS k a st sl ++ MWS k q mt ml)) (hS : va_S (fun z : Nat => s.heap.size ≤ z) s.heap H locs) (hend : ∀ (st mt : CT) (sl ml : CL) (H : Heap) (locs : List Loc), INV st mt → va_P D vwCl (CWS k a st sl) H → va_P D vwCl (MWS k q mt ml) H → va_D (fun z : Nat => s.heap.size ≤ z) (CWS k a st sl ++ MWS k q mt ml) → va_S (fun z : Nat => s.heap.size ≤ z) s.heap H locs → W p l e room_1 s m #[Value.ref b] below meth c H locs cells slots Q (F0 m 2212 ls [])) : W p l e room_1 s m #[Value.ref b] below meth c H locs cells slots Q (F0 m 817 ls []) := by
  obtain ⟨S, hK, hN, hNS, hX, hbl⟩ := G
  obtain ⟨hB, hXB, hM, hWK, hXM, hR⟩ := hI
  have hx := S.1
  have hb := S.2.1
  have hown := S.2.2.2.1
  have hT := S.2.2.2.2
  have hbA : ¬ (fun z : Nat => s.heap.size ≤ z) b := Nat.not_le.mpr hbl
  have hA : ∀ q : Nat, s.heap.size ≤ q → (fun z : Nat => s.heap.size ≤ z) q := fun _ h => h
  refine lv_aload_n hx hb dL_law_817 rfl (lv_at hl 1 rfl) ?_
  refine tw_i hP1 hP2 hD hS hA (fun hDc => run_V (mc := 0) (ms := 0) (As := []) (rest := []) S (s_X9_undo l D k a st sl  _ hB hXB.1) lkL_85 ok_X9_undo ⟨rfl, rfl, Nat.le_of_ble_eq_true rfl, Nat.le_of_ble_eq_true rfl⟩ (pw_V (ci := 9) (q0 := 0) hK hN rfl cw_0 hP1 hDc) rfl hl.1 rfl (Nat.le_of_ble_eq_true rfl) hcs dL_law_818) (fun r1 s2 H9 locs9 hs2 hPa hPb hD9 hS9 => ?_)
  clear hP1 hP2 hD hS
  have hS := hS9
  have hP1 : va_P D vwCl (CWS k a s2 sl) H9 := hPa
  have hP2 := hPb
  have hD : va_D (fun z : Nat => s.heap.size ≤ z) (CWS k a s2 sl ++ MWS k q mt ml) := hD9
  clear hPa hPb hD9 hS9
  obtain ⟨hBs2, gs2, fs2⟩ := hs2
  refine lv_pop hx hb dL_law_821 rfl ?_
  refine lv_aload_n hx hb dL_law_822 rfl (lv_at hl 2 rfl) ?_
  refine tw_i hP2 hP1 (d_swap hD) hS hA (fun hDc => run_V (mc := 0) (ms := 0) (As := []) (rest := []) S (m_X10_undo l D k q mt ml  _ hM hWK) lkL_88 ok_X10_undo ⟨rfl, rfl, Nat.le_of_ble_eq_true rfl, Nat.le_of_ble_eq_true rfl⟩ (pw_V (ci := 10) (q0 := 0) hK hN rfl mw_0 hP2 hDc) rfl hl.1 rfl (Nat.le_of_ble_eq_true rfl) hcs dL_law_823) (fun r3 m4 H9 locs9 hm4 hPa hPb hD9 hS9 => ?_)
  clear hP1 hP2 hD hS
  have hS := hS9
  have hP2 : va_P D vwCl (MWS k q m4 ml) H9 := hPa
  have hP1 := hPb
  have hD : va_D (fun z : Nat => s.heap.size ≤ z) (CWS k a s2 sl ++ MWS k q m4 ml) := d_swap hD9
  clear hPa hPb hD9 hS9
  obtain ⟨hBm4, gm4, fm4⟩ := hm4
  refine lv_pop hx hb dL_law_826 rfl ?_
  refine lv_goto (tgt := 2212) hx hb dL_law_827 (by decide) ?_
  exact hend s2 m4 sl ml _ _ ⟨hBs2, (xb_17 hXB fs2.2 gs2 (by decide)), hBm4, fm4, (xm_fr hXM (gm4 2 (by decide)) (gm4 3 (by decide))), (rel_fr hR (gs2 110 (by decide)) (gs2 112 (by decide)) (gs2 113 (by decide)) (gm4 3 (by decide)) (gm4 18 (by decide)) (gm4 19 (by decide)))⟩ hP1 hP2 hD hS
set_option maxHeartbeats 4000000 in
set_option maxRecDepth 100000 in
theorem lc_18 {p : Program} {l : Launch} {e : Env} {s : State} {m : MethodId} {below : List Frame} {meth : Method} {c : Code} {H : Heap} {locs : List Loc} {cells slots : Nat} {Q : State → Prop} {b L : Nat} {xs : Nat → Int32} {D : va_G} {k : Nat → ClassId} {a q : Nat → Nat} {st mt : CT} {sl ml : CL} {i : Int32} {ls : Array Slot} (G : LSX p s m c b L xs D k) (hv : ∀ j : Int32, 0 ≤ j.toInt → j.toInt ≤ 5 → vp_in (i + j) L) (hl : lv_has ls 4 [(0, .ref b), (1, .ref (a 0)), (2, .ref (q 0)), (3, .int i)]) (hcs : cells ≤ 600000 ∧ slots ≤ 7302250) (hI : INV st mt) (hP1 : va_P D vwCl (CWS k a st sl) H) (hP2 : va_P D vwCl (MWS k q mt ml) H) (hD : va_D (fun z : Nat => s.heap.size ≤ z) (CWS k a st sl ++ MWS k q mt ml)) (hS : va_S (fun z : Nat => s.heap.size ≤ z) s.heap H locs) (hend : ∀ (st mt : CT) (sl ml : CL) (H : Heap) (locs : List Loc), INV st mt → va_P D vwCl (CWS k a st sl) H → va_P D vwCl (MWS k q mt ml) H → va_D (fun z : Nat => s.heap.size ≤ z) (CWS k a st sl ++ MWS k q mt ml) → va_S (fun z : Nat => s.heap.size ≤ z) s.heap H locs → W p l e room_1 s m #[Value.ref b] below meth c H locs cells slots Q (F0 m 2212 ls [])) : W p l e room_1 s m #[Value.ref b] below meth c H locs cells slots Q (F0 m 830 ls []) := by
  obtain ⟨S, hK, hN, hNS, hX, hbl⟩ := G
  obtain ⟨hB, hXB, hM, hWK, hXM, hR⟩ := hI
  have hx := S.1
  have hb := S.2.1
  have hown := S.2.2.2.1
  have hT := S.2.2.2.2
  have hbA : ¬ (fun z : Nat => s.heap.size ≤ z) b := Nat.not_le.mpr hbl
  have hA : ∀ q : Nat, s.heap.size ≤ q → (fun z : Nat => s.heap.size ≤ z) q := fun _ h => h
  refine lv_aload_n hx hb dL_law_830 rfl (lv_at hl 1 rfl) ?_
  refine tw_i hP1 hP2 hD hS hA (fun hDc => run_V (mc := 0) (ms := 0) (As := []) (rest := []) S (s_X9_anew l D k a st sl  _ hB hXB.1) lkL_89 ok_X9_anew ⟨rfl, rfl, Nat.le_of_ble_eq_true rfl, Nat.le_of_ble_eq_true rfl⟩ (pw_V (ci := 9) (q0 := 0) hK hN rfl cw_0 hP1 hDc) rfl hl.1 rfl (Nat.le_of_ble_eq_true rfl) hcs dL_law_831) (fun r1 s2 H9 locs9 hs2 hPa hPb hD9 hS9 => ?_)
  clear hP1 hP2 hD hS
  have hS := hS9
  have hP1 : va_P D vwCl (CWS k a s2 sl) H9 := hPa
  have hP2 := hPb
  have hD : va_D (fun z : Nat => s.heap.size ≤ z) (CWS k a s2 sl ++ MWS k q mt ml) := hD9
  clear hPa hPb hD9 hS9
  obtain ⟨hBs2, gs2, fs2⟩ := hs2
  refine lv_pop hx hb dL_law_834 rfl ?_
  refine lv_aload_n hx hb dL_law_835 rfl (lv_at hl 2 rfl) ?_
  refine tw_i hP2 hP1 (d_swap hD) hS hA (fun hDc => run_V (mc := 0) (ms := 0) (As := []) (rest := []) S (m_X10_anew l D k q mt ml  _ hM hWK) lkL_92 ok_X10_anew ⟨rfl, rfl, Nat.le_of_ble_eq_true rfl, Nat.le_of_ble_eq_true rfl⟩ (pw_V (ci := 10) (q0 := 0) hK hN rfl mw_0 hP2 hDc) rfl hl.1 rfl (Nat.le_of_ble_eq_true rfl) hcs dL_law_836) (fun r3 m4 H9 locs9 hm4 hPa hPb hD9 hS9 => ?_)
  clear hP1 hP2 hD hS
  have hS := hS9
  have hP2 : va_P D vwCl (MWS k q m4 ml) H9 := hPa
  have hP1 := hPb
  have hD : va_D (fun z : Nat => s.heap.size ≤ z) (CWS k a s2 sl ++ MWS k q m4 ml) := d_swap hD9
  clear hPa hPb hD9 hS9
  obtain ⟨hBm4, gm4, fm4⟩ := hm4
  refine lv_pop hx hb dL_law_839 rfl ?_
  refine lv_goto (tgt := 2212) hx hb dL_law_840 (by decide) ?_
  exact hend s2 m4 sl ml _ _ ⟨hBs2, (xb_17 hXB fs2.2 gs2 (by decide)), hBm4, fm4.2, (xm_fr hXM (gm4 2 (by decide)) (gm4 3 (by decide))), (rel_fr hR (gs2 110 (by decide)) (gs2 112 (by decide)) (gs2 113 (by decide)) (gm4 3 (by decide)) (gm4 18 (by decide)) (gm4 19 (by decide)))⟩ hP1 hP2 hD hS
set_option maxHeartbeats 4000000 in
set_option maxRecDepth 100000 in
theorem lc_19 {p : Program} {l : Launch} {e : Env} {s : State} {m : MethodId} {below : List Frame} {meth : Method} {c : Code} {H : Heap} {locs : List Loc} {cells slots : Nat} {Q : State → Prop} {b L : Nat} {xs : Nat → Int32} {D : va_G} {k : Nat → ClassId} {a q : Nat → Nat} {st mt : CT} {sl ml : CL} {i : Int32} {ls : Array Slot} (G : LSX p s m c b L xs D k) (hv : ∀ j : Int32, 0 ≤ j.toInt → j.toInt ≤ 5 → vp_in (i + j) L) (hl : lv_has ls 4 [(0, .ref b), (1, .ref (a 0)), (2, .ref (q 0)), (3, .int i)]) (hcs : cells ≤ 600000 ∧ slots ≤ 7302250) (hI : INV st mt) (hP1 : va_P D vwCl (CWS k a st sl) H) (hP2 : va_P D vwCl (MWS k q mt ml) H) (hD : va_D (fun z : Nat => s.heap.size ≤ z) (CWS k a st sl ++ MWS k q mt ml)) (hS : va_S (fun z : Nat => s.heap.size ≤ z) s.heap H locs) (hend : ∀ (st mt : CT) (sl ml : CL) (H : Heap) (locs : List Loc), INV st mt → va_P D vwCl (CWS k a st sl) H → va_P D vwCl (MWS k q mt ml) H → va_D (fun z : Nat => s.heap.size ≤ z) (CWS k a st sl ++ MWS k q mt ml) → va_S (fun z : Nat => s.heap.size ≤ z) s.heap H locs → W p l e room_1 s m #[Value.ref b] below meth c H locs cells slots Q (F0 m 2212 ls [])) : W p l e room_1 s m #[Value.ref b] below meth c H locs cells slots Q (F0 m 843 ls []) := by
  obtain ⟨S, hK, hN, hNS, hX, hbl⟩ := G
  obtain ⟨hB, hXB, hM, hWK, hXM, hR⟩ := hI
  have hx := S.1
  have hb := S.2.1
  have hown := S.2.2.2.1
  have hT := S.2.2.2.2
  have hbA : ¬ (fun z : Nat => s.heap.size ≤ z) b := Nat.not_le.mpr hbl
  have hA : ∀ q : Nat, s.heap.size ≤ q → (fun z : Nat => s.heap.size ≤ z) q := fun _ h => h
  refine lv_aload_n hx hb dL_law_843 rfl (lv_at hl 1 rfl) ?_
  refine lv_aload_n hx hb dL_law_844 rfl (lv_at hl 0 rfl) ?_
  refine lv_iload_n hx hb dL_law_845 rfl (lv_at hl 3 rfl) ?_
  refine lv_iconst (v := 1) hx hb dL_law_846 (by decide) ?_
  refine lv_iadd hx hb dL_law_847 ?_
  refine va_sld hx hb hX hbl hbA hS (hv 1 (by decide) (by decide)) dL_law_848 ?_
  refine lv_aload_n hx hb dL_law_849 rfl (lv_at hl 0 rfl) ?_
  refine lv_iload_n hx hb dL_law_850 rfl (lv_at hl 3 rfl) ?_
  refine lv_iconst (v := 2) hx hb dL_law_851 (by decide) ?_
  refine lv_iadd hx hb dL_law_852 ?_
  refine va_sld hx hb hX hbl hbA hS (hv 2 (by decide) (by decide)) dL_law_853 ?_
  refine tw_i hP1 hP2 hD hS hA (fun hDc => run_V (mc := 0) (ms := 0) (As := [.int (xs (i + 1).toNatClampNeg), .int (xs (i + 2).toNatClampNeg)]) (rest := []) S (s_X9_goes l D k a st sl (xs (i + 1).toNatClampNeg) (xs (i + 2).toNatClampNeg) _ hB ) lkL_93 ok_X9_goes ⟨rfl, rfl, Nat.le_of_ble_eq_true rfl, Nat.le_of_ble_eq_true rfl⟩ (pw_V (ci := 9) (q0 := 0) hK hN rfl cw_0 hP1 hDc) rfl hl.1 rfl (Nat.le_of_ble_eq_true rfl) hcs dL_law_854) (fun r1 s2 H9 locs9 hs2 hPa hPb hD9 hS9 => ?_)
  clear hP1 hP2 hD hS
  have hS := hS9
  have hP1 : va_P D vwCl (CWS k a s2 sl) H9 := hPa
  have hP2 := hPb
  have hD : va_D (fun z : Nat => s.heap.size ≤ z) (CWS k a s2 sl ++ MWS k q mt ml) := hD9
  clear hPa hPb hD9 hS9
  obtain ⟨hBs2, gs2, fs2⟩ := hs2
  refine lv_pop hx hb dL_law_857 rfl ?_
  refine lv_aload_n hx hb dL_law_858 rfl (lv_at hl 2 rfl) ?_
  refine lv_aload_n hx hb dL_law_859 rfl (lv_at hl 0 rfl) ?_
  refine lv_iload_n hx hb dL_law_860 rfl (lv_at hl 3 rfl) ?_
  refine lv_iconst (v := 1) hx hb dL_law_861 (by decide) ?_
  refine lv_iadd hx hb dL_law_862 ?_
  refine va_sld hx hb hX hbl hbA hS (hv 1 (by decide) (by decide)) dL_law_863 ?_
  refine lv_aload_n hx hb dL_law_864 rfl (lv_at hl 0 rfl) ?_
  refine lv_iload_n hx hb dL_law_865 rfl (lv_at hl 3 rfl) ?_
  refine lv_iconst (v := 2) hx hb dL_law_866 (by decide) ?_
  refine lv_iadd hx hb dL_law_867 ?_
  refine va_sld hx hb hX hbl hbA hS (hv 2 (by decide) (by decide)) dL_law_868 ?_
  refine tw_i hP2 hP1 (d_swap hD) hS hA (fun hDc => run_V (mc := 0) (ms := 0) (As := [.int (xs (i + 1).toNatClampNeg), .int (xs (i + 2).toNatClampNeg)]) (rest := []) S (m_X10_goes l D k q mt ml (xs (i + 1).toNatClampNeg) (xs (i + 2).toNatClampNeg) _ hM hWK) lkL_96 ok_X10_goes ⟨rfl, rfl, Nat.le_of_ble_eq_true rfl, Nat.le_of_ble_eq_true rfl⟩ (pw_V (ci := 10) (q0 := 0) hK hN rfl mw_0 hP2 hDc) rfl hl.1 rfl (Nat.le_of_ble_eq_true rfl) hcs dL_law_869) (fun r3 m4 H9 locs9 hm4 hPa hPb hD9 hS9 => ?_)
  clear hP1 hP2 hD hS
  have hS := hS9
  have hP2 : va_P D vwCl (MWS k q m4 ml) H9 := hPa
  have hP1 := hPb
  have hD : va_D (fun z : Nat => s.heap.size ≤ z) (CWS k a s2 sl ++ MWS k q m4 ml) := d_swap hD9
  clear hPa hPb hD9 hS9
  obtain ⟨hBm4, gm4, qm4_0, qm4_1, qm4_2, qm4_3, qm4_4, qm4_5, qm4_6, qm4_7, qm4_8, qm4_9, qm4_10, qm4_11, qm4_12, qm4_13, fm4⟩ := hm4
  refine lv_pop hx hb dL_law_872 rfl ?_
  refine lv_goto (tgt := 2212) hx hb dL_law_873 (by decide) ?_
  exact hend s2 m4 sl ml _ _ ⟨hBs2, (xb_fr hXB gs2 (by decide)), hBm4, (wok_of (gm4 1 (by decide)) hWK), (xm_fr hXM (gm4 2 (by decide)) (gm4 3 (by decide))), (rel_fr hR (gs2 110 (by decide)) (gs2 112 (by decide)) (gs2 113 (by decide)) (gm4 3 (by decide)) (gm4 18 (by decide)) (gm4 19 (by decide)))⟩ hP1 hP2 hD hS
set_option maxHeartbeats 4000000 in
set_option maxRecDepth 100000 in
theorem lc_20 {p : Program} {l : Launch} {e : Env} {s : State} {m : MethodId} {below : List Frame} {meth : Method} {c : Code} {H : Heap} {locs : List Loc} {cells slots : Nat} {Q : State → Prop} {b L : Nat} {xs : Nat → Int32} {D : va_G} {k : Nat → ClassId} {a q : Nat → Nat} {st mt : CT} {sl ml : CL} {i : Int32} {ls : Array Slot} (G : LSX p s m c b L xs D k) (hv : ∀ j : Int32, 0 ≤ j.toInt → j.toInt ≤ 5 → vp_in (i + j) L) (hl : lv_has ls 4 [(0, .ref b), (1, .ref (a 0)), (2, .ref (q 0)), (3, .int i)]) (hcs : cells ≤ 600000 ∧ slots ≤ 7302250) (hI : INV st mt) (hP1 : va_P D vwCl (CWS k a st sl) H) (hP2 : va_P D vwCl (MWS k q mt ml) H) (hD : va_D (fun z : Nat => s.heap.size ≤ z) (CWS k a st sl ++ MWS k q mt ml)) (hS : va_S (fun z : Nat => s.heap.size ≤ z) s.heap H locs) (hend : ∀ (st mt : CT) (sl ml : CL) (H : Heap) (locs : List Loc), INV st mt → va_P D vwCl (CWS k a st sl) H → va_P D vwCl (MWS k q mt ml) H → va_D (fun z : Nat => s.heap.size ≤ z) (CWS k a st sl ++ MWS k q mt ml) → va_S (fun z : Nat => s.heap.size ≤ z) s.heap H locs → W p l e room_1 s m #[Value.ref b] below meth c H locs cells slots Q (F0 m 2212 ls [])) : W p l e room_1 s m #[Value.ref b] below meth c H locs cells slots Q (F0 m 876 ls []) := by
  obtain ⟨S, hK, hN, hNS, hX, hbl⟩ := G
  obtain ⟨hB, hXB, hM, hWK, hXM, hR⟩ := hI
  have hx := S.1
  have hb := S.2.1
  have hown := S.2.2.2.1
  have hT := S.2.2.2.2
  have hbA : ¬ (fun z : Nat => s.heap.size ≤ z) b := Nat.not_le.mpr hbl
  have hA : ∀ q : Nat, s.heap.size ≤ q → (fun z : Nat => s.heap.size ≤ z) q := fun _ h => h
  refine lv_aload_n hx hb dL_law_876 rfl (lv_at hl 1 rfl) ?_
  refine lv_aload_n hx hb dL_law_877 rfl (lv_at hl 0 rfl) ?_
  refine lv_iload_n hx hb dL_law_878 rfl (lv_at hl 3 rfl) ?_
  refine lv_iconst (v := 1) hx hb dL_law_879 (by decide) ?_
  refine lv_iadd hx hb dL_law_880 ?_
  refine va_sld hx hb hX hbl hbA hS (hv 1 (by decide) (by decide)) dL_law_881 ?_
  refine lv_aload_n hx hb dL_law_882 rfl (lv_at hl 0 rfl) ?_
  refine lv_iload_n hx hb dL_law_883 rfl (lv_at hl 3 rfl) ?_
  refine lv_iconst (v := 2) hx hb dL_law_884 (by decide) ?_
  refine lv_iadd hx hb dL_law_885 ?_
  refine va_sld hx hb hX hbl hbA hS (hv 2 (by decide) (by decide)) dL_law_886 ?_
  refine tw_i hP1 hP2 hD hS hA (fun hDc => run_V (mc := 0) (ms := 0) (As := [.int (xs (i + 1).toNatClampNeg), .int (xs (i + 2).toNatClampNeg)]) (rest := []) S (s_X9_ends l D k a st sl (xs (i + 1).toNatClampNeg) (xs (i + 2).toNatClampNeg) _ hB ) lkL_97 ok_X9_ends ⟨rfl, rfl, Nat.le_of_ble_eq_true rfl, Nat.le_of_ble_eq_true rfl⟩ (pw_V (ci := 9) (q0 := 0) hK hN rfl cw_0 hP1 hDc) rfl hl.1 rfl (Nat.le_of_ble_eq_true rfl) hcs dL_law_887) (fun r1 s2 H9 locs9 hs2 hPa hPb hD9 hS9 => ?_)
  clear hP1 hP2 hD hS
  have hS := hS9
  have hP1 : va_P D vwCl (CWS k a s2 sl) H9 := hPa
  have hP2 := hPb
  have hD : va_D (fun z : Nat => s.heap.size ≤ z) (CWS k a s2 sl ++ MWS k q mt ml) := hD9
  clear hPa hPb hD9 hS9
  obtain ⟨hBs2, gs2, fs2⟩ := hs2
  refine lv_pop hx hb dL_law_890 rfl ?_
  refine lv_aload_n hx hb dL_law_891 rfl (lv_at hl 2 rfl) ?_
  refine lv_aload_n hx hb dL_law_892 rfl (lv_at hl 0 rfl) ?_
  refine lv_iload_n hx hb dL_law_893 rfl (lv_at hl 3 rfl) ?_
  refine lv_iconst (v := 1) hx hb dL_law_894 (by decide) ?_
  refine lv_iadd hx hb dL_law_895 ?_
  refine va_sld hx hb hX hbl hbA hS (hv 1 (by decide) (by decide)) dL_law_896 ?_
  refine lv_aload_n hx hb dL_law_897 rfl (lv_at hl 0 rfl) ?_
  refine lv_iload_n hx hb dL_law_898 rfl (lv_at hl 3 rfl) ?_
  refine lv_iconst (v := 2) hx hb dL_law_899 (by decide) ?_
  refine lv_iadd hx hb dL_law_900 ?_
  refine va_sld hx hb hX hbl hbA hS (hv 2 (by decide) (by decide)) dL_law_901 ?_
  refine tw_i hP2 hP1 (d_swap hD) hS hA (fun hDc => run_V (mc := 0) (ms := 0) (As := [.int (xs (i + 1).toNatClampNeg), .int (xs (i + 2).toNatClampNeg)]) (rest := []) S (m_X10_ends l D k q mt ml (xs (i + 1).toNatClampNeg) (xs (i + 2).toNatClampNeg) _ hM hWK) lkL_100 ok_X10_ends ⟨rfl, rfl, Nat.le_of_ble_eq_true rfl, Nat.le_of_ble_eq_true rfl⟩ (pw_V (ci := 10) (q0 := 0) hK hN rfl mw_0 hP2 hDc) rfl hl.1 rfl (Nat.le_of_ble_eq_true rfl) hcs dL_law_902) (fun r3 m4 H9 locs9 hm4 hPa hPb hD9 hS9 => ?_)
  clear hP1 hP2 hD hS
  have hS := hS9
  have hP2 : va_P D vwCl (MWS k q m4 ml) H9 := hPa
  have hP1 := hPb
  have hD : va_D (fun z : Nat => s.heap.size ≤ z) (CWS k a s2 sl ++ MWS k q m4 ml) := d_swap hD9
  clear hPa hPb hD9 hS9
  obtain ⟨hBm4, gm4, qm4_0, qm4_1, qm4_2, qm4_3, qm4_4, qm4_5, qm4_6, qm4_7, qm4_8, qm4_9, qm4_10, qm4_11, qm4_12, qm4_13, fm4⟩ := hm4
  refine lv_pop hx hb dL_law_905 rfl ?_
  refine lv_goto (tgt := 2212) hx hb dL_law_906 (by decide) ?_
  exact hend s2 m4 sl ml _ _ ⟨hBs2, (xb_fr hXB gs2 (by decide)), hBm4, (wok_of (gm4 1 (by decide)) hWK), (xm_fr hXM (gm4 2 (by decide)) (gm4 3 (by decide))), (rel_fr hR (gs2 110 (by decide)) (gs2 112 (by decide)) (gs2 113 (by decide)) (gm4 3 (by decide)) (gm4 18 (by decide)) (gm4 19 (by decide)))⟩ hP1 hP2 hD hS
set_option maxHeartbeats 4000000 in
set_option maxRecDepth 100000 in
theorem lc_21 {p : Program} {l : Launch} {e : Env} {s : State} {m : MethodId} {below : List Frame} {meth : Method} {c : Code} {H : Heap} {locs : List Loc} {cells slots : Nat} {Q : State → Prop} {b L : Nat} {xs : Nat → Int32} {D : va_G} {k : Nat → ClassId} {a q : Nat → Nat} {st mt : CT} {sl ml : CL} {i : Int32} {ls : Array Slot} (G : LSX p s m c b L xs D k) (hv : ∀ j : Int32, 0 ≤ j.toInt → j.toInt ≤ 5 → vp_in (i + j) L) (hl : lv_has ls 4 [(0, .ref b), (1, .ref (a 0)), (2, .ref (q 0)), (3, .int i)]) (hcs : cells ≤ 600000 ∧ slots ≤ 7302250) (hI : INV st mt) (hP1 : va_P D vwCl (CWS k a st sl) H) (hP2 : va_P D vwCl (MWS k q mt ml) H) (hD : va_D (fun z : Nat => s.heap.size ≤ z) (CWS k a st sl ++ MWS k q mt ml)) (hS : va_S (fun z : Nat => s.heap.size ≤ z) s.heap H locs) (hend : ∀ (st mt : CT) (sl ml : CL) (H : Heap) (locs : List Loc), INV st mt → va_P D vwCl (CWS k a st sl) H → va_P D vwCl (MWS k q mt ml) H → va_D (fun z : Nat => s.heap.size ≤ z) (CWS k a st sl ++ MWS k q mt ml) → va_S (fun z : Nat => s.heap.size ≤ z) s.heap H locs → W p l e room_1 s m #[Value.ref b] below meth c H locs cells slots Q (F0 m 2212 ls [])) : W p l e room_1 s m #[Value.ref b] below meth c H locs cells slots Q (F0 m 909 ls []) := by
  obtain ⟨S, hK, hN, hNS, hX, hbl⟩ := G
  obtain ⟨hB, hXB, hM, hWK, hXM, hR⟩ := hI
  have hx := S.1
  have hb := S.2.1
  have hown := S.2.2.2.1
  have hT := S.2.2.2.2
  have hbA : ¬ (fun z : Nat => s.heap.size ≤ z) b := Nat.not_le.mpr hbl
  have hA : ∀ q : Nat, s.heap.size ≤ q → (fun z : Nat => s.heap.size ≤ z) q := fun _ h => h
  refine lv_aload_n hx hb dL_law_909 rfl (lv_at hl 1 rfl) ?_
  refine lv_aload_n hx hb dL_law_910 rfl (lv_at hl 0 rfl) ?_
  refine lv_iload_n hx hb dL_law_911 rfl (lv_at hl 3 rfl) ?_
  refine lv_iconst (v := 1) hx hb dL_law_912 (by decide) ?_
  refine lv_iadd hx hb dL_law_913 ?_
  refine va_sld hx hb hX hbl hbA hS (hv 1 (by decide) (by decide)) dL_law_914 ?_
  refine lv_aload_n hx hb dL_law_915 rfl (lv_at hl 0 rfl) ?_
  refine lv_iload_n hx hb dL_law_916 rfl (lv_at hl 3 rfl) ?_
  refine lv_iconst (v := 2) hx hb dL_law_917 (by decide) ?_
  refine lv_iadd hx hb dL_law_918 ?_
  refine va_sld hx hb hX hbl hbA hS (hv 2 (by decide) (by decide)) dL_law_919 ?_
  refine tw_i hP1 hP2 hD hS hA (fun hDc => run_V (mc := 0) (ms := 0) (As := [.int (xs (i + 1).toNatClampNeg), .int (xs (i + 2).toNatClampNeg)]) (rest := []) S (s_X9_ran l D k a st sl (xs (i + 1).toNatClampNeg) (xs (i + 2).toNatClampNeg) _ hB ) lkL_101 ok_X9_ran ⟨rfl, rfl, Nat.le_of_ble_eq_true rfl, Nat.le_of_ble_eq_true rfl⟩ (pw_V (ci := 9) (q0 := 0) hK hN rfl cw_0 hP1 hDc) rfl hl.1 rfl (Nat.le_of_ble_eq_true rfl) hcs dL_law_920) (fun r1 s2 H9 locs9 hs2 hPa hPb hD9 hS9 => ?_)
  clear hP1 hP2 hD hS
  have hS := hS9
  have hP1 : va_P D vwCl (CWS k a s2 sl) H9 := hPa
  have hP2 := hPb
  have hD : va_D (fun z : Nat => s.heap.size ≤ z) (CWS k a s2 sl ++ MWS k q mt ml) := hD9
  clear hPa hPb hD9 hS9
  obtain ⟨hBs2, gs2, fs2⟩ := hs2
  refine lv_pop hx hb dL_law_923 rfl ?_
  refine lv_aload_n hx hb dL_law_924 rfl (lv_at hl 2 rfl) ?_
  refine lv_aload_n hx hb dL_law_925 rfl (lv_at hl 0 rfl) ?_
  refine lv_iload_n hx hb dL_law_926 rfl (lv_at hl 3 rfl) ?_
  refine lv_iconst (v := 1) hx hb dL_law_927 (by decide) ?_
  refine lv_iadd hx hb dL_law_928 ?_
  refine va_sld hx hb hX hbl hbA hS (hv 1 (by decide) (by decide)) dL_law_929 ?_
  refine lv_aload_n hx hb dL_law_930 rfl (lv_at hl 0 rfl) ?_
  refine lv_iload_n hx hb dL_law_931 rfl (lv_at hl 3 rfl) ?_
  refine lv_iconst (v := 2) hx hb dL_law_932 (by decide) ?_
  refine lv_iadd hx hb dL_law_933 ?_
  refine va_sld hx hb hX hbl hbA hS (hv 2 (by decide) (by decide)) dL_law_934 ?_
  refine tw_i hP2 hP1 (d_swap hD) hS hA (fun hDc => run_V (mc := 0) (ms := 0) (As := [.int (xs (i + 1).toNatClampNeg), .int (xs (i + 2).toNatClampNeg)]) (rest := []) S (m_X10_ran l D k q mt ml (xs (i + 1).toNatClampNeg) (xs (i + 2).toNatClampNeg) _ hM hWK) lkL_104 ok_X10_ran ⟨rfl, rfl, Nat.le_of_ble_eq_true rfl, Nat.le_of_ble_eq_true rfl⟩ (pw_V (ci := 10) (q0 := 0) hK hN rfl mw_0 hP2 hDc) rfl hl.1 rfl (Nat.le_of_ble_eq_true rfl) hcs dL_law_935) (fun r3 m4 H9 locs9 hm4 hPa hPb hD9 hS9 => ?_)
  clear hP1 hP2 hD hS
  have hS := hS9
  have hP2 : va_P D vwCl (MWS k q m4 ml) H9 := hPa
  have hP1 := hPb
  have hD : va_D (fun z : Nat => s.heap.size ≤ z) (CWS k a s2 sl ++ MWS k q m4 ml) := d_swap hD9
  clear hPa hPb hD9 hS9
  obtain ⟨hBm4, gm4, qm4_0, qm4_1, qm4_2, qm4_3, qm4_4, qm4_5, qm4_6, qm4_7, qm4_8, qm4_9, qm4_10, qm4_11, qm4_12, qm4_13, fm4⟩ := hm4
  refine lv_pop hx hb dL_law_938 rfl ?_
  refine lv_goto (tgt := 2212) hx hb dL_law_939 (by decide) ?_
  exact hend s2 m4 sl ml _ _ ⟨hBs2, (xb_fr hXB gs2 (by decide)), hBm4, (wok_of (gm4 1 (by decide)) hWK), (xm_fr hXM (gm4 2 (by decide)) (gm4 3 (by decide))), (rel_fr hR (gs2 110 (by decide)) (gs2 112 (by decide)) (gs2 113 (by decide)) (gm4 3 (by decide)) (gm4 18 (by decide)) (gm4 19 (by decide)))⟩ hP1 hP2 hD hS
set_option maxHeartbeats 4000000 in
set_option maxRecDepth 100000 in
theorem lc_22 {p : Program} {l : Launch} {e : Env} {s : State} {m : MethodId} {below : List Frame} {meth : Method} {c : Code} {H : Heap} {locs : List Loc} {cells slots : Nat} {Q : State → Prop} {b L : Nat} {xs : Nat → Int32} {D : va_G} {k : Nat → ClassId} {a q : Nat → Nat} {st mt : CT} {sl ml : CL} {i : Int32} {ls : Array Slot} (G : LSX p s m c b L xs D k) (hv : ∀ j : Int32, 0 ≤ j.toInt → j.toInt ≤ 5 → vp_in (i + j) L) (hl : lv_has ls 4 [(0, .ref b), (1, .ref (a 0)), (2, .ref (q 0)), (3, .int i)]) (hcs : cells ≤ 600000 ∧ slots ≤ 7302250) (hI : INV st mt) (hP1 : va_P D vwCl (CWS k a st sl) H) (hP2 : va_P D vwCl (MWS k q mt ml) H) (hD : va_D (fun z : Nat => s.heap.size ≤ z) (CWS k a st sl ++ MWS k q mt ml)) (hS : va_S (fun z : Nat => s.heap.size ≤ z) s.heap H locs) (hend : ∀ (st mt : CT) (sl ml : CL) (H : Heap) (locs : List Loc), INV st mt → va_P D vwCl (CWS k a st sl) H → va_P D vwCl (MWS k q mt ml) H → va_D (fun z : Nat => s.heap.size ≤ z) (CWS k a st sl ++ MWS k q mt ml) → va_S (fun z : Nat => s.heap.size ≤ z) s.heap H locs → W p l e room_1 s m #[Value.ref b] below meth c H locs cells slots Q (F0 m 2212 ls [])) : W p l e room_1 s m #[Value.ref b] below meth c H locs cells slots Q (F0 m 942 ls []) := by
  obtain ⟨S, hK, hN, hNS, hX, hbl⟩ := G
  obtain ⟨hB, hXB, hM, hWK, hXM, hR⟩ := hI
  have hx := S.1
  have hb := S.2.1
  have hown := S.2.2.2.1
  have hT := S.2.2.2.2
  have hbA : ¬ (fun z : Nat => s.heap.size ≤ z) b := Nat.not_le.mpr hbl
  have hA : ∀ q : Nat, s.heap.size ≤ q → (fun z : Nat => s.heap.size ≤ z) q := fun _ h => h
  refine lv_aload_n hx hb dL_law_942 rfl (lv_at hl 1 rfl) ?_
  refine lv_aload_n hx hb dL_law_943 rfl (lv_at hl 0 rfl) ?_
  refine lv_iload_n hx hb dL_law_944 rfl (lv_at hl 3 rfl) ?_
  refine lv_iconst (v := 1) hx hb dL_law_945 (by decide) ?_
  refine lv_iadd hx hb dL_law_946 ?_
  refine va_sld hx hb hX hbl hbA hS (hv 1 (by decide) (by decide)) dL_law_947 ?_
  refine lv_aload_n hx hb dL_law_948 rfl (lv_at hl 0 rfl) ?_
  refine lv_iload_n hx hb dL_law_949 rfl (lv_at hl 3 rfl) ?_
  refine lv_iconst (v := 2) hx hb dL_law_950 (by decide) ?_
  refine lv_iadd hx hb dL_law_951 ?_
  refine va_sld hx hb hX hbl hbA hS (hv 2 (by decide) (by decide)) dL_law_952 ?_
  refine tw_i hP1 hP2 hD hS hA (fun hDc => run_V (mc := 0) (ms := 0) (As := [.int (xs (i + 1).toNatClampNeg), .int (xs (i + 2).toNatClampNeg)]) (rest := []) S (s_X9_astray l D k a st sl (xs (i + 1).toNatClampNeg) (xs (i + 2).toNatClampNeg) _ hB ) lkL_105 ok_X9_astray ⟨rfl, rfl, Nat.le_of_ble_eq_true rfl, Nat.le_of_ble_eq_true rfl⟩ (pw_V (ci := 9) (q0 := 0) hK hN rfl cw_0 hP1 hDc) rfl hl.1 rfl (Nat.le_of_ble_eq_true rfl) hcs dL_law_953) (fun r1 s2 H9 locs9 hs2 hPa hPb hD9 hS9 => ?_)
  clear hP1 hP2 hD hS
  have hS := hS9
  have hP1 : va_P D vwCl (CWS k a s2 sl) H9 := hPa
  have hP2 := hPb
  have hD : va_D (fun z : Nat => s.heap.size ≤ z) (CWS k a s2 sl ++ MWS k q mt ml) := hD9
  clear hPa hPb hD9 hS9
  obtain ⟨hBs2, gs2, fs2⟩ := hs2
  refine lv_pop hx hb dL_law_956 rfl ?_
  refine lv_aload_n hx hb dL_law_957 rfl (lv_at hl 2 rfl) ?_
  refine lv_aload_n hx hb dL_law_958 rfl (lv_at hl 0 rfl) ?_
  refine lv_iload_n hx hb dL_law_959 rfl (lv_at hl 3 rfl) ?_
  refine lv_iconst (v := 1) hx hb dL_law_960 (by decide) ?_
  refine lv_iadd hx hb dL_law_961 ?_
  refine va_sld hx hb hX hbl hbA hS (hv 1 (by decide) (by decide)) dL_law_962 ?_
  refine lv_aload_n hx hb dL_law_963 rfl (lv_at hl 0 rfl) ?_
  refine lv_iload_n hx hb dL_law_964 rfl (lv_at hl 3 rfl) ?_
  refine lv_iconst (v := 2) hx hb dL_law_965 (by decide) ?_
  refine lv_iadd hx hb dL_law_966 ?_
  refine va_sld hx hb hX hbl hbA hS (hv 2 (by decide) (by decide)) dL_law_967 ?_
  refine tw_i hP2 hP1 (d_swap hD) hS hA (fun hDc => run_V (mc := 0) (ms := 0) (As := [.int (xs (i + 1).toNatClampNeg), .int (xs (i + 2).toNatClampNeg)]) (rest := []) S (m_X10_astray l D k q mt ml (xs (i + 1).toNatClampNeg) (xs (i + 2).toNatClampNeg) _ hM hWK) lkL_108 ok_X10_astray ⟨rfl, rfl, Nat.le_of_ble_eq_true rfl, Nat.le_of_ble_eq_true rfl⟩ (pw_V (ci := 10) (q0 := 0) hK hN rfl mw_0 hP2 hDc) rfl hl.1 rfl (Nat.le_of_ble_eq_true rfl) hcs dL_law_968) (fun r3 m4 H9 locs9 hm4 hPa hPb hD9 hS9 => ?_)
  clear hP1 hP2 hD hS
  have hS := hS9
  have hP2 : va_P D vwCl (MWS k q m4 ml) H9 := hPa
  have hP1 := hPb
  have hD : va_D (fun z : Nat => s.heap.size ≤ z) (CWS k a s2 sl ++ MWS k q m4 ml) := d_swap hD9
  clear hPa hPb hD9 hS9
  obtain ⟨hBm4, gm4, qm4_0, qm4_1, qm4_2, qm4_3, qm4_4, qm4_5, qm4_6, qm4_7, qm4_8, qm4_9, qm4_10, qm4_11, qm4_12, qm4_13, fm4⟩ := hm4
  refine lv_pop hx hb dL_law_971 rfl ?_
  refine lv_goto (tgt := 2212) hx hb dL_law_972 (by decide) ?_
  exact hend s2 m4 sl ml _ _ ⟨hBs2, (xb_fr hXB gs2 (by decide)), hBm4, (wok_of (gm4 1 (by decide)) hWK), (xm_fr hXM (gm4 2 (by decide)) (gm4 3 (by decide))), (rel_fr hR (gs2 110 (by decide)) (gs2 112 (by decide)) (gs2 113 (by decide)) (gm4 3 (by decide)) (gm4 18 (by decide)) (gm4 19 (by decide)))⟩ hP1 hP2 hD hS
set_option maxHeartbeats 4000000 in
set_option maxRecDepth 100000 in
theorem lc_23 {p : Program} {l : Launch} {e : Env} {s : State} {m : MethodId} {below : List Frame} {meth : Method} {c : Code} {H : Heap} {locs : List Loc} {cells slots : Nat} {Q : State → Prop} {b L : Nat} {xs : Nat → Int32} {D : va_G} {k : Nat → ClassId} {a q : Nat → Nat} {st mt : CT} {sl ml : CL} {i : Int32} {ls : Array Slot} (G : LSX p s m c b L xs D k) (hv : ∀ j : Int32, 0 ≤ j.toInt → j.toInt ≤ 5 → vp_in (i + j) L) (hl : lv_has ls 4 [(0, .ref b), (1, .ref (a 0)), (2, .ref (q 0)), (3, .int i)]) (hcs : cells ≤ 600000 ∧ slots ≤ 7302250) (hI : INV st mt) (hP1 : va_P D vwCl (CWS k a st sl) H) (hP2 : va_P D vwCl (MWS k q mt ml) H) (hD : va_D (fun z : Nat => s.heap.size ≤ z) (CWS k a st sl ++ MWS k q mt ml)) (hS : va_S (fun z : Nat => s.heap.size ≤ z) s.heap H locs) (hend : ∀ (st mt : CT) (sl ml : CL) (H : Heap) (locs : List Loc), INV st mt → va_P D vwCl (CWS k a st sl) H → va_P D vwCl (MWS k q mt ml) H → va_D (fun z : Nat => s.heap.size ≤ z) (CWS k a st sl ++ MWS k q mt ml) → va_S (fun z : Nat => s.heap.size ≤ z) s.heap H locs → W p l e room_1 s m #[Value.ref b] below meth c H locs cells slots Q (F0 m 2212 ls [])) : W p l e room_1 s m #[Value.ref b] below meth c H locs cells slots Q (F0 m 975 ls []) := by
  obtain ⟨S, hK, hN, hNS, hX, hbl⟩ := G
  obtain ⟨hB, hXB, hM, hWK, hXM, hR⟩ := hI
  have hx := S.1
  have hb := S.2.1
  have hown := S.2.2.2.1
  have hT := S.2.2.2.2
  have hbA : ¬ (fun z : Nat => s.heap.size ≤ z) b := Nat.not_le.mpr hbl
  have hA : ∀ q : Nat, s.heap.size ≤ q → (fun z : Nat => s.heap.size ≤ z) q := fun _ h => h
  refine lv_aload_n hx hb dL_law_975 rfl (lv_at hl 1 rfl) ?_
  refine lv_aload_n hx hb dL_law_976 rfl (lv_at hl 0 rfl) ?_
  refine lv_iload_n hx hb dL_law_977 rfl (lv_at hl 3 rfl) ?_
  refine lv_iconst (v := 1) hx hb dL_law_978 (by decide) ?_
  refine lv_iadd hx hb dL_law_979 ?_
  refine va_sld hx hb hX hbl hbA hS (hv 1 (by decide) (by decide)) dL_law_980 ?_
  refine lv_aload_n hx hb dL_law_981 rfl (lv_at hl 0 rfl) ?_
  refine lv_iload_n hx hb dL_law_982 rfl (lv_at hl 3 rfl) ?_
  refine lv_iconst (v := 2) hx hb dL_law_983 (by decide) ?_
  refine lv_iadd hx hb dL_law_984 ?_
  refine va_sld hx hb hX hbl hbA hS (hv 2 (by decide) (by decide)) dL_law_985 ?_
  refine tw_i hP1 hP2 hD hS hA (fun hDc => run_V (mc := 0) (ms := 0) (As := [.int (xs (i + 1).toNatClampNeg), .int (xs (i + 2).toNatClampNeg)]) (rest := []) S (s_X9_worn l D k a st sl (xs (i + 1).toNatClampNeg) (xs (i + 2).toNatClampNeg) _ hB ) lkL_109 ok_X9_worn ⟨rfl, rfl, Nat.le_of_ble_eq_true rfl, Nat.le_of_ble_eq_true rfl⟩ (pw_V (ci := 9) (q0 := 0) hK hN rfl cw_0 hP1 hDc) rfl hl.1 rfl (Nat.le_of_ble_eq_true rfl) hcs dL_law_986) (fun r1 s2 H9 locs9 hs2 hPa hPb hD9 hS9 => ?_)
  clear hP1 hP2 hD hS
  have hS := hS9
  have hP1 : va_P D vwCl (CWS k a s2 sl) H9 := hPa
  have hP2 := hPb
  have hD : va_D (fun z : Nat => s.heap.size ≤ z) (CWS k a s2 sl ++ MWS k q mt ml) := hD9
  clear hPa hPb hD9 hS9
  obtain ⟨hBs2, gs2, fs2⟩ := hs2
  refine lv_pop hx hb dL_law_989 rfl ?_
  refine lv_aload_n hx hb dL_law_990 rfl (lv_at hl 2 rfl) ?_
  refine lv_aload_n hx hb dL_law_991 rfl (lv_at hl 0 rfl) ?_
  refine lv_iload_n hx hb dL_law_992 rfl (lv_at hl 3 rfl) ?_
  refine lv_iconst (v := 1) hx hb dL_law_993 (by decide) ?_
  refine lv_iadd hx hb dL_law_994 ?_
  refine va_sld hx hb hX hbl hbA hS (hv 1 (by decide) (by decide)) dL_law_995 ?_
  refine lv_aload_n hx hb dL_law_996 rfl (lv_at hl 0 rfl) ?_
  refine lv_iload_n hx hb dL_law_997 rfl (lv_at hl 3 rfl) ?_
  refine lv_iconst (v := 2) hx hb dL_law_998 (by decide) ?_
  refine lv_iadd hx hb dL_law_999 ?_
  refine va_sld hx hb hX hbl hbA hS (hv 2 (by decide) (by decide)) dL_law_1000 ?_
  refine tw_i hP2 hP1 (d_swap hD) hS hA (fun hDc => run_V (mc := 0) (ms := 0) (As := [.int (xs (i + 1).toNatClampNeg), .int (xs (i + 2).toNatClampNeg)]) (rest := []) S (m_X10_worn l D k q mt ml (xs (i + 1).toNatClampNeg) (xs (i + 2).toNatClampNeg) _ hM hWK) lkL_112 ok_X10_worn ⟨rfl, rfl, Nat.le_of_ble_eq_true rfl, Nat.le_of_ble_eq_true rfl⟩ (pw_V (ci := 10) (q0 := 0) hK hN rfl mw_0 hP2 hDc) rfl hl.1 rfl (Nat.le_of_ble_eq_true rfl) hcs dL_law_1001) (fun r3 m4 H9 locs9 hm4 hPa hPb hD9 hS9 => ?_)
  clear hP1 hP2 hD hS
  have hS := hS9
  have hP2 : va_P D vwCl (MWS k q m4 ml) H9 := hPa
  have hP1 := hPb
  have hD : va_D (fun z : Nat => s.heap.size ≤ z) (CWS k a s2 sl ++ MWS k q m4 ml) := d_swap hD9
  clear hPa hPb hD9 hS9
  obtain ⟨hBm4, gm4, qm4_0, qm4_1, qm4_2, qm4_3, qm4_4, qm4_5, qm4_6, qm4_7, qm4_8, qm4_9, qm4_10, qm4_11, qm4_12, qm4_13, fm4⟩ := hm4
  refine lv_pop hx hb dL_law_1004 rfl ?_
  refine lv_goto (tgt := 2212) hx hb dL_law_1005 (by decide) ?_
  exact hend s2 m4 sl ml _ _ ⟨hBs2, (xb_fr hXB gs2 (by decide)), hBm4, (wok_of (gm4 1 (by decide)) hWK), (xm_fr hXM (gm4 2 (by decide)) (gm4 3 (by decide))), (rel_fr hR (gs2 110 (by decide)) (gs2 112 (by decide)) (gs2 113 (by decide)) (gm4 3 (by decide)) (gm4 18 (by decide)) (gm4 19 (by decide)))⟩ hP1 hP2 hD hS
