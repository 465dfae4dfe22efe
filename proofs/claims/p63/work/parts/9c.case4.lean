set_option maxHeartbeats 4000000 in
set_option maxRecDepth 100000 in
theorem lc_32 {p : Program} {l : Launch} {e : Env} {s : State} {m : MethodId} {below : List Frame} {meth : Method} {c : Code} {H : Heap} {locs : List Loc} {cells slots : Nat} {Q : State → Prop} {b L : Nat} {xs : Nat → Int32} {D : va_G} {k : Nat → ClassId} {a q : Nat → Nat} {st mt : CT} {sl ml : CL} {i : Int32} {ls : Array Slot} (G : LSX p s m c b L xs D k) (hv : ∀ j : Int32, 0 ≤ j.toInt → j.toInt ≤ 5 → vp_in (i + j) L) (hl : lv_has ls 4 [(0, .ref b), (1, .ref (a 0)), (2, .ref (q 0)), (3, .int i)]) (hcs : cells ≤ 600000 ∧ slots ≤ 7302250) (hI : INV st mt) (hP1 : va_P D vwCl (CWS k a st sl) H) (hP2 : va_P D vwCl (MWS k q mt ml) H) (hD : va_D (fun z : Nat => s.heap.size ≤ z) (CWS k a st sl ++ MWS k q mt ml)) (hS : va_S (fun z : Nat => s.heap.size ≤ z) s.heap H locs) (hend : ∀ (st mt : CT) (sl ml : CL) (H : Heap) (locs : List Loc), INV st mt → va_P D vwCl (CWS k a st sl) H → va_P D vwCl (MWS k q mt ml) H → va_D (fun z : Nat => s.heap.size ≤ z) (CWS k a st sl ++ MWS k q mt ml) → va_S (fun z : Nat => s.heap.size ≤ z) s.heap H locs → W p l e room_1 s m #[Value.ref b] below meth c H locs cells slots Q (F0 m 2212 ls [])) : W p l e room_1 s m #[Value.ref b] below meth c H locs cells slots Q (F0 m 1252 ls []) := by
  obtain ⟨S, hK, hN, hNS, hX, hbl⟩ := G
  obtain ⟨hB, hXB, hM, hWK, hXM, hR⟩ := hI
  have hx := S.1
  have hb := S.2.1
  have hown := S.2.2.2.1
  have hT := S.2.2.2.2
  have hbA : ¬ (fun z : Nat => s.heap.size ≤ z) b := Nat.not_le.mpr hbl
  have hA : ∀ q : Nat, s.heap.size ≤ q → (fun z : Nat => s.heap.size ≤ z) q := fun _ h => h
  refine lv_aload_n hx hb dL_law_1252 rfl (lv_at hl 1 rfl) ?_
  refine lv_aload_n hx hb dL_law_1253 rfl (lv_at hl 0 rfl) ?_
  refine lv_iload_n hx hb dL_law_1254 rfl (lv_at hl 3 rfl) ?_
  refine lv_iconst (v := 1) hx hb dL_law_1255 (by decide) ?_
  refine lv_iadd hx hb dL_law_1256 ?_
  refine va_sld hx hb hX hbl hbA hS (hv 1 (by decide) (by decide)) dL_law_1257 ?_
  refine tw_i hP1 hP2 hD hS hA (fun hDc => run_V (mc := 0) (ms := 0) (As := [.int (xs (i + 1).toNatClampNeg)]) (rest := []) S (s_X9_circle l D k a st sl (xs (i + 1).toNatClampNeg) _ hB ) lkL_146 ok_X9_circle ⟨rfl, rfl, Nat.le_of_ble_eq_true rfl, Nat.le_of_ble_eq_true rfl⟩ (pw_V (ci := 9) (q0 := 0) hK hN rfl cw_0 hP1 hDc) rfl hl.1 rfl (Nat.le_of_ble_eq_true rfl) hcs dL_law_1258) (fun r1 s2 H9 locs9 hs2 hPa hPb hD9 hS9 => ?_)
  clear hP1 hP2 hD hS
  have hS := hS9
  have hP1 : va_P D vwCl (CWS k a s2 sl) H9 := hPa
  have hP2 := hPb
  have hD : va_D (fun z : Nat => s.heap.size ≤ z) (CWS k a s2 sl ++ MWS k q mt ml) := hD9
  clear hPa hPb hD9 hS9
  obtain ⟨hBs2, gs2, fs2⟩ := hs2
  refine lv_pop hx hb dL_law_1261 rfl ?_
  refine lv_aload_n hx hb dL_law_1262 rfl (lv_at hl 2 rfl) ?_
  refine lv_aload_n hx hb dL_law_1263 rfl (lv_at hl 0 rfl) ?_
  refine lv_iload_n hx hb dL_law_1264 rfl (lv_at hl 3 rfl) ?_
  refine lv_iconst (v := 1) hx hb dL_law_1265 (by decide) ?_
  refine lv_iadd hx hb dL_law_1266 ?_
  refine va_sld hx hb hX hbl hbA hS (hv 1 (by decide) (by decide)) dL_law_1267 ?_
  refine tw_i hP2 hP1 (d_swap hD) hS hA (fun hDc => run_V (mc := 0) (ms := 0) (As := [.int (xs (i + 1).toNatClampNeg)]) (rest := []) S (m_X10_circle l D k q mt ml (xs (i + 1).toNatClampNeg) _ hM hWK) lkL_149 ok_X10_circle ⟨rfl, rfl, Nat.le_of_ble_eq_true rfl, Nat.le_of_ble_eq_true rfl⟩ (pw_V (ci := 10) (q0 := 0) hK hN rfl mw_0 hP2 hDc) rfl hl.1 rfl (Nat.le_of_ble_eq_true rfl) hcs dL_law_1268) (fun r3 m4 H9 locs9 hm4 hPa hPb hD9 hS9 => ?_)
  clear hP1 hP2 hD hS
  have hS := hS9
  have hP2 : va_P D vwCl (MWS k q m4 ml) H9 := hPa
  have hP1 := hPb
  have hD : va_D (fun z : Nat => s.heap.size ≤ z) (CWS k a s2 sl ++ MWS k q m4 ml) := d_swap hD9
  clear hPa hPb hD9 hS9
  obtain ⟨hBm4, gm4, fm4⟩ := hm4
  refine lv_pop hx hb dL_law_1271 rfl ?_
  refine lv_goto (tgt := 2212) hx hb dL_law_1272 (by decide) ?_
  exact hend s2 m4 sl ml _ _ ⟨hBs2, (xb_fr hXB gs2 (by decide)), hBm4, (wok_of (gm4 1 (by decide)) hWK), (xm_fr hXM (gm4 2 (by decide)) (gm4 3 (by decide))), (rel_fr hR (gs2 110 (by decide)) (gs2 112 (by decide)) (gs2 113 (by decide)) (gm4 3 (by decide)) (gm4 18 (by decide)) (gm4 19 (by decide)))⟩ hP1 hP2 hD hS
set_option maxHeartbeats 4000000 in
set_option maxRecDepth 100000 in
theorem lc_33 {p : Program} {l : Launch} {e : Env} {s : State} {m : MethodId} {below : List Frame} {meth : Method} {c : Code} {H : Heap} {locs : List Loc} {cells slots : Nat} {Q : State → Prop} {b L : Nat} {xs : Nat → Int32} {D : va_G} {k : Nat → ClassId} {a q : Nat → Nat} {st mt : CT} {sl ml : CL} {i : Int32} {ls : Array Slot} (G : LSX p s m c b L xs D k) (hv : ∀ j : Int32, 0 ≤ j.toInt → j.toInt ≤ 5 → vp_in (i + j) L) (hl : lv_has ls 4 [(0, .ref b), (1, .ref (a 0)), (2, .ref (q 0)), (3, .int i)]) (hcs : cells ≤ 600000 ∧ slots ≤ 7302250) (hI : INV st mt) (hP1 : va_P D vwCl (CWS k a st sl) H) (hP2 : va_P D vwCl (MWS k q mt ml) H) (hD : va_D (fun z : Nat => s.heap.size ≤ z) (CWS k a st sl ++ MWS k q mt ml)) (hS : va_S (fun z : Nat => s.heap.size ≤ z) s.heap H locs) (hend : ∀ (st mt : CT) (sl ml : CL) (H : Heap) (locs : List Loc), INV st mt → va_P D vwCl (CWS k a st sl) H → va_P D vwCl (MWS k q mt ml) H → va_D (fun z : Nat => s.heap.size ≤ z) (CWS k a st sl ++ MWS k q mt ml) → va_S (fun z : Nat => s.heap.size ≤ z) s.heap H locs → W p l e room_1 s m #[Value.ref b] below meth c H locs cells slots Q (F0 m 2212 ls [])) : W p l e room_1 s m #[Value.ref b] below meth c H locs cells slots Q (F0 m 1275 ls []) := by
  obtain ⟨S, hK, hN, hNS, hX, hbl⟩ := G
  obtain ⟨hB, hXB, hM, hWK, hXM, hR⟩ := hI
  have hx := S.1
  have hb := S.2.1
  have hown := S.2.2.2.1
  have hT := S.2.2.2.2
  have hbA : ¬ (fun z : Nat => s.heap.size ≤ z) b := Nat.not_le.mpr hbl
  have hA : ∀ q : Nat, s.heap.size ≤ q → (fun z : Nat => s.heap.size ≤ z) q := fun _ h => h
  refine lv_aload_n hx hb dL_law_1275 rfl (lv_at hl 1 rfl) ?_
  refine lv_aload_n hx hb dL_law_1276 rfl (lv_at hl 0 rfl) ?_
  refine lv_iload_n hx hb dL_law_1277 rfl (lv_at hl 3 rfl) ?_
  refine lv_iconst (v := 1) hx hb dL_law_1278 (by decide) ?_
  refine lv_iadd hx hb dL_law_1279 ?_
  refine va_sld hx hb hX hbl hbA hS (hv 1 (by decide) (by decide)) dL_law_1280 ?_
  refine tw_i hP1 hP2 hD hS hA (fun hDc => run_V (mc := 0) (ms := 0) (As := [.int (xs (i + 1).toNatClampNeg)]) (rest := []) S (s_X9_haunts l D k a st sl (xs (i + 1).toNatClampNeg) _ hB ) lkL_150 ok_X9_haunts ⟨rfl, rfl, Nat.le_of_ble_eq_true rfl, Nat.le_of_ble_eq_true rfl⟩ (pw_V (ci := 9) (q0 := 0) hK hN rfl cw_0 hP1 hDc) rfl hl.1 rfl (Nat.le_of_ble_eq_true rfl) hcs dL_law_1281) (fun r1 s2 H9 locs9 hs2 hPa hPb hD9 hS9 => ?_)
  clear hP1 hP2 hD hS
  have hS := hS9
  have hP1 : va_P D vwCl (CWS k a s2 sl) H9 := hPa
  have hP2 := hPb
  have hD : va_D (fun z : Nat => s.heap.size ≤ z) (CWS k a s2 sl ++ MWS k q mt ml) := hD9
  clear hPa hPb hD9 hS9
  obtain ⟨hBs2, gs2, fs2⟩ := hs2
  refine lv_pop hx hb dL_law_1284 rfl ?_
  refine lv_aload_n hx hb dL_law_1285 rfl (lv_at hl 2 rfl) ?_
  refine lv_aload_n hx hb dL_law_1286 rfl (lv_at hl 0 rfl) ?_
  refine lv_iload_n hx hb dL_law_1287 rfl (lv_at hl 3 rfl) ?_
  refine lv_iconst (v := 1) hx hb dL_law_1288 (by decide) ?_
  refine lv_iadd hx hb dL_law_1289 ?_
  refine va_sld hx hb hX hbl hbA hS (hv 1 (by decide) (by decide)) dL_law_1290 ?_
  refine tw_i hP2 hP1 (d_swap hD) hS hA (fun hDc => run_V (mc := 0) (ms := 0) (As := [.int (xs (i + 1).toNatClampNeg)]) (rest := []) S (m_X10_haunts l D k q mt ml (xs (i + 1).toNatClampNeg) _ hM hWK) lkL_153 ok_X10_haunts ⟨rfl, rfl, Nat.le_of_ble_eq_true rfl, Nat.le_of_ble_eq_true rfl⟩ (pw_V (ci := 10) (q0 := 0) hK hN rfl mw_0 hP2 hDc) rfl hl.1 rfl (Nat.le_of_ble_eq_true rfl) hcs dL_law_1291) (fun r3 m4 H9 locs9 hm4 hPa hPb hD9 hS9 => ?_)
  clear hP1 hP2 hD hS
  have hS := hS9
  have hP2 : va_P D vwCl (MWS k q m4 ml) H9 := hPa
  have hP1 := hPb
  have hD : va_D (fun z : Nat => s.heap.size ≤ z) (CWS k a s2 sl ++ MWS k q m4 ml) := d_swap hD9
  clear hPa hPb hD9 hS9
  obtain ⟨hBm4, gm4, fm4⟩ := hm4
  refine lv_pop hx hb dL_law_1294 rfl ?_
  refine lv_goto (tgt := 2212) hx hb dL_law_1295 (by decide) ?_
  exact hend s2 m4 sl ml _ _ ⟨hBs2, (xb_fr hXB gs2 (by decide)), hBm4, (wok_of (gm4 1 (by decide)) hWK), (xm_fr hXM (gm4 2 (by decide)) (gm4 3 (by decide))), (rel_fr hR (gs2 110 (by decide)) (gs2 112 (by decide)) (gs2 113 (by decide)) (gm4 3 (by decide)) (gm4 18 (by decide)) (gm4 19 (by decide)))⟩ hP1 hP2 hD hS
set_option maxHeartbeats 4000000 in
set_option maxRecDepth 100000 in
theorem lc_34 {p : Program} {l : Launch} {e : Env} {s : State} {m : MethodId} {below : List Frame} {meth : Method} {c : Code} {H : Heap} {locs : List Loc} {cells slots : Nat} {Q : State → Prop} {b L : Nat} {xs : Nat → Int32} {D : va_G} {k : Nat → ClassId} {a q : Nat → Nat} {st mt : CT} {sl ml : CL} {i : Int32} {ls : Array Slot} (G : LSX p s m c b L xs D k) (hv : ∀ j : Int32, 0 ≤ j.toInt → j.toInt ≤ 5 → vp_in (i + j) L) (hl : lv_has ls 4 [(0, .ref b), (1, .ref (a 0)), (2, .ref (q 0)), (3, .int i)]) (hcs : cells ≤ 600000 ∧ slots ≤ 7302250) (hI : INV st mt) (hP1 : va_P D vwCl (CWS k a st sl) H) (hP2 : va_P D vwCl (MWS k q mt ml) H) (hD : va_D (fun z : Nat => s.heap.size ≤ z) (CWS k a st sl ++ MWS k q mt ml)) (hS : va_S (fun z : Nat => s.heap.size ≤ z) s.heap H locs) (hend : ∀ (st mt : CT) (sl ml : CL) (H : Heap) (locs : List Loc), INV st mt → va_P D vwCl (CWS k a st sl) H → va_P D vwCl (MWS k q mt ml) H → va_D (fun z : Nat => s.heap.size ≤ z) (CWS k a st sl ++ MWS k q mt ml) → va_S (fun z : Nat => s.heap.size ≤ z) s.heap H locs → W p l e room_1 s m #[Value.ref b] below meth c H locs cells slots Q (F0 m 2212 ls [])) : W p l e room_1 s m #[Value.ref b] below meth c H locs cells slots Q (F0 m 1298 ls []) := by
  obtain ⟨S, hK, hN, hNS, hX, hbl⟩ := G
  obtain ⟨hB, hXB, hM, hWK, hXM, hR⟩ := hI
  have hx := S.1
  have hb := S.2.1
  have hown := S.2.2.2.1
  have hT := S.2.2.2.2
  have hbA : ¬ (fun z : Nat => s.heap.size ≤ z) b := Nat.not_le.mpr hbl
  have hA : ∀ q : Nat, s.heap.size ≤ q → (fun z : Nat => s.heap.size ≤ z) q := fun _ h => h
  refine lv_aload_n hx hb dL_law_1298 rfl (lv_at hl 1 rfl) ?_
  refine lv_aload_n hx hb dL_law_1299 rfl (lv_at hl 0 rfl) ?_
  refine lv_iload_n hx hb dL_law_1300 rfl (lv_at hl 3 rfl) ?_
  refine lv_iconst (v := 1) hx hb dL_law_1301 (by decide) ?_
  refine lv_iadd hx hb dL_law_1302 ?_
  refine va_sld hx hb hX hbl hbA hS (hv 1 (by decide) (by decide)) dL_law_1303 ?_
  refine lv_aload_n hx hb dL_law_1304 rfl (lv_at hl 0 rfl) ?_
  refine lv_iload_n hx hb dL_law_1305 rfl (lv_at hl 3 rfl) ?_
  refine lv_iconst (v := 2) hx hb dL_law_1306 (by decide) ?_
  refine lv_iadd hx hb dL_law_1307 ?_
  refine va_sld hx hb hX hbl hbA hS (hv 2 (by decide) (by decide)) dL_law_1308 ?_
  refine tw_i hP1 hP2 hD hS hA (fun hDc => run_V (mc := 0) (ms := 0) (As := [.int (xs (i + 1).toNatClampNeg), .int (xs (i + 2).toNatClampNeg)]) (rest := []) S (s_X9_meet l D k a st sl (xs (i + 1).toNatClampNeg) (xs (i + 2).toNatClampNeg) _ hB ) lkL_154 ok_X9_meet ⟨rfl, rfl, Nat.le_of_ble_eq_true rfl, Nat.le_of_ble_eq_true rfl⟩ (pw_V (ci := 9) (q0 := 0) hK hN rfl cw_0 hP1 hDc) rfl hl.1 rfl (Nat.le_of_ble_eq_true rfl) hcs dL_law_1309) (fun r1 s2 H9 locs9 hs2 hPa hPb hD9 hS9 => ?_)
  clear hP1 hP2 hD hS
  have hS := hS9
  have hP1 : va_P D vwCl (CWS k a s2 sl) H9 := hPa
  have hP2 := hPb
  have hD : va_D (fun z : Nat => s.heap.size ≤ z) (CWS k a s2 sl ++ MWS k q mt ml) := hD9
  clear hPa hPb hD9 hS9
  obtain ⟨hBs2, gs2, fs2⟩ := hs2
  refine lv_pop hx hb dL_law_1312 rfl ?_
  refine lv_aload_n hx hb dL_law_1313 rfl (lv_at hl 2 rfl) ?_
  refine lv_aload_n hx hb dL_law_1314 rfl (lv_at hl 0 rfl) ?_
  refine lv_iload_n hx hb dL_law_1315 rfl (lv_at hl 3 rfl) ?_
  refine lv_iconst (v := 1) hx hb dL_law_1316 (by decide) ?_
  refine lv_iadd hx hb dL_law_1317 ?_
  refine va_sld hx hb hX hbl hbA hS (hv 1 (by decide) (by decide)) dL_law_1318 ?_
  refine lv_aload_n hx hb dL_law_1319 rfl (lv_at hl 0 rfl) ?_
  refine lv_iload_n hx hb dL_law_1320 rfl (lv_at hl 3 rfl) ?_
  refine lv_iconst (v := 2) hx hb dL_law_1321 (by decide) ?_
  refine lv_iadd hx hb dL_law_1322 ?_
  refine va_sld hx hb hX hbl hbA hS (hv 2 (by decide) (by decide)) dL_law_1323 ?_
  refine tw_i hP2 hP1 (d_swap hD) hS hA (fun hDc => run_V (mc := 0) (ms := 0) (As := [.int (xs (i + 1).toNatClampNeg), .int (xs (i + 2).toNatClampNeg)]) (rest := []) S (m_X10_meet l D k q mt ml (xs (i + 1).toNatClampNeg) (xs (i + 2).toNatClampNeg) _ hM hWK) lkL_157 ok_X10_meet ⟨rfl, rfl, Nat.le_of_ble_eq_true rfl, Nat.le_of_ble_eq_true rfl⟩ (pw_V (ci := 10) (q0 := 0) hK hN rfl mw_0 hP2 hDc) rfl hl.1 rfl (Nat.le_of_ble_eq_true rfl) hcs dL_law_1324) (fun r3 m4 H9 locs9 hm4 hPa hPb hD9 hS9 => ?_)
  clear hP1 hP2 hD hS
  have hS := hS9
  have hP2 : va_P D vwCl (MWS k q m4 ml) H9 := hPa
  have hP1 := hPb
  have hD : va_D (fun z : Nat => s.heap.size ≤ z) (CWS k a s2 sl ++ MWS k q m4 ml) := d_swap hD9
  clear hPa hPb hD9 hS9
  obtain ⟨hBm4, gm4, fm4⟩ := hm4
  refine lv_pop hx hb dL_law_1327 rfl ?_
  refine lv_goto (tgt := 2212) hx hb dL_law_1328 (by decide) ?_
  exact hend s2 m4 sl ml _ _ ⟨hBs2, (xb_fr hXB gs2 (by decide)), hBm4, (wok_of (gm4 1 (by decide)) hWK), (xm_fr hXM (gm4 2 (by decide)) (gm4 3 (by decide))), (rel_fr hR (gs2 110 (by decide)) (gs2 112 (by decide)) (gs2 113 (by decide)) (gm4 3 (by decide)) (gm4 18 (by decide)) (gm4 19 (by decide)))⟩ hP1 hP2 hD hS
set_option maxHeartbeats 4000000 in
set_option maxRecDepth 100000 in
theorem lc_35 {p : Program} {l : Launch} {e : Env} {s : State} {m : MethodId} {below : List Frame} {meth : Method} {c : Code} {H : Heap} {locs : List Loc} {cells slots : Nat} {Q : State → Prop} {b L : Nat} {xs : Nat → Int32} {D : va_G} {k : Nat → ClassId} {a q : Nat → Nat} {st mt : CT} {sl ml : CL} {i : Int32} {ls : Array Slot} (G : LSX p s m c b L xs D k) (hv : ∀ j : Int32, 0 ≤ j.toInt → j.toInt ≤ 5 → vp_in (i + j) L) (hl : lv_has ls 4 [(0, .ref b), (1, .ref (a 0)), (2, .ref (q 0)), (3, .int i)]) (hcs : cells ≤ 600000 ∧ slots ≤ 7302250) (hI : INV st mt) (hP1 : va_P D vwCl (CWS k a st sl) H) (hP2 : va_P D vwCl (MWS k q mt ml) H) (hD : va_D (fun z : Nat => s.heap.size ≤ z) (CWS k a st sl ++ MWS k q mt ml)) (hS : va_S (fun z : Nat => s.heap.size ≤ z) s.heap H locs) (hend : ∀ (st mt : CT) (sl ml : CL) (H : Heap) (locs : List Loc), INV st mt → va_P D vwCl (CWS k a st sl) H → va_P D vwCl (MWS k q mt ml) H → va_D (fun z : Nat => s.heap.size ≤ z) (CWS k a st sl ++ MWS k q mt ml) → va_S (fun z : Nat => s.heap.size ≤ z) s.heap H locs → W p l e room_1 s m #[Value.ref b] below meth c H locs cells slots Q (F0 m 2212 ls [])) : W p l e room_1 s m #[Value.ref b] below meth c H locs cells slots Q (F0 m 1331 ls []) := by
  obtain ⟨S, hK, hN, hNS, hX, hbl⟩ := G
  obtain ⟨hB, hXB, hM, hWK, hXM, hR⟩ := hI
  have hx := S.1
  have hb := S.2.1
  have hown := S.2.2.2.1
  have hT := S.2.2.2.2
  have hbA : ¬ (fun z : Nat => s.heap.size ≤ z) b := Nat.not_le.mpr hbl
  have hA : ∀ q : Nat, s.heap.size ≤ q → (fun z : Nat => s.heap.size ≤ z) q := fun _ h => h
  refine lv_aload_n hx hb dL_law_1331 rfl (lv_at hl 1 rfl) ?_
  refine lv_aload_n hx hb dL_law_1332 rfl (lv_at hl 0 rfl) ?_
  refine lv_iload_n hx hb dL_law_1333 rfl (lv_at hl 3 rfl) ?_
  refine lv_iconst (v := 1) hx hb dL_law_1334 (by decide) ?_
  refine lv_iadd hx hb dL_law_1335 ?_
  refine va_sld hx hb hX hbl hbA hS (hv 1 (by decide) (by decide)) dL_law_1336 ?_
  refine lv_aload_n hx hb dL_law_1337 rfl (lv_at hl 0 rfl) ?_
  refine lv_iload_n hx hb dL_law_1338 rfl (lv_at hl 3 rfl) ?_
  refine lv_iconst (v := 2) hx hb dL_law_1339 (by decide) ?_
  refine lv_iadd hx hb dL_law_1340 ?_
  refine va_sld hx hb hX hbl hbA hS (hv 2 (by decide) (by decide)) dL_law_1341 ?_
  refine tw_i hP1 hP2 hD hS hA (fun hDc => run_V (mc := 0) (ms := 0) (As := [.int (xs (i + 1).toNatClampNeg), .int (xs (i + 2).toNatClampNeg)]) (rest := []) S (s_X9_met l D k a st sl (xs (i + 1).toNatClampNeg) (xs (i + 2).toNatClampNeg) _ hB ) lkL_158 ok_X9_met ⟨rfl, rfl, Nat.le_of_ble_eq_true rfl, Nat.le_of_ble_eq_true rfl⟩ (pw_V (ci := 9) (q0 := 0) hK hN rfl cw_0 hP1 hDc) rfl hl.1 rfl (Nat.le_of_ble_eq_true rfl) hcs dL_law_1342) (fun r1 s2 H9 locs9 hs2 hPa hPb hD9 hS9 => ?_)
  clear hP1 hP2 hD hS
  have hS := hS9
  have hP1 : va_P D vwCl (CWS k a s2 sl) H9 := hPa
  have hP2 := hPb
  have hD : va_D (fun z : Nat => s.heap.size ≤ z) (CWS k a s2 sl ++ MWS k q mt ml) := hD9
  clear hPa hPb hD9 hS9
  obtain ⟨hBs2, gs2, fs2⟩ := hs2
  refine lv_pop hx hb dL_law_1345 rfl ?_
  refine lv_aload_n hx hb dL_law_1346 rfl (lv_at hl 2 rfl) ?_
  refine lv_aload_n hx hb dL_law_1347 rfl (lv_at hl 0 rfl) ?_
  refine lv_iload_n hx hb dL_law_1348 rfl (lv_at hl 3 rfl) ?_
  refine lv_iconst (v := 1) hx hb dL_law_1349 (by decide) ?_
  refine lv_iadd hx hb dL_law_1350 ?_
  refine va_sld hx hb hX hbl hbA hS (hv 1 (by decide) (by decide)) dL_law_1351 ?_
  refine lv_aload_n hx hb dL_law_1352 rfl (lv_at hl 0 rfl) ?_
  refine lv_iload_n hx hb dL_law_1353 rfl (lv_at hl 3 rfl) ?_
  refine lv_iconst (v := 2) hx hb dL_law_1354 (by decide) ?_
  refine lv_iadd hx hb dL_law_1355 ?_
  refine va_sld hx hb hX hbl hbA hS (hv 2 (by decide) (by decide)) dL_law_1356 ?_
  refine tw_i hP2 hP1 (d_swap hD) hS hA (fun hDc => run_V (mc := 0) (ms := 0) (As := [.int (xs (i + 1).toNatClampNeg), .int (xs (i + 2).toNatClampNeg)]) (rest := []) S (m_X10_met l D k q mt ml (xs (i + 1).toNatClampNeg) (xs (i + 2).toNatClampNeg) _ hM hWK) lkL_161 ok_X10_met ⟨rfl, rfl, Nat.le_of_ble_eq_true rfl, Nat.le_of_ble_eq_true rfl⟩ (pw_V (ci := 10) (q0 := 0) hK hN rfl mw_0 hP2 hDc) rfl hl.1 rfl (Nat.le_of_ble_eq_true rfl) hcs dL_law_1357) (fun r3 m4 H9 locs9 hm4 hPa hPb hD9 hS9 => ?_)
  clear hP1 hP2 hD hS
  have hS := hS9
  have hP2 : va_P D vwCl (MWS k q m4 ml) H9 := hPa
  have hP1 := hPb
  have hD : va_D (fun z : Nat => s.heap.size ≤ z) (CWS k a s2 sl ++ MWS k q m4 ml) := d_swap hD9
  clear hPa hPb hD9 hS9
  obtain ⟨hBm4, gm4, fm4⟩ := hm4
  refine lv_pop hx hb dL_law_1360 rfl ?_
  refine lv_goto (tgt := 2212) hx hb dL_law_1361 (by decide) ?_
  exact hend s2 m4 sl ml _ _ ⟨hBs2, (xb_fr hXB gs2 (by decide)), hBm4, (wok_of (gm4 1 (by decide)) hWK), (xm_fr hXM (gm4 2 (by decide)) (gm4 3 (by decide))), (rel_fr hR (gs2 110 (by decide)) (gs2 112 (by decide)) (gs2 113 (by decide)) (gm4 3 (by decide)) (gm4 18 (by decide)) (gm4 19 (by decide)))⟩ hP1 hP2 hD hS
set_option maxHeartbeats 4000000 in
set_option maxRecDepth 100000 in
theorem lc_36 {p : Program} {l : Launch} {e : Env} {s : State} {m : MethodId} {below : List Frame} {meth : Method} {c : Code} {H : Heap} {locs : List Loc} {cells slots : Nat} {Q : State → Prop} {b L : Nat} {xs : Nat → Int32} {D : va_G} {k : Nat → ClassId} {a q : Nat → Nat} {st mt : CT} {sl ml : CL} {i : Int32} {ls : Array Slot} (G : LSX p s m c b L xs D k) (hv : ∀ j : Int32, 0 ≤ j.toInt → j.toInt ≤ 5 → vp_in (i + j) L) (hl : lv_has ls 4 [(0, .ref b), (1, .ref (a 0)), (2, .ref (q 0)), (3, .int i)]) (hcs : cells ≤ 600000 ∧ slots ≤ 7302250) (hI : INV st mt) (hP1 : va_P D vwCl (CWS k a st sl) H) (hP2 : va_P D vwCl (MWS k q mt ml) H) (hD : va_D (fun z : Nat => s.heap.size ≤ z) (CWS k a st sl ++ MWS k q mt ml)) (hS : va_S (fun z : Nat => s.heap.size ≤ z) s.heap H locs) (hend : ∀ (st mt : CT) (sl ml : CL) (H : Heap) (locs : List Loc), INV st mt → va_P D vwCl (CWS k a st sl) H → va_P D vwCl (MWS k q mt ml) H → va_D (fun z : Nat => s.heap.size ≤ z) (CWS k a st sl ++ MWS k q mt ml) → va_S (fun z : Nat => s.heap.size ≤ z) s.heap H locs → W p l e room_1 s m #[Value.ref b] below meth c H locs cells slots Q (F0 m 2212 ls [])) : W p l e room_1 s m #[Value.ref b] below meth c H locs cells slots Q (F0 m 1364 ls []) := by
  obtain ⟨S, hK, hN, hNS, hX, hbl⟩ := G
  obtain ⟨hB, hXB, hM, hWK, hXM, hR⟩ := hI
  have hx := S.1
  have hb := S.2.1
  have hown := S.2.2.2.1
  have hT := S.2.2.2.2
  have hbA : ¬ (fun z : Nat => s.heap.size ≤ z) b := Nat.not_le.mpr hbl
  have hA : ∀ q : Nat, s.heap.size ≤ q → (fun z : Nat => s.heap.size ≤ z) q := fun _ h => h
  refine lv_aload_n hx hb dL_law_1364 rfl (lv_at hl 1 rfl) ?_
  refine lv_aload_n hx hb dL_law_1365 rfl (lv_at hl 0 rfl) ?_
  refine lv_iload_n hx hb dL_law_1366 rfl (lv_at hl 3 rfl) ?_
  refine lv_iconst (v := 1) hx hb dL_law_1367 (by decide) ?_
  refine lv_iadd hx hb dL_law_1368 ?_
  refine va_sld hx hb hX hbl hbA hS (hv 1 (by decide) (by decide)) dL_law_1369 ?_
  refine ro_V (As := [.int (xs (i + 1).toNatClampNeg)]) (rest := []) S (s_X9_fits l D k a st sl (xs (i + 1).toNatClampNeg) _ hB ) lkL_162 ok_X9_fits ⟨rfl, rfl, Nat.le_of_ble_eq_true rfl, Nat.le_of_ble_eq_true rfl⟩ (pw_V (ci := 9) (q0 := 0) hK hN rfl cw_0 hP1 ((d_left hD).weaken (fun _ _ _ _ => trivial))) rfl hl.1 rfl (Nat.le_of_ble_eq_true rfl) hcs dL_law_1370 (fun r1 er1 => ?_)
  refine lv_pop hx hb dL_law_1373 rfl ?_
  refine lv_aload_n hx hb dL_law_1374 rfl (lv_at hl 2 rfl) ?_
  refine lv_aload_n hx hb dL_law_1375 rfl (lv_at hl 0 rfl) ?_
  refine lv_iload_n hx hb dL_law_1376 rfl (lv_at hl 3 rfl) ?_
  refine lv_iconst (v := 1) hx hb dL_law_1377 (by decide) ?_
  refine lv_iadd hx hb dL_law_1378 ?_
  refine va_sld hx hb hX hbl hbA hS (hv 1 (by decide) (by decide)) dL_law_1379 ?_
  refine tw_i hP2 hP1 (d_swap hD) hS hA (fun hDc => run_V (mc := 0) (ms := 0) (As := [.int (xs (i + 1).toNatClampNeg)]) (rest := []) S (m_X10_fits l D k q mt ml (xs (i + 1).toNatClampNeg) _ hM hWK) lkL_165 ok_X10_fits ⟨rfl, rfl, Nat.le_of_ble_eq_true rfl, Nat.le_of_ble_eq_true rfl⟩ (pw_V (ci := 10) (q0 := 0) hK hN rfl mw_0 hP2 hDc) rfl hl.1 rfl (Nat.le_of_ble_eq_true rfl) hcs dL_law_1380) (fun r2 m3 H9 locs9 hm3 hPa hPb hD9 hS9 => ?_)
  clear hP1 hP2 hD hS
  have hS := hS9
  have hP2 : va_P D vwCl (MWS k q m3 ml) H9 := hPa
  have hP1 := hPb
  have hD : va_D (fun z : Nat => s.heap.size ≤ z) (CWS k a st sl ++ MWS k q m3 ml) := d_swap hD9
  clear hPa hPb hD9 hS9
  obtain ⟨hBm3, gm3, fm3⟩ := hm3
  refine lv_pop hx hb dL_law_1383 rfl ?_
  refine lv_goto (tgt := 2212) hx hb dL_law_1384 (by decide) ?_
  exact hend st m3 sl ml _ _ ⟨hB, hXB, hBm3, (wok_of (gm3 1 (by decide)) hWK), (xm_fr hXM (gm3 2 (by decide)) (gm3 3 (by decide))), (rel_fr hR rfl rfl rfl (gm3 3 (by decide)) (gm3 18 (by decide)) (gm3 19 (by decide)))⟩ hP1 hP2 hD hS
set_option maxHeartbeats 4000000 in
set_option maxRecDepth 100000 in
theorem lc_37 {p : Program} {l : Launch} {e : Env} {s : State} {m : MethodId} {below : List Frame} {meth : Method} {c : Code} {H : Heap} {locs : List Loc} {cells slots : Nat} {Q : State → Prop} {b L : Nat} {xs : Nat → Int32} {D : va_G} {k : Nat → ClassId} {a q : Nat → Nat} {st mt : CT} {sl ml : CL} {i : Int32} {ls : Array Slot} (G : LSX p s m c b L xs D k) (hv : ∀ j : Int32, 0 ≤ j.toInt → j.toInt ≤ 5 → vp_in (i + j) L) (hl : lv_has ls 4 [(0, .ref b), (1, .ref (a 0)), (2, .ref (q 0)), (3, .int i)]) (hcs : cells ≤ 600000 ∧ slots ≤ 7302250) (hI : INV st mt) (hP1 : va_P D vwCl (CWS k a st sl) H) (hP2 : va_P D vwCl (MWS k q mt ml) H) (hD : va_D (fun z : Nat => s.heap.size ≤ z) (CWS k a st sl ++ MWS k q mt ml)) (hS : va_S (fun z : Nat => s.heap.size ≤ z) s.heap H locs) (hend : ∀ (st mt : CT) (sl ml : CL) (H : Heap) (locs : List Loc), INV st mt → va_P D vwCl (CWS k a st sl) H → va_P D vwCl (MWS k q mt ml) H → va_D (fun z : Nat => s.heap.size ≤ z) (CWS k a st sl ++ MWS k q mt ml) → va_S (fun z : Nat => s.heap.size ≤ z) s.heap H locs → W p l e room_1 s m #[Value.ref b] below meth c H locs cells slots Q (F0 m 2212 ls [])) : W p l e room_1 s m #[Value.ref b] below meth c H locs cells slots Q (F0 m 1387 ls []) := by
  obtain ⟨S, hK, hN, hNS, hX, hbl⟩ := G
  obtain ⟨hB, hXB, hM, hWK, hXM, hR⟩ := hI
  have hx := S.1
  have hb := S.2.1
  have hown := S.2.2.2.1
  have hT := S.2.2.2.2
  have hbA : ¬ (fun z : Nat => s.heap.size ≤ z) b := Nat.not_le.mpr hbl
  have hA : ∀ q : Nat, s.heap.size ≤ q → (fun z : Nat => s.heap.size ≤ z) q := fun _ h => h
  refine lv_aload_n hx hb dL_law_1387 rfl (lv_at hl 1 rfl) ?_
  refine lv_aload_n hx hb dL_law_1388 rfl (lv_at hl 0 rfl) ?_
  refine lv_iload_n hx hb dL_law_1389 rfl (lv_at hl 3 rfl) ?_
  refine lv_iconst (v := 1) hx hb dL_law_1390 (by decide) ?_
  refine lv_iadd hx hb dL_law_1391 ?_
  refine va_sld hx hb hX hbl hbA hS (hv 1 (by decide) (by decide)) dL_law_1392 ?_
  refine tw_i hP1 hP2 hD hS hA (fun hDc => run_V (mc := 0) (ms := 0) (As := [.int (xs (i + 1).toNatClampNeg)]) (rest := []) S (s_X9_ask l D k a st sl (xs (i + 1).toNatClampNeg) _ hB ) lkL_166 ok_X9_ask ⟨rfl, rfl, Nat.le_of_ble_eq_true rfl, Nat.le_of_ble_eq_true rfl⟩ (pw_V (ci := 9) (q0 := 0) hK hN rfl cw_0 hP1 hDc) rfl hl.1 rfl (Nat.le_of_ble_eq_true rfl) hcs dL_law_1393) (fun r1 s2 H9 locs9 hs2 hPa hPb hD9 hS9 => ?_)
  clear hP1 hP2 hD hS
  have hS := hS9
  have hP1 : va_P D vwCl (CWS k a s2 sl) H9 := hPa
  have hP2 := hPb
  have hD : va_D (fun z : Nat => s.heap.size ≤ z) (CWS k a s2 sl ++ MWS k q mt ml) := hD9
  clear hPa hPb hD9 hS9
  obtain ⟨hBs2, gs2, fs2⟩ := hs2
  refine lv_pop hx hb dL_law_1396 rfl ?_
  refine lv_aload_n hx hb dL_law_1397 rfl (lv_at hl 2 rfl) ?_
  refine lv_aload_n hx hb dL_law_1398 rfl (lv_at hl 0 rfl) ?_
  refine lv_iload_n hx hb dL_law_1399 rfl (lv_at hl 3 rfl) ?_
  refine lv_iconst (v := 1) hx hb dL_law_1400 (by decide) ?_
  refine lv_iadd hx hb dL_law_1401 ?_
  refine va_sld hx hb hX hbl hbA hS (hv 1 (by decide) (by decide)) dL_law_1402 ?_
  refine tw_i hP2 hP1 (d_swap hD) hS hA (fun hDc => run_V (mc := 0) (ms := 0) (As := [.int (xs (i + 1).toNatClampNeg)]) (rest := []) S (m_X10_ask l D k q mt ml (xs (i + 1).toNatClampNeg) _ hM hWK) lkL_169 ok_X10_ask ⟨rfl, rfl, Nat.le_of_ble_eq_true rfl, Nat.le_of_ble_eq_true rfl⟩ (pw_V (ci := 10) (q0 := 0) hK hN rfl mw_0 hP2 hDc) rfl hl.1 rfl (Nat.le_of_ble_eq_true rfl) hcs dL_law_1403) (fun r3 m4 H9 locs9 hm4 hPa hPb hD9 hS9 => ?_)
  clear hP1 hP2 hD hS
  have hS := hS9
  have hP2 : va_P D vwCl (MWS k q m4 ml) H9 := hPa
  have hP1 := hPb
  have hD : va_D (fun z : Nat => s.heap.size ≤ z) (CWS k a s2 sl ++ MWS k q m4 ml) := d_swap hD9
  clear hPa hPb hD9 hS9
  obtain ⟨hBm4, gm4, qm4_0, qm4_1, qm4_2, qm4_3, qm4_4, qm4_5, qm4_6, qm4_7, qm4_8, qm4_9, qm4_10, qm4_11, qm4_12, qm4_13, qm4_14, qm4_15, fm4⟩ := hm4
  refine lv_pop hx hb dL_law_1406 rfl ?_
  refine lv_goto (tgt := 2212) hx hb dL_law_1407 (by decide) ?_
  exact hend s2 m4 sl ml _ _ ⟨hBs2, (xb_fr hXB gs2 (by decide)), hBm4, (wok_of (gm4 1 (by decide)) hWK), (xm_fr hXM (gm4 2 (by decide)) (gm4 3 (by decide))), (rel_fr hR (gs2 110 (by decide)) (gs2 112 (by decide)) (gs2 113 (by decide)) (gm4 3 (by decide)) (gm4 18 (by decide)) (gm4 19 (by decide)))⟩ hP1 hP2 hD hS
set_option maxHeartbeats 4000000 in
set_option maxRecDepth 100000 in
theorem lc_38 {p : Program} {l : Launch} {e : Env} {s : State} {m : MethodId} {below : List Frame} {meth : Method} {c : Code} {H : Heap} {locs : List Loc} {cells slots : Nat} {Q : State → Prop} {b L : Nat} {xs : Nat → Int32} {D : va_G} {k : Nat → ClassId} {a q : Nat → Nat} {st mt : CT} {sl ml : CL} {i : Int32} {ls : Array Slot} (G : LSX p s m c b L xs D k) (hv : ∀ j : Int32, 0 ≤ j.toInt → j.toInt ≤ 5 → vp_in (i + j) L) (hl : lv_has ls 4 [(0, .ref b), (1, .ref (a 0)), (2, .ref (q 0)), (3, .int i)]) (hcs : cells ≤ 600000 ∧ slots ≤ 7302250) (hI : INV st mt) (hP1 : va_P D vwCl (CWS k a st sl) H) (hP2 : va_P D vwCl (MWS k q mt ml) H) (hD : va_D (fun z : Nat => s.heap.size ≤ z) (CWS k a st sl ++ MWS k q mt ml)) (hS : va_S (fun z : Nat => s.heap.size ≤ z) s.heap H locs) (hend : ∀ (st mt : CT) (sl ml : CL) (H : Heap) (locs : List Loc), INV st mt → va_P D vwCl (CWS k a st sl) H → va_P D vwCl (MWS k q mt ml) H → va_D (fun z : Nat => s.heap.size ≤ z) (CWS k a st sl ++ MWS k q mt ml) → va_S (fun z : Nat => s.heap.size ≤ z) s.heap H locs → W p l e room_1 s m #[Value.ref b] below meth c H locs cells slots Q (F0 m 2212 ls [])) : W p l e room_1 s m #[Value.ref b] below meth c H locs cells slots Q (F0 m 1410 ls []) := by
  obtain ⟨S, hK, hN, hNS, hX, hbl⟩ := G
  obtain ⟨hB, hXB, hM, hWK, hXM, hR⟩ := hI
  have hx := S.1
  have hb := S.2.1
  have hown := S.2.2.2.1
  have hT := S.2.2.2.2
  have hbA : ¬ (fun z : Nat => s.heap.size ≤ z) b := Nat.not_le.mpr hbl
  have hA : ∀ q : Nat, s.heap.size ≤ q → (fun z : Nat => s.heap.size ≤ z) q := fun _ h => h
  refine lv_aload_n hx hb dL_law_1410 rfl (lv_at hl 1 rfl) ?_
  refine lv_aload_n hx hb dL_law_1411 rfl (lv_at hl 0 rfl) ?_
  refine lv_iload_n hx hb dL_law_1412 rfl (lv_at hl 3 rfl) ?_
  refine lv_iconst (v := 1) hx hb dL_law_1413 (by decide) ?_
  refine lv_iadd hx hb dL_law_1414 ?_
  refine va_sld hx hb hX hbl hbA hS (hv 1 (by decide) (by decide)) dL_law_1415 ?_
  refine tw_i hP1 hP2 hD hS hA (fun hDc => run_V (mc := 0) (ms := 0) (As := [.int (xs (i + 1).toNatClampNeg)]) (rest := []) S (s_X9_leaves l D k a st sl (xs (i + 1).toNatClampNeg) _ hB ) lkL_170 ok_X9_leaves ⟨rfl, rfl, Nat.le_of_ble_eq_true rfl, Nat.le_of_ble_eq_true rfl⟩ (pw_V (ci := 9) (q0 := 0) hK hN rfl cw_0 hP1 hDc) rfl hl.1 rfl (Nat.le_of_ble_eq_true rfl) hcs dL_law_1416) (fun r1 s2 H9 locs9 hs2 hPa hPb hD9 hS9 => ?_)
  clear hP1 hP2 hD hS
  have hS := hS9
  have hP1 : va_P D vwCl (CWS k a s2 sl) H9 := hPa
  have hP2 := hPb
  have hD : va_D (fun z : Nat => s.heap.size ≤ z) (CWS k a s2 sl ++ MWS k q mt ml) := hD9
  clear hPa hPb hD9 hS9
  obtain ⟨hBs2, gs2, fs2⟩ := hs2
  refine lv_pop hx hb dL_law_1419 rfl ?_
  refine lv_aload_n hx hb dL_law_1420 rfl (lv_at hl 2 rfl) ?_
  refine lv_aload_n hx hb dL_law_1421 rfl (lv_at hl 0 rfl) ?_
  refine lv_iload_n hx hb dL_law_1422 rfl (lv_at hl 3 rfl) ?_
  refine lv_iconst (v := 1) hx hb dL_law_1423 (by decide) ?_
  refine lv_iadd hx hb dL_law_1424 ?_
  refine va_sld hx hb hX hbl hbA hS (hv 1 (by decide) (by decide)) dL_law_1425 ?_
  refine tw_i hP2 hP1 (d_swap hD) hS hA (fun hDc => run_V (mc := 0) (ms := 0) (As := [.int (xs (i + 1).toNatClampNeg)]) (rest := []) S (m_X10_leaves l D k q mt ml (xs (i + 1).toNatClampNeg) _ hM hWK) lkL_173 ok_X10_leaves ⟨rfl, rfl, Nat.le_of_ble_eq_true rfl, Nat.le_of_ble_eq_true rfl⟩ (pw_V (ci := 10) (q0 := 0) hK hN rfl mw_0 hP2 hDc) rfl hl.1 rfl (Nat.le_of_ble_eq_true rfl) hcs dL_law_1426) (fun r3 m4 H9 locs9 hm4 hPa hPb hD9 hS9 => ?_)
  clear hP1 hP2 hD hS
  have hS := hS9
  have hP2 : va_P D vwCl (MWS k q m4 ml) H9 := hPa
  have hP1 := hPb
  have hD : va_D (fun z : Nat => s.heap.size ≤ z) (CWS k a s2 sl ++ MWS k q m4 ml) := d_swap hD9
  clear hPa hPb hD9 hS9
  obtain ⟨hBm4, gm4, qm4_0, qm4_1, qm4_2, qm4_3, qm4_4, qm4_5, qm4_6, qm4_7, qm4_8, qm4_9, qm4_10, qm4_11, qm4_12, qm4_13, qm4_14, qm4_15, fm4⟩ := hm4
  refine lv_pop hx hb dL_law_1429 rfl ?_
  refine lv_goto (tgt := 2212) hx hb dL_law_1430 (by decide) ?_
  exact hend s2 m4 sl ml _ _ ⟨hBs2, (xb_fr hXB gs2 (by decide)), hBm4, (wok_of (gm4 1 (by decide)) hWK), (xm_fr hXM (gm4 2 (by decide)) (gm4 3 (by decide))), (rel_fr hR (gs2 110 (by decide)) (gs2 112 (by decide)) (gs2 113 (by decide)) (gm4 3 (by decide)) (gm4 18 (by decide)) (gm4 19 (by decide)))⟩ hP1 hP2 hD hS
set_option maxHeartbeats 4000000 in
set_option maxRecDepth 100000 in
theorem lc_39 {p : Program} {l : Launch} {e : Env} {s : State} {m : MethodId} {below : List Frame} {meth : Method} {c : Code} {H : Heap} {locs : List Loc} {cells slots : Nat} {Q : State → Prop} {b L : Nat} {xs : Nat → Int32} {D : va_G} {k : Nat → ClassId} {a q : Nat → Nat} {st mt : CT} {sl ml : CL} {i : Int32} {ls : Array Slot} (G : LSX p s m c b L xs D k) (hv : ∀ j : Int32, 0 ≤ j.toInt → j.toInt ≤ 5 → vp_in (i + j) L) (hl : lv_has ls 4 [(0, .ref b), (1, .ref (a 0)), (2, .ref (q 0)), (3, .int i)]) (hcs : cells ≤ 600000 ∧ slots ≤ 7302250) (hI : INV st mt) (hP1 : va_P D vwCl (CWS k a st sl) H) (hP2 : va_P D vwCl (MWS k q mt ml) H) (hD : va_D (fun z : Nat => s.heap.size ≤ z) (CWS k a st sl ++ MWS k q mt ml)) (hS : va_S (fun z : Nat => s.heap.size ≤ z) s.heap H locs) (hend : ∀ (st mt : CT) (sl ml : CL) (H : Heap) (locs : List Loc), INV st mt → va_P D vwCl (CWS k a st sl) H → va_P D vwCl (MWS k q mt ml) H → va_D (fun z : Nat => s.heap.size ≤ z) (CWS k a st sl ++ MWS k q mt ml) → va_S (fun z : Nat => s.heap.size ≤ z) s.heap H locs → W p l e room_1 s m #[Value.ref b] below meth c H locs cells slots Q (F0 m 2212 ls [])) : W p l e room_1 s m #[Value.ref b] below meth c H locs cells slots Q (F0 m 1433 ls []) := by
  obtain ⟨S, hK, hN, hNS, hX, hbl⟩ := G
  obtain ⟨hB, hXB, hM, hWK, hXM, hR⟩ := hI
  have hx := S.1
  have hb := S.2.1
  have hown := S.2.2.2.1
  have hT := S.2.2.2.2
  have hbA : ¬ (fun z : Nat => s.heap.size ≤ z) b := Nat.not_le.mpr hbl
  have hA : ∀ q : Nat, s.heap.size ≤ q → (fun z : Nat => s.heap.size ≤ z) q := fun _ h => h
  refine lv_aload_n hx hb dL_law_1433 rfl (lv_at hl 1 rfl) ?_
  refine lv_aload_n hx hb dL_law_1434 rfl (lv_at hl 0 rfl) ?_
  refine lv_iload_n hx hb dL_law_1435 rfl (lv_at hl 3 rfl) ?_
  refine lv_iconst (v := 1) hx hb dL_law_1436 (by decide) ?_
  refine lv_iadd hx hb dL_law_1437 ?_
  refine va_sld hx hb hX hbl hbA hS (hv 1 (by decide) (by decide)) dL_law_1438 ?_
  refine lv_aload_n hx hb dL_law_1439 rfl (lv_at hl 0 rfl) ?_
  refine lv_iload_n hx hb dL_law_1440 rfl (lv_at hl 3 rfl) ?_
  refine lv_iconst (v := 2) hx hb dL_law_1441 (by decide) ?_
  refine lv_iadd hx hb dL_law_1442 ?_
  refine va_sld hx hb hX hbl hbA hS (hv 2 (by decide) (by decide)) dL_law_1443 ?_
  refine ro_V (As := [.int (xs (i + 1).toNatClampNeg), .int (xs (i + 2).toNatClampNeg)]) (rest := []) S (s_X9_votes l D k a st sl (xs (i + 1).toNatClampNeg) (xs (i + 2).toNatClampNeg) _ hB ) lkL_174 ok_X9_votes ⟨rfl, rfl, Nat.le_of_ble_eq_true rfl, Nat.le_of_ble_eq_true rfl⟩ (pw_V (ci := 9) (q0 := 0) hK hN rfl cw_0 hP1 ((d_left hD).weaken (fun _ _ _ _ => trivial))) rfl hl.1 rfl (Nat.le_of_ble_eq_true rfl) hcs dL_law_1444 (fun r1 er1 => ?_)
  refine lv_pop hx hb dL_law_1447 rfl ?_
  refine lv_aload_n hx hb dL_law_1448 rfl (lv_at hl 2 rfl) ?_
  refine lv_aload_n hx hb dL_law_1449 rfl (lv_at hl 0 rfl) ?_
  refine lv_iload_n hx hb dL_law_1450 rfl (lv_at hl 3 rfl) ?_
  refine lv_iconst (v := 1) hx hb dL_law_1451 (by decide) ?_
  refine lv_iadd hx hb dL_law_1452 ?_
  refine va_sld hx hb hX hbl hbA hS (hv 1 (by decide) (by decide)) dL_law_1453 ?_
  refine lv_aload_n hx hb dL_law_1454 rfl (lv_at hl 0 rfl) ?_
  refine lv_iload_n hx hb dL_law_1455 rfl (lv_at hl 3 rfl) ?_
  refine lv_iconst (v := 2) hx hb dL_law_1456 (by decide) ?_
  refine lv_iadd hx hb dL_law_1457 ?_
  refine va_sld hx hb hX hbl hbA hS (hv 2 (by decide) (by decide)) dL_law_1458 ?_
  refine tw_i hP2 hP1 (d_swap hD) hS hA (fun hDc => run_V (mc := 0) (ms := 0) (As := [.int (xs (i + 1).toNatClampNeg), .int (xs (i + 2).toNatClampNeg)]) (rest := []) S (m_X10_votes l D k q mt ml (xs (i + 1).toNatClampNeg) (xs (i + 2).toNatClampNeg) _ hM hWK) lkL_177 ok_X10_votes ⟨rfl, rfl, Nat.le_of_ble_eq_true rfl, Nat.le_of_ble_eq_true rfl⟩ (pw_V (ci := 10) (q0 := 0) hK hN rfl mw_0 hP2 hDc) rfl hl.1 rfl (Nat.le_of_ble_eq_true rfl) hcs dL_law_1459) (fun r2 m3 H9 locs9 hm3 hPa hPb hD9 hS9 => ?_)
  clear hP1 hP2 hD hS
  have hS := hS9
  have hP2 : va_P D vwCl (MWS k q m3 ml) H9 := hPa
  have hP1 := hPb
  have hD : va_D (fun z : Nat => s.heap.size ≤ z) (CWS k a st sl ++ MWS k q m3 ml) := d_swap hD9
  clear hPa hPb hD9 hS9
  obtain ⟨hBm3, gm3, fm3⟩ := hm3
  refine lv_pop hx hb dL_law_1462 rfl ?_
  refine lv_goto (tgt := 2212) hx hb dL_law_1463 (by decide) ?_
  exact hend st m3 sl ml _ _ ⟨hB, hXB, hBm3, (wok_of (gm3 1 (by decide)) hWK), (xm_fr hXM (gm3 2 (by decide)) (gm3 3 (by decide))), (rel_fr hR rfl rfl rfl (gm3 3 (by decide)) (gm3 18 (by decide)) (gm3 19 (by decide)))⟩ hP1 hP2 hD hS
