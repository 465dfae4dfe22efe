set_option maxHeartbeats 4000000 in
set_option maxRecDepth 100000 in
theorem law_sw {p : Program} {l : Launch} {e : Env} {s : State} {m : MethodId} {below : List Frame} {meth : Method} {c : Code} {H : Heap} {locs : List Loc} {cells slots : Nat} {Q : State → Prop} {b L : Nat} {xs : Nat → Int32} {D : va_G} {k : Nat → ClassId} {a q : Nat → Nat} {st mt : CT} {sl ml : CL} {i : Int32} {ls : Array Slot} (x0 : Int32) (G : LSX p s m c b L xs D k) (hv : ∀ j : Int32, 0 ≤ j.toInt → j.toInt ≤ 5 → vp_in (i + j) L) (hl : lv_has ls 4 [(0, .ref b), (1, .ref (a 0)), (2, .ref (q 0)), (3, .int i)]) (hcs : cells ≤ 600000 ∧ slots ≤ 7302250) (hI : INV st mt) (hP1 : va_P D vwCl (CWS k a st sl) H) (hP2 : va_P D vwCl (MWS k q mt ml) H) (hD : va_D (fun z : Nat => s.heap.size ≤ z) (CWS k a st sl ++ MWS k q mt ml)) (hS : va_S (fun z : Nat => s.heap.size ≤ z) s.heap H locs) (hend : ∀ (st mt : CT) (sl ml : CL) (H : Heap) (locs : List Loc), INV st mt → va_P D vwCl (CWS k a st sl) H → va_P D vwCl (MWS k q mt ml) H → va_D (fun z : Nat => s.heap.size ≤ z) (CWS k a st sl ++ MWS k q mt ml) → va_S (fun z : Nat => s.heap.size ≤ z) s.heap H locs → W p l e room_1 s m #[Value.ref b] below meth c H locs cells slots Q (F0 m 2212 ls [])) : W p l e room_1 s m #[Value.ref b] below meth c H locs cells slots Q (F0 m 33 ls [.int (x0 &&& 63)]) := by
  have hx := G.1.1
  have hb := G.1.2.1
  obtain ⟨j, hj, e9⟩ := pk_andE x0 (m := 63) 6 (by decide)
  replace hj : j < 64 := hj
  rw [e9]
  rcases (show (0 ≤ j ∧ j < 8) ∨ (8 ≤ j ∧ j < 16) ∨ (16 ≤ j ∧ j < 24) ∨ (24 ≤ j ∧ j < 32) ∨ (32 ≤ j ∧ j < 40) ∨ (40 ≤ j ∧ j < 48) ∨ (48 ≤ j ∧ j < 56) ∨ (56 ≤ j ∧ j < 64) by omega) with h | h | h | h | h | h | h | h
  · rcases (show j = 0 ∨ j = 1 ∨ j = 2 ∨ j = 3 ∨ j = 4 ∨ j = 5 ∨ j = 6 ∨ j = 7 by omega) with rfl | rfl | rfl | rfl | rfl | rfl | rfl | rfl
    · exact lv_tableIn (tgt := 296) (off := 263) hx hb dL_law_33 (by decide +kernel) (by decide +kernel) (by decide +kernel) (by decide) (lc_0 G hv hl hcs hI hP1 hP2 hD hS hend)
    · exact lv_tableIn (tgt := 359) (off := 326) hx hb dL_law_33 (by decide +kernel) (by decide +kernel) (by decide +kernel) (by decide) (lc_1 G hv hl hcs hI hP1 hP2 hD hS hend)
    · exact lv_tableIn (tgt := 382) (off := 349) hx hb dL_law_33 (by decide +kernel) (by decide +kernel) (by decide +kernel) (by decide) (lc_2 G hv hl hcs hI hP1 hP2 hD hS hend)
    · exact lv_tableIn (tgt := 395) (off := 362) hx hb dL_law_33 (by decide +kernel) (by decide +kernel) (by decide +kernel) (by decide) (lc_3 G hv hl hcs hI hP1 hP2 hD hS hend)
    · exact lv_tableIn (tgt := 418) (off := 385) hx hb dL_law_33 (by decide +kernel) (by decide +kernel) (by decide +kernel) (by decide) (lc_4 G hv hl hcs hI hP1 hP2 hD hS hend)
    · exact lv_tableIn (tgt := 451) (off := 418) hx hb dL_law_33 (by decide +kernel) (by decide +kernel) (by decide +kernel) (by decide) (lc_5 G hv hl hcs hI hP1 hP2 hD hS hend)
    · exact lv_tableIn (tgt := 484) (off := 451) hx hb dL_law_33 (by decide +kernel) (by decide +kernel) (by decide +kernel) (by decide) (lc_6 G hv hl hcs hI hP1 hP2 hD hS hend)
    · exact lv_tableIn (tgt := 517) (off := 484) hx hb dL_law_33 (by decide +kernel) (by decide +kernel) (by decide +kernel) (by decide) (lc_7 G hv hl hcs hI hP1 hP2 hD hS hend)
  · rcases (show j = 8 ∨ j = 9 ∨ j = 10 ∨ j = 11 ∨ j = 12 ∨ j = 13 ∨ j = 14 ∨ j = 15 by omega) with rfl | rfl | rfl | rfl | rfl | rfl | rfl | rfl
    · exact lv_tableIn (tgt := 550) (off := 517) hx hb dL_law_33 (by decide +kernel) (by decide +kernel) (by decide +kernel) (by decide) (lc_8 G hv hl hcs hI hP1 hP2 hD hS hend)
    · exact lv_tableIn (tgt := 583) (off := 550) hx hb dL_law_33 (by decide +kernel) (by decide +kernel) (by decide +kernel) (by decide) (lc_9 G hv hl hcs hI hP1 hP2 hD hS hend)
    · exact lv_tableIn (tgt := 606) (off := 573) hx hb dL_law_33 (by decide +kernel) (by decide +kernel) (by decide +kernel) (by decide) (lc_10 G hv hl hcs hI hP1 hP2 hD hS hend)
    · exact lv_tableIn (tgt := 639) (off := 606) hx hb dL_law_33 (by decide +kernel) (by decide +kernel) (by decide +kernel) (by decide) (lc_11 G hv hl hcs hI hP1 hP2 hD hS hend)
    · exact lv_tableIn (tgt := 672) (off := 639) hx hb dL_law_33 (by decide +kernel) (by decide +kernel) (by decide +kernel) (by decide) (lc_12 G hv hl hcs hI hP1 hP2 hD hS hend)
    · exact lv_tableIn (tgt := 695) (off := 662) hx hb dL_law_33 (by decide +kernel) (by decide +kernel) (by decide +kernel) (by decide) (lc_13 G hv hl hcs hI hP1 hP2 hD hS hend)
    · exact lv_tableIn (tgt := 728) (off := 695) hx hb dL_law_33 (by decide +kernel) (by decide +kernel) (by decide +kernel) (by decide) (lc_14 G hv hl hcs hI hP1 hP2 hD hS hend)
    · exact lv_tableIn (tgt := 761) (off := 728) hx hb dL_law_33 (by decide +kernel) (by decide +kernel) (by decide +kernel) (by decide) (lc_15 G hv hl hcs hI hP1 hP2 hD hS hend)
  · rcases (show j = 16 ∨ j = 17 ∨ j = 18 ∨ j = 19 ∨ j = 20 ∨ j = 21 ∨ j = 22 ∨ j = 23 by omega) with rfl | rfl | rfl | rfl | rfl | rfl | rfl | rfl
    · exact lv_tableIn (tgt := 794) (off := 761) hx hb dL_law_33 (by decide +kernel) (by decide +kernel) (by decide +kernel) (by decide) (lc_16 G hv hl hcs hI hP1 hP2 hD hS hend)
    · exact lv_tableIn (tgt := 817) (off := 784) hx hb dL_law_33 (by decide +kernel) (by decide +kernel) (by decide +kernel) (by decide) (lc_17 G hv hl hcs hI hP1 hP2 hD hS hend)
    · exact lv_tableIn (tgt := 830) (off := 797) hx hb dL_law_33 (by decide +kernel) (by decide +kernel) (by decide +kernel) (by decide) (lc_18 G hv hl hcs hI hP1 hP2 hD hS hend)
    · exact lv_tableIn (tgt := 843) (off := 810) hx hb dL_law_33 (by decide +kernel) (by decide +kernel) (by decide +kernel) (by decide) (lc_19 G hv hl hcs hI hP1 hP2 hD hS hend)
    · exact lv_tableIn (tgt := 876) (off := 843) hx hb dL_law_33 (by decide +kernel) (by decide +kernel) (by decide +kernel) (by decide) (lc_20 G hv hl hcs hI hP1 hP2 hD hS hend)
    · exact lv_tableIn (tgt := 909) (off := 876) hx hb dL_law_33 (by decide +kernel) (by decide +kernel) (by decide +kernel) (by decide) (lc_21 G hv hl hcs hI hP1 hP2 hD hS hend)
    · exact lv_tableIn (tgt := 942) (off := 909) hx hb dL_law_33 (by decide +kernel) (by decide +kernel) (by decide +kernel) (by decide) (lc_22 G hv hl hcs hI hP1 hP2 hD hS hend)
    · exact lv_tableIn (tgt := 975) (off := 942) hx hb dL_law_33 (by decide +kernel) (by decide +kernel) (by decide +kernel) (by decide) (lc_23 G hv hl hcs hI hP1 hP2 hD hS hend)
  · rcases (show j = 24 ∨ j = 25 ∨ j = 26 ∨ j = 27 ∨ j = 28 ∨ j = 29 ∨ j = 30 ∨ j = 31 by omega) with rfl | rfl | rfl | rfl | rfl | rfl | rfl | rfl
    · exact lv_tableIn (tgt := 1008) (off := 975) hx hb dL_law_33 (by decide +kernel) (by decide +kernel) (by decide +kernel) (by decide) (lc_24 G hv hl hcs hI hP1 hP2 hD hS hend)
    · exact lv_tableIn (tgt := 1041) (off := 1008) hx hb dL_law_33 (by decide +kernel) (by decide +kernel) (by decide +kernel) (by decide) (lc_25 G hv hl hcs hI hP1 hP2 hD hS hend)
    · exact lv_tableIn (tgt := 1084) (off := 1051) hx hb dL_law_33 (by decide +kernel) (by decide +kernel) (by decide +kernel) (by decide) (lc_26 G hv hl hcs hI hP1 hP2 hD hS hend)
    · exact lv_tableIn (tgt := 1107) (off := 1074) hx hb dL_law_33 (by decide +kernel) (by decide +kernel) (by decide +kernel) (by decide) (lc_27 G hv hl hcs hI hP1 hP2 hD hS hend)
    · exact lv_tableIn (tgt := 1140) (off := 1107) hx hb dL_law_33 (by decide +kernel) (by decide +kernel) (by decide +kernel) (by decide) (lc_28 G hv hl hcs hI hP1 hP2 hD hS hend)
    · exact lv_tableIn (tgt := 1153) (off := 1120) hx hb dL_law_33 (by decide +kernel) (by decide +kernel) (by decide +kernel) (by decide) (lc_29 G hv hl hcs hI hP1 hP2 hD hS hend)
    · exact lv_tableIn (tgt := 1186) (off := 1153) hx hb dL_law_33 (by decide +kernel) (by decide +kernel) (by decide +kernel) (by decide) (lc_30 G hv hl hcs hI hP1 hP2 hD hS hend)
    · exact lv_tableIn (tgt := 1219) (off := 1186) hx hb dL_law_33 (by decide +kernel) (by decide +kernel) (by decide +kernel) (by decide) (lc_31 G hv hl hcs hI hP1 hP2 hD hS hend)
  · rcases (show j = 32 ∨ j = 33 ∨ j = 34 ∨ j = 35 ∨ j = 36 ∨ j = 37 ∨ j = 38 ∨ j = 39 by omega) with rfl | rfl | rfl | rfl | rfl | rfl | rfl | rfl
    · exact lv_tableIn (tgt := 1252) (off := 1219) hx hb dL_law_33 (by decide +kernel) (by decide +kernel) (by decide +kernel) (by decide) (lc_32 G hv hl hcs hI hP1 hP2 hD hS hend)
    · exact lv_tableIn (tgt := 1275) (off := 1242) hx hb dL_law_33 (by decide +kernel) (by decide +kernel) (by decide +kernel) (by decide) (lc_33 G hv hl hcs hI hP1 hP2 hD hS hend)
    · exact lv_tableIn (tgt := 1298) (off := 1265) hx hb dL_law_33 (by decide +kernel) (by decide +kernel) (by decide +kernel) (by decide) (lc_34 G hv hl hcs hI hP1 hP2 hD hS hend)
    · exact lv_tableIn (tgt := 1331) (off := 1298) hx hb dL_law_33 (by decide +kernel) (by decide +kernel) (by decide +kernel) (by decide) (lc_35 G hv hl hcs hI hP1 hP2 hD hS hend)
    · exact lv_tableIn (tgt := 1364) (off := 1331) hx hb dL_law_33 (by decide +kernel) (by decide +kernel) (by decide +kernel) (by decide) (lc_36 G hv hl hcs hI hP1 hP2 hD hS hend)
    · exact lv_tableIn (tgt := 1387) (off := 1354) hx hb dL_law_33 (by decide +kernel) (by decide +kernel) (by decide +kernel) (by decide) (lc_37 G hv hl hcs hI hP1 hP2 hD hS hend)
    · exact lv_tableIn (tgt := 1410) (off := 1377) hx hb dL_law_33 (by decide +kernel) (by decide +kernel) (by decide +kernel) (by decide) (lc_38 G hv hl hcs hI hP1 hP2 hD hS hend)
    · exact lv_tableIn (tgt := 1433) (off := 1400) hx hb dL_law_33 (by decide +kernel) (by decide +kernel) (by decide +kernel) (by decide) (lc_39 G hv hl hcs hI hP1 hP2 hD hS hend)
  · rcases (show j = 40 ∨ j = 41 ∨ j = 42 ∨ j = 43 ∨ j = 44 ∨ j = 45 ∨ j = 46 ∨ j = 47 by omega) with rfl | rfl | rfl | rfl | rfl | rfl | rfl | rfl
    · exact lv_tableIn (tgt := 1466) (off := 1433) hx hb dL_law_33 (by decide +kernel) (by decide +kernel) (by decide +kernel) (by decide) (lc_40 G hv hl hcs hI hP1 hP2 hD hS hend)
    · exact lv_tableIn (tgt := 1489) (off := 1456) hx hb dL_law_33 (by decide +kernel) (by decide +kernel) (by decide +kernel) (by decide) (lc_41 G hv hl hcs hI hP1 hP2 hD hS hend)
    · exact lv_tableIn (tgt := 1502) (off := 1469) hx hb dL_law_33 (by decide +kernel) (by decide +kernel) (by decide +kernel) (by decide) (lc_42 G hv hl hcs hI hP1 hP2 hD hS hend)
    · exact lv_tableIn (tgt := 1535) (off := 1502) hx hb dL_law_33 (by decide +kernel) (by decide +kernel) (by decide +kernel) (by decide) (lc_43 G hv hl hcs hI hP1 hP2 hD hS hend)
    · exact lv_tableIn (tgt := 1558) (off := 1525) hx hb dL_law_33 (by decide +kernel) (by decide +kernel) (by decide +kernel) (by decide) (lc_44 G hv hl hcs hI hP1 hP2 hD hS hend)
    · exact lv_tableIn (tgt := 1591) (off := 1558) hx hb dL_law_33 (by decide +kernel) (by decide +kernel) (by decide +kernel) (by decide) (lc_45 G hv hl hcs hI hP1 hP2 hD hS hend)
    · exact lv_tableIn (tgt := 1624) (off := 1591) hx hb dL_law_33 (by decide +kernel) (by decide +kernel) (by decide +kernel) (by decide) (lc_46 G hv hl hcs hI hP1 hP2 hD hS hend)
    · exact lv_tableIn (tgt := 1657) (off := 1624) hx hb dL_law_33 (by decide +kernel) (by decide +kernel) (by decide +kernel) (by decide) (lc_47 G hv hl hcs hI hP1 hP2 hD hS hend)
  · rcases (show j = 48 ∨ j = 49 ∨ j = 50 ∨ j = 51 ∨ j = 52 ∨ j = 53 ∨ j = 54 ∨ j = 55 by omega) with rfl | rfl | rfl | rfl | rfl | rfl | rfl | rfl
    · exact lv_tableIn (tgt := 1690) (off := 1657) hx hb dL_law_33 (by decide +kernel) (by decide +kernel) (by decide +kernel) (by decide) (lc_48 G hv hl hcs hI hP1 hP2 hD hS hend)
    · exact lv_tableIn (tgt := 1733) (off := 1700) hx hb dL_law_33 (by decide +kernel) (by decide +kernel) (by decide +kernel) (by decide) (lc_49 G hv hl hcs hI hP1 hP2 hD hS hend)
    · exact lv_tableIn (tgt := 1756) (off := 1723) hx hb dL_law_33 (by decide +kernel) (by decide +kernel) (by decide +kernel) (by decide) (lc_50 G hv hl hcs hI hP1 hP2 hD hS hend)
    · exact lv_tableIn (tgt := 1769) (off := 1736) hx hb dL_law_33 (by decide +kernel) (by decide +kernel) (by decide +kernel) (by decide) (lc_51 G hv hl hcs hI hP1 hP2 hD hS hend)
    · exact lv_tableIn (tgt := 1782) (off := 1749) hx hb dL_law_33 (by decide +kernel) (by decide +kernel) (by decide +kernel) (by decide) (lc_52 G hv hl hcs hI hP1 hP2 hD hS hend)
    · exact lv_tableIn (tgt := 1835) (off := 1802) hx hb dL_law_33 (by decide +kernel) (by decide +kernel) (by decide +kernel) (by decide) (lc_53 G hv hl hcs hI hP1 hP2 hD hS hend)
    · exact lv_tableIn (tgt := 1898) (off := 1865) hx hb dL_law_33 (by decide +kernel) (by decide +kernel) (by decide +kernel) (by decide) (lc_54 G hv hl hcs hI hP1 hP2 hD hS hend)
    · exact lv_tableIn (tgt := 1941) (off := 1908) hx hb dL_law_33 (by decide +kernel) (by decide +kernel) (by decide +kernel) (by decide) (lc_55 G hv hl hcs hI hP1 hP2 hD hS hend)
  · rcases (show j = 56 ∨ j = 57 ∨ j = 58 ∨ j = 59 ∨ j = 60 ∨ j = 61 ∨ j = 62 ∨ j = 63 by omega) with rfl | rfl | rfl | rfl | rfl | rfl | rfl | rfl
    · exact lv_tableIn (tgt := 1964) (off := 1931) hx hb dL_law_33 (by decide +kernel) (by decide +kernel) (by decide +kernel) (by decide) (lc_56 G hv hl hcs hI hP1 hP2 hD hS hend)
    · exact lv_tableIn (tgt := 1987) (off := 1954) hx hb dL_law_33 (by decide +kernel) (by decide +kernel) (by decide +kernel) (by decide) (lc_57 G hv hl hcs hI hP1 hP2 hD hS hend)
    · exact lv_tableIn (tgt := 2010) (off := 1977) hx hb dL_law_33 (by decide +kernel) (by decide +kernel) (by decide +kernel) (by decide) (lc_58 G hv hl hcs hI hP1 hP2 hD hS hend)
    · exact lv_tableIn (tgt := 2033) (off := 2000) hx hb dL_law_33 (by decide +kernel) (by decide +kernel) (by decide +kernel) (by decide) (lc_59 G hv hl hcs hI hP1 hP2 hD hS hend)
    · exact lv_tableIn (tgt := 2076) (off := 2043) hx hb dL_law_33 (by decide +kernel) (by decide +kernel) (by decide +kernel) (by decide) (lc_60 G hv hl hcs hI hP1 hP2 hD hS hend)
    · exact lv_tableIn (tgt := 2149) (off := 2116) hx hb dL_law_33 (by decide +kernel) (by decide +kernel) (by decide +kernel) (by decide) (lc_61 G hv hl hcs hI hP1 hP2 hD hS hend)
    · exact lv_tableOut (tgt := 2212) hx hb dL_law_33 (by decide +kernel) (by decide) (hend st mt sl ml _ _ hI hP1 hP2 hD hS)
    · exact lv_tableOut (tgt := 2212) hx hb dL_law_33 (by decide +kernel) (by decide) (hend st mt sl ml _ _ hI hP1 hP2 hD hS)
