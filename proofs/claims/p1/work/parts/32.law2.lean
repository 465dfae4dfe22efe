set_option maxHeartbeats 4000000 in
set_option maxRecDepth 100000 in
theorem case_31 {p : Program} {l : Launch} {e : Env} {s : State} {m : MethodId} {below : List Frame} {meth : Method} {c : Code} {H : Heap} {locs : List Loc} {cells slots : Nat} {Q : State → Prop} {b : Nat} {xs : Nat → Int32} {D : va_G} {k : Nat → ClassId} {q : Nat → Nat} {wf : Nat → Int32} {u : Nat → Nat} {mf : Nat → Int32} {ls : Array Slot} (C : LC p s m c b xs D k q wf u mf H locs ls cells slots) (hend : W p l e room_1 s m #[Value.ref b] below meth c H locs cells slots Q (F0 m 2212 ls [])) : W p l e room_1 s m #[Value.ref b] below meth c H locs cells slots Q (F0 m 1219 ls []) := by
  obtain ⟨S, hF, hM, hX, hbl, hS, hl, hcs⟩ := C
  have hx := S.1
  have hb := S.2.1
  have hown := S.2.2.2.1
  have hT := S.2.2.2.2
  have hbA : ¬ (fun z : Nat => s.heap.size ≤ z) b := Nat.not_le.mpr hbl
  refine lv_aload_n hx hb dL_law_1219 rfl (lv_at hl 1 rfl) ?_
  refine lv_aload_n hx hb dL_law_1220 rfl (lv_at hl 0 rfl) ?_
  refine lv_iload_n hx hb dL_law_1221 rfl (lv_at hl 3 rfl) ?_
  refine lv_iconst (v := 1) hx hb dL_law_1222 (by decide) ?_
  refine lv_iadd hx hb dL_law_1223 ?_
  refine k_top (y := 1) (by decide) ?_
  refine va_sld hx hb hX hbl hbA hS (by unfold vp_in; decide) dL_law_1224 ?_
  refine k_top (y := xs 1) (congrArg xs (by decide)) ?_
  refine lv_aload_n hx hb dL_law_1225 rfl (lv_at hl 0 rfl) ?_
  refine lv_iload_n hx hb dL_law_1226 rfl (lv_at hl 3 rfl) ?_
  refine lv_iconst (v := 2) hx hb dL_law_1227 (by decide) ?_
  refine lv_iadd hx hb dL_law_1228 ?_
  refine k_top (y := 2) (by decide) ?_
  refine va_sld hx hb hX hbl hbA hS (by unfold vp_in; decide) dL_law_1229 ?_
  refine k_top (y := xs 2) (congrArg xs (by decide)) ?_
  refine ro_V (As := [.int (xs 1), .int (xs 2)]) (rest := []) S (c_X9_roams l D k q wf (xs 1) (xs 2)) lkL_142 ok_X9_roams ⟨rfl, rfl, Nat.le_of_ble_eq_true rfl, Nat.le_of_ble_eq_true rfl⟩ (fw_V (ci := 9) (q0 := 0) hF rfl rfl) rfl hl.1 rfl (Nat.le_of_ble_eq_true rfl) hcs dL_law_1230 (fun r_1 er_1 => ?_)
  subst er_1
  refine lv_aload_n hx hb dL_law_1233 rfl (lv_at hl 2 rfl) ?_
  refine lv_aload_n hx hb dL_law_1234 rfl (lv_at hl 0 rfl) ?_
  refine lv_iload_n hx hb dL_law_1235 rfl (lv_at hl 3 rfl) ?_
  refine lv_iconst (v := 1) hx hb dL_law_1236 (by decide) ?_
  refine lv_iadd hx hb dL_law_1237 ?_
  refine k_top (y := 1) (by decide) ?_
  refine va_sld hx hb hX hbl hbA hS (by unfold vp_in; decide) dL_law_1238 ?_
  refine k_top (y := xs 1) (congrArg xs (by decide)) ?_
  refine lv_aload_n hx hb dL_law_1239 rfl (lv_at hl 0 rfl) ?_
  refine lv_iload_n hx hb dL_law_1240 rfl (lv_at hl 3 rfl) ?_
  refine lv_iconst (v := 2) hx hb dL_law_1241 (by decide) ?_
  refine lv_iadd hx hb dL_law_1242 ?_
  refine k_top (y := 2) (by decide) ?_
  refine va_sld hx hb hX hbl hbA hS (by unfold vp_in; decide) dL_law_1243 ?_
  refine k_top (y := xs 2) (congrArg xs (by decide)) ?_
  refine ro_V (As := [.int (xs 1), .int (xs 2)]) (rest := [.int (-2)]) S (c_X10_roams l D k u mf (xs 1) (xs 2)) lkL_145 ok_X10_roams ⟨rfl, rfl, Nat.le_of_ble_eq_true rfl, Nat.le_of_ble_eq_true rfl⟩ (mw_V (ci := 10) (q0 := 0) hM rfl rfl) rfl hl.1 rfl (Nat.le_of_ble_eq_true rfl) hcs dL_law_1244 (fun r_2 er_2 => ?_)
  subst er_2
  refine lv_icmp_eq (tgt := 2212) hx hb dL_law_1247 (by decide) (fun _ => hend) (fun c_3 => absurd rfl c_3)
set_option maxHeartbeats 4000000 in
set_option maxRecDepth 100000 in
theorem case_32 {p : Program} {l : Launch} {e : Env} {s : State} {m : MethodId} {below : List Frame} {meth : Method} {c : Code} {H : Heap} {locs : List Loc} {cells slots : Nat} {Q : State → Prop} {b : Nat} {xs : Nat → Int32} {D : va_G} {k : Nat → ClassId} {q : Nat → Nat} {wf : Nat → Int32} {u : Nat → Nat} {mf : Nat → Int32} {ls : Array Slot} (C : LC p s m c b xs D k q wf u mf H locs ls cells slots) (hend : W p l e room_1 s m #[Value.ref b] below meth c H locs cells slots Q (F0 m 2212 ls [])) : W p l e room_1 s m #[Value.ref b] below meth c H locs cells slots Q (F0 m 1252 ls []) := by
  obtain ⟨S, hF, hM, hX, hbl, hS, hl, hcs⟩ := C
  have hx := S.1
  have hb := S.2.1
  have hown := S.2.2.2.1
  have hT := S.2.2.2.2
  have hbA : ¬ (fun z : Nat => s.heap.size ≤ z) b := Nat.not_le.mpr hbl
  refine lv_aload_n hx hb dL_law_1252 rfl (lv_at hl 1 rfl) ?_
  refine lv_aload_n hx hb dL_law_1253 rfl (lv_at hl 0 rfl) ?_
  refine lv_iload_n hx hb dL_law_1254 rfl (lv_at hl 3 rfl) ?_
  refine lv_iconst (v := 1) hx hb dL_law_1255 (by decide) ?_
  refine lv_iadd hx hb dL_law_1256 ?_
  refine k_top (y := 1) (by decide) ?_
  refine va_sld hx hb hX hbl hbA hS (by unfold vp_in; decide) dL_law_1257 ?_
  refine k_top (y := xs 1) (congrArg xs (by decide)) ?_
  refine ro_V (As := [.int (xs 1)]) (rest := []) S (c_X9_circle l D k q wf (xs 1)) lkL_146 ok_X9_circle ⟨rfl, rfl, Nat.le_of_ble_eq_true rfl, Nat.le_of_ble_eq_true rfl⟩ (fw_V (ci := 9) (q0 := 0) hF rfl rfl) rfl hl.1 rfl (Nat.le_of_ble_eq_true rfl) hcs dL_law_1258 (fun r_1 er_1 => ?_)
  subst er_1
  refine lv_aload_n hx hb dL_law_1261 rfl (lv_at hl 2 rfl) ?_
  refine lv_aload_n hx hb dL_law_1262 rfl (lv_at hl 0 rfl) ?_
  refine lv_iload_n hx hb dL_law_1263 rfl (lv_at hl 3 rfl) ?_
  refine lv_iconst (v := 1) hx hb dL_law_1264 (by decide) ?_
  refine lv_iadd hx hb dL_law_1265 ?_
  refine k_top (y := 1) (by decide) ?_
  refine va_sld hx hb hX hbl hbA hS (by unfold vp_in; decide) dL_law_1266 ?_
  refine k_top (y := xs 1) (congrArg xs (by decide)) ?_
  refine ro_V (As := [.int (xs 1)]) (rest := [.int (-2)]) S (c_X10_circle l D k u mf (xs 1)) lkL_149 ok_X10_circle ⟨rfl, rfl, Nat.le_of_ble_eq_true rfl, Nat.le_of_ble_eq_true rfl⟩ (mw_V (ci := 10) (q0 := 0) hM rfl rfl) rfl hl.1 rfl (Nat.le_of_ble_eq_true rfl) hcs dL_law_1267 (fun r_2 er_2 => ?_)
  subst er_2
  refine lv_icmp_eq (tgt := 2212) hx hb dL_law_1270 (by decide) (fun _ => hend) (fun c_3 => absurd rfl c_3)
set_option maxHeartbeats 4000000 in
set_option maxRecDepth 100000 in
theorem case_33 {p : Program} {l : Launch} {e : Env} {s : State} {m : MethodId} {below : List Frame} {meth : Method} {c : Code} {H : Heap} {locs : List Loc} {cells slots : Nat} {Q : State → Prop} {b : Nat} {xs : Nat → Int32} {D : va_G} {k : Nat → ClassId} {q : Nat → Nat} {wf : Nat → Int32} {u : Nat → Nat} {mf : Nat → Int32} {ls : Array Slot} (C : LC p s m c b xs D k q wf u mf H locs ls cells slots) (hend : W p l e room_1 s m #[Value.ref b] below meth c H locs cells slots Q (F0 m 2212 ls [])) : W p l e room_1 s m #[Value.ref b] below meth c H locs cells slots Q (F0 m 1275 ls []) := by
  obtain ⟨S, hF, hM, hX, hbl, hS, hl, hcs⟩ := C
  have hx := S.1
  have hb := S.2.1
  have hown := S.2.2.2.1
  have hT := S.2.2.2.2
  have hbA : ¬ (fun z : Nat => s.heap.size ≤ z) b := Nat.not_le.mpr hbl
  refine lv_aload_n hx hb dL_law_1275 rfl (lv_at hl 1 rfl) ?_
  refine lv_aload_n hx hb dL_law_1276 rfl (lv_at hl 0 rfl) ?_
  refine lv_iload_n hx hb dL_law_1277 rfl (lv_at hl 3 rfl) ?_
  refine lv_iconst (v := 1) hx hb dL_law_1278 (by decide) ?_
  refine lv_iadd hx hb dL_law_1279 ?_
  refine k_top (y := 1) (by decide) ?_
  refine va_sld hx hb hX hbl hbA hS (by unfold vp_in; decide) dL_law_1280 ?_
  refine k_top (y := xs 1) (congrArg xs (by decide)) ?_
  refine ro_V (As := [.int (xs 1)]) (rest := []) S (c_X9_haunts l D k q wf (xs 1)) lkL_150 ok_X9_haunts ⟨rfl, rfl, Nat.le_of_ble_eq_true rfl, Nat.le_of_ble_eq_true rfl⟩ (fw_V (ci := 9) (q0 := 0) hF rfl rfl) rfl hl.1 rfl (Nat.le_of_ble_eq_true rfl) hcs dL_law_1281 (fun r_1 er_1 => ?_)
  subst er_1
  refine lv_aload_n hx hb dL_law_1284 rfl (lv_at hl 2 rfl) ?_
  refine lv_aload_n hx hb dL_law_1285 rfl (lv_at hl 0 rfl) ?_
  refine lv_iload_n hx hb dL_law_1286 rfl (lv_at hl 3 rfl) ?_
  refine lv_iconst (v := 1) hx hb dL_law_1287 (by decide) ?_
  refine lv_iadd hx hb dL_law_1288 ?_
  refine k_top (y := 1) (by decide) ?_
  refine va_sld hx hb hX hbl hbA hS (by unfold vp_in; decide) dL_law_1289 ?_
  refine k_top (y := xs 1) (congrArg xs (by decide)) ?_
  refine ro_V (As := [.int (xs 1)]) (rest := [.int (-2)]) S (c_X10_haunts l D k u mf (xs 1)) lkL_153 ok_X10_haunts ⟨rfl, rfl, Nat.le_of_ble_eq_true rfl, Nat.le_of_ble_eq_true rfl⟩ (mw_V (ci := 10) (q0 := 0) hM rfl rfl) rfl hl.1 rfl (Nat.le_of_ble_eq_true rfl) hcs dL_law_1290 (fun r_2 er_2 => ?_)
  subst er_2
  refine lv_icmp_eq (tgt := 2212) hx hb dL_law_1293 (by decide) (fun _ => hend) (fun c_3 => absurd rfl c_3)
set_option maxHeartbeats 4000000 in
set_option maxRecDepth 100000 in
theorem case_34 {p : Program} {l : Launch} {e : Env} {s : State} {m : MethodId} {below : List Frame} {meth : Method} {c : Code} {H : Heap} {locs : List Loc} {cells slots : Nat} {Q : State → Prop} {b : Nat} {xs : Nat → Int32} {D : va_G} {k : Nat → ClassId} {q : Nat → Nat} {wf : Nat → Int32} {u : Nat → Nat} {mf : Nat → Int32} {ls : Array Slot} (C : LC p s m c b xs D k q wf u mf H locs ls cells slots) (hend : W p l e room_1 s m #[Value.ref b] below meth c H locs cells slots Q (F0 m 2212 ls [])) : W p l e room_1 s m #[Value.ref b] below meth c H locs cells slots Q (F0 m 1298 ls []) := by
  obtain ⟨S, hF, hM, hX, hbl, hS, hl, hcs⟩ := C
  have hx := S.1
  have hb := S.2.1
  have hown := S.2.2.2.1
  have hT := S.2.2.2.2
  have hbA : ¬ (fun z : Nat => s.heap.size ≤ z) b := Nat.not_le.mpr hbl
  refine lv_aload_n hx hb dL_law_1298 rfl (lv_at hl 1 rfl) ?_
  refine lv_aload_n hx hb dL_law_1299 rfl (lv_at hl 0 rfl) ?_
  refine lv_iload_n hx hb dL_law_1300 rfl (lv_at hl 3 rfl) ?_
  refine lv_iconst (v := 1) hx hb dL_law_1301 (by decide) ?_
  refine lv_iadd hx hb dL_law_1302 ?_
  refine k_top (y := 1) (by decide) ?_
  refine va_sld hx hb hX hbl hbA hS (by unfold vp_in; decide) dL_law_1303 ?_
  refine k_top (y := xs 1) (congrArg xs (by decide)) ?_
  refine lv_aload_n hx hb dL_law_1304 rfl (lv_at hl 0 rfl) ?_
  refine lv_iload_n hx hb dL_law_1305 rfl (lv_at hl 3 rfl) ?_
  refine lv_iconst (v := 2) hx hb dL_law_1306 (by decide) ?_
  refine lv_iadd hx hb dL_law_1307 ?_
  refine k_top (y := 2) (by decide) ?_
  refine va_sld hx hb hX hbl hbA hS (by unfold vp_in; decide) dL_law_1308 ?_
  refine k_top (y := xs 2) (congrArg xs (by decide)) ?_
  refine ro_V (As := [.int (xs 1), .int (xs 2)]) (rest := []) S (c_X9_meet l D k q wf (xs 1) (xs 2)) lkL_154 ok_X9_meet ⟨rfl, rfl, Nat.le_of_ble_eq_true rfl, Nat.le_of_ble_eq_true rfl⟩ (fw_V (ci := 9) (q0 := 0) hF rfl rfl) rfl hl.1 rfl (Nat.le_of_ble_eq_true rfl) hcs dL_law_1309 (fun r_1 er_1 => ?_)
  subst er_1
  refine lv_aload_n hx hb dL_law_1312 rfl (lv_at hl 2 rfl) ?_
  refine lv_aload_n hx hb dL_law_1313 rfl (lv_at hl 0 rfl) ?_
  refine lv_iload_n hx hb dL_law_1314 rfl (lv_at hl 3 rfl) ?_
  refine lv_iconst (v := 1) hx hb dL_law_1315 (by decide) ?_
  refine lv_iadd hx hb dL_law_1316 ?_
  refine k_top (y := 1) (by decide) ?_
  refine va_sld hx hb hX hbl hbA hS (by unfold vp_in; decide) dL_law_1317 ?_
  refine k_top (y := xs 1) (congrArg xs (by decide)) ?_
  refine lv_aload_n hx hb dL_law_1318 rfl (lv_at hl 0 rfl) ?_
  refine lv_iload_n hx hb dL_law_1319 rfl (lv_at hl 3 rfl) ?_
  refine lv_iconst (v := 2) hx hb dL_law_1320 (by decide) ?_
  refine lv_iadd hx hb dL_law_1321 ?_
  refine k_top (y := 2) (by decide) ?_
  refine va_sld hx hb hX hbl hbA hS (by unfold vp_in; decide) dL_law_1322 ?_
  refine k_top (y := xs 2) (congrArg xs (by decide)) ?_
  refine ro_V (As := [.int (xs 1), .int (xs 2)]) (rest := [.int (-2)]) S (c_X10_meet l D k u mf (xs 1) (xs 2)) lkL_157 ok_X10_meet ⟨rfl, rfl, Nat.le_of_ble_eq_true rfl, Nat.le_of_ble_eq_true rfl⟩ (mw_V (ci := 10) (q0 := 0) hM rfl rfl) rfl hl.1 rfl (Nat.le_of_ble_eq_true rfl) hcs dL_law_1323 (fun r_2 er_2 => ?_)
  subst er_2
  refine lv_icmp_eq (tgt := 2212) hx hb dL_law_1326 (by decide) (fun _ => hend) (fun c_3 => absurd rfl c_3)
set_option maxHeartbeats 4000000 in
set_option maxRecDepth 100000 in
theorem case_35 {p : Program} {l : Launch} {e : Env} {s : State} {m : MethodId} {below : List Frame} {meth : Method} {c : Code} {H : Heap} {locs : List Loc} {cells slots : Nat} {Q : State → Prop} {b : Nat} {xs : Nat → Int32} {D : va_G} {k : Nat → ClassId} {q : Nat → Nat} {wf : Nat → Int32} {u : Nat → Nat} {mf : Nat → Int32} {ls : Array Slot} (C : LC p s m c b xs D k q wf u mf H locs ls cells slots) (hend : W p l e room_1 s m #[Value.ref b] below meth c H locs cells slots Q (F0 m 2212 ls [])) : W p l e room_1 s m #[Value.ref b] below meth c H locs cells slots Q (F0 m 1331 ls []) := by
  obtain ⟨S, hF, hM, hX, hbl, hS, hl, hcs⟩ := C
  have hx := S.1
  have hb := S.2.1
  have hown := S.2.2.2.1
  have hT := S.2.2.2.2
  have hbA : ¬ (fun z : Nat => s.heap.size ≤ z) b := Nat.not_le.mpr hbl
  refine lv_aload_n hx hb dL_law_1331 rfl (lv_at hl 1 rfl) ?_
  refine lv_aload_n hx hb dL_law_1332 rfl (lv_at hl 0 rfl) ?_
  refine lv_iload_n hx hb dL_law_1333 rfl (lv_at hl 3 rfl) ?_
  refine lv_iconst (v := 1) hx hb dL_law_1334 (by decide) ?_
  refine lv_iadd hx hb dL_law_1335 ?_
  refine k_top (y := 1) (by decide) ?_
  refine va_sld hx hb hX hbl hbA hS (by unfold vp_in; decide) dL_law_1336 ?_
  refine k_top (y := xs 1) (congrArg xs (by decide)) ?_
  refine lv_aload_n hx hb dL_law_1337 rfl (lv_at hl 0 rfl) ?_
  refine lv_iload_n hx hb dL_law_1338 rfl (lv_at hl 3 rfl) ?_
  refine lv_iconst (v := 2) hx hb dL_law_1339 (by decide) ?_
  refine lv_iadd hx hb dL_law_1340 ?_
  refine k_top (y := 2) (by decide) ?_
  refine va_sld hx hb hX hbl hbA hS (by unfold vp_in; decide) dL_law_1341 ?_
  refine k_top (y := xs 2) (congrArg xs (by decide)) ?_
  refine ro_V (As := [.int (xs 1), .int (xs 2)]) (rest := []) S (c_X9_met l D k q wf (xs 1) (xs 2)) lkL_158 ok_X9_met ⟨rfl, rfl, Nat.le_of_ble_eq_true rfl, Nat.le_of_ble_eq_true rfl⟩ (fw_V (ci := 9) (q0 := 0) hF rfl rfl) rfl hl.1 rfl (Nat.le_of_ble_eq_true rfl) hcs dL_law_1342 (fun r_1 er_1 => ?_)
  subst er_1
  refine lv_aload_n hx hb dL_law_1345 rfl (lv_at hl 2 rfl) ?_
  refine lv_aload_n hx hb dL_law_1346 rfl (lv_at hl 0 rfl) ?_
  refine lv_iload_n hx hb dL_law_1347 rfl (lv_at hl 3 rfl) ?_
  refine lv_iconst (v := 1) hx hb dL_law_1348 (by decide) ?_
  refine lv_iadd hx hb dL_law_1349 ?_
  refine k_top (y := 1) (by decide) ?_
  refine va_sld hx hb hX hbl hbA hS (by unfold vp_in; decide) dL_law_1350 ?_
  refine k_top (y := xs 1) (congrArg xs (by decide)) ?_
  refine lv_aload_n hx hb dL_law_1351 rfl (lv_at hl 0 rfl) ?_
  refine lv_iload_n hx hb dL_law_1352 rfl (lv_at hl 3 rfl) ?_
  refine lv_iconst (v := 2) hx hb dL_law_1353 (by decide) ?_
  refine lv_iadd hx hb dL_law_1354 ?_
  refine k_top (y := 2) (by decide) ?_
  refine va_sld hx hb hX hbl hbA hS (by unfold vp_in; decide) dL_law_1355 ?_
  refine k_top (y := xs 2) (congrArg xs (by decide)) ?_
  refine ro_V (As := [.int (xs 1), .int (xs 2)]) (rest := [.int (-2)]) S (c_X10_met l D k u mf (xs 1) (xs 2)) lkL_161 ok_X10_met ⟨rfl, rfl, Nat.le_of_ble_eq_true rfl, Nat.le_of_ble_eq_true rfl⟩ (mw_V (ci := 10) (q0 := 0) hM rfl rfl) rfl hl.1 rfl (Nat.le_of_ble_eq_true rfl) hcs dL_law_1356 (fun r_2 er_2 => ?_)
  subst er_2
  refine lv_icmp_eq (tgt := 2212) hx hb dL_law_1359 (by decide) (fun _ => hend) (fun c_3 => absurd rfl c_3)
set_option maxHeartbeats 4000000 in
set_option maxRecDepth 100000 in
theorem case_36 {p : Program} {l : Launch} {e : Env} {s : State} {m : MethodId} {below : List Frame} {meth : Method} {c : Code} {H : Heap} {locs : List Loc} {cells slots : Nat} {Q : State → Prop} {b : Nat} {xs : Nat → Int32} {D : va_G} {k : Nat → ClassId} {q : Nat → Nat} {wf : Nat → Int32} {u : Nat → Nat} {mf : Nat → Int32} {ls : Array Slot} (C : LC p s m c b xs D k q wf u mf H locs ls cells slots) (hend : W p l e room_1 s m #[Value.ref b] below meth c H locs cells slots Q (F0 m 2212 ls [])) : W p l e room_1 s m #[Value.ref b] below meth c H locs cells slots Q (F0 m 1364 ls []) := by
  obtain ⟨S, hF, hM, hX, hbl, hS, hl, hcs⟩ := C
  have hx := S.1
  have hb := S.2.1
  have hown := S.2.2.2.1
  have hT := S.2.2.2.2
  have hbA : ¬ (fun z : Nat => s.heap.size ≤ z) b := Nat.not_le.mpr hbl
  refine lv_aload_n hx hb dL_law_1364 rfl (lv_at hl 1 rfl) ?_
  refine lv_aload_n hx hb dL_law_1365 rfl (lv_at hl 0 rfl) ?_
  refine lv_iload_n hx hb dL_law_1366 rfl (lv_at hl 3 rfl) ?_
  refine lv_iconst (v := 1) hx hb dL_law_1367 (by decide) ?_
  refine lv_iadd hx hb dL_law_1368 ?_
  refine k_top (y := 1) (by decide) ?_
  refine va_sld hx hb hX hbl hbA hS (by unfold vp_in; decide) dL_law_1369 ?_
  refine k_top (y := xs 1) (congrArg xs (by decide)) ?_
  refine ro_V (As := [.int (xs 1)]) (rest := []) S (c_X9_fits l D k q wf (xs 1)) lkL_162 ok_X9_fits ⟨rfl, rfl, Nat.le_of_ble_eq_true rfl, Nat.le_of_ble_eq_true rfl⟩ (fw_V (ci := 9) (q0 := 0) hF rfl rfl) rfl hl.1 rfl (Nat.le_of_ble_eq_true rfl) hcs dL_law_1370 (fun r_1 er_1 => ?_)
  subst er_1
  refine lv_aload_n hx hb dL_law_1373 rfl (lv_at hl 2 rfl) ?_
  refine lv_aload_n hx hb dL_law_1374 rfl (lv_at hl 0 rfl) ?_
  refine lv_iload_n hx hb dL_law_1375 rfl (lv_at hl 3 rfl) ?_
  refine lv_iconst (v := 1) hx hb dL_law_1376 (by decide) ?_
  refine lv_iadd hx hb dL_law_1377 ?_
  refine k_top (y := 1) (by decide) ?_
  refine va_sld hx hb hX hbl hbA hS (by unfold vp_in; decide) dL_law_1378 ?_
  refine k_top (y := xs 1) (congrArg xs (by decide)) ?_
  refine ro_V (As := [.int (xs 1)]) (rest := [.int (-2)]) S (c_X10_fits l D k u mf (xs 1)) lkL_165 ok_X10_fits ⟨rfl, rfl, Nat.le_of_ble_eq_true rfl, Nat.le_of_ble_eq_true rfl⟩ (mw_V (ci := 10) (q0 := 0) hM rfl rfl) rfl hl.1 rfl (Nat.le_of_ble_eq_true rfl) hcs dL_law_1379 (fun r_2 er_2 => ?_)
  subst er_2
  refine lv_icmp_eq (tgt := 2212) hx hb dL_law_1382 (by decide) (fun _ => hend) (fun c_3 => absurd rfl c_3)
set_option maxHeartbeats 4000000 in
set_option maxRecDepth 100000 in
theorem case_37 {p : Program} {l : Launch} {e : Env} {s : State} {m : MethodId} {below : List Frame} {meth : Method} {c : Code} {H : Heap} {locs : List Loc} {cells slots : Nat} {Q : State → Prop} {b : Nat} {xs : Nat → Int32} {D : va_G} {k : Nat → ClassId} {q : Nat → Nat} {wf : Nat → Int32} {u : Nat → Nat} {mf : Nat → Int32} {ls : Array Slot} (C : LC p s m c b xs D k q wf u mf H locs ls cells slots) (hend : W p l e room_1 s m #[Value.ref b] below meth c H locs cells slots Q (F0 m 2212 ls [])) : W p l e room_1 s m #[Value.ref b] below meth c H locs cells slots Q (F0 m 1387 ls []) := by
  obtain ⟨S, hF, hM, hX, hbl, hS, hl, hcs⟩ := C
  have hx := S.1
  have hb := S.2.1
  have hown := S.2.2.2.1
  have hT := S.2.2.2.2
  have hbA : ¬ (fun z : Nat => s.heap.size ≤ z) b := Nat.not_le.mpr hbl
  refine lv_aload_n hx hb dL_law_1387 rfl (lv_at hl 1 rfl) ?_
  refine lv_aload_n hx hb dL_law_1388 rfl (lv_at hl 0 rfl) ?_
  refine lv_iload_n hx hb dL_law_1389 rfl (lv_at hl 3 rfl) ?_
  refine lv_iconst (v := 1) hx hb dL_law_1390 (by decide) ?_
  refine lv_iadd hx hb dL_law_1391 ?_
  refine k_top (y := 1) (by decide) ?_
  refine va_sld hx hb hX hbl hbA hS (by unfold vp_in; decide) dL_law_1392 ?_
  refine k_top (y := xs 1) (congrArg xs (by decide)) ?_
  refine ro_V (As := [.int (xs 1)]) (rest := []) S (c_X9_ask l D k q wf (xs 1)) lkL_166 ok_X9_ask ⟨rfl, rfl, Nat.le_of_ble_eq_true rfl, Nat.le_of_ble_eq_true rfl⟩ (fw_V (ci := 9) (q0 := 0) hF rfl rfl) rfl hl.1 rfl (Nat.le_of_ble_eq_true rfl) hcs dL_law_1393 (fun r_1 er_1 => ?_)
  subst er_1
  refine lv_aload_n hx hb dL_law_1396 rfl (lv_at hl 2 rfl) ?_
  refine lv_aload_n hx hb dL_law_1397 rfl (lv_at hl 0 rfl) ?_
  refine lv_iload_n hx hb dL_law_1398 rfl (lv_at hl 3 rfl) ?_
  refine lv_iconst (v := 1) hx hb dL_law_1399 (by decide) ?_
  refine lv_iadd hx hb dL_law_1400 ?_
  refine k_top (y := 1) (by decide) ?_
  refine va_sld hx hb hX hbl hbA hS (by unfold vp_in; decide) dL_law_1401 ?_
  refine k_top (y := xs 1) (congrArg xs (by decide)) ?_
  refine ro_V (As := [.int (xs 1)]) (rest := [.int (-2)]) S (c_X10_ask l D k u mf (xs 1)) lkL_169 ok_X10_ask ⟨rfl, rfl, Nat.le_of_ble_eq_true rfl, Nat.le_of_ble_eq_true rfl⟩ (mw_V (ci := 10) (q0 := 0) hM rfl rfl) rfl hl.1 rfl (Nat.le_of_ble_eq_true rfl) hcs dL_law_1402 (fun r_2 er_2 => ?_)
  subst er_2
  refine lv_icmp_eq (tgt := 2212) hx hb dL_law_1405 (by decide) (fun _ => hend) (fun c_3 => absurd rfl c_3)
set_option maxHeartbeats 4000000 in
set_option maxRecDepth 100000 in
theorem case_38 {p : Program} {l : Launch} {e : Env} {s : State} {m : MethodId} {below : List Frame} {meth : Method} {c : Code} {H : Heap} {locs : List Loc} {cells slots : Nat} {Q : State → Prop} {b : Nat} {xs : Nat → Int32} {D : va_G} {k : Nat → ClassId} {q : Nat → Nat} {wf : Nat → Int32} {u : Nat → Nat} {mf : Nat → Int32} {ls : Array Slot} (C : LC p s m c b xs D k q wf u mf H locs ls cells slots) (hend : W p l e room_1 s m #[Value.ref b] below meth c H locs cells slots Q (F0 m 2212 ls [])) : W p l e room_1 s m #[Value.ref b] below meth c H locs cells slots Q (F0 m 1410 ls []) := by
  obtain ⟨S, hF, hM, hX, hbl, hS, hl, hcs⟩ := C
  have hx := S.1
  have hb := S.2.1
  have hown := S.2.2.2.1
  have hT := S.2.2.2.2
  have hbA : ¬ (fun z : Nat => s.heap.size ≤ z) b := Nat.not_le.mpr hbl
  refine lv_aload_n hx hb dL_law_1410 rfl (lv_at hl 1 rfl) ?_
  refine lv_aload_n hx hb dL_law_1411 rfl (lv_at hl 0 rfl) ?_
  refine lv_iload_n hx hb dL_law_1412 rfl (lv_at hl 3 rfl) ?_
  refine lv_iconst (v := 1) hx hb dL_law_1413 (by decide) ?_
  refine lv_iadd hx hb dL_law_1414 ?_
  refine k_top (y := 1) (by decide) ?_
  refine va_sld hx hb hX hbl hbA hS (by unfold vp_in; decide) dL_law_1415 ?_
  refine k_top (y := xs 1) (congrArg xs (by decide)) ?_
  refine ro_V (As := [.int (xs 1)]) (rest := []) S (c_X9_leaves l D k q wf (xs 1)) lkL_170 ok_X9_leaves ⟨rfl, rfl, Nat.le_of_ble_eq_true rfl, Nat.le_of_ble_eq_true rfl⟩ (fw_V (ci := 9) (q0 := 0) hF rfl rfl) rfl hl.1 rfl (Nat.le_of_ble_eq_true rfl) hcs dL_law_1416 (fun r_1 er_1 => ?_)
  subst er_1
  refine lv_aload_n hx hb dL_law_1419 rfl (lv_at hl 2 rfl) ?_
  refine lv_aload_n hx hb dL_law_1420 rfl (lv_at hl 0 rfl) ?_
  refine lv_iload_n hx hb dL_law_1421 rfl (lv_at hl 3 rfl) ?_
  refine lv_iconst (v := 1) hx hb dL_law_1422 (by decide) ?_
  refine lv_iadd hx hb dL_law_1423 ?_
  refine k_top (y := 1) (by decide) ?_
  refine va_sld hx hb hX hbl hbA hS (by unfold vp_in; decide) dL_law_1424 ?_
  refine k_top (y := xs 1) (congrArg xs (by decide)) ?_
  refine ro_V (As := [.int (xs 1)]) (rest := [.int (-2)]) S (c_X10_leaves l D k u mf (xs 1)) lkL_173 ok_X10_leaves ⟨rfl, rfl, Nat.le_of_ble_eq_true rfl, Nat.le_of_ble_eq_true rfl⟩ (mw_V (ci := 10) (q0 := 0) hM rfl rfl) rfl hl.1 rfl (Nat.le_of_ble_eq_true rfl) hcs dL_law_1425 (fun r_2 er_2 => ?_)
  subst er_2
  refine lv_icmp_eq (tgt := 2212) hx hb dL_law_1428 (by decide) (fun _ => hend) (fun c_3 => absurd rfl c_3)
set_option maxHeartbeats 4000000 in
set_option maxRecDepth 100000 in
theorem case_39 {p : Program} {l : Launch} {e : Env} {s : State} {m : MethodId} {below : List Frame} {meth : Method} {c : Code} {H : Heap} {locs : List Loc} {cells slots : Nat} {Q : State → Prop} {b : Nat} {xs : Nat → Int32} {D : va_G} {k : Nat → ClassId} {q : Nat → Nat} {wf : Nat → Int32} {u : Nat → Nat} {mf : Nat → Int32} {ls : Array Slot} (C : LC p s m c b xs D k q wf u mf H locs ls cells slots) (hend : W p l e room_1 s m #[Value.ref b] below meth c H locs cells slots Q (F0 m 2212 ls [])) : W p l e room_1 s m #[Value.ref b] below meth c H locs cells slots Q (F0 m 1433 ls []) := by
  obtain ⟨S, hF, hM, hX, hbl, hS, hl, hcs⟩ := C
  have hx := S.1
  have hb := S.2.1
  have hown := S.2.2.2.1
  have hT := S.2.2.2.2
  have hbA : ¬ (fun z : Nat => s.heap.size ≤ z) b := Nat.not_le.mpr hbl
  refine lv_aload_n hx hb dL_law_1433 rfl (lv_at hl 1 rfl) ?_
  refine lv_aload_n hx hb dL_law_1434 rfl (lv_at hl 0 rfl) ?_
  refine lv_iload_n hx hb dL_law_1435 rfl (lv_at hl 3 rfl) ?_
  refine lv_iconst (v := 1) hx hb dL_law_1436 (by decide) ?_
  refine lv_iadd hx hb dL_law_1437 ?_
  refine k_top (y := 1) (by decide) ?_
  refine va_sld hx hb hX hbl hbA hS (by unfold vp_in; decide) dL_law_1438 ?_
  refine k_top (y := xs 1) (congrArg xs (by decide)) ?_
  refine lv_aload_n hx hb dL_law_1439 rfl (lv_at hl 0 rfl) ?_
  refine lv_iload_n hx hb dL_law_1440 rfl (lv_at hl 3 rfl) ?_
  refine lv_iconst (v := 2) hx hb dL_law_1441 (by decide) ?_
  refine lv_iadd hx hb dL_law_1442 ?_
  refine k_top (y := 2) (by decide) ?_
  refine va_sld hx hb hX hbl hbA hS (by unfold vp_in; decide) dL_law_1443 ?_
  refine k_top (y := xs 2) (congrArg xs (by decide)) ?_
  refine ro_V (As := [.int (xs 1), .int (xs 2)]) (rest := []) S (c_X9_votes l D k q wf (xs 1) (xs 2)) lkL_174 ok_X9_votes ⟨rfl, rfl, Nat.le_of_ble_eq_true rfl, Nat.le_of_ble_eq_true rfl⟩ (fw_V (ci := 9) (q0 := 0) hF rfl rfl) rfl hl.1 rfl (Nat.le_of_ble_eq_true rfl) hcs dL_law_1444 (fun r_1 er_1 => ?_)
  subst er_1
  refine lv_aload_n hx hb dL_law_1447 rfl (lv_at hl 2 rfl) ?_
  refine lv_aload_n hx hb dL_law_1448 rfl (lv_at hl 0 rfl) ?_
  refine lv_iload_n hx hb dL_law_1449 rfl (lv_at hl 3 rfl) ?_
  refine lv_iconst (v := 1) hx hb dL_law_1450 (by decide) ?_
  refine lv_iadd hx hb dL_law_1451 ?_
  refine k_top (y := 1) (by decide) ?_
  refine va_sld hx hb hX hbl hbA hS (by unfold vp_in; decide) dL_law_1452 ?_
  refine k_top (y := xs 1) (congrArg xs (by decide)) ?_
  refine lv_aload_n hx hb dL_law_1453 rfl (lv_at hl 0 rfl) ?_
  refine lv_iload_n hx hb dL_law_1454 rfl (lv_at hl 3 rfl) ?_
  refine lv_iconst (v := 2) hx hb dL_law_1455 (by decide) ?_
  refine lv_iadd hx hb dL_law_1456 ?_
  refine k_top (y := 2) (by decide) ?_
  refine va_sld hx hb hX hbl hbA hS (by unfold vp_in; decide) dL_law_1457 ?_
  refine k_top (y := xs 2) (congrArg xs (by decide)) ?_
  refine ro_V (As := [.int (xs 1), .int (xs 2)]) (rest := [.int (-2)]) S (c_X10_votes l D k u mf (xs 1) (xs 2)) lkL_177 ok_X10_votes ⟨rfl, rfl, Nat.le_of_ble_eq_true rfl, Nat.le_of_ble_eq_true rfl⟩ (mw_V (ci := 10) (q0 := 0) hM rfl rfl) rfl hl.1 rfl (Nat.le_of_ble_eq_true rfl) hcs dL_law_1458 (fun r_2 er_2 => ?_)
  subst er_2
  refine lv_icmp_eq (tgt := 2212) hx hb dL_law_1461 (by decide) (fun _ => hend) (fun c_3 => absurd rfl c_3)
set_option maxHeartbeats 4000000 in
set_option maxRecDepth 100000 in
theorem case_40 {p : Program} {l : Launch} {e : Env} {s : State} {m : MethodId} {below : List Frame} {meth : Method} {c : Code} {H : Heap} {locs : List Loc} {cells slots : Nat} {Q : State → Prop} {b : Nat} {xs : Nat → Int32} {D : va_G} {k : Nat → ClassId} {q : Nat → Nat} {wf : Nat → Int32} {u : Nat → Nat} {mf : Nat → Int32} {ls : Array Slot} (C : LC p s m c b xs D k q wf u mf H locs ls cells slots) (hend : W p l e room_1 s m #[Value.ref b] below meth c H locs cells slots Q (F0 m 2212 ls [])) : W p l e room_1 s m #[Value.ref b] below meth c H locs cells slots Q (F0 m 1466 ls []) := by
  obtain ⟨S, hF, hM, hX, hbl, hS, hl, hcs⟩ := C
  have hx := S.1
  have hb := S.2.1
  have hown := S.2.2.2.1
  have hT := S.2.2.2.2
  have hbA : ¬ (fun z : Nat => s.heap.size ≤ z) b := Nat.not_le.mpr hbl
  refine lv_aload_n hx hb dL_law_1466 rfl (lv_at hl 1 rfl) ?_
  refine lv_aload_n hx hb dL_law_1467 rfl (lv_at hl 0 rfl) ?_
  refine lv_iload_n hx hb dL_law_1468 rfl (lv_at hl 3 rfl) ?_
  refine lv_iconst (v := 1) hx hb dL_law_1469 (by decide) ?_
  refine lv_iadd hx hb dL_law_1470 ?_
  refine k_top (y := 1) (by decide) ?_
  refine va_sld hx hb hX hbl hbA hS (by unfold vp_in; decide) dL_law_1471 ?_
  refine k_top (y := xs 1) (congrArg xs (by decide)) ?_
  refine ro_V (As := [.int (xs 1)]) (rest := []) S (c_X9_loved l D k q wf (xs 1)) lkL_178 ok_X9_loved ⟨rfl, rfl, Nat.le_of_ble_eq_true rfl, Nat.le_of_ble_eq_true rfl⟩ (fw_V (ci := 9) (q0 := 0) hF rfl rfl) rfl hl.1 rfl (Nat.le_of_ble_eq_true rfl) hcs dL_law_1472 (fun r_1 er_1 => ?_)
  subst er_1
  refine lv_aload_n hx hb dL_law_1475 rfl (lv_at hl 2 rfl) ?_
  refine lv_aload_n hx hb dL_law_1476 rfl (lv_at hl 0 rfl) ?_
  refine lv_iload_n hx hb dL_law_1477 rfl (lv_at hl 3 rfl) ?_
  refine lv_iconst (v := 1) hx hb dL_law_1478 (by decide) ?_
  refine lv_iadd hx hb dL_law_1479 ?_
  refine k_top (y := 1) (by decide) ?_
  refine va_sld hx hb hX hbl hbA hS (by unfold vp_in; decide) dL_law_1480 ?_
  refine k_top (y := xs 1) (congrArg xs (by decide)) ?_
  refine ro_V (As := [.int (xs 1)]) (rest := [.int (-2)]) S (c_X10_loved l D k u mf (xs 1)) lkL_181 ok_X10_loved ⟨rfl, rfl, Nat.le_of_ble_eq_true rfl, Nat.le_of_ble_eq_true rfl⟩ (mw_V (ci := 10) (q0 := 0) hM rfl rfl) rfl hl.1 rfl (Nat.le_of_ble_eq_true rfl) hcs dL_law_1481 (fun r_2 er_2 => ?_)
  subst er_2
  refine lv_icmp_eq (tgt := 2212) hx hb dL_law_1484 (by decide) (fun _ => hend) (fun c_3 => absurd rfl c_3)
set_option maxHeartbeats 4000000 in
set_option maxRecDepth 100000 in
theorem case_41 {p : Program} {l : Launch} {e : Env} {s : State} {m : MethodId} {below : List Frame} {meth : Method} {c : Code} {H : Heap} {locs : List Loc} {cells slots : Nat} {Q : State → Prop} {b : Nat} {xs : Nat → Int32} {D : va_G} {k : Nat → ClassId} {q : Nat → Nat} {wf : Nat → Int32} {u : Nat → Nat} {mf : Nat → Int32} {ls : Array Slot} (C : LC p s m c b xs D k q wf u mf H locs ls cells slots) (hend : W p l e room_1 s m #[Value.ref b] below meth c H locs cells slots Q (F0 m 2212 ls [])) : W p l e room_1 s m #[Value.ref b] below meth c H locs cells slots Q (F0 m 1489 ls []) := by
  obtain ⟨S, hF, hM, hX, hbl, hS, hl, hcs⟩ := C
  have hx := S.1
  have hb := S.2.1
  have hown := S.2.2.2.1
  have hT := S.2.2.2.2
  have hbA : ¬ (fun z : Nat => s.heap.size ≤ z) b := Nat.not_le.mpr hbl
  refine lv_aload_n hx hb dL_law_1489 rfl (lv_at hl 1 rfl) ?_
  refine ro_V (As := []) (rest := []) S (c_X9_dearest l D k q wf ) lkL_182 ok_X9_dearest ⟨rfl, rfl, Nat.le_of_ble_eq_true rfl, Nat.le_of_ble_eq_true rfl⟩ (fw_V (ci := 9) (q0 := 0) hF rfl rfl) rfl hl.1 rfl (Nat.le_of_ble_eq_true rfl) hcs dL_law_1490 (fun r_1 er_1 => ?_)
  subst er_1
  refine lv_aload_n hx hb dL_law_1493 rfl (lv_at hl 2 rfl) ?_
  refine ro_V (As := []) (rest := [.int (-2)]) S (c_X10_dearest l D k u mf ) lkL_185 ok_X10_dearest ⟨rfl, rfl, Nat.le_of_ble_eq_true rfl, Nat.le_of_ble_eq_true rfl⟩ (mw_V (ci := 10) (q0 := 0) hM rfl rfl) rfl hl.1 rfl (Nat.le_of_ble_eq_true rfl) hcs dL_law_1494 (fun r_2 er_2 => ?_)
  subst er_2
  refine lv_icmp_eq (tgt := 2212) hx hb dL_law_1497 (by decide) (fun _ => hend) (fun c_3 => absurd rfl c_3)
set_option maxHeartbeats 4000000 in
set_option maxRecDepth 100000 in
theorem case_42 {p : Program} {l : Launch} {e : Env} {s : State} {m : MethodId} {below : List Frame} {meth : Method} {c : Code} {H : Heap} {locs : List Loc} {cells slots : Nat} {Q : State → Prop} {b : Nat} {xs : Nat → Int32} {D : va_G} {k : Nat → ClassId} {q : Nat → Nat} {wf : Nat → Int32} {u : Nat → Nat} {mf : Nat → Int32} {ls : Array Slot} (C : LC p s m c b xs D k q wf u mf H locs ls cells slots) (hend : W p l e room_1 s m #[Value.ref b] below meth c H locs cells slots Q (F0 m 2212 ls [])) : W p l e room_1 s m #[Value.ref b] below meth c H locs cells slots Q (F0 m 1502 ls []) := by
  obtain ⟨S, hF, hM, hX, hbl, hS, hl, hcs⟩ := C
  have hx := S.1
  have hb := S.2.1
  have hown := S.2.2.2.1
  have hT := S.2.2.2.2
  have hbA : ¬ (fun z : Nat => s.heap.size ≤ z) b := Nat.not_le.mpr hbl
  refine lv_aload_n hx hb dL_law_1502 rfl (lv_at hl 1 rfl) ?_
  refine lv_aload_n hx hb dL_law_1503 rfl (lv_at hl 0 rfl) ?_
  refine lv_iload_n hx hb dL_law_1504 rfl (lv_at hl 3 rfl) ?_
  refine lv_iconst (v := 1) hx hb dL_law_1505 (by decide) ?_
  refine lv_iadd hx hb dL_law_1506 ?_
  refine k_top (y := 1) (by decide) ?_
  refine va_sld hx hb hX hbl hbA hS (by unfold vp_in; decide) dL_law_1507 ?_
  refine k_top (y := xs 1) (congrArg xs (by decide)) ?_
  refine lv_aload_n hx hb dL_law_1508 rfl (lv_at hl 0 rfl) ?_
  refine lv_iload_n hx hb dL_law_1509 rfl (lv_at hl 3 rfl) ?_
  refine lv_iconst (v := 2) hx hb dL_law_1510 (by decide) ?_
  refine lv_iadd hx hb dL_law_1511 ?_
  refine k_top (y := 2) (by decide) ?_
  refine va_sld hx hb hX hbl hbA hS (by unfold vp_in; decide) dL_law_1512 ?_
  refine k_top (y := xs 2) (congrArg xs (by decide)) ?_
  refine ro_V (As := [.int (xs 1), .int (xs 2)]) (rest := []) S (c_X9_agree l D k q wf (xs 1) (xs 2)) lkL_186 ok_X9_agree ⟨rfl, rfl, Nat.le_of_ble_eq_true rfl, Nat.le_of_ble_eq_true rfl⟩ (fw_V (ci := 9) (q0 := 0) hF rfl rfl) rfl hl.1 rfl (Nat.le_of_ble_eq_true rfl) hcs dL_law_1513 (fun r_1 er_1 => ?_)
  subst er_1
  refine lv_aload_n hx hb dL_law_1516 rfl (lv_at hl 2 rfl) ?_
  refine lv_aload_n hx hb dL_law_1517 rfl (lv_at hl 0 rfl) ?_
  refine lv_iload_n hx hb dL_law_1518 rfl (lv_at hl 3 rfl) ?_
  refine lv_iconst (v := 1) hx hb dL_law_1519 (by decide) ?_
  refine lv_iadd hx hb dL_law_1520 ?_
  refine k_top (y := 1) (by decide) ?_
  refine va_sld hx hb hX hbl hbA hS (by unfold vp_in; decide) dL_law_1521 ?_
  refine k_top (y := xs 1) (congrArg xs (by decide)) ?_
  refine lv_aload_n hx hb dL_law_1522 rfl (lv_at hl 0 rfl) ?_
  refine lv_iload_n hx hb dL_law_1523 rfl (lv_at hl 3 rfl) ?_
  refine lv_iconst (v := 2) hx hb dL_law_1524 (by decide) ?_
  refine lv_iadd hx hb dL_law_1525 ?_
  refine k_top (y := 2) (by decide) ?_
  refine va_sld hx hb hX hbl hbA hS (by unfold vp_in; decide) dL_law_1526 ?_
  refine k_top (y := xs 2) (congrArg xs (by decide)) ?_
  refine ro_V (As := [.int (xs 1), .int (xs 2)]) (rest := [.int (-2)]) S (c_X10_agree l D k u mf (xs 1) (xs 2)) lkL_189 ok_X10_agree ⟨rfl, rfl, Nat.le_of_ble_eq_true rfl, Nat.le_of_ble_eq_true rfl⟩ (mw_V (ci := 10) (q0 := 0) hM rfl rfl) rfl hl.1 rfl (Nat.le_of_ble_eq_true rfl) hcs dL_law_1527 (fun r_2 er_2 => ?_)
  subst er_2
  refine lv_icmp_eq (tgt := 2212) hx hb dL_law_1530 (by decide) (fun _ => hend) (fun c_3 => absurd rfl c_3)
set_option maxHeartbeats 4000000 in
set_option maxRecDepth 100000 in
theorem case_43 {p : Program} {l : Launch} {e : Env} {s : State} {m : MethodId} {below : List Frame} {meth : Method} {c : Code} {H : Heap} {locs : List Loc} {cells slots : Nat} {Q : State → Prop} {b : Nat} {xs : Nat → Int32} {D : va_G} {k : Nat → ClassId} {q : Nat → Nat} {wf : Nat → Int32} {u : Nat → Nat} {mf : Nat → Int32} {ls : Array Slot} (C : LC p s m c b xs D k q wf u mf H locs ls cells slots) (hend : W p l e room_1 s m #[Value.ref b] below meth c H locs cells slots Q (F0 m 2212 ls [])) : W p l e room_1 s m #[Value.ref b] below meth c H locs cells slots Q (F0 m 1535 ls []) := by
  obtain ⟨S, hF, hM, hX, hbl, hS, hl, hcs⟩ := C
  have hx := S.1
  have hb := S.2.1
  have hown := S.2.2.2.1
  have hT := S.2.2.2.2
  have hbA : ¬ (fun z : Nat => s.heap.size ≤ z) b := Nat.not_le.mpr hbl
  refine lv_aload_n hx hb dL_law_1535 rfl (lv_at hl 1 rfl) ?_
  refine lv_aload_n hx hb dL_law_1536 rfl (lv_at hl 0 rfl) ?_
  refine lv_iload_n hx hb dL_law_1537 rfl (lv_at hl 3 rfl) ?_
  refine lv_iconst (v := 1) hx hb dL_law_1538 (by decide) ?_
  refine lv_iadd hx hb dL_law_1539 ?_
  refine k_top (y := 1) (by decide) ?_
  refine va_sld hx hb hX hbl hbA hS (by unfold vp_in; decide) dL_law_1540 ?_
  refine k_top (y := xs 1) (congrArg xs (by decide)) ?_
  refine ro_V (As := [.int (xs 1)]) (rest := []) S (c_X9_mate l D k q wf (xs 1)) lkL_190 ok_X9_mate ⟨rfl, rfl, Nat.le_of_ble_eq_true rfl, Nat.le_of_ble_eq_true rfl⟩ (fw_V (ci := 9) (q0 := 0) hF rfl rfl) rfl hl.1 rfl (Nat.le_of_ble_eq_true rfl) hcs dL_law_1541 (fun r_1 er_1 => ?_)
  subst er_1
  refine lv_aload_n hx hb dL_law_1544 rfl (lv_at hl 2 rfl) ?_
  refine lv_aload_n hx hb dL_law_1545 rfl (lv_at hl 0 rfl) ?_
  refine lv_iload_n hx hb dL_law_1546 rfl (lv_at hl 3 rfl) ?_
  refine lv_iconst (v := 1) hx hb dL_law_1547 (by decide) ?_
  refine lv_iadd hx hb dL_law_1548 ?_
  refine k_top (y := 1) (by decide) ?_
  refine va_sld hx hb hX hbl hbA hS (by unfold vp_in; decide) dL_law_1549 ?_
  refine k_top (y := xs 1) (congrArg xs (by decide)) ?_
  refine ro_V (As := [.int (xs 1)]) (rest := [.int (-2)]) S (c_X10_mate l D k u mf (xs 1)) lkL_193 ok_X10_mate ⟨rfl, rfl, Nat.le_of_ble_eq_true rfl, Nat.le_of_ble_eq_true rfl⟩ (mw_V (ci := 10) (q0 := 0) hM rfl rfl) rfl hl.1 rfl (Nat.le_of_ble_eq_true rfl) hcs dL_law_1550 (fun r_2 er_2 => ?_)
  subst er_2
  refine lv_icmp_eq (tgt := 2212) hx hb dL_law_1553 (by decide) (fun _ => hend) (fun c_3 => absurd rfl c_3)
set_option maxHeartbeats 4000000 in
set_option maxRecDepth 100000 in
theorem case_44 {p : Program} {l : Launch} {e : Env} {s : State} {m : MethodId} {below : List Frame} {meth : Method} {c : Code} {H : Heap} {locs : List Loc} {cells slots : Nat} {Q : State → Prop} {b : Nat} {xs : Nat → Int32} {D : va_G} {k : Nat → ClassId} {q : Nat → Nat} {wf : Nat → Int32} {u : Nat → Nat} {mf : Nat → Int32} {ls : Array Slot} (C : LC p s m c b xs D k q wf u mf H locs ls cells slots) (hend : W p l e room_1 s m #[Value.ref b] below meth c H locs cells slots Q (F0 m 2212 ls [])) : W p l e room_1 s m #[Value.ref b] below meth c H locs cells slots Q (F0 m 1558 ls []) := by
  obtain ⟨S, hF, hM, hX, hbl, hS, hl, hcs⟩ := C
  have hx := S.1
  have hb := S.2.1
  have hown := S.2.2.2.1
  have hT := S.2.2.2.2
  have hbA : ¬ (fun z : Nat => s.heap.size ≤ z) b := Nat.not_le.mpr hbl
  refine lv_aload_n hx hb dL_law_1558 rfl (lv_at hl 1 rfl) ?_
  refine lv_aload_n hx hb dL_law_1559 rfl (lv_at hl 0 rfl) ?_
  refine lv_iload_n hx hb dL_law_1560 rfl (lv_at hl 3 rfl) ?_
  refine lv_iconst (v := 1) hx hb dL_law_1561 (by decide) ?_
  refine lv_iadd hx hb dL_law_1562 ?_
  refine k_top (y := 1) (by decide) ?_
  refine va_sld hx hb hX hbl hbA hS (by unfold vp_in; decide) dL_law_1563 ?_
  refine k_top (y := xs 1) (congrArg xs (by decide)) ?_
  refine lv_aload_n hx hb dL_law_1564 rfl (lv_at hl 0 rfl) ?_
  refine lv_iload_n hx hb dL_law_1565 rfl (lv_at hl 3 rfl) ?_
  refine lv_iconst (v := 2) hx hb dL_law_1566 (by decide) ?_
  refine lv_iadd hx hb dL_law_1567 ?_
  refine k_top (y := 2) (by decide) ?_
  refine va_sld hx hb hX hbl hbA hS (by unfold vp_in; decide) dL_law_1568 ?_
  refine k_top (y := xs 2) (congrArg xs (by decide)) ?_
  refine ro_V (As := [.int (xs 1), .int (xs 2)]) (rest := []) S (c_X9_teach l D k q wf (xs 1) (xs 2)) lkL_194 ok_X9_teach ⟨rfl, rfl, Nat.le_of_ble_eq_true rfl, Nat.le_of_ble_eq_true rfl⟩ (fw_V (ci := 9) (q0 := 0) hF rfl rfl) rfl hl.1 rfl (Nat.le_of_ble_eq_true rfl) hcs dL_law_1569 (fun r_1 er_1 => ?_)
  subst er_1
  refine lv_aload_n hx hb dL_law_1572 rfl (lv_at hl 2 rfl) ?_
  refine lv_aload_n hx hb dL_law_1573 rfl (lv_at hl 0 rfl) ?_
  refine lv_iload_n hx hb dL_law_1574 rfl (lv_at hl 3 rfl) ?_
  refine lv_iconst (v := 1) hx hb dL_law_1575 (by decide) ?_
  refine lv_iadd hx hb dL_law_1576 ?_
  refine k_top (y := 1) (by decide) ?_
  refine va_sld hx hb hX hbl hbA hS (by unfold vp_in; decide) dL_law_1577 ?_
  refine k_top (y := xs 1) (congrArg xs (by decide)) ?_
  refine lv_aload_n hx hb dL_law_1578 rfl (lv_at hl 0 rfl) ?_
  refine lv_iload_n hx hb dL_law_1579 rfl (lv_at hl 3 rfl) ?_
  refine lv_iconst (v := 2) hx hb dL_law_1580 (by decide) ?_
  refine lv_iadd hx hb dL_law_1581 ?_
  refine k_top (y := 2) (by decide) ?_
  refine va_sld hx hb hX hbl hbA hS (by unfold vp_in; decide) dL_law_1582 ?_
  refine k_top (y := xs 2) (congrArg xs (by decide)) ?_
  refine ro_V (As := [.int (xs 1), .int (xs 2)]) (rest := [.int (-2)]) S (c_X10_teach l D k u mf (xs 1) (xs 2)) lkL_197 ok_X10_teach ⟨rfl, rfl, Nat.le_of_ble_eq_true rfl, Nat.le_of_ble_eq_true rfl⟩ (mw_V (ci := 10) (q0 := 0) hM rfl rfl) rfl hl.1 rfl (Nat.le_of_ble_eq_true rfl) hcs dL_law_1583 (fun r_2 er_2 => ?_)
  subst er_2
  refine lv_icmp_eq (tgt := 2212) hx hb dL_law_1586 (by decide) (fun _ => hend) (fun c_3 => absurd rfl c_3)
set_option maxHeartbeats 4000000 in
set_option maxRecDepth 100000 in
theorem case_45 {p : Program} {l : Launch} {e : Env} {s : State} {m : MethodId} {below : List Frame} {meth : Method} {c : Code} {H : Heap} {locs : List Loc} {cells slots : Nat} {Q : State → Prop} {b : Nat} {xs : Nat → Int32} {D : va_G} {k : Nat → ClassId} {q : Nat → Nat} {wf : Nat → Int32} {u : Nat → Nat} {mf : Nat → Int32} {ls : Array Slot} (C : LC p s m c b xs D k q wf u mf H locs ls cells slots) (hend : W p l e room_1 s m #[Value.ref b] below meth c H locs cells slots Q (F0 m 2212 ls [])) : W p l e room_1 s m #[Value.ref b] below meth c H locs cells slots Q (F0 m 1591 ls []) := by
  obtain ⟨S, hF, hM, hX, hbl, hS, hl, hcs⟩ := C
  have hx := S.1
  have hb := S.2.1
  have hown := S.2.2.2.1
  have hT := S.2.2.2.2
  have hbA : ¬ (fun z : Nat => s.heap.size ≤ z) b := Nat.not_le.mpr hbl
  refine lv_aload_n hx hb dL_law_1591 rfl (lv_at hl 1 rfl) ?_
  refine lv_aload_n hx hb dL_law_1592 rfl (lv_at hl 0 rfl) ?_
  refine lv_iload_n hx hb dL_law_1593 rfl (lv_at hl 3 rfl) ?_
  refine lv_iconst (v := 1) hx hb dL_law_1594 (by decide) ?_
  refine lv_iadd hx hb dL_law_1595 ?_
  refine k_top (y := 1) (by decide) ?_
  refine va_sld hx hb hX hbl hbA hS (by unfold vp_in; decide) dL_law_1596 ?_
  refine k_top (y := xs 1) (congrArg xs (by decide)) ?_
  refine lv_aload_n hx hb dL_law_1597 rfl (lv_at hl 0 rfl) ?_
  refine lv_iload_n hx hb dL_law_1598 rfl (lv_at hl 3 rfl) ?_
  refine lv_iconst (v := 2) hx hb dL_law_1599 (by decide) ?_
  refine lv_iadd hx hb dL_law_1600 ?_
  refine k_top (y := 2) (by decide) ?_
  refine va_sld hx hb hX hbl hbA hS (by unfold vp_in; decide) dL_law_1601 ?_
  refine k_top (y := xs 2) (congrArg xs (by decide)) ?_
  refine ro_V (As := [.int (xs 1), .int (xs 2)]) (rest := []) S (c_X9_blind l D k q wf (xs 1) (xs 2)) lkL_198 ok_X9_blind ⟨rfl, rfl, Nat.le_of_ble_eq_true rfl, Nat.le_of_ble_eq_true rfl⟩ (fw_V (ci := 9) (q0 := 0) hF rfl rfl) rfl hl.1 rfl (Nat.le_of_ble_eq_true rfl) hcs dL_law_1602 (fun r_1 er_1 => ?_)
  subst er_1
  refine lv_aload_n hx hb dL_law_1605 rfl (lv_at hl 2 rfl) ?_
  refine lv_aload_n hx hb dL_law_1606 rfl (lv_at hl 0 rfl) ?_
  refine lv_iload_n hx hb dL_law_1607 rfl (lv_at hl 3 rfl) ?_
  refine lv_iconst (v := 1) hx hb dL_law_1608 (by decide) ?_
  refine lv_iadd hx hb dL_law_1609 ?_
  refine k_top (y := 1) (by decide) ?_
  refine va_sld hx hb hX hbl hbA hS (by unfold vp_in; decide) dL_law_1610 ?_
  refine k_top (y := xs 1) (congrArg xs (by decide)) ?_
  refine lv_aload_n hx hb dL_law_1611 rfl (lv_at hl 0 rfl) ?_
  refine lv_iload_n hx hb dL_law_1612 rfl (lv_at hl 3 rfl) ?_
  refine lv_iconst (v := 2) hx hb dL_law_1613 (by decide) ?_
  refine lv_iadd hx hb dL_law_1614 ?_
  refine k_top (y := 2) (by decide) ?_
  refine va_sld hx hb hX hbl hbA hS (by unfold vp_in; decide) dL_law_1615 ?_
  refine k_top (y := xs 2) (congrArg xs (by decide)) ?_
  refine ro_V (As := [.int (xs 1), .int (xs 2)]) (rest := [.int (-2)]) S (c_X10_blind l D k u mf (xs 1) (xs 2)) lkL_201 ok_X10_blind ⟨rfl, rfl, Nat.le_of_ble_eq_true rfl, Nat.le_of_ble_eq_true rfl⟩ (mw_V (ci := 10) (q0 := 0) hM rfl rfl) rfl hl.1 rfl (Nat.le_of_ble_eq_true rfl) hcs dL_law_1616 (fun r_2 er_2 => ?_)
  subst er_2
  refine lv_icmp_eq (tgt := 2212) hx hb dL_law_1619 (by decide) (fun _ => hend) (fun c_3 => absurd rfl c_3)
set_option maxHeartbeats 4000000 in
set_option maxRecDepth 100000 in
theorem case_46 {p : Program} {l : Launch} {e : Env} {s : State} {m : MethodId} {below : List Frame} {meth : Method} {c : Code} {H : Heap} {locs : List Loc} {cells slots : Nat} {Q : State → Prop} {b : Nat} {xs : Nat → Int32} {D : va_G} {k : Nat → ClassId} {q : Nat → Nat} {wf : Nat → Int32} {u : Nat → Nat} {mf : Nat → Int32} {ls : Array Slot} (C : LC p s m c b xs D k q wf u mf H locs ls cells slots) (hend : W p l e room_1 s m #[Value.ref b] below meth c H locs cells slots Q (F0 m 2212 ls [])) : W p l e room_1 s m #[Value.ref b] below meth c H locs cells slots Q (F0 m 1624 ls []) := by
  obtain ⟨S, hF, hM, hX, hbl, hS, hl, hcs⟩ := C
  have hx := S.1
  have hb := S.2.1
  have hown := S.2.2.2.1
  have hT := S.2.2.2.2
  have hbA : ¬ (fun z : Nat => s.heap.size ≤ z) b := Nat.not_le.mpr hbl
  refine lv_aload_n hx hb dL_law_1624 rfl (lv_at hl 1 rfl) ?_
  refine lv_aload_n hx hb dL_law_1625 rfl (lv_at hl 0 rfl) ?_
  refine lv_iload_n hx hb dL_law_1626 rfl (lv_at hl 3 rfl) ?_
  refine lv_iconst (v := 1) hx hb dL_law_1627 (by decide) ?_
  refine lv_iadd hx hb dL_law_1628 ?_
  refine k_top (y := 1) (by decide) ?_
  refine va_sld hx hb hX hbl hbA hS (by unfold vp_in; decide) dL_law_1629 ?_
  refine k_top (y := xs 1) (congrArg xs (by decide)) ?_
  refine lv_aload_n hx hb dL_law_1630 rfl (lv_at hl 0 rfl) ?_
  refine lv_iload_n hx hb dL_law_1631 rfl (lv_at hl 3 rfl) ?_
  refine lv_iconst (v := 2) hx hb dL_law_1632 (by decide) ?_
  refine lv_iadd hx hb dL_law_1633 ?_
  refine k_top (y := 2) (by decide) ?_
  refine va_sld hx hb hX hbl hbA hS (by unfold vp_in; decide) dL_law_1634 ?_
  refine k_top (y := xs 2) (congrArg xs (by decide)) ?_
  refine ro_V (As := [.int (xs 1), .int (xs 2)]) (rest := []) S (c_X9_blinds l D k q wf (xs 1) (xs 2)) lkL_202 ok_X9_blinds ⟨rfl, rfl, Nat.le_of_ble_eq_true rfl, Nat.le_of_ble_eq_true rfl⟩ (fw_V (ci := 9) (q0 := 0) hF rfl rfl) rfl hl.1 rfl (Nat.le_of_ble_eq_true rfl) hcs dL_law_1635 (fun r_1 er_1 => ?_)
  subst er_1
  refine lv_aload_n hx hb dL_law_1638 rfl (lv_at hl 2 rfl) ?_
  refine lv_aload_n hx hb dL_law_1639 rfl (lv_at hl 0 rfl) ?_
  refine lv_iload_n hx hb dL_law_1640 rfl (lv_at hl 3 rfl) ?_
  refine lv_iconst (v := 1) hx hb dL_law_1641 (by decide) ?_
  refine lv_iadd hx hb dL_law_1642 ?_
  refine k_top (y := 1) (by decide) ?_
  refine va_sld hx hb hX hbl hbA hS (by unfold vp_in; decide) dL_law_1643 ?_
  refine k_top (y := xs 1) (congrArg xs (by decide)) ?_
  refine lv_aload_n hx hb dL_law_1644 rfl (lv_at hl 0 rfl) ?_
  refine lv_iload_n hx hb dL_law_1645 rfl (lv_at hl 3 rfl) ?_
  refine lv_iconst (v := 2) hx hb dL_law_1646 (by decide) ?_
  refine lv_iadd hx hb dL_law_1647 ?_
  refine k_top (y := 2) (by decide) ?_
  refine va_sld hx hb hX hbl hbA hS (by unfold vp_in; decide) dL_law_1648 ?_
  refine k_top (y := xs 2) (congrArg xs (by decide)) ?_
  refine ro_V (As := [.int (xs 1), .int (xs 2)]) (rest := [.int (-2)]) S (c_X10_blinds l D k u mf (xs 1) (xs 2)) lkL_205 ok_X10_blinds ⟨rfl, rfl, Nat.le_of_ble_eq_true rfl, Nat.le_of_ble_eq_true rfl⟩ (mw_V (ci := 10) (q0 := 0) hM rfl rfl) rfl hl.1 rfl (Nat.le_of_ble_eq_true rfl) hcs dL_law_1649 (fun r_2 er_2 => ?_)
  subst er_2
  refine lv_icmp_eq (tgt := 2212) hx hb dL_law_1652 (by decide) (fun _ => hend) (fun c_3 => absurd rfl c_3)
set_option maxHeartbeats 4000000 in
set_option maxRecDepth 100000 in
theorem case_47 {p : Program} {l : Launch} {e : Env} {s : State} {m : MethodId} {below : List Frame} {meth : Method} {c : Code} {H : Heap} {locs : List Loc} {cells slots : Nat} {Q : State → Prop} {b : Nat} {xs : Nat → Int32} {D : va_G} {k : Nat → ClassId} {q : Nat → Nat} {wf : Nat → Int32} {u : Nat → Nat} {mf : Nat → Int32} {ls : Array Slot} (C : LC p s m c b xs D k q wf u mf H locs ls cells slots) (hend : W p l e room_1 s m #[Value.ref b] below meth c H locs cells slots Q (F0 m 2212 ls [])) : W p l e room_1 s m #[Value.ref b] below meth c H locs cells slots Q (F0 m 1657 ls []) := by
  obtain ⟨S, hF, hM, hX, hbl, hS, hl, hcs⟩ := C
  have hx := S.1
  have hb := S.2.1
  have hown := S.2.2.2.1
  have hT := S.2.2.2.2
  have hbA : ¬ (fun z : Nat => s.heap.size ≤ z) b := Nat.not_le.mpr hbl
  refine lv_aload_n hx hb dL_law_1657 rfl (lv_at hl 1 rfl) ?_
  refine lv_aload_n hx hb dL_law_1658 rfl (lv_at hl 0 rfl) ?_
  refine lv_iload_n hx hb dL_law_1659 rfl (lv_at hl 3 rfl) ?_
  refine lv_iconst (v := 1) hx hb dL_law_1660 (by decide) ?_
  refine lv_iadd hx hb dL_law_1661 ?_
  refine k_top (y := 1) (by decide) ?_
  refine va_sld hx hb hX hbl hbA hS (by unfold vp_in; decide) dL_law_1662 ?_
  refine k_top (y := xs 1) (congrArg xs (by decide)) ?_
  refine lv_aload_n hx hb dL_law_1663 rfl (lv_at hl 0 rfl) ?_
  refine lv_iload_n hx hb dL_law_1664 rfl (lv_at hl 3 rfl) ?_
  refine lv_iconst (v := 2) hx hb dL_law_1665 (by decide) ?_
  refine lv_iadd hx hb dL_law_1666 ?_
  refine k_top (y := 2) (by decide) ?_
  refine va_sld hx hb hX hbl hbA hS (by unfold vp_in; decide) dL_law_1667 ?_
  refine k_top (y := xs 2) (congrArg xs (by decide)) ?_
  refine ro_V (As := [.int (xs 1), .int (xs 2)]) (rest := []) S (c_X9_lasts l D k q wf (xs 1) (xs 2)) lkL_206 ok_X9_lasts ⟨rfl, rfl, Nat.le_of_ble_eq_true rfl, Nat.le_of_ble_eq_true rfl⟩ (fw_V (ci := 9) (q0 := 0) hF rfl rfl) rfl hl.1 rfl (Nat.le_of_ble_eq_true rfl) hcs dL_law_1668 (fun r_1 er_1 => ?_)
  subst er_1
  refine lv_aload_n hx hb dL_law_1671 rfl (lv_at hl 2 rfl) ?_
  refine lv_aload_n hx hb dL_law_1672 rfl (lv_at hl 0 rfl) ?_
  refine lv_iload_n hx hb dL_law_1673 rfl (lv_at hl 3 rfl) ?_
  refine lv_iconst (v := 1) hx hb dL_law_1674 (by decide) ?_
  refine lv_iadd hx hb dL_law_1675 ?_
  refine k_top (y := 1) (by decide) ?_
  refine va_sld hx hb hX hbl hbA hS (by unfold vp_in; decide) dL_law_1676 ?_
  refine k_top (y := xs 1) (congrArg xs (by decide)) ?_
  refine lv_aload_n hx hb dL_law_1677 rfl (lv_at hl 0 rfl) ?_
  refine lv_iload_n hx hb dL_law_1678 rfl (lv_at hl 3 rfl) ?_
  refine lv_iconst (v := 2) hx hb dL_law_1679 (by decide) ?_
  refine lv_iadd hx hb dL_law_1680 ?_
  refine k_top (y := 2) (by decide) ?_
  refine va_sld hx hb hX hbl hbA hS (by unfold vp_in; decide) dL_law_1681 ?_
  refine k_top (y := xs 2) (congrArg xs (by decide)) ?_
  refine ro_V (As := [.int (xs 1), .int (xs 2)]) (rest := [.int (-2)]) S (c_X10_lasts l D k u mf (xs 1) (xs 2)) lkL_209 ok_X10_lasts ⟨rfl, rfl, Nat.le_of_ble_eq_true rfl, Nat.le_of_ble_eq_true rfl⟩ (mw_V (ci := 10) (q0 := 0) hM rfl rfl) rfl hl.1 rfl (Nat.le_of_ble_eq_true rfl) hcs dL_law_1682 (fun r_2 er_2 => ?_)
  subst er_2
  refine lv_icmp_eq (tgt := 2212) hx hb dL_law_1685 (by decide) (fun _ => hend) (fun c_3 => absurd rfl c_3)
set_option maxHeartbeats 4000000 in
set_option maxRecDepth 100000 in
theorem case_48 {p : Program} {l : Launch} {e : Env} {s : State} {m : MethodId} {below : List Frame} {meth : Method} {c : Code} {H : Heap} {locs : List Loc} {cells slots : Nat} {Q : State → Prop} {b : Nat} {xs : Nat → Int32} {D : va_G} {k : Nat → ClassId} {q : Nat → Nat} {wf : Nat → Int32} {u : Nat → Nat} {mf : Nat → Int32} {ls : Array Slot} (C : LC p s m c b xs D k q wf u mf H locs ls cells slots) (hend : W p l e room_1 s m #[Value.ref b] below meth c H locs cells slots Q (F0 m 2212 ls [])) : W p l e room_1 s m #[Value.ref b] below meth c H locs cells slots Q (F0 m 1690 ls []) := by
  obtain ⟨S, hF, hM, hX, hbl, hS, hl, hcs⟩ := C
  have hx := S.1
  have hb := S.2.1
  have hown := S.2.2.2.1
  have hT := S.2.2.2.2
  have hbA : ¬ (fun z : Nat => s.heap.size ≤ z) b := Nat.not_le.mpr hbl
  refine lv_aload_n hx hb dL_law_1690 rfl (lv_at hl 1 rfl) ?_
  refine lv_aload_n hx hb dL_law_1691 rfl (lv_at hl 0 rfl) ?_
  refine lv_iload_n hx hb dL_law_1692 rfl (lv_at hl 3 rfl) ?_
  refine lv_iconst (v := 1) hx hb dL_law_1693 (by decide) ?_
  refine lv_iadd hx hb dL_law_1694 ?_
  refine k_top (y := 1) (by decide) ?_
  refine va_sld hx hb hX hbl hbA hS (by unfold vp_in; decide) dL_law_1695 ?_
  refine k_top (y := xs 1) (congrArg xs (by decide)) ?_
  refine lv_aload_n hx hb dL_law_1696 rfl (lv_at hl 0 rfl) ?_
  refine lv_iload_n hx hb dL_law_1697 rfl (lv_at hl 3 rfl) ?_
  refine lv_iconst (v := 2) hx hb dL_law_1698 (by decide) ?_
  refine lv_iadd hx hb dL_law_1699 ?_
  refine k_top (y := 2) (by decide) ?_
  refine va_sld hx hb hX hbl hbA hS (by unfold vp_in; decide) dL_law_1700 ?_
  refine k_top (y := xs 2) (congrArg xs (by decide)) ?_
  refine lv_aload_n hx hb dL_law_1701 rfl (lv_at hl 0 rfl) ?_
  refine lv_iload_n hx hb dL_law_1702 rfl (lv_at hl 3 rfl) ?_
  refine lv_iconst (v := 3) hx hb dL_law_1703 (by decide) ?_
  refine lv_iadd hx hb dL_law_1704 ?_
  refine k_top (y := 3) (by decide) ?_
  refine va_sld hx hb hX hbl hbA hS (by unfold vp_in; decide) dL_law_1705 ?_
  refine k_top (y := xs 3) (congrArg xs (by decide)) ?_
  refine ro_V (As := [.int (xs 1), .int (xs 2), .int (xs 3)]) (rest := []) S (c_X9_share l D k q wf (xs 1) (xs 2) (xs 3)) lkL_210 ok_X9_share ⟨rfl, rfl, Nat.le_of_ble_eq_true rfl, Nat.le_of_ble_eq_true rfl⟩ (fw_V (ci := 9) (q0 := 0) hF rfl rfl) rfl hl.1 rfl (Nat.le_of_ble_eq_true rfl) hcs dL_law_1706 (fun r_1 er_1 => ?_)
  subst er_1
  refine lv_aload_n hx hb dL_law_1709 rfl (lv_at hl 2 rfl) ?_
  refine lv_aload_n hx hb dL_law_1710 rfl (lv_at hl 0 rfl) ?_
  refine lv_iload_n hx hb dL_law_1711 rfl (lv_at hl 3 rfl) ?_
  refine lv_iconst (v := 1) hx hb dL_law_1712 (by decide) ?_
  refine lv_iadd hx hb dL_law_1713 ?_
  refine k_top (y := 1) (by decide) ?_
  refine va_sld hx hb hX hbl hbA hS (by unfold vp_in; decide) dL_law_1714 ?_
  refine k_top (y := xs 1) (congrArg xs (by decide)) ?_
  refine lv_aload_n hx hb dL_law_1715 rfl (lv_at hl 0 rfl) ?_
  refine lv_iload_n hx hb dL_law_1716 rfl (lv_at hl 3 rfl) ?_
  refine lv_iconst (v := 2) hx hb dL_law_1717 (by decide) ?_
  refine lv_iadd hx hb dL_law_1718 ?_
  refine k_top (y := 2) (by decide) ?_
  refine va_sld hx hb hX hbl hbA hS (by unfold vp_in; decide) dL_law_1719 ?_
  refine k_top (y := xs 2) (congrArg xs (by decide)) ?_
  refine lv_aload_n hx hb dL_law_1720 rfl (lv_at hl 0 rfl) ?_
  refine lv_iload_n hx hb dL_law_1721 rfl (lv_at hl 3 rfl) ?_
  refine lv_iconst (v := 3) hx hb dL_law_1722 (by decide) ?_
  refine lv_iadd hx hb dL_law_1723 ?_
  refine k_top (y := 3) (by decide) ?_
  refine va_sld hx hb hX hbl hbA hS (by unfold vp_in; decide) dL_law_1724 ?_
  refine k_top (y := xs 3) (congrArg xs (by decide)) ?_
  refine ro_V (As := [.int (xs 1), .int (xs 2), .int (xs 3)]) (rest := [.int (-2)]) S (c_X10_share l D k u mf (xs 1) (xs 2) (xs 3)) lkL_213 ok_X10_share ⟨rfl, rfl, Nat.le_of_ble_eq_true rfl, Nat.le_of_ble_eq_true rfl⟩ (mw_V (ci := 10) (q0 := 0) hM rfl rfl) rfl hl.1 rfl (Nat.le_of_ble_eq_true rfl) hcs dL_law_1725 (fun r_2 er_2 => ?_)
  subst er_2
  refine lv_icmp_eq (tgt := 2212) hx hb dL_law_1728 (by decide) (fun _ => hend) (fun c_3 => absurd rfl c_3)
set_option maxHeartbeats 4000000 in
set_option maxRecDepth 100000 in
theorem case_49 {p : Program} {l : Launch} {e : Env} {s : State} {m : MethodId} {below : List Frame} {meth : Method} {c : Code} {H : Heap} {locs : List Loc} {cells slots : Nat} {Q : State → Prop} {b : Nat} {xs : Nat → Int32} {D : va_G} {k : Nat → ClassId} {q : Nat → Nat} {wf : Nat → Int32} {u : Nat → Nat} {mf : Nat → Int32} {ls : Array Slot} (C : LC p s m c b xs D k q wf u mf H locs ls cells slots) (hend : W p l e room_1 s m #[Value.ref b] below meth c H locs cells slots Q (F0 m 2212 ls [])) : W p l e room_1 s m #[Value.ref b] below meth c H locs cells slots Q (F0 m 1733 ls []) := by
  obtain ⟨S, hF, hM, hX, hbl, hS, hl, hcs⟩ := C
  have hx := S.1
  have hb := S.2.1
  have hown := S.2.2.2.1
  have hT := S.2.2.2.2
  have hbA : ¬ (fun z : Nat => s.heap.size ≤ z) b := Nat.not_le.mpr hbl
  refine lv_aload_n hx hb dL_law_1733 rfl (lv_at hl 1 rfl) ?_
  refine lv_aload_n hx hb dL_law_1734 rfl (lv_at hl 0 rfl) ?_
  refine lv_iload_n hx hb dL_law_1735 rfl (lv_at hl 3 rfl) ?_
  refine lv_iconst (v := 1) hx hb dL_law_1736 (by decide) ?_
  refine lv_iadd hx hb dL_law_1737 ?_
  refine k_top (y := 1) (by decide) ?_
  refine va_sld hx hb hX hbl hbA hS (by unfold vp_in; decide) dL_law_1738 ?_
  refine k_top (y := xs 1) (congrArg xs (by decide)) ?_
  refine ro_V (As := [.int (xs 1)]) (rest := []) S (c_X9_worth l D k q wf (xs 1)) lkL_214 ok_X9_worth ⟨rfl, rfl, Nat.le_of_ble_eq_true rfl, Nat.le_of_ble_eq_true rfl⟩ (fw_V (ci := 9) (q0 := 0) hF rfl rfl) rfl hl.1 rfl (Nat.le_of_ble_eq_true rfl) hcs dL_law_1739 (fun r_1 er_1 => ?_)
  subst er_1
  refine lv_aload_n hx hb dL_law_1742 rfl (lv_at hl 2 rfl) ?_
  refine lv_aload_n hx hb dL_law_1743 rfl (lv_at hl 0 rfl) ?_
  refine lv_iload_n hx hb dL_law_1744 rfl (lv_at hl 3 rfl) ?_
  refine lv_iconst (v := 1) hx hb dL_law_1745 (by decide) ?_
  refine lv_iadd hx hb dL_law_1746 ?_
  refine k_top (y := 1) (by decide) ?_
  refine va_sld hx hb hX hbl hbA hS (by unfold vp_in; decide) dL_law_1747 ?_
  refine k_top (y := xs 1) (congrArg xs (by decide)) ?_
  refine ro_V (As := [.int (xs 1)]) (rest := [.int (-2)]) S (c_X10_worth l D k u mf (xs 1)) lkL_217 ok_X10_worth ⟨rfl, rfl, Nat.le_of_ble_eq_true rfl, Nat.le_of_ble_eq_true rfl⟩ (mw_V (ci := 10) (q0 := 0) hM rfl rfl) rfl hl.1 rfl (Nat.le_of_ble_eq_true rfl) hcs dL_law_1748 (fun r_2 er_2 => ?_)
  subst er_2
  refine lv_icmp_eq (tgt := 2212) hx hb dL_law_1751 (by decide) (fun _ => hend) (fun c_3 => absurd rfl c_3)
set_option maxHeartbeats 4000000 in
set_option maxRecDepth 100000 in
theorem case_50 {p : Program} {l : Launch} {e : Env} {s : State} {m : MethodId} {below : List Frame} {meth : Method} {c : Code} {H : Heap} {locs : List Loc} {cells slots : Nat} {Q : State → Prop} {b : Nat} {xs : Nat → Int32} {D : va_G} {k : Nat → ClassId} {q : Nat → Nat} {wf : Nat → Int32} {u : Nat → Nat} {mf : Nat → Int32} {ls : Array Slot} (C : LC p s m c b xs D k q wf u mf H locs ls cells slots) (hend : W p l e room_1 s m #[Value.ref b] below meth c H locs cells slots Q (F0 m 2212 ls [])) : W p l e room_1 s m #[Value.ref b] below meth c H locs cells slots Q (F0 m 1756 ls []) := by
  obtain ⟨S, hF, hM, hX, hbl, hS, hl, hcs⟩ := C
  have hx := S.1
  have hb := S.2.1
  have hown := S.2.2.2.1
  have hT := S.2.2.2.2
  have hbA : ¬ (fun z : Nat => s.heap.size ≤ z) b := Nat.not_le.mpr hbl
  refine lv_aload_n hx hb dL_law_1756 rfl (lv_at hl 1 rfl) ?_
  refine ro_V (As := []) (rest := []) S (c_X9_smiths l D k q wf ) lkL_218 ok_X9_smiths ⟨rfl, rfl, Nat.le_of_ble_eq_true rfl, Nat.le_of_ble_eq_true rfl⟩ (fw_V (ci := 9) (q0 := 0) hF rfl rfl) rfl hl.1 rfl (Nat.le_of_ble_eq_true rfl) hcs dL_law_1757 (fun r_1 er_1 => ?_)
  subst er_1
  refine lv_aload_n hx hb dL_law_1760 rfl (lv_at hl 2 rfl) ?_
  refine ro_V (As := []) (rest := [.int (-2000000)]) S (c_X10_smiths l D k u mf ) lkL_221 ok_X10_smiths ⟨rfl, rfl, Nat.le_of_ble_eq_true rfl, Nat.le_of_ble_eq_true rfl⟩ (mw_V (ci := 10) (q0 := 0) hM rfl rfl) rfl hl.1 rfl (Nat.le_of_ble_eq_true rfl) hcs dL_law_1761 (fun r_2 er_2 => ?_)
  subst er_2
  refine lv_icmp_eq (tgt := 2212) hx hb dL_law_1764 (by decide) (fun _ => hend) (fun c_3 => absurd rfl c_3)
set_option maxHeartbeats 4000000 in
set_option maxRecDepth 100000 in
theorem case_51 {p : Program} {l : Launch} {e : Env} {s : State} {m : MethodId} {below : List Frame} {meth : Method} {c : Code} {H : Heap} {locs : List Loc} {cells slots : Nat} {Q : State → Prop} {b : Nat} {xs : Nat → Int32} {D : va_G} {k : Nat → ClassId} {q : Nat → Nat} {wf : Nat → Int32} {u : Nat → Nat} {mf : Nat → Int32} {ls : Array Slot} (C : LC p s m c b xs D k q wf u mf H locs ls cells slots) (hend : W p l e room_1 s m #[Value.ref b] below meth c H locs cells slots Q (F0 m 2212 ls [])) : W p l e room_1 s m #[Value.ref b] below meth c H locs cells slots Q (F0 m 1769 ls []) := by
  obtain ⟨S, hF, hM, hX, hbl, hS, hl, hcs⟩ := C
  have hx := S.1
  have hb := S.2.1
  have hown := S.2.2.2.1
  have hT := S.2.2.2.2
  have hbA : ¬ (fun z : Nat => s.heap.size ≤ z) b := Nat.not_le.mpr hbl
  refine lv_aload_n hx hb dL_law_1769 rfl (lv_at hl 1 rfl) ?_
  refine ro_V (As := []) (rest := []) S (c_X9_picks l D k q wf ) lkL_222 ok_X9_picks ⟨rfl, rfl, Nat.le_of_ble_eq_true rfl, Nat.le_of_ble_eq_true rfl⟩ (fw_V (ci := 9) (q0 := 0) hF rfl rfl) rfl hl.1 rfl (Nat.le_of_ble_eq_true rfl) hcs dL_law_1770 (fun r_1 er_1 => ?_)
  subst er_1
  refine lv_aload_n hx hb dL_law_1773 rfl (lv_at hl 2 rfl) ?_
  refine ro_V (As := []) (rest := [.int (-2)]) S (c_X10_picks l D k u mf ) lkL_225 ok_X10_picks ⟨rfl, rfl, Nat.le_of_ble_eq_true rfl, Nat.le_of_ble_eq_true rfl⟩ (mw_V (ci := 10) (q0 := 0) hM rfl rfl) rfl hl.1 rfl (Nat.le_of_ble_eq_true rfl) hcs dL_law_1774 (fun r_2 er_2 => ?_)
  subst er_2
  refine lv_icmp_eq (tgt := 2212) hx hb dL_law_1777 (by decide) (fun _ => hend) (fun c_3 => absurd rfl c_3)
set_option maxHeartbeats 4000000 in
set_option maxRecDepth 100000 in
theorem case_52 {p : Program} {l : Launch} {e : Env} {s : State} {m : MethodId} {below : List Frame} {meth : Method} {c : Code} {H : Heap} {locs : List Loc} {cells slots : Nat} {Q : State → Prop} {b : Nat} {xs : Nat → Int32} {D : va_G} {k : Nat → ClassId} {q : Nat → Nat} {wf : Nat → Int32} {u : Nat → Nat} {mf : Nat → Int32} {ls : Array Slot} (C : LC p s m c b xs D k q wf u mf H locs ls cells slots) (hend : W p l e room_1 s m #[Value.ref b] below meth c H locs cells slots Q (F0 m 2212 ls [])) : W p l e room_1 s m #[Value.ref b] below meth c H locs cells slots Q (F0 m 1782 ls []) := by
  obtain ⟨S, hF, hM, hX, hbl, hS, hl, hcs⟩ := C
  have hx := S.1
  have hb := S.2.1
  have hown := S.2.2.2.1
  have hT := S.2.2.2.2
  have hbA : ¬ (fun z : Nat => s.heap.size ≤ z) b := Nat.not_le.mpr hbl
  refine lv_aload_n hx hb dL_law_1782 rfl (lv_at hl 1 rfl) ?_
  refine lv_aload_n hx hb dL_law_1783 rfl (lv_at hl 0 rfl) ?_
  refine lv_iload_n hx hb dL_law_1784 rfl (lv_at hl 3 rfl) ?_
  refine lv_iconst (v := 1) hx hb dL_law_1785 (by decide) ?_
  refine lv_iadd hx hb dL_law_1786 ?_
  refine k_top (y := 1) (by decide) ?_
  refine va_sld hx hb hX hbl hbA hS (by unfold vp_in; decide) dL_law_1787 ?_
  refine k_top (y := xs 1) (congrArg xs (by decide)) ?_
  refine lv_aload_n hx hb dL_law_1788 rfl (lv_at hl 0 rfl) ?_
  refine lv_iload_n hx hb dL_law_1789 rfl (lv_at hl 3 rfl) ?_
  refine lv_iconst (v := 2) hx hb dL_law_1790 (by decide) ?_
  refine lv_iadd hx hb dL_law_1791 ?_
  refine k_top (y := 2) (by decide) ?_
  refine va_sld hx hb hX hbl hbA hS (by unfold vp_in; decide) dL_law_1792 ?_
  refine k_top (y := xs 2) (congrArg xs (by decide)) ?_
  refine lv_aload_n hx hb dL_law_1793 rfl (lv_at hl 0 rfl) ?_
  refine lv_iload_n hx hb dL_law_1794 rfl (lv_at hl 3 rfl) ?_
  refine lv_iconst (v := 3) hx hb dL_law_1795 (by decide) ?_
  refine lv_iadd hx hb dL_law_1796 ?_
  refine k_top (y := 3) (by decide) ?_
  refine va_sld hx hb hX hbl hbA hS (by unfold vp_in; decide) dL_law_1797 ?_
  refine k_top (y := xs 3) (congrArg xs (by decide)) ?_
  refine lv_aload_n hx hb dL_law_1798 rfl (lv_at hl 0 rfl) ?_
  refine lv_iload_n hx hb dL_law_1799 rfl (lv_at hl 3 rfl) ?_
  refine lv_iconst (v := 4) hx hb dL_law_1800 (by decide) ?_
  refine lv_iadd hx hb dL_law_1801 ?_
  refine k_top (y := 4) (by decide) ?_
  refine va_sld hx hb hX hbl hbA hS (by unfold vp_in; decide) dL_law_1802 ?_
  refine k_top (y := xs 4) (congrArg xs (by decide)) ?_
  refine ro_V (As := [.int (xs 1), .int (xs 2), .int (xs 3), .int (xs 4)]) (rest := []) S (c_X9_drawn l D k q wf (xs 1) (xs 2) (xs 3) (xs 4)) lkL_226 ok_X9_drawn ⟨rfl, rfl, Nat.le_of_ble_eq_true rfl, Nat.le_of_ble_eq_true rfl⟩ (fw_V (ci := 9) (q0 := 0) hF rfl rfl) rfl hl.1 rfl (Nat.le_of_ble_eq_true rfl) hcs dL_law_1803 (fun r_1 er_1 => ?_)
  subst er_1
  refine lv_aload_n hx hb dL_law_1806 rfl (lv_at hl 2 rfl) ?_
  refine lv_aload_n hx hb dL_law_1807 rfl (lv_at hl 0 rfl) ?_
  refine lv_iload_n hx hb dL_law_1808 rfl (lv_at hl 3 rfl) ?_
  refine lv_iconst (v := 1) hx hb dL_law_1809 (by decide) ?_
  refine lv_iadd hx hb dL_law_1810 ?_
  refine k_top (y := 1) (by decide) ?_
  refine va_sld hx hb hX hbl hbA hS (by unfold vp_in; decide) dL_law_1811 ?_
  refine k_top (y := xs 1) (congrArg xs (by decide)) ?_
  refine lv_aload_n hx hb dL_law_1812 rfl (lv_at hl 0 rfl) ?_
  refine lv_iload_n hx hb dL_law_1813 rfl (lv_at hl 3 rfl) ?_
  refine lv_iconst (v := 2) hx hb dL_law_1814 (by decide) ?_
  refine lv_iadd hx hb dL_law_1815 ?_
  refine k_top (y := 2) (by decide) ?_
  refine va_sld hx hb hX hbl hbA hS (by unfold vp_in; decide) dL_law_1816 ?_
  refine k_top (y := xs 2) (congrArg xs (by decide)) ?_
  refine lv_aload_n hx hb dL_law_1817 rfl (lv_at hl 0 rfl) ?_
  refine lv_iload_n hx hb dL_law_1818 rfl (lv_at hl 3 rfl) ?_
  refine lv_iconst (v := 3) hx hb dL_law_1819 (by decide) ?_
  refine lv_iadd hx hb dL_law_1820 ?_
  refine k_top (y := 3) (by decide) ?_
  refine va_sld hx hb hX hbl hbA hS (by unfold vp_in; decide) dL_law_1821 ?_
  refine k_top (y := xs 3) (congrArg xs (by decide)) ?_
  refine lv_aload_n hx hb dL_law_1822 rfl (lv_at hl 0 rfl) ?_
  refine lv_iload_n hx hb dL_law_1823 rfl (lv_at hl 3 rfl) ?_
  refine lv_iconst (v := 4) hx hb dL_law_1824 (by decide) ?_
  refine lv_iadd hx hb dL_law_1825 ?_
  refine k_top (y := 4) (by decide) ?_
  refine va_sld hx hb hX hbl hbA hS (by unfold vp_in; decide) dL_law_1826 ?_
  refine k_top (y := xs 4) (congrArg xs (by decide)) ?_
  refine ro_V (As := [.int (xs 1), .int (xs 2), .int (xs 3), .int (xs 4)]) (rest := [.int (-2)]) S (c_X10_drawn l D k u mf (xs 1) (xs 2) (xs 3) (xs 4)) lkL_230 ok_X10_drawn ⟨rfl, rfl, Nat.le_of_ble_eq_true rfl, Nat.le_of_ble_eq_true rfl⟩ (mw_V (ci := 10) (q0 := 0) hM rfl rfl) rfl hl.1 rfl (Nat.le_of_ble_eq_true rfl) hcs dL_law_1827 (fun r_2 er_2 => ?_)
  subst er_2
  refine lv_icmp_eq (tgt := 2212) hx hb dL_law_1830 (by decide) (fun _ => hend) (fun c_3 => absurd rfl c_3)
set_option maxHeartbeats 4000000 in
set_option maxRecDepth 100000 in
theorem case_53 {p : Program} {l : Launch} {e : Env} {s : State} {m : MethodId} {below : List Frame} {meth : Method} {c : Code} {H : Heap} {locs : List Loc} {cells slots : Nat} {Q : State → Prop} {b : Nat} {xs : Nat → Int32} {D : va_G} {k : Nat → ClassId} {q : Nat → Nat} {wf : Nat → Int32} {u : Nat → Nat} {mf : Nat → Int32} {ls : Array Slot} (C : LC p s m c b xs D k q wf u mf H locs ls cells slots) (hend : W p l e room_1 s m #[Value.ref b] below meth c H locs cells slots Q (F0 m 2212 ls [])) : W p l e room_1 s m #[Value.ref b] below meth c H locs cells slots Q (F0 m 1835 ls []) := by
  obtain ⟨S, hF, hM, hX, hbl, hS, hl, hcs⟩ := C
  have hx := S.1
  have hb := S.2.1
  have hown := S.2.2.2.1
  have hT := S.2.2.2.2
  have hbA : ¬ (fun z : Nat => s.heap.size ≤ z) b := Nat.not_le.mpr hbl
  refine lv_aload_n hx hb dL_law_1835 rfl (lv_at hl 1 rfl) ?_
  refine lv_aload_n hx hb dL_law_1836 rfl (lv_at hl 0 rfl) ?_
  refine lv_iload_n hx hb dL_law_1837 rfl (lv_at hl 3 rfl) ?_
  refine lv_iconst (v := 1) hx hb dL_law_1838 (by decide) ?_
  refine lv_iadd hx hb dL_law_1839 ?_
  refine k_top (y := 1) (by decide) ?_
  refine va_sld hx hb hX hbl hbA hS (by unfold vp_in; decide) dL_law_1840 ?_
  refine k_top (y := xs 1) (congrArg xs (by decide)) ?_
  refine lv_aload_n hx hb dL_law_1841 rfl (lv_at hl 0 rfl) ?_
  refine lv_iload_n hx hb dL_law_1842 rfl (lv_at hl 3 rfl) ?_
  refine lv_iconst (v := 2) hx hb dL_law_1843 (by decide) ?_
  refine lv_iadd hx hb dL_law_1844 ?_
  refine k_top (y := 2) (by decide) ?_
  refine va_sld hx hb hX hbl hbA hS (by unfold vp_in; decide) dL_law_1845 ?_
  refine k_top (y := xs 2) (congrArg xs (by decide)) ?_
  refine lv_aload_n hx hb dL_law_1846 rfl (lv_at hl 0 rfl) ?_
  refine lv_iload_n hx hb dL_law_1847 rfl (lv_at hl 3 rfl) ?_
  refine lv_iconst (v := 3) hx hb dL_law_1848 (by decide) ?_
  refine lv_iadd hx hb dL_law_1849 ?_
  refine k_top (y := 3) (by decide) ?_
  refine va_sld hx hb hX hbl hbA hS (by unfold vp_in; decide) dL_law_1850 ?_
  refine k_top (y := xs 3) (congrArg xs (by decide)) ?_
  refine lv_aload_n hx hb dL_law_1851 rfl (lv_at hl 0 rfl) ?_
  refine lv_iload_n hx hb dL_law_1852 rfl (lv_at hl 3 rfl) ?_
  refine lv_iconst (v := 4) hx hb dL_law_1853 (by decide) ?_
  refine lv_iadd hx hb dL_law_1854 ?_
  refine k_top (y := 4) (by decide) ?_
  refine va_sld hx hb hX hbl hbA hS (by unfold vp_in; decide) dL_law_1855 ?_
  refine k_top (y := xs 4) (congrArg xs (by decide)) ?_
  refine lv_aload_n hx hb dL_law_1856 rfl (lv_at hl 0 rfl) ?_
  refine lv_iload_n hx hb dL_law_1857 rfl (lv_at hl 3 rfl) ?_
  refine lv_iconst (v := 5) hx hb dL_law_1858 (by decide) ?_
  refine lv_iadd hx hb dL_law_1859 ?_
  refine k_top (y := 5) (by decide) ?_
  refine va_sld hx hb hX hbl hbA hS (by unfold vp_in; decide) dL_law_1860 ?_
  refine k_top (y := xs 5) (congrArg xs (by decide)) ?_
  refine ro_V (As := [.int (xs 1), .int (xs 2), .int (xs 3), .int (xs 4), .int (xs 5)]) (rest := []) S (c_X9_luck l D k q wf (xs 1) (xs 2) (xs 3) (xs 4) (xs 5)) lkL_231 ok_X9_luck ⟨rfl, rfl, Nat.le_of_ble_eq_true rfl, Nat.le_of_ble_eq_true rfl⟩ (fw_V (ci := 9) (q0 := 0) hF rfl rfl) rfl hl.1 rfl (Nat.le_of_ble_eq_true rfl) hcs dL_law_1861 (fun r_1 er_1 => ?_)
  subst er_1
  refine lv_aload_n hx hb dL_law_1864 rfl (lv_at hl 2 rfl) ?_
  refine lv_aload_n hx hb dL_law_1865 rfl (lv_at hl 0 rfl) ?_
  refine lv_iload_n hx hb dL_law_1866 rfl (lv_at hl 3 rfl) ?_
  refine lv_iconst (v := 1) hx hb dL_law_1867 (by decide) ?_
  refine lv_iadd hx hb dL_law_1868 ?_
  refine k_top (y := 1) (by decide) ?_
  refine va_sld hx hb hX hbl hbA hS (by unfold vp_in; decide) dL_law_1869 ?_
  refine k_top (y := xs 1) (congrArg xs (by decide)) ?_
  refine lv_aload_n hx hb dL_law_1870 rfl (lv_at hl 0 rfl) ?_
  refine lv_iload_n hx hb dL_law_1871 rfl (lv_at hl 3 rfl) ?_
  refine lv_iconst (v := 2) hx hb dL_law_1872 (by decide) ?_
  refine lv_iadd hx hb dL_law_1873 ?_
  refine k_top (y := 2) (by decide) ?_
  refine va_sld hx hb hX hbl hbA hS (by unfold vp_in; decide) dL_law_1874 ?_
  refine k_top (y := xs 2) (congrArg xs (by decide)) ?_
  refine lv_aload_n hx hb dL_law_1875 rfl (lv_at hl 0 rfl) ?_
  refine lv_iload_n hx hb dL_law_1876 rfl (lv_at hl 3 rfl) ?_
  refine lv_iconst (v := 3) hx hb dL_law_1877 (by decide) ?_
  refine lv_iadd hx hb dL_law_1878 ?_
  refine k_top (y := 3) (by decide) ?_
  refine va_sld hx hb hX hbl hbA hS (by unfold vp_in; decide) dL_law_1879 ?_
  refine k_top (y := xs 3) (congrArg xs (by decide)) ?_
  refine lv_aload_n hx hb dL_law_1880 rfl (lv_at hl 0 rfl) ?_
  refine lv_iload_n hx hb dL_law_1881 rfl (lv_at hl 3 rfl) ?_
  refine lv_iconst (v := 4) hx hb dL_law_1882 (by decide) ?_
  refine lv_iadd hx hb dL_law_1883 ?_
  refine k_top (y := 4) (by decide) ?_
  refine va_sld hx hb hX hbl hbA hS (by unfold vp_in; decide) dL_law_1884 ?_
  refine k_top (y := xs 4) (congrArg xs (by decide)) ?_
  refine lv_aload_n hx hb dL_law_1885 rfl (lv_at hl 0 rfl) ?_
  refine lv_iload_n hx hb dL_law_1886 rfl (lv_at hl 3 rfl) ?_
  refine lv_iconst (v := 5) hx hb dL_law_1887 (by decide) ?_
  refine lv_iadd hx hb dL_law_1888 ?_
  refine k_top (y := 5) (by decide) ?_
  refine va_sld hx hb hX hbl hbA hS (by unfold vp_in; decide) dL_law_1889 ?_
  refine k_top (y := xs 5) (congrArg xs (by decide)) ?_
  refine ro_V (As := [.int (xs 1), .int (xs 2), .int (xs 3), .int (xs 4), .int (xs 5)]) (rest := [.int (-2)]) S (c_X10_luck l D k u mf (xs 1) (xs 2) (xs 3) (xs 4) (xs 5)) lkL_234 ok_X10_luck ⟨rfl, rfl, Nat.le_of_ble_eq_true rfl, Nat.le_of_ble_eq_true rfl⟩ (mw_V (ci := 10) (q0 := 0) hM rfl rfl) rfl hl.1 rfl (Nat.le_of_ble_eq_true rfl) hcs dL_law_1890 (fun r_2 er_2 => ?_)
  subst er_2
  refine lv_icmp_eq (tgt := 2212) hx hb dL_law_1893 (by decide) (fun _ => hend) (fun c_3 => absurd rfl c_3)
set_option maxHeartbeats 4000000 in
set_option maxRecDepth 100000 in
theorem case_54 {p : Program} {l : Launch} {e : Env} {s : State} {m : MethodId} {below : List Frame} {meth : Method} {c : Code} {H : Heap} {locs : List Loc} {cells slots : Nat} {Q : State → Prop} {b : Nat} {xs : Nat → Int32} {D : va_G} {k : Nat → ClassId} {q : Nat → Nat} {wf : Nat → Int32} {u : Nat → Nat} {mf : Nat → Int32} {ls : Array Slot} (C : LC p s m c b xs D k q wf u mf H locs ls cells slots) (hend : W p l e room_1 s m #[Value.ref b] below meth c H locs cells slots Q (F0 m 2212 ls [])) : W p l e room_1 s m #[Value.ref b] below meth c H locs cells slots Q (F0 m 1898 ls []) := by
  obtain ⟨S, hF, hM, hX, hbl, hS, hl, hcs⟩ := C
  have hx := S.1
  have hb := S.2.1
  have hown := S.2.2.2.1
  have hT := S.2.2.2.2
  have hbA : ¬ (fun z : Nat => s.heap.size ≤ z) b := Nat.not_le.mpr hbl
  refine lv_aload_n hx hb dL_law_1898 rfl (lv_at hl 1 rfl) ?_
  refine lv_aload_n hx hb dL_law_1899 rfl (lv_at hl 0 rfl) ?_
  refine lv_iload_n hx hb dL_law_1900 rfl (lv_at hl 3 rfl) ?_
  refine lv_iconst (v := 1) hx hb dL_law_1901 (by decide) ?_
  refine lv_iadd hx hb dL_law_1902 ?_
  refine k_top (y := 1) (by decide) ?_
  refine va_sld hx hb hX hbl hbA hS (by unfold vp_in; decide) dL_law_1903 ?_
  refine k_top (y := xs 1) (congrArg xs (by decide)) ?_
  refine lv_aload_n hx hb dL_law_1904 rfl (lv_at hl 0 rfl) ?_
  refine lv_iload_n hx hb dL_law_1905 rfl (lv_at hl 3 rfl) ?_
  refine lv_iconst (v := 2) hx hb dL_law_1906 (by decide) ?_
  refine lv_iadd hx hb dL_law_1907 ?_
  refine k_top (y := 2) (by decide) ?_
  refine va_sld hx hb hX hbl hbA hS (by unfold vp_in; decide) dL_law_1908 ?_
  refine k_top (y := xs 2) (congrArg xs (by decide)) ?_
  refine lv_aload_n hx hb dL_law_1909 rfl (lv_at hl 0 rfl) ?_
  refine lv_iload_n hx hb dL_law_1910 rfl (lv_at hl 3 rfl) ?_
  refine lv_iconst (v := 3) hx hb dL_law_1911 (by decide) ?_
  refine lv_iadd hx hb dL_law_1912 ?_
  refine k_top (y := 3) (by decide) ?_
  refine va_sld hx hb hX hbl hbA hS (by unfold vp_in; decide) dL_law_1913 ?_
  refine k_top (y := xs 3) (congrArg xs (by decide)) ?_
  refine ro_V (As := [.int (xs 1), .int (xs 2), .int (xs 3)]) (rest := []) S (c_X9_tell l D k q wf (xs 1) (xs 2) (xs 3)) lkL_235 ok_X9_tell ⟨rfl, rfl, Nat.le_of_ble_eq_true rfl, Nat.le_of_ble_eq_true rfl⟩ (fw_V (ci := 9) (q0 := 0) hF rfl rfl) rfl hl.1 rfl (Nat.le_of_ble_eq_true rfl) hcs dL_law_1914 (fun r_1 er_1 => ?_)
  subst er_1
  refine lv_aload_n hx hb dL_law_1917 rfl (lv_at hl 2 rfl) ?_
  refine lv_aload_n hx hb dL_law_1918 rfl (lv_at hl 0 rfl) ?_
  refine lv_iload_n hx hb dL_law_1919 rfl (lv_at hl 3 rfl) ?_
  refine lv_iconst (v := 1) hx hb dL_law_1920 (by decide) ?_
  refine lv_iadd hx hb dL_law_1921 ?_
  refine k_top (y := 1) (by decide) ?_
  refine va_sld hx hb hX hbl hbA hS (by unfold vp_in; decide) dL_law_1922 ?_
  refine k_top (y := xs 1) (congrArg xs (by decide)) ?_
  refine lv_aload_n hx hb dL_law_1923 rfl (lv_at hl 0 rfl) ?_
  refine lv_iload_n hx hb dL_law_1924 rfl (lv_at hl 3 rfl) ?_
  refine lv_iconst (v := 2) hx hb dL_law_1925 (by decide) ?_
  refine lv_iadd hx hb dL_law_1926 ?_
  refine k_top (y := 2) (by decide) ?_
  refine va_sld hx hb hX hbl hbA hS (by unfold vp_in; decide) dL_law_1927 ?_
  refine k_top (y := xs 2) (congrArg xs (by decide)) ?_
  refine lv_aload_n hx hb dL_law_1928 rfl (lv_at hl 0 rfl) ?_
  refine lv_iload_n hx hb dL_law_1929 rfl (lv_at hl 3 rfl) ?_
  refine lv_iconst (v := 3) hx hb dL_law_1930 (by decide) ?_
  refine lv_iadd hx hb dL_law_1931 ?_
  refine k_top (y := 3) (by decide) ?_
  refine va_sld hx hb hX hbl hbA hS (by unfold vp_in; decide) dL_law_1932 ?_
  refine k_top (y := xs 3) (congrArg xs (by decide)) ?_
  refine ro_V (As := [.int (xs 1), .int (xs 2), .int (xs 3)]) (rest := [.int (-2)]) S (c_X10_tell l D k u mf (xs 1) (xs 2) (xs 3)) lkL_238 ok_X10_tell ⟨rfl, rfl, Nat.le_of_ble_eq_true rfl, Nat.le_of_ble_eq_true rfl⟩ (mw_V (ci := 10) (q0 := 0) hM rfl rfl) rfl hl.1 rfl (Nat.le_of_ble_eq_true rfl) hcs dL_law_1933 (fun r_2 er_2 => ?_)
  subst er_2
  refine lv_icmp_eq (tgt := 2212) hx hb dL_law_1936 (by decide) (fun _ => hend) (fun c_3 => absurd rfl c_3)
set_option maxHeartbeats 4000000 in
set_option maxRecDepth 100000 in
theorem case_55 {p : Program} {l : Launch} {e : Env} {s : State} {m : MethodId} {below : List Frame} {meth : Method} {c : Code} {H : Heap} {locs : List Loc} {cells slots : Nat} {Q : State → Prop} {b : Nat} {xs : Nat → Int32} {D : va_G} {k : Nat → ClassId} {q : Nat → Nat} {wf : Nat → Int32} {u : Nat → Nat} {mf : Nat → Int32} {ls : Array Slot} (C : LC p s m c b xs D k q wf u mf H locs ls cells slots) (hend : W p l e room_1 s m #[Value.ref b] below meth c H locs cells slots Q (F0 m 2212 ls [])) : W p l e room_1 s m #[Value.ref b] below meth c H locs cells slots Q (F0 m 1941 ls []) := by
  obtain ⟨S, hF, hM, hX, hbl, hS, hl, hcs⟩ := C
  have hx := S.1
  have hb := S.2.1
  have hown := S.2.2.2.1
  have hT := S.2.2.2.2
  have hbA : ¬ (fun z : Nat => s.heap.size ≤ z) b := Nat.not_le.mpr hbl
  refine lv_aload_n hx hb dL_law_1941 rfl (lv_at hl 1 rfl) ?_
  refine lv_aload_n hx hb dL_law_1942 rfl (lv_at hl 0 rfl) ?_
  refine lv_iload_n hx hb dL_law_1943 rfl (lv_at hl 3 rfl) ?_
  refine lv_iconst (v := 1) hx hb dL_law_1944 (by decide) ?_
  refine lv_iadd hx hb dL_law_1945 ?_
  refine k_top (y := 1) (by decide) ?_
  refine va_sld hx hb hX hbl hbA hS (by unfold vp_in; decide) dL_law_1946 ?_
  refine k_top (y := xs 1) (congrArg xs (by decide)) ?_
  refine ro_V (As := [.int (xs 1)]) (rest := []) S (c_X9_hand l D k q wf (xs 1)) lkL_239 ok_X9_hand ⟨rfl, rfl, Nat.le_of_ble_eq_true rfl, Nat.le_of_ble_eq_true rfl⟩ (fw_V (ci := 9) (q0 := 0) hF rfl rfl) rfl hl.1 rfl (Nat.le_of_ble_eq_true rfl) hcs dL_law_1947 (fun r_1 er_1 => ?_)
  subst er_1
  refine lv_aload_n hx hb dL_law_1950 rfl (lv_at hl 2 rfl) ?_
  refine lv_aload_n hx hb dL_law_1951 rfl (lv_at hl 0 rfl) ?_
  refine lv_iload_n hx hb dL_law_1952 rfl (lv_at hl 3 rfl) ?_
  refine lv_iconst (v := 1) hx hb dL_law_1953 (by decide) ?_
  refine lv_iadd hx hb dL_law_1954 ?_
  refine k_top (y := 1) (by decide) ?_
  refine va_sld hx hb hX hbl hbA hS (by unfold vp_in; decide) dL_law_1955 ?_
  refine k_top (y := xs 1) (congrArg xs (by decide)) ?_
  refine ro_V (As := [.int (xs 1)]) (rest := [.int (-2)]) S (c_X10_hand l D k u mf (xs 1)) lkL_242 ok_X10_hand ⟨rfl, rfl, Nat.le_of_ble_eq_true rfl, Nat.le_of_ble_eq_true rfl⟩ (mw_V (ci := 10) (q0 := 0) hM rfl rfl) rfl hl.1 rfl (Nat.le_of_ble_eq_true rfl) hcs dL_law_1956 (fun r_2 er_2 => ?_)
  subst er_2
  refine lv_icmp_eq (tgt := 2212) hx hb dL_law_1959 (by decide) (fun _ => hend) (fun c_3 => absurd rfl c_3)
set_option maxHeartbeats 4000000 in
set_option maxRecDepth 100000 in
theorem case_56 {p : Program} {l : Launch} {e : Env} {s : State} {m : MethodId} {below : List Frame} {meth : Method} {c : Code} {H : Heap} {locs : List Loc} {cells slots : Nat} {Q : State → Prop} {b : Nat} {xs : Nat → Int32} {D : va_G} {k : Nat → ClassId} {q : Nat → Nat} {wf : Nat → Int32} {u : Nat → Nat} {mf : Nat → Int32} {ls : Array Slot} (C : LC p s m c b xs D k q wf u mf H locs ls cells slots) (hend : W p l e room_1 s m #[Value.ref b] below meth c H locs cells slots Q (F0 m 2212 ls [])) : W p l e room_1 s m #[Value.ref b] below meth c H locs cells slots Q (F0 m 1964 ls []) := by
  obtain ⟨S, hF, hM, hX, hbl, hS, hl, hcs⟩ := C
  have hx := S.1
  have hb := S.2.1
  have hown := S.2.2.2.1
  have hT := S.2.2.2.2
  have hbA : ¬ (fun z : Nat => s.heap.size ≤ z) b := Nat.not_le.mpr hbl
  refine lv_aload_n hx hb dL_law_1964 rfl (lv_at hl 1 rfl) ?_
  refine lv_aload_n hx hb dL_law_1965 rfl (lv_at hl 0 rfl) ?_
  refine lv_iload_n hx hb dL_law_1966 rfl (lv_at hl 3 rfl) ?_
  refine lv_iconst (v := 1) hx hb dL_law_1967 (by decide) ?_
  refine lv_iadd hx hb dL_law_1968 ?_
  refine k_top (y := 1) (by decide) ?_
  refine va_sld hx hb hX hbl hbA hS (by unfold vp_in; decide) dL_law_1969 ?_
  refine k_top (y := xs 1) (congrArg xs (by decide)) ?_
  refine ro_V (As := [.int (xs 1)]) (rest := []) S (c_X9_count l D k q wf (xs 1)) lkL_243 ok_X9_count ⟨rfl, rfl, Nat.le_of_ble_eq_true rfl, Nat.le_of_ble_eq_true rfl⟩ (fw_V (ci := 9) (q0 := 0) hF rfl rfl) rfl hl.1 rfl (Nat.le_of_ble_eq_true rfl) hcs dL_law_1970 (fun r_1 er_1 => ?_)
  subst er_1
  refine lv_aload_n hx hb dL_law_1973 rfl (lv_at hl 2 rfl) ?_
  refine lv_aload_n hx hb dL_law_1974 rfl (lv_at hl 0 rfl) ?_
  refine lv_iload_n hx hb dL_law_1975 rfl (lv_at hl 3 rfl) ?_
  refine lv_iconst (v := 1) hx hb dL_law_1976 (by decide) ?_
  refine lv_iadd hx hb dL_law_1977 ?_
  refine k_top (y := 1) (by decide) ?_
  refine va_sld hx hb hX hbl hbA hS (by unfold vp_in; decide) dL_law_1978 ?_
  refine k_top (y := xs 1) (congrArg xs (by decide)) ?_
  refine ro_V (As := [.int (xs 1)]) (rest := [.int (a_count (xs 1))]) S (c_X10_count l D k u mf (xs 1)) lkL_246 ok_X10_count ⟨rfl, rfl, Nat.le_of_ble_eq_true rfl, Nat.le_of_ble_eq_true rfl⟩ (mw_V (ci := 10) (q0 := 0) hM rfl rfl) rfl hl.1 rfl (Nat.le_of_ble_eq_true rfl) hcs dL_law_1979 (fun r_2 er_2 => ?_)
  subst er_2
  refine lv_icmp_eq (tgt := 2212) hx hb dL_law_1982 (by decide) (fun _ => hend) (fun c_3 => absurd rfl c_3)
set_option maxHeartbeats 4000000 in
set_option maxRecDepth 100000 in
theorem case_58 {p : Program} {l : Launch} {e : Env} {s : State} {m : MethodId} {below : List Frame} {meth : Method} {c : Code} {H : Heap} {locs : List Loc} {cells slots : Nat} {Q : State → Prop} {b : Nat} {xs : Nat → Int32} {D : va_G} {k : Nat → ClassId} {q : Nat → Nat} {wf : Nat → Int32} {u : Nat → Nat} {mf : Nat → Int32} {ls : Array Slot} (C : LC p s m c b xs D k q wf u mf H locs ls cells slots) (hend : W p l e room_1 s m #[Value.ref b] below meth c H locs cells slots Q (F0 m 2212 ls [])) : W p l e room_1 s m #[Value.ref b] below meth c H locs cells slots Q (F0 m 2010 ls []) := by
  obtain ⟨S, hF, hM, hX, hbl, hS, hl, hcs⟩ := C
  have hx := S.1
  have hb := S.2.1
  have hown := S.2.2.2.1
  have hT := S.2.2.2.2
  have hbA : ¬ (fun z : Nat => s.heap.size ≤ z) b := Nat.not_le.mpr hbl
  refine lv_aload_n hx hb dL_law_2010 rfl (lv_at hl 1 rfl) ?_
  refine lv_aload_n hx hb dL_law_2011 rfl (lv_at hl 0 rfl) ?_
  refine lv_iload_n hx hb dL_law_2012 rfl (lv_at hl 3 rfl) ?_
  refine lv_iconst (v := 1) hx hb dL_law_2013 (by decide) ?_
  refine lv_iadd hx hb dL_law_2014 ?_
  refine k_top (y := 1) (by decide) ?_
  refine va_sld hx hb hX hbl hbA hS (by unfold vp_in; decide) dL_law_2015 ?_
  refine k_top (y := xs 1) (congrArg xs (by decide)) ?_
  refine ro_V (As := [.int (xs 1)]) (rest := []) S (c_X9_back l D k q wf (xs 1)) lkL_251 ok_X9_back ⟨rfl, rfl, Nat.le_of_ble_eq_true rfl, Nat.le_of_ble_eq_true rfl⟩ (fw_V (ci := 9) (q0 := 0) hF rfl rfl) rfl hl.1 rfl (Nat.le_of_ble_eq_true rfl) hcs dL_law_2016 (fun r_1 er_1 => ?_)
  subst er_1
  refine lv_aload_n hx hb dL_law_2019 rfl (lv_at hl 2 rfl) ?_
  refine lv_aload_n hx hb dL_law_2020 rfl (lv_at hl 0 rfl) ?_
  refine lv_iload_n hx hb dL_law_2021 rfl (lv_at hl 3 rfl) ?_
  refine lv_iconst (v := 1) hx hb dL_law_2022 (by decide) ?_
  refine lv_iadd hx hb dL_law_2023 ?_
  refine k_top (y := 1) (by decide) ?_
  refine va_sld hx hb hX hbl hbA hS (by unfold vp_in; decide) dL_law_2024 ?_
  refine k_top (y := xs 1) (congrArg xs (by decide)) ?_
  refine ro_V (As := [.int (xs 1)]) (rest := [.int (a_back (xs 1))]) S (c_X10_back l D k u mf (xs 1)) lkL_254 ok_X10_back ⟨rfl, rfl, Nat.le_of_ble_eq_true rfl, Nat.le_of_ble_eq_true rfl⟩ (mw_V (ci := 10) (q0 := 0) hM rfl rfl) rfl hl.1 rfl (Nat.le_of_ble_eq_true rfl) hcs dL_law_2025 (fun r_2 er_2 => ?_)
  subst er_2
  refine lv_icmp_eq (tgt := 2212) hx hb dL_law_2028 (by decide) (fun _ => hend) (fun c_3 => absurd rfl c_3)
set_option maxHeartbeats 4000000 in
set_option maxRecDepth 100000 in
theorem case_60 {p : Program} {l : Launch} {e : Env} {s : State} {m : MethodId} {below : List Frame} {meth : Method} {c : Code} {H : Heap} {locs : List Loc} {cells slots : Nat} {Q : State → Prop} {b : Nat} {xs : Nat → Int32} {D : va_G} {k : Nat → ClassId} {q : Nat → Nat} {wf : Nat → Int32} {u : Nat → Nat} {mf : Nat → Int32} {ls : Array Slot} (C : LC p s m c b xs D k q wf u mf H locs ls cells slots) (hend : W p l e room_1 s m #[Value.ref b] below meth c H locs cells slots Q (F0 m 2212 ls [])) : W p l e room_1 s m #[Value.ref b] below meth c H locs cells slots Q (F0 m 2076 ls []) := by
  obtain ⟨S, hF, hM, hX, hbl, hS, hl, hcs⟩ := C
  have hx := S.1
  have hb := S.2.1
  have hown := S.2.2.2.1
  have hT := S.2.2.2.2
  have hbA : ¬ (fun z : Nat => s.heap.size ≤ z) b := Nat.not_le.mpr hbl
  refine lv_aload_n hx hb dL_law_2076 rfl (lv_at hl 1 rfl) ?_
  refine lv_aload_n hx hb dL_law_2077 rfl (lv_at hl 0 rfl) ?_
  refine lv_iload_n hx hb dL_law_2078 rfl (lv_at hl 3 rfl) ?_
  refine lv_iconst (v := 1) hx hb dL_law_2079 (by decide) ?_
  refine lv_iadd hx hb dL_law_2080 ?_
  refine k_top (y := 1) (by decide) ?_
  refine va_sld hx hb hX hbl hbA hS (by unfold vp_in; decide) dL_law_2081 ?_
  refine k_top (y := xs 1) (congrArg xs (by decide)) ?_
  refine lv_aload_n hx hb dL_law_2082 rfl (lv_at hl 0 rfl) ?_
  refine lv_iload_n hx hb dL_law_2083 rfl (lv_at hl 3 rfl) ?_
  refine lv_iconst (v := 2) hx hb dL_law_2084 (by decide) ?_
  refine lv_iadd hx hb dL_law_2085 ?_
  refine k_top (y := 2) (by decide) ?_
  refine va_sld hx hb hX hbl hbA hS (by unfold vp_in; decide) dL_law_2086 ?_
  refine k_top (y := xs 2) (congrArg xs (by decide)) ?_
  refine lv_aload_n hx hb dL_law_2087 rfl (lv_at hl 0 rfl) ?_
  refine lv_iload_n hx hb dL_law_2088 rfl (lv_at hl 3 rfl) ?_
  refine lv_iconst (v := 3) hx hb dL_law_2089 (by decide) ?_
  refine lv_iadd hx hb dL_law_2090 ?_
  refine k_top (y := 3) (by decide) ?_
  refine va_sld hx hb hX hbl hbA hS (by unfold vp_in; decide) dL_law_2091 ?_
  refine k_top (y := xs 3) (congrArg xs (by decide)) ?_
  refine lv_i2l (v := (xs 3).toInt64) hx hb dL_law_2092 rfl ?_
  refine lv_bipush (v := 32) hx hb dL_law_2093 (by decide) ?_
  refine lv_lshl hx hb dL_law_2095 rfl ?_
  refine lv_topl (fun z1 ez1 => ?_)
  clear ez1
  refine lv_aload_n hx hb dL_law_2096 rfl (lv_at hl 0 rfl) ?_
  refine lv_iload_n hx hb dL_law_2097 rfl (lv_at hl 3 rfl) ?_
  refine lv_iconst (v := 4) hx hb dL_law_2098 (by decide) ?_
  refine lv_iadd hx hb dL_law_2099 ?_
  refine k_top (y := 4) (by decide) ?_
  refine va_sld hx hb hX hbl hbA hS (by unfold vp_in; decide) dL_law_2100 ?_
  refine k_top (y := xs 4) (congrArg xs (by decide)) ?_
  refine lv_i2l (v := (xs 4).toInt64) hx hb dL_law_2101 rfl ?_
  refine lv_ldc2 (v := 4294967295) hx hb hown (hT _ t1942) dL_law_2102 ?_
  refine lv_land hx hb dL_law_2105 ?_
  refine lv_topl (fun z2 ez2 => ?_)
  clear ez2
  refine lv_lor hx hb dL_law_2106 ?_
  refine lv_topl (fun z3 ez3 => ?_)
  clear ez3
  refine ro_V (As := [.int (xs 1), .int (xs 2), .long z3]) (rest := []) S (c_X9_write l D k q wf (xs 1) (xs 2) z3) lkL_261 ok_X9_write ⟨rfl, rfl, Nat.le_of_ble_eq_true rfl, Nat.le_of_ble_eq_true rfl⟩ (fw_V (ci := 9) (q0 := 0) hF rfl rfl) rfl hl.1 rfl (Nat.le_of_ble_eq_true rfl) hcs dL_law_2107 (fun r_4 er_4 => ?_)
  subst er_4
  refine lv_aload_n hx hb dL_law_2110 rfl (lv_at hl 2 rfl) ?_
  refine lv_aload_n hx hb dL_law_2111 rfl (lv_at hl 0 rfl) ?_
  refine lv_iload_n hx hb dL_law_2112 rfl (lv_at hl 3 rfl) ?_
  refine lv_iconst (v := 1) hx hb dL_law_2113 (by decide) ?_
  refine lv_iadd hx hb dL_law_2114 ?_
  refine k_top (y := 1) (by decide) ?_
  refine va_sld hx hb hX hbl hbA hS (by unfold vp_in; decide) dL_law_2115 ?_
  refine k_top (y := xs 1) (congrArg xs (by decide)) ?_
  refine lv_aload_n hx hb dL_law_2116 rfl (lv_at hl 0 rfl) ?_
  refine lv_iload_n hx hb dL_law_2117 rfl (lv_at hl 3 rfl) ?_
  refine lv_iconst (v := 2) hx hb dL_law_2118 (by decide) ?_
  refine lv_iadd hx hb dL_law_2119 ?_
  refine k_top (y := 2) (by decide) ?_
  refine va_sld hx hb hX hbl hbA hS (by unfold vp_in; decide) dL_law_2120 ?_
  refine k_top (y := xs 2) (congrArg xs (by decide)) ?_
  refine lv_aload_n hx hb dL_law_2121 rfl (lv_at hl 0 rfl) ?_
  refine lv_iload_n hx hb dL_law_2122 rfl (lv_at hl 3 rfl) ?_
  refine lv_iconst (v := 3) hx hb dL_law_2123 (by decide) ?_
  refine lv_iadd hx hb dL_law_2124 ?_
  refine k_top (y := 3) (by decide) ?_
  refine va_sld hx hb hX hbl hbA hS (by unfold vp_in; decide) dL_law_2125 ?_
  refine k_top (y := xs 3) (congrArg xs (by decide)) ?_
  refine lv_i2l (v := (xs 3).toInt64) hx hb dL_law_2126 rfl ?_
  refine lv_bipush (v := 32) hx hb dL_law_2127 (by decide) ?_
  refine lv_lshl hx hb dL_law_2129 rfl ?_
  refine lv_topl (fun z5 ez5 => ?_)
  clear ez5
  refine lv_aload_n hx hb dL_law_2130 rfl (lv_at hl 0 rfl) ?_
  refine lv_iload_n hx hb dL_law_2131 rfl (lv_at hl 3 rfl) ?_
  refine lv_iconst (v := 4) hx hb dL_law_2132 (by decide) ?_
  refine lv_iadd hx hb dL_law_2133 ?_
  refine k_top (y := 4) (by decide) ?_
  refine va_sld hx hb hX hbl hbA hS (by unfold vp_in; decide) dL_law_2134 ?_
  refine k_top (y := xs 4) (congrArg xs (by decide)) ?_
  refine lv_i2l (v := (xs 4).toInt64) hx hb dL_law_2135 rfl ?_
  refine lv_ldc2 (v := 4294967295) hx hb hown (hT _ t1942) dL_law_2136 ?_
  refine lv_land hx hb dL_law_2139 ?_
  refine lv_topl (fun z6 ez6 => ?_)
  clear ez6
  refine lv_lor hx hb dL_law_2140 ?_
  refine lv_topl (fun z7 ez7 => ?_)
  clear ez7
  refine ro_V (As := [.int (xs 1), .int (xs 2), .long z7]) (rest := [.int (a_slot (xs 1))]) S (c_X10_write l D k u mf (xs 1) (xs 2) z7) lkL_265 ok_X10_write ⟨rfl, rfl, Nat.le_of_ble_eq_true rfl, Nat.le_of_ble_eq_true rfl⟩ (mw_V (ci := 10) (q0 := 0) hM rfl rfl) rfl hl.1 rfl (Nat.le_of_ble_eq_true rfl) hcs dL_law_2141 (fun r_8 er_8 => ?_)
  subst er_8
  refine lv_icmp_eq (tgt := 2212) hx hb dL_law_2144 (by decide) (fun _ => hend) (fun c_9 => absurd rfl c_9)
set_option maxHeartbeats 4000000 in
set_option maxRecDepth 100000 in
theorem case_61 {p : Program} {l : Launch} {e : Env} {s : State} {m : MethodId} {below : List Frame} {meth : Method} {c : Code} {H : Heap} {locs : List Loc} {cells slots : Nat} {Q : State → Prop} {b : Nat} {xs : Nat → Int32} {D : va_G} {k : Nat → ClassId} {q : Nat → Nat} {wf : Nat → Int32} {u : Nat → Nat} {mf : Nat → Int32} {ls : Array Slot} (C : LC p s m c b xs D k q wf u mf H locs ls cells slots) (hend : W p l e room_1 s m #[Value.ref b] below meth c H locs cells slots Q (F0 m 2212 ls [])) : W p l e room_1 s m #[Value.ref b] below meth c H locs cells slots Q (F0 m 2149 ls []) := by
  obtain ⟨S, hF, hM, hX, hbl, hS, hl, hcs⟩ := C
  have hx := S.1
  have hb := S.2.1
  have hown := S.2.2.2.1
  have hT := S.2.2.2.2
  have hbA : ¬ (fun z : Nat => s.heap.size ≤ z) b := Nat.not_le.mpr hbl
  refine lv_aload_n hx hb dL_law_2149 rfl (lv_at hl 1 rfl) ?_
  refine lv_aload_n hx hb dL_law_2150 rfl (lv_at hl 0 rfl) ?_
  refine lv_iload_n hx hb dL_law_2151 rfl (lv_at hl 3 rfl) ?_
  refine lv_iconst (v := 1) hx hb dL_law_2152 (by decide) ?_
  refine lv_iadd hx hb dL_law_2153 ?_
  refine k_top (y := 1) (by decide) ?_
  refine va_sld hx hb hX hbl hbA hS (by unfold vp_in; decide) dL_law_2154 ?_
  refine k_top (y := xs 1) (congrArg xs (by decide)) ?_
  refine lv_aload_n hx hb dL_law_2155 rfl (lv_at hl 0 rfl) ?_
  refine lv_iload_n hx hb dL_law_2156 rfl (lv_at hl 3 rfl) ?_
  refine lv_iconst (v := 2) hx hb dL_law_2157 (by decide) ?_
  refine lv_iadd hx hb dL_law_2158 ?_
  refine k_top (y := 2) (by decide) ?_
  refine va_sld hx hb hX hbl hbA hS (by unfold vp_in; decide) dL_law_2159 ?_
  refine k_top (y := xs 2) (congrArg xs (by decide)) ?_
  refine lv_aload_n hx hb dL_law_2160 rfl (lv_at hl 0 rfl) ?_
  refine lv_iload_n hx hb dL_law_2161 rfl (lv_at hl 3 rfl) ?_
  refine lv_iconst (v := 3) hx hb dL_law_2162 (by decide) ?_
  refine lv_iadd hx hb dL_law_2163 ?_
  refine k_top (y := 3) (by decide) ?_
  refine va_sld hx hb hX hbl hbA hS (by unfold vp_in; decide) dL_law_2164 ?_
  refine k_top (y := xs 3) (congrArg xs (by decide)) ?_
  refine lv_aload_n hx hb dL_law_2165 rfl (lv_at hl 0 rfl) ?_
  refine lv_iload_n hx hb dL_law_2166 rfl (lv_at hl 3 rfl) ?_
  refine lv_iconst (v := 4) hx hb dL_law_2167 (by decide) ?_
  refine lv_iadd hx hb dL_law_2168 ?_
  refine k_top (y := 4) (by decide) ?_
  refine va_sld hx hb hX hbl hbA hS (by unfold vp_in; decide) dL_law_2169 ?_
  refine k_top (y := xs 4) (congrArg xs (by decide)) ?_
  refine lv_aload_n hx hb dL_law_2170 rfl (lv_at hl 0 rfl) ?_
  refine lv_iload_n hx hb dL_law_2171 rfl (lv_at hl 3 rfl) ?_
  refine lv_iconst (v := 5) hx hb dL_law_2172 (by decide) ?_
  refine lv_iadd hx hb dL_law_2173 ?_
  refine k_top (y := 5) (by decide) ?_
  refine va_sld hx hb hX hbl hbA hS (by unfold vp_in; decide) dL_law_2174 ?_
  refine k_top (y := xs 5) (congrArg xs (by decide)) ?_
  refine ro_V (As := [.int (xs 1), .int (xs 2), .int (xs 3), .int (xs 4), .int (xs 5)]) (rest := []) S (c_X9_paste l D k q wf (xs 1) (xs 2) (xs 3) (xs 4) (xs 5)) lkL_266 ok_X9_paste ⟨rfl, rfl, Nat.le_of_ble_eq_true rfl, Nat.le_of_ble_eq_true rfl⟩ (fw_V (ci := 9) (q0 := 0) hF rfl rfl) rfl hl.1 rfl (Nat.le_of_ble_eq_true rfl) hcs dL_law_2175 (fun r_1 er_1 => ?_)
  subst er_1
  refine lv_aload_n hx hb dL_law_2178 rfl (lv_at hl 2 rfl) ?_
  refine lv_aload_n hx hb dL_law_2179 rfl (lv_at hl 0 rfl) ?_
  refine lv_iload_n hx hb dL_law_2180 rfl (lv_at hl 3 rfl) ?_
  refine lv_iconst (v := 1) hx hb dL_law_2181 (by decide) ?_
  refine lv_iadd hx hb dL_law_2182 ?_
  refine k_top (y := 1) (by decide) ?_
  refine va_sld hx hb hX hbl hbA hS (by unfold vp_in; decide) dL_law_2183 ?_
  refine k_top (y := xs 1) (congrArg xs (by decide)) ?_
  refine lv_aload_n hx hb dL_law_2184 rfl (lv_at hl 0 rfl) ?_
  refine lv_iload_n hx hb dL_law_2185 rfl (lv_at hl 3 rfl) ?_
  refine lv_iconst (v := 2) hx hb dL_law_2186 (by decide) ?_
  refine lv_iadd hx hb dL_law_2187 ?_
  refine k_top (y := 2) (by decide) ?_
  refine va_sld hx hb hX hbl hbA hS (by unfold vp_in; decide) dL_law_2188 ?_
  refine k_top (y := xs 2) (congrArg xs (by decide)) ?_
  refine lv_aload_n hx hb dL_law_2189 rfl (lv_at hl 0 rfl) ?_
  refine lv_iload_n hx hb dL_law_2190 rfl (lv_at hl 3 rfl) ?_
  refine lv_iconst (v := 3) hx hb dL_law_2191 (by decide) ?_
  refine lv_iadd hx hb dL_law_2192 ?_
  refine k_top (y := 3) (by decide) ?_
  refine va_sld hx hb hX hbl hbA hS (by unfold vp_in; decide) dL_law_2193 ?_
  refine k_top (y := xs 3) (congrArg xs (by decide)) ?_
  refine lv_aload_n hx hb dL_law_2194 rfl (lv_at hl 0 rfl) ?_
  refine lv_iload_n hx hb dL_law_2195 rfl (lv_at hl 3 rfl) ?_
  refine lv_iconst (v := 4) hx hb dL_law_2196 (by decide) ?_
  refine lv_iadd hx hb dL_law_2197 ?_
  refine k_top (y := 4) (by decide) ?_
  refine va_sld hx hb hX hbl hbA hS (by unfold vp_in; decide) dL_law_2198 ?_
  refine k_top (y := xs 4) (congrArg xs (by decide)) ?_
  refine lv_aload_n hx hb dL_law_2199 rfl (lv_at hl 0 rfl) ?_
  refine lv_iload_n hx hb dL_law_2200 rfl (lv_at hl 3 rfl) ?_
  refine lv_iconst (v := 5) hx hb dL_law_2201 (by decide) ?_
  refine lv_iadd hx hb dL_law_2202 ?_
  refine k_top (y := 5) (by decide) ?_
  refine va_sld hx hb hX hbl hbA hS (by unfold vp_in; decide) dL_law_2203 ?_
  refine k_top (y := xs 5) (congrArg xs (by decide)) ?_
  refine ro_V (As := [.int (xs 1), .int (xs 2), .int (xs 3), .int (xs 4), .int (xs 5)]) (rest := [.int (a_two (xs 1) (xs 3))]) S (c_X10_paste l D k u mf (xs 1) (xs 2) (xs 3) (xs 4) (xs 5)) lkL_269 ok_X10_paste ⟨rfl, rfl, Nat.le_of_ble_eq_true rfl, Nat.le_of_ble_eq_true rfl⟩ (mw_V (ci := 10) (q0 := 0) hM rfl rfl) rfl hl.1 rfl (Nat.le_of_ble_eq_true rfl) hcs dL_law_2204 (fun r_2 er_2 => ?_)
  subst er_2
  refine lv_icmp_eq (tgt := 2212) hx hb dL_law_2207 (by decide) (fun _ => hend) (fun c_3 => absurd rfl c_3)
