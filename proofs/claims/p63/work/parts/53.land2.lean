set_option maxHeartbeats 4000000 in
set_option maxRecDepth 100000 in
theorem s_X1_clear (l : Launch) (D : va_G) (k : Nat → ClassId) (a : Nat → Nat) (st : CT) (sl : CL) (sz : Nat) (hB : CB st)  : Met l yX1_clear (.code yX1_clear cX1_clear 1 none :: TB) (rmw 3 0 0) (va_Pc [.ref (a 4)] (PW D k sz (CWS k a st sl))) (QV D (S := CT) (fun u => CB u ∧ FR [4, 12, 13, 14, 15, 16] st u ∧ (True)) (fun u => CWS k a u sl) (fun _ => []) (CWS k a st sl) sz) 0 0 (va_A (CWS k a st sl) sz) := by
  refine Met.ofW (cc := cX1_clear) (maxL := 1) (ret := none) (by decide) rfl ?_
  intro p e s m args below meth c s₁ B hml hv
  obtain ⟨rfl, hsz, hP, hK, hD0, hN⟩ := hv
  have hx := B.exec
  have hb := B.bytes
  have hr := B.returns
  have hT : ∀ w9 ∈ TB, w9.before ([.ref (a 4)] : List Value).toArray s = true := fun w9 h => atoms_spec (ws := .code yX1_clear cX1_clear 1 none :: TB) B.pre w9 (List.mem_cons_of_mem _ h)
  have hown : s.vm.findClass RX1 = some m.cls := findClass_of_methodNamed B.named
  have S : CallFix p m c cX1_clear 1 s _ TB RX1 := ⟨hx, hb, hml, hown, hT⟩
  subst hsz
  have hD := hD0.self (sz := s.heap.size)
  generalize hAe : va_A (CWS k a st sl) s.heap.size = A at hD ⊢
  have hA : ∀ q : Nat, s.heap.size ≤ q → A q := fun q h => by rw [← hAe]; exact Or.inr h
  have hS : va_S A s.heap s.heap [] := va_S.rf
  have hl := lv_entry ([.ref (a 4)]) (n := 1) (Nat.le_of_ble_eq_true rfl)
  rw [lg_entry_eq]
  generalize (lg_sl ([.ref (a 4)]) ++ List.replicate (1 - (lg_sl ([.ref (a 4)])).length) Slot.unset).toArray = ls at hl ⊢
  have hl : lv_has ls 1 [(0, .ref (a 4))] := hl
  refine nameQ (fun Q hQ => ?_)
  refine lv_aload_n hx hb dX1_clear_0 rfl (lv_at hl 0 rfl) ?_
  refine lv_iconst (v := 0) hx hb dX1_clear_1 (by decide) ?_
  refine c_put (ci := 1) (C := RX1) (T := TX1) (N := 14) (j := 0) (v := 0) hx hb hT in_X1 tyX1 tyX1_ok nmX1 hown hK hP hD hS cw_4 rfl (by decide) (hT _ t195) (by decide +kernel) (by decide +kernel) rfl rfl (Nat.le_of_ble_eq_true rfl) (cs_4 (upd (st 4) 0 0)) dX1_clear_2 (fun s1 H9 locs9 es1 hP9 hD9 hS9 => ?_)
  clear hP hD hS
  have hS := hS9
  have hP := hP9
  have hD := hD9
  clear hP9 hD9 hS9
  have hBs1 : CB s1 := by rw [es1]; exact cb_sw hB (ki_3_0 (hB 4))
  have hFs1 : FR [4, 12, 13, 14, 15, 16] st s1 := fr_sw fr_rf (List.mem_of_getElem? (i := 0) rfl) es1
  refine lv_aload_n hx hb dX1_clear_5 rfl (lv_at hl 0 rfl) ?_
  refine lv_iconst (v := 0) hx hb dX1_clear_6 (by decide) ?_
  refine c_put (ci := 1) (C := RX1) (T := TX1) (N := 14) (j := 1) (v := 0) hx hb hT in_X1 tyX1 tyX1_ok nmX1 hown hK hP hD hS cw_4 rfl (by decide) (hT _ t198) (by decide +kernel) (by decide +kernel) rfl rfl (Nat.le_of_ble_eq_true rfl) (cs_4 (upd (s1 4) 1 0)) dX1_clear_7 (fun s2 H9 locs9 es2 hP9 hD9 hS9 => ?_)
  clear hP hD hS
  have hS := hS9
  have hP := hP9
  have hD := hD9
  clear hP9 hD9 hS9
  have hBs2 : CB s2 := by rw [es2]; exact cb_sw hBs1 (ki_3_1 (hBs1 4) (iv_mono (c := 0) (d := 6) (iv_c (by decide) : Iv 0 0 0) (by decide) (by decide)))
  have hFs2 : FR [4, 12, 13, 14, 15, 16] st s2 := fr_sw hFs1 (List.mem_of_getElem? (i := 0) rfl) es2
  refine lv_aload_n hx hb dX1_clear_10 rfl (lv_at hl 0 rfl) ?_
  refine lv_iconst (v := 0) hx hb dX1_clear_11 (by decide) ?_
  refine c_put (ci := 1) (C := RX1) (T := TX1) (N := 14) (j := 2) (v := 0) hx hb hT in_X1 tyX1 tyX1_ok nmX1 hown hK hP hD hS cw_4 rfl (by decide) (hT _ t202) (by decide +kernel) (by decide +kernel) rfl rfl (Nat.le_of_ble_eq_true rfl) (cs_4 (upd (s2 4) 2 0)) dX1_clear_12 (fun s3 H9 locs9 es3 hP9 hD9 hS9 => ?_)
  clear hP hD hS
  have hS := hS9
  have hP := hP9
  have hD := hD9
  clear hP9 hD9 hS9
  have hBs3 : CB s3 := by rw [es3]; exact cb_sw hBs2 (ki_3_2 (hBs2 4))
  have hFs3 : FR [4, 12, 13, 14, 15, 16] st s3 := fr_sw hFs2 (List.mem_of_getElem? (i := 0) rfl) es3
  refine lv_aload_n hx hb dX1_clear_15 rfl (lv_at hl 0 rfl) ?_
  refine lv_iconst (v := 0) hx hb dX1_clear_16 (by decide) ?_
  refine c_put (ci := 1) (C := RX1) (T := TX1) (N := 14) (j := 3) (v := 0) hx hb hT in_X1 tyX1 tyX1_ok nmX1 hown hK hP hD hS cw_4 rfl (by decide) (hT _ t207) (by decide +kernel) (by decide +kernel) rfl rfl (Nat.le_of_ble_eq_true rfl) (cs_4 (upd (s3 4) 3 0)) dX1_clear_17 (fun s4 H9 locs9 es4 hP9 hD9 hS9 => ?_)
  clear hP hD hS
  have hS := hS9
  have hP := hP9
  have hD := hD9
  clear hP9 hD9 hS9
  have hBs4 : CB s4 := by rw [es4]; exact cb_sw hBs3 (ki_3_3 (hBs3 4) (iv_mono (c := 0) (d := 8) (iv_c (by decide) : Iv 0 0 0) (by decide) (by decide)))
  have hFs4 : FR [4, 12, 13, 14, 15, 16] st s4 := fr_sw hFs3 (List.mem_of_getElem? (i := 0) rfl) es4
  refine lv_aload_n hx hb dX1_clear_20 rfl (lv_at hl 0 rfl) ?_
  refine lv_iconst (v := 0) hx hb dX1_clear_21 (by decide) ?_
  refine c_put (ci := 1) (C := RX1) (T := TX1) (N := 14) (j := 4) (v := 0) hx hb hT in_X1 tyX1 tyX1_ok nmX1 hown hK hP hD hS cw_4 rfl (by decide) (hT _ t213) (by decide +kernel) (by decide +kernel) rfl rfl (Nat.le_of_ble_eq_true rfl) (cs_4 (upd (s4 4) 4 0)) dX1_clear_22 (fun s5 H9 locs9 es5 hP9 hD9 hS9 => ?_)
  clear hP hD hS
  have hS := hS9
  have hP := hP9
  have hD := hD9
  clear hP9 hD9 hS9
  have hBs5 : CB s5 := by rw [es5]; exact cb_sw hBs4 (ki_3_4 (hBs4 4) (iv_mono (c := 0) (d := 8) (iv_c (by decide) : Iv 0 0 0) (by decide) (by decide)))
  have hFs5 : FR [4, 12, 13, 14, 15, 16] st s5 := fr_sw hFs4 (List.mem_of_getElem? (i := 0) rfl) es5
  refine lv_aload_n hx hb dX1_clear_25 rfl (lv_at hl 0 rfl) ?_
  refine lv_iconst (v := 0) hx hb dX1_clear_26 (by decide) ?_
  refine c_put (ci := 1) (C := RX1) (T := TX1) (N := 14) (j := 5) (v := 0) hx hb hT in_X1 tyX1 tyX1_ok nmX1 hown hK hP hD hS cw_4 rfl (by decide) (hT _ t216) (by decide +kernel) (by decide +kernel) rfl rfl (Nat.le_of_ble_eq_true rfl) (cs_4 (upd (s5 4) 5 0)) dX1_clear_27 (fun s6 H9 locs9 es6 hP9 hD9 hS9 => ?_)
  clear hP hD hS
  have hS := hS9
  have hP := hP9
  have hD := hD9
  clear hP9 hD9 hS9
  have hBs6 : CB s6 := by rw [es6]; exact cb_sw hBs5 (ki_3_5 (hBs5 4) (iv_mono (c := 0) (d := 3) (iv_c (by decide) : Iv 0 0 0) (by decide) (by decide)))
  have hFs6 : FR [4, 12, 13, 14, 15, 16] st s6 := fr_sw hFs5 (List.mem_of_getElem? (i := 0) rfl) es6
  refine lv_aload_n hx hb dX1_clear_30 rfl (lv_at hl 0 rfl) ?_
  refine lv_iconst (v := 0) hx hb dX1_clear_31 (by decide) ?_
  refine c_put (ci := 1) (C := RX1) (T := TX1) (N := 14) (j := 6) (v := 0) hx hb hT in_X1 tyX1 tyX1_ok nmX1 hown hK hP hD hS cw_4 rfl (by decide) (hT _ t219) (by decide +kernel) (by decide +kernel) rfl rfl (Nat.le_of_ble_eq_true rfl) (cs_4 (upd (s6 4) 6 0)) dX1_clear_32 (fun s7 H9 locs9 es7 hP9 hD9 hS9 => ?_)
  clear hP hD hS
  have hS := hS9
  have hP := hP9
  have hD := hD9
  clear hP9 hD9 hS9
  have hBs7 : CB s7 := by rw [es7]; exact cb_sw hBs6 (ki_3_6 (hBs6 4) (iv_mono (c := 0) (d := 6) (iv_c (by decide) : Iv 0 0 0) (by decide) (by decide)))
  have hFs7 : FR [4, 12, 13, 14, 15, 16] st s7 := fr_sw hFs6 (List.mem_of_getElem? (i := 0) rfl) es7
  refine lv_aload_n hx hb dX1_clear_35 rfl (lv_at hl 0 rfl) ?_
  refine va_get (D := D) (ci := 1) (v := .ref (a 11)) (C := RX1) (T := TX1) (N := 14) hx hb hT in_X1 hown hK hP 4 cw_4 rfl 13 (by decide) (hT _ t239) (fun _ h9 => h9) rfl dX1_clear_36 ?_
  refine ca_v hP hD hS hA (fun hDc => run_V (mc := 0) (ms := 0) (As := []) (rest := []) S (s_X5_clear l D k a s7 sl   _  hBs7  ) lkX1_59 ok_X5_clear ⟨rfl, rfl, Nat.le_of_ble_eq_true rfl, Nat.le_of_ble_eq_true rfl⟩ (pw_V (ci := 5) (q0 := 11) hK hN rfl cw_11 hP hDc) rfl hl.1 rfl (Nat.le_of_ble_eq_true rfl) ⟨Nat.zero_le _, Nat.zero_le _⟩ dX1_clear_39) (fun s8 H9 locs9 hs8 hP9 hD9 hS9 => ?_)
  clear hP hD hS
  have hS := hS9
  have hP := hP9
  have hD := hD9
  clear hP9 hD9 hS9
  obtain ⟨hBs8, gs8, fs8⟩ := hs8
  have hFs8 : FR [4, 12, 13, 14, 15, 16] st s8 := fr_ca hFs7 gs8 (sub_1 (List.mem_of_getElem? (i := 1) rfl) (sub_1 (List.mem_of_getElem? (i := 2) rfl) (sub_1 (List.mem_of_getElem? (i := 3) rfl) (sub_1 (List.mem_of_getElem? (i := 4) rfl) (sub_1 (List.mem_of_getElem? (i := 5) rfl) sub_0)))))
  rw [hQ]
  exact W.vret hx hb hr (fun t ht hW => ⟨⟨s8, rfl, ⟨hBs8, hFs8, trivial⟩, by rw [ht]; exact hP, va_K.moved hW.alike (hK.sub (tys' := []) [] rfl), by rw [hAe]; exact hD⟩, by rw [hAe]; exact hS.F ht⟩) hS.2.2 dX1_clear_42
set_option maxHeartbeats 4000000 in
set_option maxRecDepth 100000 in
theorem s_X1_copy_0 (l : Launch) (D : va_G) (k : Nat → ClassId) (a : Nat → Nat) (st : CT) (sl : CL) (sz : Nat) (hB : CB st)  : Met l yX1_copy (.code yX1_copy cX1_copy 2 none :: TB) (rmw 2 0 0) (va_Pc [.ref (a 18), .ref (a 4)] (PW D k sz (CWS k a st sl))) (QV D (S := CT) (fun u => CB u ∧ FR [18, 19, 20, 21, 22, 23, 24, 26, 27, 28, 29, 30] st u ∧ (True)) (fun u => CWS k a u sl) (fun _ => []) (CWS k a st sl) sz) 0 0 (va_A (CWS k a st sl) sz) := by
  refine Met.ofW (cc := cX1_copy) (maxL := 2) (ret := none) (by decide) rfl ?_
  intro p e s m args below meth c s₁ B hml hv
  obtain ⟨rfl, hsz, hP, hK, hD0, hN⟩ := hv
  have hx := B.exec
  have hb := B.bytes
  have hr := B.returns
  have hT : ∀ w9 ∈ TB, w9.before ([.ref (a 18), .ref (a 4)] : List Value).toArray s = true := fun w9 h => atoms_spec (ws := .code yX1_copy cX1_copy 2 none :: TB) B.pre w9 (List.mem_cons_of_mem _ h)
  have hown : s.vm.findClass RX1 = some m.cls := findClass_of_methodNamed B.named
  have S : CallFix p m c cX1_copy 2 s _ TB RX1 := ⟨hx, hb, hml, hown, hT⟩
  subst hsz
  have hD := hD0.self (sz := s.heap.size)
  generalize hAe : va_A (CWS k a st sl) s.heap.size = A at hD ⊢
  have hA : ∀ q : Nat, s.heap.size ≤ q → A q := fun q h => by rw [← hAe]; exact Or.inr h
  have hS : va_S A s.heap s.heap [] := va_S.rf
  have hl := lv_entry ([.ref (a 18), .ref (a 4)]) (n := 2) (Nat.le_of_ble_eq_true rfl)
  rw [lg_entry_eq]
  generalize (lg_sl ([.ref (a 18), .ref (a 4)]) ++ List.replicate (2 - (lg_sl ([.ref (a 18), .ref (a 4)])).length) Slot.unset).toArray = ls at hl ⊢
  have hl : lv_has ls 2 [(0, .ref (a 18)), (1, .ref (a 4))] := hl
  refine nameQ (fun Q hQ => ?_)
  refine lv_aload_n hx hb dX1_copy_0 rfl (lv_at hl 0 rfl) ?_
  refine lv_aload_n hx hb dX1_copy_1 rfl (lv_at hl 1 rfl) ?_
  refine va_get (D := D) (ci := 1) (v := .int (st 4 0)) (C := RX1) (T := TX1) (N := 14) hx hb hT in_X1 hown hK hP 4 cw_4 rfl 0 (by decide) (hT _ t195) (fun _ h9 => h9) rfl dX1_copy_2 ?_
  refine c_put (ci := 1) (C := RX1) (T := TX1) (N := 14) (j := 0) (v := (st 4 0)) hx hb hT in_X1 tyX1 tyX1_ok nmX1 hown hK hP hD hS cw_18 rfl (by decide) (hT _ t195) (by decide +kernel) (by decide +kernel) rfl rfl (Nat.le_of_ble_eq_true rfl) (cs_18 (upd (st 18) 0 (st 4 0))) dX1_copy_5 (fun s1 H9 locs9 es1 hP9 hD9 hS9 => ?_)
  clear hP hD hS
  have hS := hS9
  have hP := hP9
  have hD := hD9
  clear hP9 hD9 hS9
  have hBs1 : CB s1 := by rw [es1]; exact cb_sw hB (ki_3_0 (hB 18))
  have hFs1 : FR [18, 19, 20, 21, 22, 23, 24, 26, 27, 28, 29, 30] st s1 := fr_sw fr_rf (List.mem_of_getElem? (i := 0) rfl) es1
  refine lv_aload_n hx hb dX1_copy_8 rfl (lv_at hl 0 rfl) ?_
  refine lv_aload_n hx hb dX1_copy_9 rfl (lv_at hl 1 rfl) ?_
  refine va_get (D := D) (ci := 1) (v := .int (s1 4 1)) (C := RX1) (T := TX1) (N := 14) hx hb hT in_X1 hown hK hP 4 cw_4 rfl 1 (by decide) (hT _ t198) (fun _ h9 => h9) rfl dX1_copy_10 ?_
  refine k_top (y := (st 4 1)) (congrFun (hFs1 4 (nm_1 (by decide) (nm_1 (by decide) (nm_1 (by decide) (nm_1 (by decide) (nm_1 (by decide) (nm_1 (by decide) (nm_1 (by decide) (nm_1 (by decide) (nm_1 (by decide) (nm_1 (by decide) (nm_1 (by decide) (nm_1 (by decide) nm_0))))))))))))) 1) ?_
  have h2 : Iv 0 6 (st 4 1) := (rb_4_1 hB)
  refine c_put (ci := 1) (C := RX1) (T := TX1) (N := 14) (j := 1) (v := (st 4 1)) hx hb hT in_X1 tyX1 tyX1_ok nmX1 hown hK hP hD hS cw_18 rfl (by decide) (hT _ t198) (by decide +kernel) (by decide +kernel) rfl rfl (Nat.le_of_ble_eq_true rfl) (cs_18 (upd (s1 18) 1 (st 4 1))) dX1_copy_13 (fun s3 H9 locs9 es3 hP9 hD9 hS9 => ?_)
  clear hP hD hS
  have hS := hS9
  have hP := hP9
  have hD := hD9
  clear hP9 hD9 hS9
  have hBs3 : CB s3 := by rw [es3]; exact cb_sw hBs1 (ki_3_1 (hBs1 18) h2)
  have hFs3 : FR [18, 19, 20, 21, 22, 23, 24, 26, 27, 28, 29, 30] st s3 := fr_sw hFs1 (List.mem_of_getElem? (i := 0) rfl) es3
  refine lv_aload_n hx hb dX1_copy_16 rfl (lv_at hl 0 rfl) ?_
  refine lv_aload_n hx hb dX1_copy_17 rfl (lv_at hl 1 rfl) ?_
  refine va_get (D := D) (ci := 1) (v := .int (s3 4 2)) (C := RX1) (T := TX1) (N := 14) hx hb hT in_X1 hown hK hP 4 cw_4 rfl 2 (by decide) (hT _ t202) (fun _ h9 => h9) rfl dX1_copy_18 ?_
  refine k_top (y := (st 4 2)) (congrFun (hFs3 4 (nm_1 (by decide) (nm_1 (by decide) (nm_1 (by decide) (nm_1 (by decide) (nm_1 (by decide) (nm_1 (by decide) (nm_1 (by decide) (nm_1 (by decide) (nm_1 (by decide) (nm_1 (by decide) (nm_1 (by decide) (nm_1 (by decide) nm_0))))))))))))) 2) ?_
  refine c_put (ci := 1) (C := RX1) (T := TX1) (N := 14) (j := 2) (v := (st 4 2)) hx hb hT in_X1 tyX1 tyX1_ok nmX1 hown hK hP hD hS cw_18 rfl (by decide) (hT _ t202) (by decide +kernel) (by decide +kernel) rfl rfl (Nat.le_of_ble_eq_true rfl) (cs_18 (upd (s3 18) 2 (st 4 2))) dX1_copy_21 (fun s4 H9 locs9 es4 hP9 hD9 hS9 => ?_)
  clear hP hD hS
  have hS := hS9
  have hP := hP9
  have hD := hD9
  clear hP9 hD9 hS9
  have hBs4 : CB s4 := by rw [es4]; exact cb_sw hBs3 (ki_3_2 (hBs3 18))
  have hFs4 : FR [18, 19, 20, 21, 22, 23, 24, 26, 27, 28, 29, 30] st s4 := fr_sw hFs3 (List.mem_of_getElem? (i := 0) rfl) es4
  refine lv_aload_n hx hb dX1_copy_24 rfl (lv_at hl 0 rfl) ?_
  refine lv_aload_n hx hb dX1_copy_25 rfl (lv_at hl 1 rfl) ?_
  refine va_get (D := D) (ci := 1) (v := .int (s4 4 3)) (C := RX1) (T := TX1) (N := 14) hx hb hT in_X1 hown hK hP 4 cw_4 rfl 3 (by decide) (hT _ t207) (fun _ h9 => h9) rfl dX1_copy_26 ?_
  refine k_top (y := (st 4 3)) (congrFun (hFs4 4 (nm_1 (by decide) (nm_1 (by decide) (nm_1 (by decide) (nm_1 (by decide) (nm_1 (by decide) (nm_1 (by decide) (nm_1 (by decide) (nm_1 (by decide) (nm_1 (by decide) (nm_1 (by decide) (nm_1 (by decide) (nm_1 (by decide) nm_0))))))))))))) 3) ?_
  have h5 : Iv 0 8 (st 4 3) := (rb_4_3 hB)
  refine c_put (ci := 1) (C := RX1) (T := TX1) (N := 14) (j := 3) (v := (st 4 3)) hx hb hT in_X1 tyX1 tyX1_ok nmX1 hown hK hP hD hS cw_18 rfl (by decide) (hT _ t207) (by decide +kernel) (by decide +kernel) rfl rfl (Nat.le_of_ble_eq_true rfl) (cs_18 (upd (s4 18) 3 (st 4 3))) dX1_copy_29 (fun s6 H9 locs9 es6 hP9 hD9 hS9 => ?_)
  clear hP hD hS
  have hS := hS9
  have hP := hP9
  have hD := hD9
  clear hP9 hD9 hS9
  have hBs6 : CB s6 := by rw [es6]; exact cb_sw hBs4 (ki_3_3 (hBs4 18) h5)
  have hFs6 : FR [18, 19, 20, 21, 22, 23, 24, 26, 27, 28, 29, 30] st s6 := fr_sw hFs4 (List.mem_of_getElem? (i := 0) rfl) es6
  refine lv_aload_n hx hb dX1_copy_32 rfl (lv_at hl 0 rfl) ?_
  refine lv_aload_n hx hb dX1_copy_33 rfl (lv_at hl 1 rfl) ?_
  refine va_get (D := D) (ci := 1) (v := .int (s6 4 4)) (C := RX1) (T := TX1) (N := 14) hx hb hT in_X1 hown hK hP 4 cw_4 rfl 4 (by decide) (hT _ t213) (fun _ h9 => h9) rfl dX1_copy_34 ?_
  refine k_top (y := (st 4 4)) (congrFun (hFs6 4 (nm_1 (by decide) (nm_1 (by decide) (nm_1 (by decide) (nm_1 (by decide) (nm_1 (by decide) (nm_1 (by decide) (nm_1 (by decide) (nm_1 (by decide) (nm_1 (by decide) (nm_1 (by decide) (nm_1 (by decide) (nm_1 (by decide) nm_0))))))))))))) 4) ?_
  have h7 : Iv 0 8 (st 4 4) := (rb_4_4 hB)
  refine c_put (ci := 1) (C := RX1) (T := TX1) (N := 14) (j := 4) (v := (st 4 4)) hx hb hT in_X1 tyX1 tyX1_ok nmX1 hown hK hP hD hS cw_18 rfl (by decide) (hT _ t213) (by decide +kernel) (by decide +kernel) rfl rfl (Nat.le_of_ble_eq_true rfl) (cs_18 (upd (s6 18) 4 (st 4 4))) dX1_copy_37 (fun s8 H9 locs9 es8 hP9 hD9 hS9 => ?_)
  clear hP hD hS
  have hS := hS9
  have hP := hP9
  have hD := hD9
  clear hP9 hD9 hS9
  have hBs8 : CB s8 := by rw [es8]; exact cb_sw hBs6 (ki_3_4 (hBs6 18) h7)
  have hFs8 : FR [18, 19, 20, 21, 22, 23, 24, 26, 27, 28, 29, 30] st s8 := fr_sw hFs6 (List.mem_of_getElem? (i := 0) rfl) es8
  refine lv_aload_n hx hb dX1_copy_40 rfl (lv_at hl 0 rfl) ?_
  refine lv_aload_n hx hb dX1_copy_41 rfl (lv_at hl 1 rfl) ?_
  refine va_get (D := D) (ci := 1) (v := .int (s8 4 5)) (C := RX1) (T := TX1) (N := 14) hx hb hT in_X1 hown hK hP 4 cw_4 rfl 5 (by decide) (hT _ t216) (fun _ h9 => h9) rfl dX1_copy_42 ?_
  refine k_top (y := (st 4 5)) (congrFun (hFs8 4 (nm_1 (by decide) (nm_1 (by decide) (nm_1 (by decide) (nm_1 (by decide) (nm_1 (by decide) (nm_1 (by decide) (nm_1 (by decide) (nm_1 (by decide) (nm_1 (by decide) (nm_1 (by decide) (nm_1 (by decide) (nm_1 (by decide) nm_0))))))))))))) 5) ?_
  have h9 : Iv 0 3 (st 4 5) := (rb_4_5 hB)
  refine c_put (ci := 1) (C := RX1) (T := TX1) (N := 14) (j := 5) (v := (st 4 5)) hx hb hT in_X1 tyX1 tyX1_ok nmX1 hown hK hP hD hS cw_18 rfl (by decide) (hT _ t216) (by decide +kernel) (by decide +kernel) rfl rfl (Nat.le_of_ble_eq_true rfl) (cs_18 (upd (s8 18) 5 (st 4 5))) dX1_copy_45 (fun s10 H9 locs9 es10 hP9 hD9 hS9 => ?_)
  clear hP hD hS
  have hS := hS9
  have hP := hP9
  have hD := hD9
  clear hP9 hD9 hS9
  have hBs10 : CB s10 := by rw [es10]; exact cb_sw hBs8 (ki_3_5 (hBs8 18) h9)
  have hFs10 : FR [18, 19, 20, 21, 22, 23, 24, 26, 27, 28, 29, 30] st s10 := fr_sw hFs8 (List.mem_of_getElem? (i := 0) rfl) es10
  refine lv_aload_n hx hb dX1_copy_48 rfl (lv_at hl 0 rfl) ?_
  refine lv_aload_n hx hb dX1_copy_49 rfl (lv_at hl 1 rfl) ?_
  refine va_get (D := D) (ci := 1) (v := .int (s10 4 6)) (C := RX1) (T := TX1) (N := 14) hx hb hT in_X1 hown hK hP 4 cw_4 rfl 6 (by decide) (hT _ t219) (fun _ h9 => h9) rfl dX1_copy_50 ?_
  refine k_top (y := (st 4 6)) (congrFun (hFs10 4 (nm_1 (by decide) (nm_1 (by decide) (nm_1 (by decide) (nm_1 (by decide) (nm_1 (by decide) (nm_1 (by decide) (nm_1 (by decide) (nm_1 (by decide) (nm_1 (by decide) (nm_1 (by decide) (nm_1 (by decide) (nm_1 (by decide) nm_0))))))))))))) 6) ?_
  have h11 : Iv 0 6 (st 4 6) := (rb_4_6 hB)
  refine c_put (ci := 1) (C := RX1) (T := TX1) (N := 14) (j := 6) (v := (st 4 6)) hx hb hT in_X1 tyX1 tyX1_ok nmX1 hown hK hP hD hS cw_18 rfl (by decide) (hT _ t219) (by decide +kernel) (by decide +kernel) rfl rfl (Nat.le_of_ble_eq_true rfl) (cs_18 (upd (s10 18) 6 (st 4 6))) dX1_copy_53 (fun s12 H9 locs9 es12 hP9 hD9 hS9 => ?_)
  clear hP hD hS
  have hS := hS9
  have hP := hP9
  have hD := hD9
  clear hP9 hD9 hS9
  have hBs12 : CB s12 := by rw [es12]; exact cb_sw hBs10 (ki_3_6 (hBs10 18) h11)
  have hFs12 : FR [18, 19, 20, 21, 22, 23, 24, 26, 27, 28, 29, 30] st s12 := fr_sw hFs10 (List.mem_of_getElem? (i := 0) rfl) es12
  refine lv_aload_n hx hb dX1_copy_56 rfl (lv_at hl 1 rfl) ?_
  refine va_get (D := D) (ci := 1) (v := .ref (a 5)) (C := RX1) (T := TX1) (N := 14) hx hb hT in_X1 hown hK hP 4 cw_4 rfl 7 (by decide) (hT _ t222) (fun _ h9 => h9) rfl dX1_copy_57 ?_
  refine lv_iconst (v := 0) hx hb dX1_copy_60 (by decide) ?_
  refine lv_aload_n hx hb dX1_copy_61 rfl (lv_at hl 0 rfl) ?_
  refine va_get (D := D) (ci := 1) (v := .ref (a 19)) (C := RX1) (T := TX1) (N := 14) hx hb hT in_X1 hown hK hP 18 cw_18 rfl 7 (by decide) (hT _ t222) (fun _ h9 => h9) rfl dX1_copy_62 ?_
  refine lv_iconst (v := 0) hx hb dX1_copy_65 (by decide) ?_
  refine lv_bipush (v := 8) hx hb dX1_copy_66 (by decide) ?_
  refine c_cpy hx hb (hml.trans hl.1.symm) hown (hT _ t684) (hT _ t686) (hT _ t685) (hT _ t121) hK hP hD hS cw_5 cw_19 cs_19 (Nat.le_of_ble_eq_true rfl) (Nat.le_of_ble_eq_true rfl) (by decide) (by decide) (by decide) dX1_copy_68 (fun s13 H9 locs9 fs13 es13 gs13 hP9 hD9 hS9 => ?_)
  clear hP hD hS
  have hS := hS9
  have hP := hP9
  have hD := hD9
  clear hP9 hD9 hS9
  have hBs13 : CB s13 := by rw [es13]; exact cb_sw hBs12 (show KI 4 fs13 from fun j9 h9 => by rw [gs13 j9 h9]; exact (rb_5 hBs12 h9))
  have hFs13 : FR [18, 19, 20, 21, 22, 23, 24, 26, 27, 28, 29, 30] st s13 := fr_sw hFs12 (List.mem_of_getElem? (i := 1) rfl) es13
  refine lv_aload_n hx hb dX1_copy_71 rfl (lv_at hl 1 rfl) ?_
  refine va_get (D := D) (ci := 1) (v := .ref (a 6)) (C := RX1) (T := TX1) (N := 14) hx hb hT in_X1 hown hK hP 4 cw_4 rfl 8 (by decide) (hT _ t225) (fun _ h9 => h9) rfl dX1_copy_72 ?_
  refine lv_iconst (v := 0) hx hb dX1_copy_75 (by decide) ?_
  refine lv_aload_n hx hb dX1_copy_76 rfl (lv_at hl 0 rfl) ?_
  refine va_get (D := D) (ci := 1) (v := .ref (a 20)) (C := RX1) (T := TX1) (N := 14) hx hb hT in_X1 hown hK hP 18 cw_18 rfl 8 (by decide) (hT _ t225) (fun _ h9 => h9) rfl dX1_copy_77 ?_
  refine lv_iconst (v := 0) hx hb dX1_copy_80 (by decide) ?_
  refine lv_bipush (v := 8) hx hb dX1_copy_81 (by decide) ?_
  refine c_cpy hx hb (hml.trans hl.1.symm) hown (hT _ t684) (hT _ t686) (hT _ t685) (hT _ t121) hK hP hD hS cw_6 cw_20 cs_20 (Nat.le_of_ble_eq_true rfl) (Nat.le_of_ble_eq_true rfl) (by decide) (by decide) (by decide) dX1_copy_83 (fun s14 H9 locs9 fs14 es14 gs14 hP9 hD9 hS9 => ?_)
  clear hP hD hS
  have hS := hS9
  have hP := hP9
  have hD := hD9
  clear hP9 hD9 hS9
  have hBs14 : CB s14 := by rw [es14]; exact cb_sw hBs13 (show KI 4 fs14 from fun j9 h9 => by rw [gs14 j9 h9]; exact (rb_6 hBs13 h9))
  have hFs14 : FR [18, 19, 20, 21, 22, 23, 24, 26, 27, 28, 29, 30] st s14 := fr_sw hFs13 (List.mem_of_getElem? (i := 2) rfl) es14
  refine lv_aload_n hx hb dX1_copy_86 rfl (lv_at hl 1 rfl) ?_
  refine va_get (D := D) (ci := 1) (v := .ref (a 7)) (C := RX1) (T := TX1) (N := 14) hx hb hT in_X1 hown hK hP 4 cw_4 rfl 9 (by decide) (hT _ t228) (fun _ h9 => h9) rfl dX1_copy_87 ?_
  refine lv_iconst (v := 0) hx hb dX1_copy_90 (by decide) ?_
  refine lv_aload_n hx hb dX1_copy_91 rfl (lv_at hl 0 rfl) ?_
  refine va_get (D := D) (ci := 1) (v := .ref (a 21)) (C := RX1) (T := TX1) (N := 14) hx hb hT in_X1 hown hK hP 18 cw_18 rfl 9 (by decide) (hT _ t228) (fun _ h9 => h9) rfl dX1_copy_92 ?_
  refine lv_iconst (v := 0) hx hb dX1_copy_95 (by decide) ?_
  refine lv_bipush (v := 8) hx hb dX1_copy_96 (by decide) ?_
  refine c_cpy hx hb (hml.trans hl.1.symm) hown (hT _ t684) (hT _ t686) (hT _ t685) (hT _ t121) hK hP hD hS cw_7 cw_21 cs_21 (Nat.le_of_ble_eq_true rfl) (Nat.le_of_ble_eq_true rfl) (by decide) (by decide) (by decide) dX1_copy_98 (fun s15 H9 locs9 fs15 es15 gs15 hP9 hD9 hS9 => ?_)
  clear hP hD hS
  have hS := hS9
  have hP := hP9
  have hD := hD9
  clear hP9 hD9 hS9
  have hBs15 : CB s15 := by rw [es15]; exact cb_sw hBs14 trivial
  have hFs15 : FR [18, 19, 20, 21, 22, 23, 24, 26, 27, 28, 29, 30] st s15 := fr_sw hFs14 (List.mem_of_getElem? (i := 3) rfl) es15
  refine lv_aload_n hx hb dX1_copy_101 rfl (lv_at hl 1 rfl) ?_
  refine va_get (D := D) (ci := 1) (v := .ref (a 8)) (C := RX1) (T := TX1) (N := 14) hx hb hT in_X1 hown hK hP 4 cw_4 rfl 10 (by decide) (hT _ t233) (fun _ h9 => h9) rfl dX1_copy_102 ?_
  refine lv_iconst (v := 0) hx hb dX1_copy_105 (by decide) ?_
  refine lv_aload_n hx hb dX1_copy_106 rfl (lv_at hl 0 rfl) ?_
  refine va_get (D := D) (ci := 1) (v := .ref (a 22)) (C := RX1) (T := TX1) (N := 14) hx hb hT in_X1 hown hK hP 18 cw_18 rfl 10 (by decide) (hT _ t233) (fun _ h9 => h9) rfl dX1_copy_107 ?_
  refine lv_iconst (v := 0) hx hb dX1_copy_110 (by decide) ?_
  refine lv_bipush (v := 6) hx hb dX1_copy_111 (by decide) ?_
  refine c_cpy hx hb (hml.trans hl.1.symm) hown (hT _ t684) (hT _ t686) (hT _ t685) (hT _ t121) hK hP hD hS cw_8 cw_22 cs_22 (Nat.le_of_ble_eq_true rfl) (Nat.le_of_ble_eq_true rfl) (by decide) (by decide) (by decide) dX1_copy_113 (fun s16 H9 locs9 fs16 es16 gs16 hP9 hD9 hS9 => ?_)
  clear hP hD hS
  have hS := hS9
  have hP := hP9
  have hD := hD9
  clear hP9 hD9 hS9
  have hBs16 : CB s16 := by rw [es16]; exact cb_sw hBs15 (show KI 5 fs16 from fun j9 h9 => by rw [gs16 j9 h9]; exact (rb_8 hBs15 h9))
  have hFs16 : FR [18, 19, 20, 21, 22, 23, 24, 26, 27, 28, 29, 30] st s16 := fr_sw hFs15 (List.mem_of_getElem? (i := 4) rfl) es16
  refine lv_aload_n hx hb dX1_copy_116 rfl (lv_at hl 1 rfl) ?_
  refine va_get (D := D) (ci := 1) (v := .ref (a 9)) (C := RX1) (T := TX1) (N := 14) hx hb hT in_X1 hown hK hP 4 cw_4 rfl 11 (by decide) (hT _ t235) (fun _ h9 => h9) rfl dX1_copy_117 ?_
  refine lv_iconst (v := 0) hx hb dX1_copy_120 (by decide) ?_
  refine lv_aload_n hx hb dX1_copy_121 rfl (lv_at hl 0 rfl) ?_
  refine va_get (D := D) (ci := 1) (v := .ref (a 23)) (C := RX1) (T := TX1) (N := 14) hx hb hT in_X1 hown hK hP 18 cw_18 rfl 11 (by decide) (hT _ t235) (fun _ h9 => h9) rfl dX1_copy_122 ?_
  refine lv_iconst (v := 0) hx hb dX1_copy_125 (by decide) ?_
  refine lv_bipush (v := 6) hx hb dX1_copy_126 (by decide) ?_
  refine c_cpy hx hb (hml.trans hl.1.symm) hown (hT _ t684) (hT _ t686) (hT _ t685) (hT _ t121) hK hP hD hS cw_9 cw_23 cs_23 (Nat.le_of_ble_eq_true rfl) (Nat.le_of_ble_eq_true rfl) (by decide) (by decide) (by decide) dX1_copy_128 (fun s17 H9 locs9 fs17 es17 gs17 hP9 hD9 hS9 => ?_)
  clear hP hD hS
  have hS := hS9
  have hP := hP9
  have hD := hD9
  clear hP9 hD9 hS9
  have hBs17 : CB s17 := by rw [es17]; exact cb_sw hBs16 (show KI 6 fs17 from fun j9 h9 => by rw [gs17 j9 h9]; exact (rb_9 hBs16 h9))
  have hFs17 : FR [18, 19, 20, 21, 22, 23, 24, 26, 27, 28, 29, 30] st s17 := fr_sw hFs16 (List.mem_of_getElem? (i := 5) rfl) es17
  refine lv_aload_n hx hb dX1_copy_131 rfl (lv_at hl 1 rfl) ?_
  refine va_get (D := D) (ci := 1) (v := .ref (a 10)) (C := RX1) (T := TX1) (N := 14) hx hb hT in_X1 hown hK hP 4 cw_4 rfl 12 (by decide) (hT _ t237) (fun _ h9 => h9) rfl dX1_copy_132 ?_
  refine lv_iconst (v := 0) hx hb dX1_copy_135 (by decide) ?_
  refine lv_aload_n hx hb dX1_copy_136 rfl (lv_at hl 0 rfl) ?_
  refine va_get (D := D) (ci := 1) (v := .ref (a 24)) (C := RX1) (T := TX1) (N := 14) hx hb hT in_X1 hown hK hP 18 cw_18 rfl 12 (by decide) (hT _ t237) (fun _ h9 => h9) rfl dX1_copy_137 ?_
  refine lv_iconst (v := 0) hx hb dX1_copy_140 (by decide) ?_
  refine lv_bipush (v := 6) hx hb dX1_copy_141 (by decide) ?_
  refine c_cpy hx hb (hml.trans hl.1.symm) hown (hT _ t684) (hT _ t686) (hT _ t685) (hT _ t121) hK hP hD hS cw_10 cw_24 cs_24 (Nat.le_of_ble_eq_true rfl) (Nat.le_of_ble_eq_true rfl) (by decide) (by decide) (by decide) dX1_copy_143 (fun s18 H9 locs9 fs18 es18 gs18 hP9 hD9 hS9 => ?_)
  clear hP hD hS
  have hS := hS9
  have hP := hP9
  have hD := hD9
  clear hP9 hD9 hS9
  have hBs18 : CB s18 := by rw [es18]; exact cb_sw hBs17 trivial
  have hFs18 : FR [18, 19, 20, 21, 22, 23, 24, 26, 27, 28, 29, 30] st s18 := fr_sw hFs17 (List.mem_of_getElem? (i := 6) rfl) es18
  refine lv_aload_n hx hb dX1_copy_146 rfl (lv_at hl 0 rfl) ?_
  refine va_get (D := D) (ci := 1) (v := .ref (a 25)) (C := RX1) (T := TX1) (N := 14) hx hb hT in_X1 hown hK hP 18 cw_18 rfl 13 (by decide) (hT _ t239) (fun _ h9 => h9) rfl dX1_copy_147 ?_
  refine lv_aload_n hx hb dX1_copy_150 rfl (lv_at hl 1 rfl) ?_
  refine va_get (D := D) (ci := 1) (v := .ref (a 11)) (C := RX1) (T := TX1) (N := 14) hx hb hT in_X1 hown hK hP 4 cw_4 rfl 13 (by decide) (hT _ t239) (fun _ h9 => h9) rfl dX1_copy_151 ?_
  refine ca_v hP hD hS hA (fun hDc => run_V (mc := 0) (ms := 0) (As := [.ref (a 11)]) (rest := []) S (s_X5_copy l D k a s18 sl 25 11  _ (by decide) (by decide) hBs18  ) lkX1_68 ok_X5_copy ⟨rfl, rfl, Nat.le_of_ble_eq_true rfl, Nat.le_of_ble_eq_true rfl⟩ (pw_V (ci := 5) (q0 := 25) hK hN rfl cw_25 hP hDc) rfl hl.1 rfl (Nat.le_of_ble_eq_true rfl) ⟨Nat.zero_le _, Nat.zero_le _⟩ dX1_copy_154) (fun s19 H9 locs9 hs19 hP9 hD9 hS9 => ?_)
  clear hP hD hS
  have hS := hS9
  have hP := hP9
  have hD := hD9
  clear hP9 hD9 hS9
  obtain ⟨hBs19, gs19, fs19⟩ := hs19
  have hFs19 : FR [18, 19, 20, 21, 22, 23, 24, 26, 27, 28, 29, 30] st s19 := fr_ca hFs18 gs19 (sub_1 (List.mem_of_getElem? (i := 7) rfl) (sub_1 (List.mem_of_getElem? (i := 8) rfl) (sub_1 (List.mem_of_getElem? (i := 9) rfl) (sub_1 (List.mem_of_getElem? (i := 10) rfl) (sub_1 (List.mem_of_getElem? (i := 11) rfl) sub_0)))))
  rw [hQ]
  exact W.vret hx hb hr (fun t ht hW => ⟨⟨s19, rfl, ⟨hBs19, hFs19, trivial⟩, by rw [ht]; exact hP, va_K.moved hW.alike (hK.sub (tys' := []) [] rfl), by rw [hAe]; exact hD⟩, by rw [hAe]; exact hS.F ht⟩) hS.2.2 dX1_copy_157
set_option maxHeartbeats 4000000 in
set_option maxRecDepth 100000 in
theorem s_X1_copy_1 (l : Launch) (D : va_G) (k : Nat → ClassId) (a : Nat → Nat) (st : CT) (sl : CL) (sz : Nat) (hB : CB st)  : Met l yX1_copy (.code yX1_copy cX1_copy 2 none :: TB) (rmw 2 0 0) (va_Pc [.ref (a 42), .ref (a 18)] (PW D k sz (CWS k a st sl))) (QV D (S := CT) (fun u => CB u ∧ FR [42, 43, 44, 45, 46, 47, 48, 50, 51, 52, 53, 54] st u ∧ (True)) (fun u => CWS k a u sl) (fun _ => []) (CWS k a st sl) sz) 0 0 (va_A (CWS k a st sl) sz) := by
  refine Met.ofW (cc := cX1_copy) (maxL := 2) (ret := none) (by decide) rfl ?_
  intro p e s m args below meth c s₁ B hml hv
  obtain ⟨rfl, hsz, hP, hK, hD0, hN⟩ := hv
  have hx := B.exec
  have hb := B.bytes
  have hr := B.returns
  have hT : ∀ w9 ∈ TB, w9.before ([.ref (a 42), .ref (a 18)] : List Value).toArray s = true := fun w9 h => atoms_spec (ws := .code yX1_copy cX1_copy 2 none :: TB) B.pre w9 (List.mem_cons_of_mem _ h)
  have hown : s.vm.findClass RX1 = some m.cls := findClass_of_methodNamed B.named
  have S : CallFix p m c cX1_copy 2 s _ TB RX1 := ⟨hx, hb, hml, hown, hT⟩
  subst hsz
  have hD := hD0.self (sz := s.heap.size)
  generalize hAe : va_A (CWS k a st sl) s.heap.size = A at hD ⊢
  have hA : ∀ q : Nat, s.heap.size ≤ q → A q := fun q h => by rw [← hAe]; exact Or.inr h
  have hS : va_S A s.heap s.heap [] := va_S.rf
  have hl := lv_entry ([.ref (a 42), .ref (a 18)]) (n := 2) (Nat.le_of_ble_eq_true rfl)
  rw [lg_entry_eq]
  generalize (lg_sl ([.ref (a 42), .ref (a 18)]) ++ List.replicate (2 - (lg_sl ([.ref (a 42), .ref (a 18)])).length) Slot.unset).toArray = ls at hl ⊢
  have hl : lv_has ls 2 [(0, .ref (a 42)), (1, .ref (a 18))] := hl
  refine nameQ (fun Q hQ => ?_)
  refine lv_aload_n hx hb dX1_copy_0 rfl (lv_at hl 0 rfl) ?_
  refine lv_aload_n hx hb dX1_copy_1 rfl (lv_at hl 1 rfl) ?_
  refine va_get (D := D) (ci := 1) (v := .int (st 18 0)) (C := RX1) (T := TX1) (N := 14) hx hb hT in_X1 hown hK hP 18 cw_18 rfl 0 (by decide) (hT _ t195) (fun _ h9 => h9) rfl dX1_copy_2 ?_
  refine c_put (ci := 1) (C := RX1) (T := TX1) (N := 14) (j := 0) (v := (st 18 0)) hx hb hT in_X1 tyX1 tyX1_ok nmX1 hown hK hP hD hS cw_42 rfl (by decide) (hT _ t195) (by decide +kernel) (by decide +kernel) rfl rfl (Nat.le_of_ble_eq_true rfl) (cs_42 (upd (st 42) 0 (st 18 0))) dX1_copy_5 (fun s1 H9 locs9 es1 hP9 hD9 hS9 => ?_)
  clear hP hD hS
  have hS := hS9
  have hP := hP9
  have hD := hD9
  clear hP9 hD9 hS9
  have hBs1 : CB s1 := by rw [es1]; exact cb_sw hB (ki_3_0 (hB 42))
  have hFs1 : FR [42, 43, 44, 45, 46, 47, 48, 50, 51, 52, 53, 54] st s1 := fr_sw fr_rf (List.mem_of_getElem? (i := 0) rfl) es1
  refine lv_aload_n hx hb dX1_copy_8 rfl (lv_at hl 0 rfl) ?_
  refine lv_aload_n hx hb dX1_copy_9 rfl (lv_at hl 1 rfl) ?_
  refine va_get (D := D) (ci := 1) (v := .int (s1 18 1)) (C := RX1) (T := TX1) (N := 14) hx hb hT in_X1 hown hK hP 18 cw_18 rfl 1 (by decide) (hT _ t198) (fun _ h9 => h9) rfl dX1_copy_10 ?_
  refine k_top (y := (st 18 1)) (congrFun (hFs1 18 (nm_1 (by decide) (nm_1 (by decide) (nm_1 (by decide) (nm_1 (by decide) (nm_1 (by decide) (nm_1 (by decide) (nm_1 (by decide) (nm_1 (by decide) (nm_1 (by decide) (nm_1 (by decide) (nm_1 (by decide) (nm_1 (by decide) nm_0))))))))))))) 1) ?_
  have h2 : Iv 0 6 (st 18 1) := (rb_18_1 hB)
  refine c_put (ci := 1) (C := RX1) (T := TX1) (N := 14) (j := 1) (v := (st 18 1)) hx hb hT in_X1 tyX1 tyX1_ok nmX1 hown hK hP hD hS cw_42 rfl (by decide) (hT _ t198) (by decide +kernel) (by decide +kernel) rfl rfl (Nat.le_of_ble_eq_true rfl) (cs_42 (upd (s1 42) 1 (st 18 1))) dX1_copy_13 (fun s3 H9 locs9 es3 hP9 hD9 hS9 => ?_)
  clear hP hD hS
  have hS := hS9
  have hP := hP9
  have hD := hD9
  clear hP9 hD9 hS9
  have hBs3 : CB s3 := by rw [es3]; exact cb_sw hBs1 (ki_3_1 (hBs1 42) h2)
  have hFs3 : FR [42, 43, 44, 45, 46, 47, 48, 50, 51, 52, 53, 54] st s3 := fr_sw hFs1 (List.mem_of_getElem? (i := 0) rfl) es3
  refine lv_aload_n hx hb dX1_copy_16 rfl (lv_at hl 0 rfl) ?_
  refine lv_aload_n hx hb dX1_copy_17 rfl (lv_at hl 1 rfl) ?_
  refine va_get (D := D) (ci := 1) (v := .int (s3 18 2)) (C := RX1) (T := TX1) (N := 14) hx hb hT in_X1 hown hK hP 18 cw_18 rfl 2 (by decide) (hT _ t202) (fun _ h9 => h9) rfl dX1_copy_18 ?_
  refine k_top (y := (st 18 2)) (congrFun (hFs3 18 (nm_1 (by decide) (nm_1 (by decide) (nm_1 (by decide) (nm_1 (by decide) (nm_1 (by decide) (nm_1 (by decide) (nm_1 (by decide) (nm_1 (by decide) (nm_1 (by decide) (nm_1 (by decide) (nm_1 (by decide) (nm_1 (by decide) nm_0))))))))))))) 2) ?_
  refine c_put (ci := 1) (C := RX1) (T := TX1) (N := 14) (j := 2) (v := (st 18 2)) hx hb hT in_X1 tyX1 tyX1_ok nmX1 hown hK hP hD hS cw_42 rfl (by decide) (hT _ t202) (by decide +kernel) (by decide +kernel) rfl rfl (Nat.le_of_ble_eq_true rfl) (cs_42 (upd (s3 42) 2 (st 18 2))) dX1_copy_21 (fun s4 H9 locs9 es4 hP9 hD9 hS9 => ?_)
  clear hP hD hS
  have hS := hS9
  have hP := hP9
  have hD := hD9
  clear hP9 hD9 hS9
  have hBs4 : CB s4 := by rw [es4]; exact cb_sw hBs3 (ki_3_2 (hBs3 42))
  have hFs4 : FR [42, 43, 44, 45, 46, 47, 48, 50, 51, 52, 53, 54] st s4 := fr_sw hFs3 (List.mem_of_getElem? (i := 0) rfl) es4
  refine lv_aload_n hx hb dX1_copy_24 rfl (lv_at hl 0 rfl) ?_
  refine lv_aload_n hx hb dX1_copy_25 rfl (lv_at hl 1 rfl) ?_
  refine va_get (D := D) (ci := 1) (v := .int (s4 18 3)) (C := RX1) (T := TX1) (N := 14) hx hb hT in_X1 hown hK hP 18 cw_18 rfl 3 (by decide) (hT _ t207) (fun _ h9 => h9) rfl dX1_copy_26 ?_
  refine k_top (y := (st 18 3)) (congrFun (hFs4 18 (nm_1 (by decide) (nm_1 (by decide) (nm_1 (by decide) (nm_1 (by decide) (nm_1 (by decide) (nm_1 (by decide) (nm_1 (by decide) (nm_1 (by decide) (nm_1 (by decide) (nm_1 (by decide) (nm_1 (by decide) (nm_1 (by decide) nm_0))))))))))))) 3) ?_
  have h5 : Iv 0 8 (st 18 3) := (rb_18_3 hB)
  refine c_put (ci := 1) (C := RX1) (T := TX1) (N := 14) (j := 3) (v := (st 18 3)) hx hb hT in_X1 tyX1 tyX1_ok nmX1 hown hK hP hD hS cw_42 rfl (by decide) (hT _ t207) (by decide +kernel) (by decide +kernel) rfl rfl (Nat.le_of_ble_eq_true rfl) (cs_42 (upd (s4 42) 3 (st 18 3))) dX1_copy_29 (fun s6 H9 locs9 es6 hP9 hD9 hS9 => ?_)
  clear hP hD hS
  have hS := hS9
  have hP := hP9
  have hD := hD9
  clear hP9 hD9 hS9
  have hBs6 : CB s6 := by rw [es6]; exact cb_sw hBs4 (ki_3_3 (hBs4 42) h5)
  have hFs6 : FR [42, 43, 44, 45, 46, 47, 48, 50, 51, 52, 53, 54] st s6 := fr_sw hFs4 (List.mem_of_getElem? (i := 0) rfl) es6
  refine lv_aload_n hx hb dX1_copy_32 rfl (lv_at hl 0 rfl) ?_
  refine lv_aload_n hx hb dX1_copy_33 rfl (lv_at hl 1 rfl) ?_
  refine va_get (D := D) (ci := 1) (v := .int (s6 18 4)) (C := RX1) (T := TX1) (N := 14) hx hb hT in_X1 hown hK hP 18 cw_18 rfl 4 (by decide) (hT _ t213) (fun _ h9 => h9) rfl dX1_copy_34 ?_
  refine k_top (y := (st 18 4)) (congrFun (hFs6 18 (nm_1 (by decide) (nm_1 (by decide) (nm_1 (by decide) (nm_1 (by decide) (nm_1 (by decide) (nm_1 (by decide) (nm_1 (by decide) (nm_1 (by decide) (nm_1 (by decide) (nm_1 (by decide) (nm_1 (by decide) (nm_1 (by decide) nm_0))))))))))))) 4) ?_
  have h7 : Iv 0 8 (st 18 4) := (rb_18_4 hB)
  refine c_put (ci := 1) (C := RX1) (T := TX1) (N := 14) (j := 4) (v := (st 18 4)) hx hb hT in_X1 tyX1 tyX1_ok nmX1 hown hK hP hD hS cw_42 rfl (by decide) (hT _ t213) (by decide +kernel) (by decide +kernel) rfl rfl (Nat.le_of_ble_eq_true rfl) (cs_42 (upd (s6 42) 4 (st 18 4))) dX1_copy_37 (fun s8 H9 locs9 es8 hP9 hD9 hS9 => ?_)
  clear hP hD hS
  have hS := hS9
  have hP := hP9
  have hD := hD9
  clear hP9 hD9 hS9
  have hBs8 : CB s8 := by rw [es8]; exact cb_sw hBs6 (ki_3_4 (hBs6 42) h7)
  have hFs8 : FR [42, 43, 44, 45, 46, 47, 48, 50, 51, 52, 53, 54] st s8 := fr_sw hFs6 (List.mem_of_getElem? (i := 0) rfl) es8
  refine lv_aload_n hx hb dX1_copy_40 rfl (lv_at hl 0 rfl) ?_
  refine lv_aload_n hx hb dX1_copy_41 rfl (lv_at hl 1 rfl) ?_
  refine va_get (D := D) (ci := 1) (v := .int (s8 18 5)) (C := RX1) (T := TX1) (N := 14) hx hb hT in_X1 hown hK hP 18 cw_18 rfl 5 (by decide) (hT _ t216) (fun _ h9 => h9) rfl dX1_copy_42 ?_
  refine k_top (y := (st 18 5)) (congrFun (hFs8 18 (nm_1 (by decide) (nm_1 (by decide) (nm_1 (by decide) (nm_1 (by decide) (nm_1 (by decide) (nm_1 (by decide) (nm_1 (by decide) (nm_1 (by decide) (nm_1 (by decide) (nm_1 (by decide) (nm_1 (by decide) (nm_1 (by decide) nm_0))))))))))))) 5) ?_
  have h9 : Iv 0 3 (st 18 5) := (rb_18_5 hB)
  refine c_put (ci := 1) (C := RX1) (T := TX1) (N := 14) (j := 5) (v := (st 18 5)) hx hb hT in_X1 tyX1 tyX1_ok nmX1 hown hK hP hD hS cw_42 rfl (by decide) (hT _ t216) (by decide +kernel) (by decide +kernel) rfl rfl (Nat.le_of_ble_eq_true rfl) (cs_42 (upd (s8 42) 5 (st 18 5))) dX1_copy_45 (fun s10 H9 locs9 es10 hP9 hD9 hS9 => ?_)
  clear hP hD hS
  have hS := hS9
  have hP := hP9
  have hD := hD9
  clear hP9 hD9 hS9
  have hBs10 : CB s10 := by rw [es10]; exact cb_sw hBs8 (ki_3_5 (hBs8 42) h9)
  have hFs10 : FR [42, 43, 44, 45, 46, 47, 48, 50, 51, 52, 53, 54] st s10 := fr_sw hFs8 (List.mem_of_getElem? (i := 0) rfl) es10
  refine lv_aload_n hx hb dX1_copy_48 rfl (lv_at hl 0 rfl) ?_
  refine lv_aload_n hx hb dX1_copy_49 rfl (lv_at hl 1 rfl) ?_
  refine va_get (D := D) (ci := 1) (v := .int (s10 18 6)) (C := RX1) (T := TX1) (N := 14) hx hb hT in_X1 hown hK hP 18 cw_18 rfl 6 (by decide) (hT _ t219) (fun _ h9 => h9) rfl dX1_copy_50 ?_
  refine k_top (y := (st 18 6)) (congrFun (hFs10 18 (nm_1 (by decide) (nm_1 (by decide) (nm_1 (by decide) (nm_1 (by decide) (nm_1 (by decide) (nm_1 (by decide) (nm_1 (by decide) (nm_1 (by decide) (nm_1 (by decide) (nm_1 (by decide) (nm_1 (by decide) (nm_1 (by decide) nm_0))))))))))))) 6) ?_
  have h11 : Iv 0 6 (st 18 6) := (rb_18_6 hB)
  refine c_put (ci := 1) (C := RX1) (T := TX1) (N := 14) (j := 6) (v := (st 18 6)) hx hb hT in_X1 tyX1 tyX1_ok nmX1 hown hK hP hD hS cw_42 rfl (by decide) (hT _ t219) (by decide +kernel) (by decide +kernel) rfl rfl (Nat.le_of_ble_eq_true rfl) (cs_42 (upd (s10 42) 6 (st 18 6))) dX1_copy_53 (fun s12 H9 locs9 es12 hP9 hD9 hS9 => ?_)
  clear hP hD hS
  have hS := hS9
  have hP := hP9
  have hD := hD9
  clear hP9 hD9 hS9
  have hBs12 : CB s12 := by rw [es12]; exact cb_sw hBs10 (ki_3_6 (hBs10 42) h11)
  have hFs12 : FR [42, 43, 44, 45, 46, 47, 48, 50, 51, 52, 53, 54] st s12 := fr_sw hFs10 (List.mem_of_getElem? (i := 0) rfl) es12
  refine lv_aload_n hx hb dX1_copy_56 rfl (lv_at hl 1 rfl) ?_
  refine va_get (D := D) (ci := 1) (v := .ref (a 19)) (C := RX1) (T := TX1) (N := 14) hx hb hT in_X1 hown hK hP 18 cw_18 rfl 7 (by decide) (hT _ t222) (fun _ h9 => h9) rfl dX1_copy_57 ?_
  refine lv_iconst (v := 0) hx hb dX1_copy_60 (by decide) ?_
  refine lv_aload_n hx hb dX1_copy_61 rfl (lv_at hl 0 rfl) ?_
  refine va_get (D := D) (ci := 1) (v := .ref (a 43)) (C := RX1) (T := TX1) (N := 14) hx hb hT in_X1 hown hK hP 42 cw_42 rfl 7 (by decide) (hT _ t222) (fun _ h9 => h9) rfl dX1_copy_62 ?_
  refine lv_iconst (v := 0) hx hb dX1_copy_65 (by decide) ?_
  refine lv_bipush (v := 8) hx hb dX1_copy_66 (by decide) ?_
  refine c_cpy hx hb (hml.trans hl.1.symm) hown (hT _ t684) (hT _ t686) (hT _ t685) (hT _ t121) hK hP hD hS cw_19 cw_43 cs_43 (Nat.le_of_ble_eq_true rfl) (Nat.le_of_ble_eq_true rfl) (by decide) (by decide) (by decide) dX1_copy_68 (fun s13 H9 locs9 fs13 es13 gs13 hP9 hD9 hS9 => ?_)
  clear hP hD hS
  have hS := hS9
  have hP := hP9
  have hD := hD9
  clear hP9 hD9 hS9
  have hBs13 : CB s13 := by rw [es13]; exact cb_sw hBs12 (show KI 4 fs13 from fun j9 h9 => by rw [gs13 j9 h9]; exact (rb_19 hBs12 h9))
  have hFs13 : FR [42, 43, 44, 45, 46, 47, 48, 50, 51, 52, 53, 54] st s13 := fr_sw hFs12 (List.mem_of_getElem? (i := 1) rfl) es13
  refine lv_aload_n hx hb dX1_copy_71 rfl (lv_at hl 1 rfl) ?_
  refine va_get (D := D) (ci := 1) (v := .ref (a 20)) (C := RX1) (T := TX1) (N := 14) hx hb hT in_X1 hown hK hP 18 cw_18 rfl 8 (by decide) (hT _ t225) (fun _ h9 => h9) rfl dX1_copy_72 ?_
  refine lv_iconst (v := 0) hx hb dX1_copy_75 (by decide) ?_
  refine lv_aload_n hx hb dX1_copy_76 rfl (lv_at hl 0 rfl) ?_
  refine va_get (D := D) (ci := 1) (v := .ref (a 44)) (C := RX1) (T := TX1) (N := 14) hx hb hT in_X1 hown hK hP 42 cw_42 rfl 8 (by decide) (hT _ t225) (fun _ h9 => h9) rfl dX1_copy_77 ?_
  refine lv_iconst (v := 0) hx hb dX1_copy_80 (by decide) ?_
  refine lv_bipush (v := 8) hx hb dX1_copy_81 (by decide) ?_
  refine c_cpy hx hb (hml.trans hl.1.symm) hown (hT _ t684) (hT _ t686) (hT _ t685) (hT _ t121) hK hP hD hS cw_20 cw_44 cs_44 (Nat.le_of_ble_eq_true rfl) (Nat.le_of_ble_eq_true rfl) (by decide) (by decide) (by decide) dX1_copy_83 (fun s14 H9 locs9 fs14 es14 gs14 hP9 hD9 hS9 => ?_)
  clear hP hD hS
  have hS := hS9
  have hP := hP9
  have hD := hD9
  clear hP9 hD9 hS9
  have hBs14 : CB s14 := by rw [es14]; exact cb_sw hBs13 (show KI 4 fs14 from fun j9 h9 => by rw [gs14 j9 h9]; exact (rb_20 hBs13 h9))
  have hFs14 : FR [42, 43, 44, 45, 46, 47, 48, 50, 51, 52, 53, 54] st s14 := fr_sw hFs13 (List.mem_of_getElem? (i := 2) rfl) es14
  refine lv_aload_n hx hb dX1_copy_86 rfl (lv_at hl 1 rfl) ?_
  refine va_get (D := D) (ci := 1) (v := .ref (a 21)) (C := RX1) (T := TX1) (N := 14) hx hb hT in_X1 hown hK hP 18 cw_18 rfl 9 (by decide) (hT _ t228) (fun _ h9 => h9) rfl dX1_copy_87 ?_
  refine lv_iconst (v := 0) hx hb dX1_copy_90 (by decide) ?_
  refine lv_aload_n hx hb dX1_copy_91 rfl (lv_at hl 0 rfl) ?_
  refine va_get (D := D) (ci := 1) (v := .ref (a 45)) (C := RX1) (T := TX1) (N := 14) hx hb hT in_X1 hown hK hP 42 cw_42 rfl 9 (by decide) (hT _ t228) (fun _ h9 => h9) rfl dX1_copy_92 ?_
  refine lv_iconst (v := 0) hx hb dX1_copy_95 (by decide) ?_
  refine lv_bipush (v := 8) hx hb dX1_copy_96 (by decide) ?_
  refine c_cpy hx hb (hml.trans hl.1.symm) hown (hT _ t684) (hT _ t686) (hT _ t685) (hT _ t121) hK hP hD hS cw_21 cw_45 cs_45 (Nat.le_of_ble_eq_true rfl) (Nat.le_of_ble_eq_true rfl) (by decide) (by decide) (by decide) dX1_copy_98 (fun s15 H9 locs9 fs15 es15 gs15 hP9 hD9 hS9 => ?_)
  clear hP hD hS
  have hS := hS9
  have hP := hP9
  have hD := hD9
  clear hP9 hD9 hS9
  have hBs15 : CB s15 := by rw [es15]; exact cb_sw hBs14 trivial
  have hFs15 : FR [42, 43, 44, 45, 46, 47, 48, 50, 51, 52, 53, 54] st s15 := fr_sw hFs14 (List.mem_of_getElem? (i := 3) rfl) es15
  refine lv_aload_n hx hb dX1_copy_101 rfl (lv_at hl 1 rfl) ?_
  refine va_get (D := D) (ci := 1) (v := .ref (a 22)) (C := RX1) (T := TX1) (N := 14) hx hb hT in_X1 hown hK hP 18 cw_18 rfl 10 (by decide) (hT _ t233) (fun _ h9 => h9) rfl dX1_copy_102 ?_
  refine lv_iconst (v := 0) hx hb dX1_copy_105 (by decide) ?_
  refine lv_aload_n hx hb dX1_copy_106 rfl (lv_at hl 0 rfl) ?_
  refine va_get (D := D) (ci := 1) (v := .ref (a 46)) (C := RX1) (T := TX1) (N := 14) hx hb hT in_X1 hown hK hP 42 cw_42 rfl 10 (by decide) (hT _ t233) (fun _ h9 => h9) rfl dX1_copy_107 ?_
  refine lv_iconst (v := 0) hx hb dX1_copy_110 (by decide) ?_
  refine lv_bipush (v := 6) hx hb dX1_copy_111 (by decide) ?_
  refine c_cpy hx hb (hml.trans hl.1.symm) hown (hT _ t684) (hT _ t686) (hT _ t685) (hT _ t121) hK hP hD hS cw_22 cw_46 cs_46 (Nat.le_of_ble_eq_true rfl) (Nat.le_of_ble_eq_true rfl) (by decide) (by decide) (by decide) dX1_copy_113 (fun s16 H9 locs9 fs16 es16 gs16 hP9 hD9 hS9 => ?_)
  clear hP hD hS
  have hS := hS9
  have hP := hP9
  have hD := hD9
  clear hP9 hD9 hS9
  have hBs16 : CB s16 := by rw [es16]; exact cb_sw hBs15 (show KI 5 fs16 from fun j9 h9 => by rw [gs16 j9 h9]; exact (rb_22 hBs15 h9))
  have hFs16 : FR [42, 43, 44, 45, 46, 47, 48, 50, 51, 52, 53, 54] st s16 := fr_sw hFs15 (List.mem_of_getElem? (i := 4) rfl) es16
  refine lv_aload_n hx hb dX1_copy_116 rfl (lv_at hl 1 rfl) ?_
  refine va_get (D := D) (ci := 1) (v := .ref (a 23)) (C := RX1) (T := TX1) (N := 14) hx hb hT in_X1 hown hK hP 18 cw_18 rfl 11 (by decide) (hT _ t235) (fun _ h9 => h9) rfl dX1_copy_117 ?_
  refine lv_iconst (v := 0) hx hb dX1_copy_120 (by decide) ?_
  refine lv_aload_n hx hb dX1_copy_121 rfl (lv_at hl 0 rfl) ?_
  refine va_get (D := D) (ci := 1) (v := .ref (a 47)) (C := RX1) (T := TX1) (N := 14) hx hb hT in_X1 hown hK hP 42 cw_42 rfl 11 (by decide) (hT _ t235) (fun _ h9 => h9) rfl dX1_copy_122 ?_
  refine lv_iconst (v := 0) hx hb dX1_copy_125 (by decide) ?_
  refine lv_bipush (v := 6) hx hb dX1_copy_126 (by decide) ?_
  refine c_cpy hx hb (hml.trans hl.1.symm) hown (hT _ t684) (hT _ t686) (hT _ t685) (hT _ t121) hK hP hD hS cw_23 cw_47 cs_47 (Nat.le_of_ble_eq_true rfl) (Nat.le_of_ble_eq_true rfl) (by decide) (by decide) (by decide) dX1_copy_128 (fun s17 H9 locs9 fs17 es17 gs17 hP9 hD9 hS9 => ?_)
  clear hP hD hS
  have hS := hS9
  have hP := hP9
  have hD := hD9
  clear hP9 hD9 hS9
  have hBs17 : CB s17 := by rw [es17]; exact cb_sw hBs16 (show KI 6 fs17 from fun j9 h9 => by rw [gs17 j9 h9]; exact (rb_23 hBs16 h9))
  have hFs17 : FR [42, 43, 44, 45, 46, 47, 48, 50, 51, 52, 53, 54] st s17 := fr_sw hFs16 (List.mem_of_getElem? (i := 5) rfl) es17
  refine lv_aload_n hx hb dX1_copy_131 rfl (lv_at hl 1 rfl) ?_
  refine va_get (D := D) (ci := 1) (v := .ref (a 24)) (C := RX1) (T := TX1) (N := 14) hx hb hT in_X1 hown hK hP 18 cw_18 rfl 12 (by decide) (hT _ t237) (fun _ h9 => h9) rfl dX1_copy_132 ?_
  refine lv_iconst (v := 0) hx hb dX1_copy_135 (by decide) ?_
  refine lv_aload_n hx hb dX1_copy_136 rfl (lv_at hl 0 rfl) ?_
  refine va_get (D := D) (ci := 1) (v := .ref (a 48)) (C := RX1) (T := TX1) (N := 14) hx hb hT in_X1 hown hK hP 42 cw_42 rfl 12 (by decide) (hT _ t237) (fun _ h9 => h9) rfl dX1_copy_137 ?_
  refine lv_iconst (v := 0) hx hb dX1_copy_140 (by decide) ?_
  refine lv_bipush (v := 6) hx hb dX1_copy_141 (by decide) ?_
  refine c_cpy hx hb (hml.trans hl.1.symm) hown (hT _ t684) (hT _ t686) (hT _ t685) (hT _ t121) hK hP hD hS cw_24 cw_48 cs_48 (Nat.le_of_ble_eq_true rfl) (Nat.le_of_ble_eq_true rfl) (by decide) (by decide) (by decide) dX1_copy_143 (fun s18 H9 locs9 fs18 es18 gs18 hP9 hD9 hS9 => ?_)
  clear hP hD hS
  have hS := hS9
  have hP := hP9
  have hD := hD9
  clear hP9 hD9 hS9
  have hBs18 : CB s18 := by rw [es18]; exact cb_sw hBs17 trivial
  have hFs18 : FR [42, 43, 44, 45, 46, 47, 48, 50, 51, 52, 53, 54] st s18 := fr_sw hFs17 (List.mem_of_getElem? (i := 6) rfl) es18
  refine lv_aload_n hx hb dX1_copy_146 rfl (lv_at hl 0 rfl) ?_
  refine va_get (D := D) (ci := 1) (v := .ref (a 49)) (C := RX1) (T := TX1) (N := 14) hx hb hT in_X1 hown hK hP 42 cw_42 rfl 13 (by decide) (hT _ t239) (fun _ h9 => h9) rfl dX1_copy_147 ?_
  refine lv_aload_n hx hb dX1_copy_150 rfl (lv_at hl 1 rfl) ?_
  refine va_get (D := D) (ci := 1) (v := .ref (a 25)) (C := RX1) (T := TX1) (N := 14) hx hb hT in_X1 hown hK hP 18 cw_18 rfl 13 (by decide) (hT _ t239) (fun _ h9 => h9) rfl dX1_copy_151 ?_
  refine ca_v hP hD hS hA (fun hDc => run_V (mc := 0) (ms := 0) (As := [.ref (a 25)]) (rest := []) S (s_X5_copy l D k a s18 sl 49 25  _ (by decide) (by decide) hBs18  ) lkX1_68 ok_X5_copy ⟨rfl, rfl, Nat.le_of_ble_eq_true rfl, Nat.le_of_ble_eq_true rfl⟩ (pw_V (ci := 5) (q0 := 49) hK hN rfl cw_49 hP hDc) rfl hl.1 rfl (Nat.le_of_ble_eq_true rfl) ⟨Nat.zero_le _, Nat.zero_le _⟩ dX1_copy_154) (fun s19 H9 locs9 hs19 hP9 hD9 hS9 => ?_)
  clear hP hD hS
  have hS := hS9
  have hP := hP9
  have hD := hD9
  clear hP9 hD9 hS9
  obtain ⟨hBs19, gs19, fs19⟩ := hs19
  have hFs19 : FR [42, 43, 44, 45, 46, 47, 48, 50, 51, 52, 53, 54] st s19 := fr_ca hFs18 gs19 (sub_1 (List.mem_of_getElem? (i := 7) rfl) (sub_1 (List.mem_of_getElem? (i := 8) rfl) (sub_1 (List.mem_of_getElem? (i := 9) rfl) (sub_1 (List.mem_of_getElem? (i := 10) rfl) (sub_1 (List.mem_of_getElem? (i := 11) rfl) sub_0)))))
  rw [hQ]
  exact W.vret hx hb hr (fun t ht hW => ⟨⟨s19, rfl, ⟨hBs19, hFs19, trivial⟩, by rw [ht]; exact hP, va_K.moved hW.alike (hK.sub (tys' := []) [] rfl), by rw [hAe]; exact hD⟩, by rw [hAe]; exact hS.F ht⟩) hS.2.2 dX1_copy_157
set_option maxHeartbeats 4000000 in
set_option maxRecDepth 100000 in
theorem s_X1_copy_2 (l : Launch) (D : va_G) (k : Nat → ClassId) (a : Nat → Nat) (st : CT) (sl : CL) (sz : Nat) (hB : CB st)  : Met l yX1_copy (.code yX1_copy cX1_copy 2 none :: TB) (rmw 2 0 0) (va_Pc [.ref (a 65), .ref (a 18)] (PW D k sz (CWS k a st sl))) (QV D (S := CT) (fun u => CB u ∧ FR [65, 66, 67, 68, 69, 70, 71, 73, 74, 75, 76, 77] st u ∧ (True)) (fun u => CWS k a u sl) (fun _ => []) (CWS k a st sl) sz) 0 0 (va_A (CWS k a st sl) sz) := by
  refine Met.ofW (cc := cX1_copy) (maxL := 2) (ret := none) (by decide) rfl ?_
  intro p e s m args below meth c s₁ B hml hv
  obtain ⟨rfl, hsz, hP, hK, hD0, hN⟩ := hv
  have hx := B.exec
  have hb := B.bytes
  have hr := B.returns
  have hT : ∀ w9 ∈ TB, w9.before ([.ref (a 65), .ref (a 18)] : List Value).toArray s = true := fun w9 h => atoms_spec (ws := .code yX1_copy cX1_copy 2 none :: TB) B.pre w9 (List.mem_cons_of_mem _ h)
  have hown : s.vm.findClass RX1 = some m.cls := findClass_of_methodNamed B.named
  have S : CallFix p m c cX1_copy 2 s _ TB RX1 := ⟨hx, hb, hml, hown, hT⟩
  subst hsz
  have hD := hD0.self (sz := s.heap.size)
  generalize hAe : va_A (CWS k a st sl) s.heap.size = A at hD ⊢
  have hA : ∀ q : Nat, s.heap.size ≤ q → A q := fun q h => by rw [← hAe]; exact Or.inr h
  have hS : va_S A s.heap s.heap [] := va_S.rf
  have hl := lv_entry ([.ref (a 65), .ref (a 18)]) (n := 2) (Nat.le_of_ble_eq_true rfl)
  rw [lg_entry_eq]
  generalize (lg_sl ([.ref (a 65), .ref (a 18)]) ++ List.replicate (2 - (lg_sl ([.ref (a 65), .ref (a 18)])).length) Slot.unset).toArray = ls at hl ⊢
  have hl : lv_has ls 2 [(0, .ref (a 65)), (1, .ref (a 18))] := hl
  refine nameQ (fun Q hQ => ?_)
  refine lv_aload_n hx hb dX1_copy_0 rfl (lv_at hl 0 rfl) ?_
  refine lv_aload_n hx hb dX1_copy_1 rfl (lv_at hl 1 rfl) ?_
  refine va_get (D := D) (ci := 1) (v := .int (st 18 0)) (C := RX1) (T := TX1) (N := 14) hx hb hT in_X1 hown hK hP 18 cw_18 rfl 0 (by decide) (hT _ t195) (fun _ h9 => h9) rfl dX1_copy_2 ?_
  refine c_put (ci := 1) (C := RX1) (T := TX1) (N := 14) (j := 0) (v := (st 18 0)) hx hb hT in_X1 tyX1 tyX1_ok nmX1 hown hK hP hD hS cw_65 rfl (by decide) (hT _ t195) (by decide +kernel) (by decide +kernel) rfl rfl (Nat.le_of_ble_eq_true rfl) (cs_65 (upd (st 65) 0 (st 18 0))) dX1_copy_5 (fun s1 H9 locs9 es1 hP9 hD9 hS9 => ?_)
  clear hP hD hS
  have hS := hS9
  have hP := hP9
  have hD := hD9
  clear hP9 hD9 hS9
  have hBs1 : CB s1 := by rw [es1]; exact cb_sw hB (ki_3_0 (hB 65))
  have hFs1 : FR [65, 66, 67, 68, 69, 70, 71, 73, 74, 75, 76, 77] st s1 := fr_sw fr_rf (List.mem_of_getElem? (i := 0) rfl) es1
  refine lv_aload_n hx hb dX1_copy_8 rfl (lv_at hl 0 rfl) ?_
  refine lv_aload_n hx hb dX1_copy_9 rfl (lv_at hl 1 rfl) ?_
  refine va_get (D := D) (ci := 1) (v := .int (s1 18 1)) (C := RX1) (T := TX1) (N := 14) hx hb hT in_X1 hown hK hP 18 cw_18 rfl 1 (by decide) (hT _ t198) (fun _ h9 => h9) rfl dX1_copy_10 ?_
  refine k_top (y := (st 18 1)) (congrFun (hFs1 18 (nm_1 (by decide) (nm_1 (by decide) (nm_1 (by decide) (nm_1 (by decide) (nm_1 (by decide) (nm_1 (by decide) (nm_1 (by decide) (nm_1 (by decide) (nm_1 (by decide) (nm_1 (by decide) (nm_1 (by decide) (nm_1 (by decide) nm_0))))))))))))) 1) ?_
  have h2 : Iv 0 6 (st 18 1) := (rb_18_1 hB)
  refine c_put (ci := 1) (C := RX1) (T := TX1) (N := 14) (j := 1) (v := (st 18 1)) hx hb hT in_X1 tyX1 tyX1_ok nmX1 hown hK hP hD hS cw_65 rfl (by decide) (hT _ t198) (by decide +kernel) (by decide +kernel) rfl rfl (Nat.le_of_ble_eq_true rfl) (cs_65 (upd (s1 65) 1 (st 18 1))) dX1_copy_13 (fun s3 H9 locs9 es3 hP9 hD9 hS9 => ?_)
  clear hP hD hS
  have hS := hS9
  have hP := hP9
  have hD := hD9
  clear hP9 hD9 hS9
  have hBs3 : CB s3 := by rw [es3]; exact cb_sw hBs1 (ki_3_1 (hBs1 65) h2)
  have hFs3 : FR [65, 66, 67, 68, 69, 70, 71, 73, 74, 75, 76, 77] st s3 := fr_sw hFs1 (List.mem_of_getElem? (i := 0) rfl) es3
  refine lv_aload_n hx hb dX1_copy_16 rfl (lv_at hl 0 rfl) ?_
  refine lv_aload_n hx hb dX1_copy_17 rfl (lv_at hl 1 rfl) ?_
  refine va_get (D := D) (ci := 1) (v := .int (s3 18 2)) (C := RX1) (T := TX1) (N := 14) hx hb hT in_X1 hown hK hP 18 cw_18 rfl 2 (by decide) (hT _ t202) (fun _ h9 => h9) rfl dX1_copy_18 ?_
  refine k_top (y := (st 18 2)) (congrFun (hFs3 18 (nm_1 (by decide) (nm_1 (by decide) (nm_1 (by decide) (nm_1 (by decide) (nm_1 (by decide) (nm_1 (by decide) (nm_1 (by decide) (nm_1 (by decide) (nm_1 (by decide) (nm_1 (by decide) (nm_1 (by decide) (nm_1 (by decide) nm_0))))))))))))) 2) ?_
  refine c_put (ci := 1) (C := RX1) (T := TX1) (N := 14) (j := 2) (v := (st 18 2)) hx hb hT in_X1 tyX1 tyX1_ok nmX1 hown hK hP hD hS cw_65 rfl (by decide) (hT _ t202) (by decide +kernel) (by decide +kernel) rfl rfl (Nat.le_of_ble_eq_true rfl) (cs_65 (upd (s3 65) 2 (st 18 2))) dX1_copy_21 (fun s4 H9 locs9 es4 hP9 hD9 hS9 => ?_)
  clear hP hD hS
  have hS := hS9
  have hP := hP9
  have hD := hD9
  clear hP9 hD9 hS9
  have hBs4 : CB s4 := by rw [es4]; exact cb_sw hBs3 (ki_3_2 (hBs3 65))
  have hFs4 : FR [65, 66, 67, 68, 69, 70, 71, 73, 74, 75, 76, 77] st s4 := fr_sw hFs3 (List.mem_of_getElem? (i := 0) rfl) es4
  refine lv_aload_n hx hb dX1_copy_24 rfl (lv_at hl 0 rfl) ?_
  refine lv_aload_n hx hb dX1_copy_25 rfl (lv_at hl 1 rfl) ?_
  refine va_get (D := D) (ci := 1) (v := .int (s4 18 3)) (C := RX1) (T := TX1) (N := 14) hx hb hT in_X1 hown hK hP 18 cw_18 rfl 3 (by decide) (hT _ t207) (fun _ h9 => h9) rfl dX1_copy_26 ?_
  refine k_top (y := (st 18 3)) (congrFun (hFs4 18 (nm_1 (by decide) (nm_1 (by decide) (nm_1 (by decide) (nm_1 (by decide) (nm_1 (by decide) (nm_1 (by decide) (nm_1 (by decide) (nm_1 (by decide) (nm_1 (by decide) (nm_1 (by decide) (nm_1 (by decide) (nm_1 (by decide) nm_0))))))))))))) 3) ?_
  have h5 : Iv 0 8 (st 18 3) := (rb_18_3 hB)
  refine c_put (ci := 1) (C := RX1) (T := TX1) (N := 14) (j := 3) (v := (st 18 3)) hx hb hT in_X1 tyX1 tyX1_ok nmX1 hown hK hP hD hS cw_65 rfl (by decide) (hT _ t207) (by decide +kernel) (by decide +kernel) rfl rfl (Nat.le_of_ble_eq_true rfl) (cs_65 (upd (s4 65) 3 (st 18 3))) dX1_copy_29 (fun s6 H9 locs9 es6 hP9 hD9 hS9 => ?_)
  clear hP hD hS
  have hS := hS9
  have hP := hP9
  have hD := hD9
  clear hP9 hD9 hS9
  have hBs6 : CB s6 := by rw [es6]; exact cb_sw hBs4 (ki_3_3 (hBs4 65) h5)
  have hFs6 : FR [65, 66, 67, 68, 69, 70, 71, 73, 74, 75, 76, 77] st s6 := fr_sw hFs4 (List.mem_of_getElem? (i := 0) rfl) es6
  refine lv_aload_n hx hb dX1_copy_32 rfl (lv_at hl 0 rfl) ?_
  refine lv_aload_n hx hb dX1_copy_33 rfl (lv_at hl 1 rfl) ?_
  refine va_get (D := D) (ci := 1) (v := .int (s6 18 4)) (C := RX1) (T := TX1) (N := 14) hx hb hT in_X1 hown hK hP 18 cw_18 rfl 4 (by decide) (hT _ t213) (fun _ h9 => h9) rfl dX1_copy_34 ?_
  refine k_top (y := (st 18 4)) (congrFun (hFs6 18 (nm_1 (by decide) (nm_1 (by decide) (nm_1 (by decide) (nm_1 (by decide) (nm_1 (by decide) (nm_1 (by decide) (nm_1 (by decide) (nm_1 (by decide) (nm_1 (by decide) (nm_1 (by decide) (nm_1 (by decide) (nm_1 (by decide) nm_0))))))))))))) 4) ?_
  have h7 : Iv 0 8 (st 18 4) := (rb_18_4 hB)
  refine c_put (ci := 1) (C := RX1) (T := TX1) (N := 14) (j := 4) (v := (st 18 4)) hx hb hT in_X1 tyX1 tyX1_ok nmX1 hown hK hP hD hS cw_65 rfl (by decide) (hT _ t213) (by decide +kernel) (by decide +kernel) rfl rfl (Nat.le_of_ble_eq_true rfl) (cs_65 (upd (s6 65) 4 (st 18 4))) dX1_copy_37 (fun s8 H9 locs9 es8 hP9 hD9 hS9 => ?_)
  clear hP hD hS
  have hS := hS9
  have hP := hP9
  have hD := hD9
  clear hP9 hD9 hS9
  have hBs8 : CB s8 := by rw [es8]; exact cb_sw hBs6 (ki_3_4 (hBs6 65) h7)
  have hFs8 : FR [65, 66, 67, 68, 69, 70, 71, 73, 74, 75, 76, 77] st s8 := fr_sw hFs6 (List.mem_of_getElem? (i := 0) rfl) es8
  refine lv_aload_n hx hb dX1_copy_40 rfl (lv_at hl 0 rfl) ?_
  refine lv_aload_n hx hb dX1_copy_41 rfl (lv_at hl 1 rfl) ?_
  refine va_get (D := D) (ci := 1) (v := .int (s8 18 5)) (C := RX1) (T := TX1) (N := 14) hx hb hT in_X1 hown hK hP 18 cw_18 rfl 5 (by decide) (hT _ t216) (fun _ h9 => h9) rfl dX1_copy_42 ?_
  refine k_top (y := (st 18 5)) (congrFun (hFs8 18 (nm_1 (by decide) (nm_1 (by decide) (nm_1 (by decide) (nm_1 (by decide) (nm_1 (by decide) (nm_1 (by decide) (nm_1 (by decide) (nm_1 (by decide) (nm_1 (by decide) (nm_1 (by decide) (nm_1 (by decide) (nm_1 (by decide) nm_0))))))))))))) 5) ?_
  have h9 : Iv 0 3 (st 18 5) := (rb_18_5 hB)
  refine c_put (ci := 1) (C := RX1) (T := TX1) (N := 14) (j := 5) (v := (st 18 5)) hx hb hT in_X1 tyX1 tyX1_ok nmX1 hown hK hP hD hS cw_65 rfl (by decide) (hT _ t216) (by decide +kernel) (by decide +kernel) rfl rfl (Nat.le_of_ble_eq_true rfl) (cs_65 (upd (s8 65) 5 (st 18 5))) dX1_copy_45 (fun s10 H9 locs9 es10 hP9 hD9 hS9 => ?_)
  clear hP hD hS
  have hS := hS9
  have hP := hP9
  have hD := hD9
  clear hP9 hD9 hS9
  have hBs10 : CB s10 := by rw [es10]; exact cb_sw hBs8 (ki_3_5 (hBs8 65) h9)
  have hFs10 : FR [65, 66, 67, 68, 69, 70, 71, 73, 74, 75, 76, 77] st s10 := fr_sw hFs8 (List.mem_of_getElem? (i := 0) rfl) es10
  refine lv_aload_n hx hb dX1_copy_48 rfl (lv_at hl 0 rfl) ?_
  refine lv_aload_n hx hb dX1_copy_49 rfl (lv_at hl 1 rfl) ?_
  refine va_get (D := D) (ci := 1) (v := .int (s10 18 6)) (C := RX1) (T := TX1) (N := 14) hx hb hT in_X1 hown hK hP 18 cw_18 rfl 6 (by decide) (hT _ t219) (fun _ h9 => h9) rfl dX1_copy_50 ?_
  refine k_top (y := (st 18 6)) (congrFun (hFs10 18 (nm_1 (by decide) (nm_1 (by decide) (nm_1 (by decide) (nm_1 (by decide) (nm_1 (by decide) (nm_1 (by decide) (nm_1 (by decide) (nm_1 (by decide) (nm_1 (by decide) (nm_1 (by decide) (nm_1 (by decide) (nm_1 (by decide) nm_0))))))))))))) 6) ?_
  have h11 : Iv 0 6 (st 18 6) := (rb_18_6 hB)
  refine c_put (ci := 1) (C := RX1) (T := TX1) (N := 14) (j := 6) (v := (st 18 6)) hx hb hT in_X1 tyX1 tyX1_ok nmX1 hown hK hP hD hS cw_65 rfl (by decide) (hT _ t219) (by decide +kernel) (by decide +kernel) rfl rfl (Nat.le_of_ble_eq_true rfl) (cs_65 (upd (s10 65) 6 (st 18 6))) dX1_copy_53 (fun s12 H9 locs9 es12 hP9 hD9 hS9 => ?_)
  clear hP hD hS
  have hS := hS9
  have hP := hP9
  have hD := hD9
  clear hP9 hD9 hS9
  have hBs12 : CB s12 := by rw [es12]; exact cb_sw hBs10 (ki_3_6 (hBs10 65) h11)
  have hFs12 : FR [65, 66, 67, 68, 69, 70, 71, 73, 74, 75, 76, 77] st s12 := fr_sw hFs10 (List.mem_of_getElem? (i := 0) rfl) es12
  refine lv_aload_n hx hb dX1_copy_56 rfl (lv_at hl 1 rfl) ?_
  refine va_get (D := D) (ci := 1) (v := .ref (a 19)) (C := RX1) (T := TX1) (N := 14) hx hb hT in_X1 hown hK hP 18 cw_18 rfl 7 (by decide) (hT _ t222) (fun _ h9 => h9) rfl dX1_copy_57 ?_
  refine lv_iconst (v := 0) hx hb dX1_copy_60 (by decide) ?_
  refine lv_aload_n hx hb dX1_copy_61 rfl (lv_at hl 0 rfl) ?_
  refine va_get (D := D) (ci := 1) (v := .ref (a 66)) (C := RX1) (T := TX1) (N := 14) hx hb hT in_X1 hown hK hP 65 cw_65 rfl 7 (by decide) (hT _ t222) (fun _ h9 => h9) rfl dX1_copy_62 ?_
  refine lv_iconst (v := 0) hx hb dX1_copy_65 (by decide) ?_
  refine lv_bipush (v := 8) hx hb dX1_copy_66 (by decide) ?_
  refine c_cpy hx hb (hml.trans hl.1.symm) hown (hT _ t684) (hT _ t686) (hT _ t685) (hT _ t121) hK hP hD hS cw_19 cw_66 cs_66 (Nat.le_of_ble_eq_true rfl) (Nat.le_of_ble_eq_true rfl) (by decide) (by decide) (by decide) dX1_copy_68 (fun s13 H9 locs9 fs13 es13 gs13 hP9 hD9 hS9 => ?_)
  clear hP hD hS
  have hS := hS9
  have hP := hP9
  have hD := hD9
  clear hP9 hD9 hS9
  have hBs13 : CB s13 := by rw [es13]; exact cb_sw hBs12 (show KI 4 fs13 from fun j9 h9 => by rw [gs13 j9 h9]; exact (rb_19 hBs12 h9))
  have hFs13 : FR [65, 66, 67, 68, 69, 70, 71, 73, 74, 75, 76, 77] st s13 := fr_sw hFs12 (List.mem_of_getElem? (i := 1) rfl) es13
  refine lv_aload_n hx hb dX1_copy_71 rfl (lv_at hl 1 rfl) ?_
  refine va_get (D := D) (ci := 1) (v := .ref (a 20)) (C := RX1) (T := TX1) (N := 14) hx hb hT in_X1 hown hK hP 18 cw_18 rfl 8 (by decide) (hT _ t225) (fun _ h9 => h9) rfl dX1_copy_72 ?_
  refine lv_iconst (v := 0) hx hb dX1_copy_75 (by decide) ?_
  refine lv_aload_n hx hb dX1_copy_76 rfl (lv_at hl 0 rfl) ?_
  refine va_get (D := D) (ci := 1) (v := .ref (a 67)) (C := RX1) (T := TX1) (N := 14) hx hb hT in_X1 hown hK hP 65 cw_65 rfl 8 (by decide) (hT _ t225) (fun _ h9 => h9) rfl dX1_copy_77 ?_
  refine lv_iconst (v := 0) hx hb dX1_copy_80 (by decide) ?_
  refine lv_bipush (v := 8) hx hb dX1_copy_81 (by decide) ?_
  refine c_cpy hx hb (hml.trans hl.1.symm) hown (hT _ t684) (hT _ t686) (hT _ t685) (hT _ t121) hK hP hD hS cw_20 cw_67 cs_67 (Nat.le_of_ble_eq_true rfl) (Nat.le_of_ble_eq_true rfl) (by decide) (by decide) (by decide) dX1_copy_83 (fun s14 H9 locs9 fs14 es14 gs14 hP9 hD9 hS9 => ?_)
  clear hP hD hS
  have hS := hS9
  have hP := hP9
  have hD := hD9
  clear hP9 hD9 hS9
  have hBs14 : CB s14 := by rw [es14]; exact cb_sw hBs13 (show KI 4 fs14 from fun j9 h9 => by rw [gs14 j9 h9]; exact (rb_20 hBs13 h9))
  have hFs14 : FR [65, 66, 67, 68, 69, 70, 71, 73, 74, 75, 76, 77] st s14 := fr_sw hFs13 (List.mem_of_getElem? (i := 2) rfl) es14
  refine lv_aload_n hx hb dX1_copy_86 rfl (lv_at hl 1 rfl) ?_
  refine va_get (D := D) (ci := 1) (v := .ref (a 21)) (C := RX1) (T := TX1) (N := 14) hx hb hT in_X1 hown hK hP 18 cw_18 rfl 9 (by decide) (hT _ t228) (fun _ h9 => h9) rfl dX1_copy_87 ?_
  refine lv_iconst (v := 0) hx hb dX1_copy_90 (by decide) ?_
  refine lv_aload_n hx hb dX1_copy_91 rfl (lv_at hl 0 rfl) ?_
  refine va_get (D := D) (ci := 1) (v := .ref (a 68)) (C := RX1) (T := TX1) (N := 14) hx hb hT in_X1 hown hK hP 65 cw_65 rfl 9 (by decide) (hT _ t228) (fun _ h9 => h9) rfl dX1_copy_92 ?_
  refine lv_iconst (v := 0) hx hb dX1_copy_95 (by decide) ?_
  refine lv_bipush (v := 8) hx hb dX1_copy_96 (by decide) ?_
  refine c_cpy hx hb (hml.trans hl.1.symm) hown (hT _ t684) (hT _ t686) (hT _ t685) (hT _ t121) hK hP hD hS cw_21 cw_68 cs_68 (Nat.le_of_ble_eq_true rfl) (Nat.le_of_ble_eq_true rfl) (by decide) (by decide) (by decide) dX1_copy_98 (fun s15 H9 locs9 fs15 es15 gs15 hP9 hD9 hS9 => ?_)
  clear hP hD hS
  have hS := hS9
  have hP := hP9
  have hD := hD9
  clear hP9 hD9 hS9
  have hBs15 : CB s15 := by rw [es15]; exact cb_sw hBs14 trivial
  have hFs15 : FR [65, 66, 67, 68, 69, 70, 71, 73, 74, 75, 76, 77] st s15 := fr_sw hFs14 (List.mem_of_getElem? (i := 3) rfl) es15
  refine lv_aload_n hx hb dX1_copy_101 rfl (lv_at hl 1 rfl) ?_
  refine va_get (D := D) (ci := 1) (v := .ref (a 22)) (C := RX1) (T := TX1) (N := 14) hx hb hT in_X1 hown hK hP 18 cw_18 rfl 10 (by decide) (hT _ t233) (fun _ h9 => h9) rfl dX1_copy_102 ?_
  refine lv_iconst (v := 0) hx hb dX1_copy_105 (by decide) ?_
  refine lv_aload_n hx hb dX1_copy_106 rfl (lv_at hl 0 rfl) ?_
  refine va_get (D := D) (ci := 1) (v := .ref (a 69)) (C := RX1) (T := TX1) (N := 14) hx hb hT in_X1 hown hK hP 65 cw_65 rfl 10 (by decide) (hT _ t233) (fun _ h9 => h9) rfl dX1_copy_107 ?_
  refine lv_iconst (v := 0) hx hb dX1_copy_110 (by decide) ?_
  refine lv_bipush (v := 6) hx hb dX1_copy_111 (by decide) ?_
  refine c_cpy hx hb (hml.trans hl.1.symm) hown (hT _ t684) (hT _ t686) (hT _ t685) (hT _ t121) hK hP hD hS cw_22 cw_69 cs_69 (Nat.le_of_ble_eq_true rfl) (Nat.le_of_ble_eq_true rfl) (by decide) (by decide) (by decide) dX1_copy_113 (fun s16 H9 locs9 fs16 es16 gs16 hP9 hD9 hS9 => ?_)
  clear hP hD hS
  have hS := hS9
  have hP := hP9
  have hD := hD9
  clear hP9 hD9 hS9
  have hBs16 : CB s16 := by rw [es16]; exact cb_sw hBs15 (show KI 5 fs16 from fun j9 h9 => by rw [gs16 j9 h9]; exact (rb_22 hBs15 h9))
  have hFs16 : FR [65, 66, 67, 68, 69, 70, 71, 73, 74, 75, 76, 77] st s16 := fr_sw hFs15 (List.mem_of_getElem? (i := 4) rfl) es16
  refine lv_aload_n hx hb dX1_copy_116 rfl (lv_at hl 1 rfl) ?_
  refine va_get (D := D) (ci := 1) (v := .ref (a 23)) (C := RX1) (T := TX1) (N := 14) hx hb hT in_X1 hown hK hP 18 cw_18 rfl 11 (by decide) (hT _ t235) (fun _ h9 => h9) rfl dX1_copy_117 ?_
  refine lv_iconst (v := 0) hx hb dX1_copy_120 (by decide) ?_
  refine lv_aload_n hx hb dX1_copy_121 rfl (lv_at hl 0 rfl) ?_
  refine va_get (D := D) (ci := 1) (v := .ref (a 70)) (C := RX1) (T := TX1) (N := 14) hx hb hT in_X1 hown hK hP 65 cw_65 rfl 11 (by decide) (hT _ t235) (fun _ h9 => h9) rfl dX1_copy_122 ?_
  refine lv_iconst (v := 0) hx hb dX1_copy_125 (by decide) ?_
  refine lv_bipush (v := 6) hx hb dX1_copy_126 (by decide) ?_
  refine c_cpy hx hb (hml.trans hl.1.symm) hown (hT _ t684) (hT _ t686) (hT _ t685) (hT _ t121) hK hP hD hS cw_23 cw_70 cs_70 (Nat.le_of_ble_eq_true rfl) (Nat.le_of_ble_eq_true rfl) (by decide) (by decide) (by decide) dX1_copy_128 (fun s17 H9 locs9 fs17 es17 gs17 hP9 hD9 hS9 => ?_)
  clear hP hD hS
  have hS := hS9
  have hP := hP9
  have hD := hD9
  clear hP9 hD9 hS9
  have hBs17 : CB s17 := by rw [es17]; exact cb_sw hBs16 (show KI 6 fs17 from fun j9 h9 => by rw [gs17 j9 h9]; exact (rb_23 hBs16 h9))
  have hFs17 : FR [65, 66, 67, 68, 69, 70, 71, 73, 74, 75, 76, 77] st s17 := fr_sw hFs16 (List.mem_of_getElem? (i := 5) rfl) es17
  refine lv_aload_n hx hb dX1_copy_131 rfl (lv_at hl 1 rfl) ?_
  refine va_get (D := D) (ci := 1) (v := .ref (a 24)) (C := RX1) (T := TX1) (N := 14) hx hb hT in_X1 hown hK hP 18 cw_18 rfl 12 (by decide) (hT _ t237) (fun _ h9 => h9) rfl dX1_copy_132 ?_
  refine lv_iconst (v := 0) hx hb dX1_copy_135 (by decide) ?_
  refine lv_aload_n hx hb dX1_copy_136 rfl (lv_at hl 0 rfl) ?_
  refine va_get (D := D) (ci := 1) (v := .ref (a 71)) (C := RX1) (T := TX1) (N := 14) hx hb hT in_X1 hown hK hP 65 cw_65 rfl 12 (by decide) (hT _ t237) (fun _ h9 => h9) rfl dX1_copy_137 ?_
  refine lv_iconst (v := 0) hx hb dX1_copy_140 (by decide) ?_
  refine lv_bipush (v := 6) hx hb dX1_copy_141 (by decide) ?_
  refine c_cpy hx hb (hml.trans hl.1.symm) hown (hT _ t684) (hT _ t686) (hT _ t685) (hT _ t121) hK hP hD hS cw_24 cw_71 cs_71 (Nat.le_of_ble_eq_true rfl) (Nat.le_of_ble_eq_true rfl) (by decide) (by decide) (by decide) dX1_copy_143 (fun s18 H9 locs9 fs18 es18 gs18 hP9 hD9 hS9 => ?_)
  clear hP hD hS
  have hS := hS9
  have hP := hP9
  have hD := hD9
  clear hP9 hD9 hS9
  have hBs18 : CB s18 := by rw [es18]; exact cb_sw hBs17 trivial
  have hFs18 : FR [65, 66, 67, 68, 69, 70, 71, 73, 74, 75, 76, 77] st s18 := fr_sw hFs17 (List.mem_of_getElem? (i := 6) rfl) es18
  refine lv_aload_n hx hb dX1_copy_146 rfl (lv_at hl 0 rfl) ?_
  refine va_get (D := D) (ci := 1) (v := .ref (a 72)) (C := RX1) (T := TX1) (N := 14) hx hb hT in_X1 hown hK hP 65 cw_65 rfl 13 (by decide) (hT _ t239) (fun _ h9 => h9) rfl dX1_copy_147 ?_
  refine lv_aload_n hx hb dX1_copy_150 rfl (lv_at hl 1 rfl) ?_
  refine va_get (D := D) (ci := 1) (v := .ref (a 25)) (C := RX1) (T := TX1) (N := 14) hx hb hT in_X1 hown hK hP 18 cw_18 rfl 13 (by decide) (hT _ t239) (fun _ h9 => h9) rfl dX1_copy_151 ?_
  refine ca_v hP hD hS hA (fun hDc => run_V (mc := 0) (ms := 0) (As := [.ref (a 25)]) (rest := []) S (s_X5_copy l D k a s18 sl 72 25  _ (by decide) (by decide) hBs18  ) lkX1_68 ok_X5_copy ⟨rfl, rfl, Nat.le_of_ble_eq_true rfl, Nat.le_of_ble_eq_true rfl⟩ (pw_V (ci := 5) (q0 := 72) hK hN rfl cw_72 hP hDc) rfl hl.1 rfl (Nat.le_of_ble_eq_true rfl) ⟨Nat.zero_le _, Nat.zero_le _⟩ dX1_copy_154) (fun s19 H9 locs9 hs19 hP9 hD9 hS9 => ?_)
  clear hP hD hS
  have hS := hS9
  have hP := hP9
  have hD := hD9
  clear hP9 hD9 hS9
  obtain ⟨hBs19, gs19, fs19⟩ := hs19
  have hFs19 : FR [65, 66, 67, 68, 69, 70, 71, 73, 74, 75, 76, 77] st s19 := fr_ca hFs18 gs19 (sub_1 (List.mem_of_getElem? (i := 7) rfl) (sub_1 (List.mem_of_getElem? (i := 8) rfl) (sub_1 (List.mem_of_getElem? (i := 9) rfl) (sub_1 (List.mem_of_getElem? (i := 10) rfl) (sub_1 (List.mem_of_getElem? (i := 11) rfl) sub_0)))))
  rw [hQ]
  exact W.vret hx hb hr (fun t ht hW => ⟨⟨s19, rfl, ⟨hBs19, hFs19, trivial⟩, by rw [ht]; exact hP, va_K.moved hW.alike (hK.sub (tys' := []) [] rfl), by rw [hAe]; exact hD⟩, by rw [hAe]; exact hS.F ht⟩) hS.2.2 dX1_copy_157
set_option maxHeartbeats 4000000 in
set_option maxRecDepth 100000 in
theorem s_X1_copy_3 (l : Launch) (D : va_G) (k : Nat → ClassId) (a : Nat → Nat) (st : CT) (sl : CL) (sz : Nat) (hB : CB st)  : Met l yX1_copy (.code yX1_copy cX1_copy 2 none :: TB) (rmw 2 0 0) (va_Pc [.ref (a 88), .ref (a 18)] (PW D k sz (CWS k a st sl))) (QV D (S := CT) (fun u => CB u ∧ FR [88, 89, 90, 91, 92, 93, 94, 96, 97, 98, 99, 100] st u ∧ (True)) (fun u => CWS k a u sl) (fun _ => []) (CWS k a st sl) sz) 0 0 (va_A (CWS k a st sl) sz) := by
  refine Met.ofW (cc := cX1_copy) (maxL := 2) (ret := none) (by decide) rfl ?_
  intro p e s m args below meth c s₁ B hml hv
  obtain ⟨rfl, hsz, hP, hK, hD0, hN⟩ := hv
  have hx := B.exec
  have hb := B.bytes
  have hr := B.returns
  have hT : ∀ w9 ∈ TB, w9.before ([.ref (a 88), .ref (a 18)] : List Value).toArray s = true := fun w9 h => atoms_spec (ws := .code yX1_copy cX1_copy 2 none :: TB) B.pre w9 (List.mem_cons_of_mem _ h)
  have hown : s.vm.findClass RX1 = some m.cls := findClass_of_methodNamed B.named
  have S : CallFix p m c cX1_copy 2 s _ TB RX1 := ⟨hx, hb, hml, hown, hT⟩
  subst hsz
  have hD := hD0.self (sz := s.heap.size)
  generalize hAe : va_A (CWS k a st sl) s.heap.size = A at hD ⊢
  have hA : ∀ q : Nat, s.heap.size ≤ q → A q := fun q h => by rw [← hAe]; exact Or.inr h
  have hS : va_S A s.heap s.heap [] := va_S.rf
  have hl := lv_entry ([.ref (a 88), .ref (a 18)]) (n := 2) (Nat.le_of_ble_eq_true rfl)
  rw [lg_entry_eq]
  generalize (lg_sl ([.ref (a 88), .ref (a 18)]) ++ List.replicate (2 - (lg_sl ([.ref (a 88), .ref (a 18)])).length) Slot.unset).toArray = ls at hl ⊢
  have hl : lv_has ls 2 [(0, .ref (a 88)), (1, .ref (a 18))] := hl
  refine nameQ (fun Q hQ => ?_)
  refine lv_aload_n hx hb dX1_copy_0 rfl (lv_at hl 0 rfl) ?_
  refine lv_aload_n hx hb dX1_copy_1 rfl (lv_at hl 1 rfl) ?_
  refine va_get (D := D) (ci := 1) (v := .int (st 18 0)) (C := RX1) (T := TX1) (N := 14) hx hb hT in_X1 hown hK hP 18 cw_18 rfl 0 (by decide) (hT _ t195) (fun _ h9 => h9) rfl dX1_copy_2 ?_
  refine c_put (ci := 1) (C := RX1) (T := TX1) (N := 14) (j := 0) (v := (st 18 0)) hx hb hT in_X1 tyX1 tyX1_ok nmX1 hown hK hP hD hS cw_88 rfl (by decide) (hT _ t195) (by decide +kernel) (by decide +kernel) rfl rfl (Nat.le_of_ble_eq_true rfl) (cs_88 (upd (st 88) 0 (st 18 0))) dX1_copy_5 (fun s1 H9 locs9 es1 hP9 hD9 hS9 => ?_)
  clear hP hD hS
  have hS := hS9
  have hP := hP9
  have hD := hD9
  clear hP9 hD9 hS9
  have hBs1 : CB s1 := by rw [es1]; exact cb_sw hB (ki_3_0 (hB 88))
  have hFs1 : FR [88, 89, 90, 91, 92, 93, 94, 96, 97, 98, 99, 100] st s1 := fr_sw fr_rf (List.mem_of_getElem? (i := 0) rfl) es1
  refine lv_aload_n hx hb dX1_copy_8 rfl (lv_at hl 0 rfl) ?_
  refine lv_aload_n hx hb dX1_copy_9 rfl (lv_at hl 1 rfl) ?_
  refine va_get (D := D) (ci := 1) (v := .int (s1 18 1)) (C := RX1) (T := TX1) (N := 14) hx hb hT in_X1 hown hK hP 18 cw_18 rfl 1 (by decide) (hT _ t198) (fun _ h9 => h9) rfl dX1_copy_10 ?_
  refine k_top (y := (st 18 1)) (congrFun (hFs1 18 (nm_1 (by decide) (nm_1 (by decide) (nm_1 (by decide) (nm_1 (by decide) (nm_1 (by decide) (nm_1 (by decide) (nm_1 (by decide) (nm_1 (by decide) (nm_1 (by decide) (nm_1 (by decide) (nm_1 (by decide) (nm_1 (by decide) nm_0))))))))))))) 1) ?_
  have h2 : Iv 0 6 (st 18 1) := (rb_18_1 hB)
  refine c_put (ci := 1) (C := RX1) (T := TX1) (N := 14) (j := 1) (v := (st 18 1)) hx hb hT in_X1 tyX1 tyX1_ok nmX1 hown hK hP hD hS cw_88 rfl (by decide) (hT _ t198) (by decide +kernel) (by decide +kernel) rfl rfl (Nat.le_of_ble_eq_true rfl) (cs_88 (upd (s1 88) 1 (st 18 1))) dX1_copy_13 (fun s3 H9 locs9 es3 hP9 hD9 hS9 => ?_)
  clear hP hD hS
  have hS := hS9
  have hP := hP9
  have hD := hD9
  clear hP9 hD9 hS9
  have hBs3 : CB s3 := by rw [es3]; exact cb_sw hBs1 (ki_3_1 (hBs1 88) h2)
  have hFs3 : FR [88, 89, 90, 91, 92, 93, 94, 96, 97, 98, 99, 100] st s3 := fr_sw hFs1 (List.mem_of_getElem? (i := 0) rfl) es3
  refine lv_aload_n hx hb dX1_copy_16 rfl (lv_at hl 0 rfl) ?_
  refine lv_aload_n hx hb dX1_copy_17 rfl (lv_at hl 1 rfl) ?_
  refine va_get (D := D) (ci := 1) (v := .int (s3 18 2)) (C := RX1) (T := TX1) (N := 14) hx hb hT in_X1 hown hK hP 18 cw_18 rfl 2 (by decide) (hT _ t202) (fun _ h9 => h9) rfl dX1_copy_18 ?_
  refine k_top (y := (st 18 2)) (congrFun (hFs3 18 (nm_1 (by decide) (nm_1 (by decide) (nm_1 (by decide) (nm_1 (by decide) (nm_1 (by decide) (nm_1 (by decide) (nm_1 (by decide) (nm_1 (by decide) (nm_1 (by decide) (nm_1 (by decide) (nm_1 (by decide) (nm_1 (by decide) nm_0))))))))))))) 2) ?_
  refine c_put (ci := 1) (C := RX1) (T := TX1) (N := 14) (j := 2) (v := (st 18 2)) hx hb hT in_X1 tyX1 tyX1_ok nmX1 hown hK hP hD hS cw_88 rfl (by decide) (hT _ t202) (by decide +kernel) (by decide +kernel) rfl rfl (Nat.le_of_ble_eq_true rfl) (cs_88 (upd (s3 88) 2 (st 18 2))) dX1_copy_21 (fun s4 H9 locs9 es4 hP9 hD9 hS9 => ?_)
  clear hP hD hS
  have hS := hS9
  have hP := hP9
  have hD := hD9
  clear hP9 hD9 hS9
  have hBs4 : CB s4 := by rw [es4]; exact cb_sw hBs3 (ki_3_2 (hBs3 88))
  have hFs4 : FR [88, 89, 90, 91, 92, 93, 94, 96, 97, 98, 99, 100] st s4 := fr_sw hFs3 (List.mem_of_getElem? (i := 0) rfl) es4
  refine lv_aload_n hx hb dX1_copy_24 rfl (lv_at hl 0 rfl) ?_
  refine lv_aload_n hx hb dX1_copy_25 rfl (lv_at hl 1 rfl) ?_
  refine va_get (D := D) (ci := 1) (v := .int (s4 18 3)) (C := RX1) (T := TX1) (N := 14) hx hb hT in_X1 hown hK hP 18 cw_18 rfl 3 (by decide) (hT _ t207) (fun _ h9 => h9) rfl dX1_copy_26 ?_
  refine k_top (y := (st 18 3)) (congrFun (hFs4 18 (nm_1 (by decide) (nm_1 (by decide) (nm_1 (by decide) (nm_1 (by decide) (nm_1 (by decide) (nm_1 (by decide) (nm_1 (by decide) (nm_1 (by decide) (nm_1 (by decide) (nm_1 (by decide) (nm_1 (by decide) (nm_1 (by decide) nm_0))))))))))))) 3) ?_
  have h5 : Iv 0 8 (st 18 3) := (rb_18_3 hB)
  refine c_put (ci := 1) (C := RX1) (T := TX1) (N := 14) (j := 3) (v := (st 18 3)) hx hb hT in_X1 tyX1 tyX1_ok nmX1 hown hK hP hD hS cw_88 rfl (by decide) (hT _ t207) (by decide +kernel) (by decide +kernel) rfl rfl (Nat.le_of_ble_eq_true rfl) (cs_88 (upd (s4 88) 3 (st 18 3))) dX1_copy_29 (fun s6 H9 locs9 es6 hP9 hD9 hS9 => ?_)
  clear hP hD hS
  have hS := hS9
  have hP := hP9
  have hD := hD9
  clear hP9 hD9 hS9
  have hBs6 : CB s6 := by rw [es6]; exact cb_sw hBs4 (ki_3_3 (hBs4 88) h5)
  have hFs6 : FR [88, 89, 90, 91, 92, 93, 94, 96, 97, 98, 99, 100] st s6 := fr_sw hFs4 (List.mem_of_getElem? (i := 0) rfl) es6
  refine lv_aload_n hx hb dX1_copy_32 rfl (lv_at hl 0 rfl) ?_
  refine lv_aload_n hx hb dX1_copy_33 rfl (lv_at hl 1 rfl) ?_
  refine va_get (D := D) (ci := 1) (v := .int (s6 18 4)) (C := RX1) (T := TX1) (N := 14) hx hb hT in_X1 hown hK hP 18 cw_18 rfl 4 (by decide) (hT _ t213) (fun _ h9 => h9) rfl dX1_copy_34 ?_
  refine k_top (y := (st 18 4)) (congrFun (hFs6 18 (nm_1 (by decide) (nm_1 (by decide) (nm_1 (by decide) (nm_1 (by decide) (nm_1 (by decide) (nm_1 (by decide) (nm_1 (by decide) (nm_1 (by decide) (nm_1 (by decide) (nm_1 (by decide) (nm_1 (by decide) (nm_1 (by decide) nm_0))))))))))))) 4) ?_
  have h7 : Iv 0 8 (st 18 4) := (rb_18_4 hB)
  refine c_put (ci := 1) (C := RX1) (T := TX1) (N := 14) (j := 4) (v := (st 18 4)) hx hb hT in_X1 tyX1 tyX1_ok nmX1 hown hK hP hD hS cw_88 rfl (by decide) (hT _ t213) (by decide +kernel) (by decide +kernel) rfl rfl (Nat.le_of_ble_eq_true rfl) (cs_88 (upd (s6 88) 4 (st 18 4))) dX1_copy_37 (fun s8 H9 locs9 es8 hP9 hD9 hS9 => ?_)
  clear hP hD hS
  have hS := hS9
  have hP := hP9
  have hD := hD9
  clear hP9 hD9 hS9
  have hBs8 : CB s8 := by rw [es8]; exact cb_sw hBs6 (ki_3_4 (hBs6 88) h7)
  have hFs8 : FR [88, 89, 90, 91, 92, 93, 94, 96, 97, 98, 99, 100] st s8 := fr_sw hFs6 (List.mem_of_getElem? (i := 0) rfl) es8
  refine lv_aload_n hx hb dX1_copy_40 rfl (lv_at hl 0 rfl) ?_
  refine lv_aload_n hx hb dX1_copy_41 rfl (lv_at hl 1 rfl) ?_
  refine va_get (D := D) (ci := 1) (v := .int (s8 18 5)) (C := RX1) (T := TX1) (N := 14) hx hb hT in_X1 hown hK hP 18 cw_18 rfl 5 (by decide) (hT _ t216) (fun _ h9 => h9) rfl dX1_copy_42 ?_
  refine k_top (y := (st 18 5)) (congrFun (hFs8 18 (nm_1 (by decide) (nm_1 (by decide) (nm_1 (by decide) (nm_1 (by decide) (nm_1 (by decide) (nm_1 (by decide) (nm_1 (by decide) (nm_1 (by decide) (nm_1 (by decide) (nm_1 (by decide) (nm_1 (by decide) (nm_1 (by decide) nm_0))))))))))))) 5) ?_
  have h9 : Iv 0 3 (st 18 5) := (rb_18_5 hB)
  refine c_put (ci := 1) (C := RX1) (T := TX1) (N := 14) (j := 5) (v := (st 18 5)) hx hb hT in_X1 tyX1 tyX1_ok nmX1 hown hK hP hD hS cw_88 rfl (by decide) (hT _ t216) (by decide +kernel) (by decide +kernel) rfl rfl (Nat.le_of_ble_eq_true rfl) (cs_88 (upd (s8 88) 5 (st 18 5))) dX1_copy_45 (fun s10 H9 locs9 es10 hP9 hD9 hS9 => ?_)
  clear hP hD hS
  have hS := hS9
  have hP := hP9
  have hD := hD9
  clear hP9 hD9 hS9
  have hBs10 : CB s10 := by rw [es10]; exact cb_sw hBs8 (ki_3_5 (hBs8 88) h9)
  have hFs10 : FR [88, 89, 90, 91, 92, 93, 94, 96, 97, 98, 99, 100] st s10 := fr_sw hFs8 (List.mem_of_getElem? (i := 0) rfl) es10
  refine lv_aload_n hx hb dX1_copy_48 rfl (lv_at hl 0 rfl) ?_
  refine lv_aload_n hx hb dX1_copy_49 rfl (lv_at hl 1 rfl) ?_
  refine va_get (D := D) (ci := 1) (v := .int (s10 18 6)) (C := RX1) (T := TX1) (N := 14) hx hb hT in_X1 hown hK hP 18 cw_18 rfl 6 (by decide) (hT _ t219) (fun _ h9 => h9) rfl dX1_copy_50 ?_
  refine k_top (y := (st 18 6)) (congrFun (hFs10 18 (nm_1 (by decide) (nm_1 (by decide) (nm_1 (by decide) (nm_1 (by decide) (nm_1 (by decide) (nm_1 (by decide) (nm_1 (by decide) (nm_1 (by decide) (nm_1 (by decide) (nm_1 (by decide) (nm_1 (by decide) (nm_1 (by decide) nm_0))))))))))))) 6) ?_
  have h11 : Iv 0 6 (st 18 6) := (rb_18_6 hB)
  refine c_put (ci := 1) (C := RX1) (T := TX1) (N := 14) (j := 6) (v := (st 18 6)) hx hb hT in_X1 tyX1 tyX1_ok nmX1 hown hK hP hD hS cw_88 rfl (by decide) (hT _ t219) (by decide +kernel) (by decide +kernel) rfl rfl (Nat.le_of_ble_eq_true rfl) (cs_88 (upd (s10 88) 6 (st 18 6))) dX1_copy_53 (fun s12 H9 locs9 es12 hP9 hD9 hS9 => ?_)
  clear hP hD hS
  have hS := hS9
  have hP := hP9
  have hD := hD9
  clear hP9 hD9 hS9
  have hBs12 : CB s12 := by rw [es12]; exact cb_sw hBs10 (ki_3_6 (hBs10 88) h11)
  have hFs12 : FR [88, 89, 90, 91, 92, 93, 94, 96, 97, 98, 99, 100] st s12 := fr_sw hFs10 (List.mem_of_getElem? (i := 0) rfl) es12
  refine lv_aload_n hx hb dX1_copy_56 rfl (lv_at hl 1 rfl) ?_
  refine va_get (D := D) (ci := 1) (v := .ref (a 19)) (C := RX1) (T := TX1) (N := 14) hx hb hT in_X1 hown hK hP 18 cw_18 rfl 7 (by decide) (hT _ t222) (fun _ h9 => h9) rfl dX1_copy_57 ?_
  refine lv_iconst (v := 0) hx hb dX1_copy_60 (by decide) ?_
  refine lv_aload_n hx hb dX1_copy_61 rfl (lv_at hl 0 rfl) ?_
  refine va_get (D := D) (ci := 1) (v := .ref (a 89)) (C := RX1) (T := TX1) (N := 14) hx hb hT in_X1 hown hK hP 88 cw_88 rfl 7 (by decide) (hT _ t222) (fun _ h9 => h9) rfl dX1_copy_62 ?_
  refine lv_iconst (v := 0) hx hb dX1_copy_65 (by decide) ?_
  refine lv_bipush (v := 8) hx hb dX1_copy_66 (by decide) ?_
  refine c_cpy hx hb (hml.trans hl.1.symm) hown (hT _ t684) (hT _ t686) (hT _ t685) (hT _ t121) hK hP hD hS cw_19 cw_89 cs_89 (Nat.le_of_ble_eq_true rfl) (Nat.le_of_ble_eq_true rfl) (by decide) (by decide) (by decide) dX1_copy_68 (fun s13 H9 locs9 fs13 es13 gs13 hP9 hD9 hS9 => ?_)
  clear hP hD hS
  have hS := hS9
  have hP := hP9
  have hD := hD9
  clear hP9 hD9 hS9
  have hBs13 : CB s13 := by rw [es13]; exact cb_sw hBs12 (show KI 4 fs13 from fun j9 h9 => by rw [gs13 j9 h9]; exact (rb_19 hBs12 h9))
  have hFs13 : FR [88, 89, 90, 91, 92, 93, 94, 96, 97, 98, 99, 100] st s13 := fr_sw hFs12 (List.mem_of_getElem? (i := 1) rfl) es13
  refine lv_aload_n hx hb dX1_copy_71 rfl (lv_at hl 1 rfl) ?_
  refine va_get (D := D) (ci := 1) (v := .ref (a 20)) (C := RX1) (T := TX1) (N := 14) hx hb hT in_X1 hown hK hP 18 cw_18 rfl 8 (by decide) (hT _ t225) (fun _ h9 => h9) rfl dX1_copy_72 ?_
  refine lv_iconst (v := 0) hx hb dX1_copy_75 (by decide) ?_
  refine lv_aload_n hx hb dX1_copy_76 rfl (lv_at hl 0 rfl) ?_
  refine va_get (D := D) (ci := 1) (v := .ref (a 90)) (C := RX1) (T := TX1) (N := 14) hx hb hT in_X1 hown hK hP 88 cw_88 rfl 8 (by decide) (hT _ t225) (fun _ h9 => h9) rfl dX1_copy_77 ?_
  refine lv_iconst (v := 0) hx hb dX1_copy_80 (by decide) ?_
  refine lv_bipush (v := 8) hx hb dX1_copy_81 (by decide) ?_
  refine c_cpy hx hb (hml.trans hl.1.symm) hown (hT _ t684) (hT _ t686) (hT _ t685) (hT _ t121) hK hP hD hS cw_20 cw_90 cs_90 (Nat.le_of_ble_eq_true rfl) (Nat.le_of_ble_eq_true rfl) (by decide) (by decide) (by decide) dX1_copy_83 (fun s14 H9 locs9 fs14 es14 gs14 hP9 hD9 hS9 => ?_)
  clear hP hD hS
  have hS := hS9
  have hP := hP9
  have hD := hD9
  clear hP9 hD9 hS9
  have hBs14 : CB s14 := by rw [es14]; exact cb_sw hBs13 (show KI 4 fs14 from fun j9 h9 => by rw [gs14 j9 h9]; exact (rb_20 hBs13 h9))
  have hFs14 : FR [88, 89, 90, 91, 92, 93, 94, 96, 97, 98, 99, 100] st s14 := fr_sw hFs13 (List.mem_of_getElem? (i := 2) rfl) es14
  refine lv_aload_n hx hb dX1_copy_86 rfl (lv_at hl 1 rfl) ?_
  refine va_get (D := D) (ci := 1) (v := .ref (a 21)) (C := RX1) (T := TX1) (N := 14) hx hb hT in_X1 hown hK hP 18 cw_18 rfl 9 (by decide) (hT _ t228) (fun _ h9 => h9) rfl dX1_copy_87 ?_
  refine lv_iconst (v := 0) hx hb dX1_copy_90 (by decide) ?_
  refine lv_aload_n hx hb dX1_copy_91 rfl (lv_at hl 0 rfl) ?_
  refine va_get (D := D) (ci := 1) (v := .ref (a 91)) (C := RX1) (T := TX1) (N := 14) hx hb hT in_X1 hown hK hP 88 cw_88 rfl 9 (by decide) (hT _ t228) (fun _ h9 => h9) rfl dX1_copy_92 ?_
  refine lv_iconst (v := 0) hx hb dX1_copy_95 (by decide) ?_
  refine lv_bipush (v := 8) hx hb dX1_copy_96 (by decide) ?_
  refine c_cpy hx hb (hml.trans hl.1.symm) hown (hT _ t684) (hT _ t686) (hT _ t685) (hT _ t121) hK hP hD hS cw_21 cw_91 cs_91 (Nat.le_of_ble_eq_true rfl) (Nat.le_of_ble_eq_true rfl) (by decide) (by decide) (by decide) dX1_copy_98 (fun s15 H9 locs9 fs15 es15 gs15 hP9 hD9 hS9 => ?_)
  clear hP hD hS
  have hS := hS9
  have hP := hP9
  have hD := hD9
  clear hP9 hD9 hS9
  have hBs15 : CB s15 := by rw [es15]; exact cb_sw hBs14 trivial
  have hFs15 : FR [88, 89, 90, 91, 92, 93, 94, 96, 97, 98, 99, 100] st s15 := fr_sw hFs14 (List.mem_of_getElem? (i := 3) rfl) es15
  refine lv_aload_n hx hb dX1_copy_101 rfl (lv_at hl 1 rfl) ?_
  refine va_get (D := D) (ci := 1) (v := .ref (a 22)) (C := RX1) (T := TX1) (N := 14) hx hb hT in_X1 hown hK hP 18 cw_18 rfl 10 (by decide) (hT _ t233) (fun _ h9 => h9) rfl dX1_copy_102 ?_
  refine lv_iconst (v := 0) hx hb dX1_copy_105 (by decide) ?_
  refine lv_aload_n hx hb dX1_copy_106 rfl (lv_at hl 0 rfl) ?_
  refine va_get (D := D) (ci := 1) (v := .ref (a 92)) (C := RX1) (T := TX1) (N := 14) hx hb hT in_X1 hown hK hP 88 cw_88 rfl 10 (by decide) (hT _ t233) (fun _ h9 => h9) rfl dX1_copy_107 ?_
  refine lv_iconst (v := 0) hx hb dX1_copy_110 (by decide) ?_
  refine lv_bipush (v := 6) hx hb dX1_copy_111 (by decide) ?_
  refine c_cpy hx hb (hml.trans hl.1.symm) hown (hT _ t684) (hT _ t686) (hT _ t685) (hT _ t121) hK hP hD hS cw_22 cw_92 cs_92 (Nat.le_of_ble_eq_true rfl) (Nat.le_of_ble_eq_true rfl) (by decide) (by decide) (by decide) dX1_copy_113 (fun s16 H9 locs9 fs16 es16 gs16 hP9 hD9 hS9 => ?_)
  clear hP hD hS
  have hS := hS9
  have hP := hP9
  have hD := hD9
  clear hP9 hD9 hS9
  have hBs16 : CB s16 := by rw [es16]; exact cb_sw hBs15 (show KI 5 fs16 from fun j9 h9 => by rw [gs16 j9 h9]; exact (rb_22 hBs15 h9))
  have hFs16 : FR [88, 89, 90, 91, 92, 93, 94, 96, 97, 98, 99, 100] st s16 := fr_sw hFs15 (List.mem_of_getElem? (i := 4) rfl) es16
  refine lv_aload_n hx hb dX1_copy_116 rfl (lv_at hl 1 rfl) ?_
  refine va_get (D := D) (ci := 1) (v := .ref (a 23)) (C := RX1) (T := TX1) (N := 14) hx hb hT in_X1 hown hK hP 18 cw_18 rfl 11 (by decide) (hT _ t235) (fun _ h9 => h9) rfl dX1_copy_117 ?_
  refine lv_iconst (v := 0) hx hb dX1_copy_120 (by decide) ?_
  refine lv_aload_n hx hb dX1_copy_121 rfl (lv_at hl 0 rfl) ?_
  refine va_get (D := D) (ci := 1) (v := .ref (a 93)) (C := RX1) (T := TX1) (N := 14) hx hb hT in_X1 hown hK hP 88 cw_88 rfl 11 (by decide) (hT _ t235) (fun _ h9 => h9) rfl dX1_copy_122 ?_
  refine lv_iconst (v := 0) hx hb dX1_copy_125 (by decide) ?_
  refine lv_bipush (v := 6) hx hb dX1_copy_126 (by decide) ?_
  refine c_cpy hx hb (hml.trans hl.1.symm) hown (hT _ t684) (hT _ t686) (hT _ t685) (hT _ t121) hK hP hD hS cw_23 cw_93 cs_93 (Nat.le_of_ble_eq_true rfl) (Nat.le_of_ble_eq_true rfl) (by decide) (by decide) (by decide) dX1_copy_128 (fun s17 H9 locs9 fs17 es17 gs17 hP9 hD9 hS9 => ?_)
  clear hP hD hS
  have hS := hS9
  have hP := hP9
  have hD := hD9
  clear hP9 hD9 hS9
  have hBs17 : CB s17 := by rw [es17]; exact cb_sw hBs16 (show KI 6 fs17 from fun j9 h9 => by rw [gs17 j9 h9]; exact (rb_23 hBs16 h9))
  have hFs17 : FR [88, 89, 90, 91, 92, 93, 94, 96, 97, 98, 99, 100] st s17 := fr_sw hFs16 (List.mem_of_getElem? (i := 5) rfl) es17
  refine lv_aload_n hx hb dX1_copy_131 rfl (lv_at hl 1 rfl) ?_
  refine va_get (D := D) (ci := 1) (v := .ref (a 24)) (C := RX1) (T := TX1) (N := 14) hx hb hT in_X1 hown hK hP 18 cw_18 rfl 12 (by decide) (hT _ t237) (fun _ h9 => h9) rfl dX1_copy_132 ?_
  refine lv_iconst (v := 0) hx hb dX1_copy_135 (by decide) ?_
  refine lv_aload_n hx hb dX1_copy_136 rfl (lv_at hl 0 rfl) ?_
  refine va_get (D := D) (ci := 1) (v := .ref (a 94)) (C := RX1) (T := TX1) (N := 14) hx hb hT in_X1 hown hK hP 88 cw_88 rfl 12 (by decide) (hT _ t237) (fun _ h9 => h9) rfl dX1_copy_137 ?_
  refine lv_iconst (v := 0) hx hb dX1_copy_140 (by decide) ?_
  refine lv_bipush (v := 6) hx hb dX1_copy_141 (by decide) ?_
  refine c_cpy hx hb (hml.trans hl.1.symm) hown (hT _ t684) (hT _ t686) (hT _ t685) (hT _ t121) hK hP hD hS cw_24 cw_94 cs_94 (Nat.le_of_ble_eq_true rfl) (Nat.le_of_ble_eq_true rfl) (by decide) (by decide) (by decide) dX1_copy_143 (fun s18 H9 locs9 fs18 es18 gs18 hP9 hD9 hS9 => ?_)
  clear hP hD hS
  have hS := hS9
  have hP := hP9
  have hD := hD9
  clear hP9 hD9 hS9
  have hBs18 : CB s18 := by rw [es18]; exact cb_sw hBs17 trivial
  have hFs18 : FR [88, 89, 90, 91, 92, 93, 94, 96, 97, 98, 99, 100] st s18 := fr_sw hFs17 (List.mem_of_getElem? (i := 6) rfl) es18
  refine lv_aload_n hx hb dX1_copy_146 rfl (lv_at hl 0 rfl) ?_
  refine va_get (D := D) (ci := 1) (v := .ref (a 95)) (C := RX1) (T := TX1) (N := 14) hx hb hT in_X1 hown hK hP 88 cw_88 rfl 13 (by decide) (hT _ t239) (fun _ h9 => h9) rfl dX1_copy_147 ?_
  refine lv_aload_n hx hb dX1_copy_150 rfl (lv_at hl 1 rfl) ?_
  refine va_get (D := D) (ci := 1) (v := .ref (a 25)) (C := RX1) (T := TX1) (N := 14) hx hb hT in_X1 hown hK hP 18 cw_18 rfl 13 (by decide) (hT _ t239) (fun _ h9 => h9) rfl dX1_copy_151 ?_
  refine ca_v hP hD hS hA (fun hDc => run_V (mc := 0) (ms := 0) (As := [.ref (a 25)]) (rest := []) S (s_X5_copy l D k a s18 sl 95 25  _ (by decide) (by decide) hBs18  ) lkX1_68 ok_X5_copy ⟨rfl, rfl, Nat.le_of_ble_eq_true rfl, Nat.le_of_ble_eq_true rfl⟩ (pw_V (ci := 5) (q0 := 95) hK hN rfl cw_95 hP hDc) rfl hl.1 rfl (Nat.le_of_ble_eq_true rfl) ⟨Nat.zero_le _, Nat.zero_le _⟩ dX1_copy_154) (fun s19 H9 locs9 hs19 hP9 hD9 hS9 => ?_)
  clear hP hD hS
  have hS := hS9
  have hP := hP9
  have hD := hD9
  clear hP9 hD9 hS9
  obtain ⟨hBs19, gs19, fs19⟩ := hs19
  have hFs19 : FR [88, 89, 90, 91, 92, 93, 94, 96, 97, 98, 99, 100] st s19 := fr_ca hFs18 gs19 (sub_1 (List.mem_of_getElem? (i := 7) rfl) (sub_1 (List.mem_of_getElem? (i := 8) rfl) (sub_1 (List.mem_of_getElem? (i := 9) rfl) (sub_1 (List.mem_of_getElem? (i := 10) rfl) (sub_1 (List.mem_of_getElem? (i := 11) rfl) sub_0)))))
  rw [hQ]
  exact W.vret hx hb hr (fun t ht hW => ⟨⟨s19, rfl, ⟨hBs19, hFs19, trivial⟩, by rw [ht]; exact hP, va_K.moved hW.alike (hK.sub (tys' := []) [] rfl), by rw [hAe]; exact hD⟩, by rw [hAe]; exact hS.F ht⟩) hS.2.2 dX1_copy_157
set_option maxHeartbeats 4000000 in
set_option maxRecDepth 100000 in
theorem s_X1_copy_4 (l : Launch) (D : va_G) (k : Nat → ClassId) (a : Nat → Nat) (st : CT) (sl : CL) (sz : Nat) (hB : CB st)  : Met l yX1_copy (.code yX1_copy cX1_copy 2 none :: TB) (rmw 2 0 0) (va_Pc [.ref (a 18), .ref (a 42)] (PW D k sz (CWS k a st sl))) (QV D (S := CT) (fun u => CB u ∧ FR [18, 19, 20, 21, 22, 23, 24, 26, 27, 28, 29, 30] st u ∧ (True)) (fun u => CWS k a u sl) (fun _ => []) (CWS k a st sl) sz) 0 0 (va_A (CWS k a st sl) sz) := by
  refine Met.ofW (cc := cX1_copy) (maxL := 2) (ret := none) (by decide) rfl ?_
  intro p e s m args below meth c s₁ B hml hv
  obtain ⟨rfl, hsz, hP, hK, hD0, hN⟩ := hv
  have hx := B.exec
  have hb := B.bytes
  have hr := B.returns
  have hT : ∀ w9 ∈ TB, w9.before ([.ref (a 18), .ref (a 42)] : List Value).toArray s = true := fun w9 h => atoms_spec (ws := .code yX1_copy cX1_copy 2 none :: TB) B.pre w9 (List.mem_cons_of_mem _ h)
  have hown : s.vm.findClass RX1 = some m.cls := findClass_of_methodNamed B.named
  have S : CallFix p m c cX1_copy 2 s _ TB RX1 := ⟨hx, hb, hml, hown, hT⟩
  subst hsz
  have hD := hD0.self (sz := s.heap.size)
  generalize hAe : va_A (CWS k a st sl) s.heap.size = A at hD ⊢
  have hA : ∀ q : Nat, s.heap.size ≤ q → A q := fun q h => by rw [← hAe]; exact Or.inr h
  have hS : va_S A s.heap s.heap [] := va_S.rf
  have hl := lv_entry ([.ref (a 18), .ref (a 42)]) (n := 2) (Nat.le_of_ble_eq_true rfl)
  rw [lg_entry_eq]
  generalize (lg_sl ([.ref (a 18), .ref (a 42)]) ++ List.replicate (2 - (lg_sl ([.ref (a 18), .ref (a 42)])).length) Slot.unset).toArray = ls at hl ⊢
  have hl : lv_has ls 2 [(0, .ref (a 18)), (1, .ref (a 42))] := hl
  refine nameQ (fun Q hQ => ?_)
  refine lv_aload_n hx hb dX1_copy_0 rfl (lv_at hl 0 rfl) ?_
  refine lv_aload_n hx hb dX1_copy_1 rfl (lv_at hl 1 rfl) ?_
  refine va_get (D := D) (ci := 1) (v := .int (st 42 0)) (C := RX1) (T := TX1) (N := 14) hx hb hT in_X1 hown hK hP 42 cw_42 rfl 0 (by decide) (hT _ t195) (fun _ h9 => h9) rfl dX1_copy_2 ?_
  refine c_put (ci := 1) (C := RX1) (T := TX1) (N := 14) (j := 0) (v := (st 42 0)) hx hb hT in_X1 tyX1 tyX1_ok nmX1 hown hK hP hD hS cw_18 rfl (by decide) (hT _ t195) (by decide +kernel) (by decide +kernel) rfl rfl (Nat.le_of_ble_eq_true rfl) (cs_18 (upd (st 18) 0 (st 42 0))) dX1_copy_5 (fun s1 H9 locs9 es1 hP9 hD9 hS9 => ?_)
  clear hP hD hS
  have hS := hS9
  have hP := hP9
  have hD := hD9
  clear hP9 hD9 hS9
  have hBs1 : CB s1 := by rw [es1]; exact cb_sw hB (ki_3_0 (hB 18))
  have hFs1 : FR [18, 19, 20, 21, 22, 23, 24, 26, 27, 28, 29, 30] st s1 := fr_sw fr_rf (List.mem_of_getElem? (i := 0) rfl) es1
  refine lv_aload_n hx hb dX1_copy_8 rfl (lv_at hl 0 rfl) ?_
  refine lv_aload_n hx hb dX1_copy_9 rfl (lv_at hl 1 rfl) ?_
  refine va_get (D := D) (ci := 1) (v := .int (s1 42 1)) (C := RX1) (T := TX1) (N := 14) hx hb hT in_X1 hown hK hP 42 cw_42 rfl 1 (by decide) (hT _ t198) (fun _ h9 => h9) rfl dX1_copy_10 ?_
  refine k_top (y := (st 42 1)) (congrFun (hFs1 42 (nm_1 (by decide) (nm_1 (by decide) (nm_1 (by decide) (nm_1 (by decide) (nm_1 (by decide) (nm_1 (by decide) (nm_1 (by decide) (nm_1 (by decide) (nm_1 (by decide) (nm_1 (by decide) (nm_1 (by decide) (nm_1 (by decide) nm_0))))))))))))) 1) ?_
  have h2 : Iv 0 6 (st 42 1) := (rb_42_1 hB)
  refine c_put (ci := 1) (C := RX1) (T := TX1) (N := 14) (j := 1) (v := (st 42 1)) hx hb hT in_X1 tyX1 tyX1_ok nmX1 hown hK hP hD hS cw_18 rfl (by decide) (hT _ t198) (by decide +kernel) (by decide +kernel) rfl rfl (Nat.le_of_ble_eq_true rfl) (cs_18 (upd (s1 18) 1 (st 42 1))) dX1_copy_13 (fun s3 H9 locs9 es3 hP9 hD9 hS9 => ?_)
  clear hP hD hS
  have hS := hS9
  have hP := hP9
  have hD := hD9
  clear hP9 hD9 hS9
  have hBs3 : CB s3 := by rw [es3]; exact cb_sw hBs1 (ki_3_1 (hBs1 18) h2)
  have hFs3 : FR [18, 19, 20, 21, 22, 23, 24, 26, 27, 28, 29, 30] st s3 := fr_sw hFs1 (List.mem_of_getElem? (i := 0) rfl) es3
  refine lv_aload_n hx hb dX1_copy_16 rfl (lv_at hl 0 rfl) ?_
  refine lv_aload_n hx hb dX1_copy_17 rfl (lv_at hl 1 rfl) ?_
  refine va_get (D := D) (ci := 1) (v := .int (s3 42 2)) (C := RX1) (T := TX1) (N := 14) hx hb hT in_X1 hown hK hP 42 cw_42 rfl 2 (by decide) (hT _ t202) (fun _ h9 => h9) rfl dX1_copy_18 ?_
  refine k_top (y := (st 42 2)) (congrFun (hFs3 42 (nm_1 (by decide) (nm_1 (by decide) (nm_1 (by decide) (nm_1 (by decide) (nm_1 (by decide) (nm_1 (by decide) (nm_1 (by decide) (nm_1 (by decide) (nm_1 (by decide) (nm_1 (by decide) (nm_1 (by decide) (nm_1 (by decide) nm_0))))))))))))) 2) ?_
  refine c_put (ci := 1) (C := RX1) (T := TX1) (N := 14) (j := 2) (v := (st 42 2)) hx hb hT in_X1 tyX1 tyX1_ok nmX1 hown hK hP hD hS cw_18 rfl (by decide) (hT _ t202) (by decide +kernel) (by decide +kernel) rfl rfl (Nat.le_of_ble_eq_true rfl) (cs_18 (upd (s3 18) 2 (st 42 2))) dX1_copy_21 (fun s4 H9 locs9 es4 hP9 hD9 hS9 => ?_)
  clear hP hD hS
  have hS := hS9
  have hP := hP9
  have hD := hD9
  clear hP9 hD9 hS9
  have hBs4 : CB s4 := by rw [es4]; exact cb_sw hBs3 (ki_3_2 (hBs3 18))
  have hFs4 : FR [18, 19, 20, 21, 22, 23, 24, 26, 27, 28, 29, 30] st s4 := fr_sw hFs3 (List.mem_of_getElem? (i := 0) rfl) es4
  refine lv_aload_n hx hb dX1_copy_24 rfl (lv_at hl 0 rfl) ?_
  refine lv_aload_n hx hb dX1_copy_25 rfl (lv_at hl 1 rfl) ?_
  refine va_get (D := D) (ci := 1) (v := .int (s4 42 3)) (C := RX1) (T := TX1) (N := 14) hx hb hT in_X1 hown hK hP 42 cw_42 rfl 3 (by decide) (hT _ t207) (fun _ h9 => h9) rfl dX1_copy_26 ?_
  refine k_top (y := (st 42 3)) (congrFun (hFs4 42 (nm_1 (by decide) (nm_1 (by decide) (nm_1 (by decide) (nm_1 (by decide) (nm_1 (by decide) (nm_1 (by decide) (nm_1 (by decide) (nm_1 (by decide) (nm_1 (by decide) (nm_1 (by decide) (nm_1 (by decide) (nm_1 (by decide) nm_0))))))))))))) 3) ?_
  have h5 : Iv 0 8 (st 42 3) := (rb_42_3 hB)
  refine c_put (ci := 1) (C := RX1) (T := TX1) (N := 14) (j := 3) (v := (st 42 3)) hx hb hT in_X1 tyX1 tyX1_ok nmX1 hown hK hP hD hS cw_18 rfl (by decide) (hT _ t207) (by decide +kernel) (by decide +kernel) rfl rfl (Nat.le_of_ble_eq_true rfl) (cs_18 (upd (s4 18) 3 (st 42 3))) dX1_copy_29 (fun s6 H9 locs9 es6 hP9 hD9 hS9 => ?_)
  clear hP hD hS
  have hS := hS9
  have hP := hP9
  have hD := hD9
  clear hP9 hD9 hS9
  have hBs6 : CB s6 := by rw [es6]; exact cb_sw hBs4 (ki_3_3 (hBs4 18) h5)
  have hFs6 : FR [18, 19, 20, 21, 22, 23, 24, 26, 27, 28, 29, 30] st s6 := fr_sw hFs4 (List.mem_of_getElem? (i := 0) rfl) es6
  refine lv_aload_n hx hb dX1_copy_32 rfl (lv_at hl 0 rfl) ?_
  refine lv_aload_n hx hb dX1_copy_33 rfl (lv_at hl 1 rfl) ?_
  refine va_get (D := D) (ci := 1) (v := .int (s6 42 4)) (C := RX1) (T := TX1) (N := 14) hx hb hT in_X1 hown hK hP 42 cw_42 rfl 4 (by decide) (hT _ t213) (fun _ h9 => h9) rfl dX1_copy_34 ?_
  refine k_top (y := (st 42 4)) (congrFun (hFs6 42 (nm_1 (by decide) (nm_1 (by decide) (nm_1 (by decide) (nm_1 (by decide) (nm_1 (by decide) (nm_1 (by decide) (nm_1 (by decide) (nm_1 (by decide) (nm_1 (by decide) (nm_1 (by decide) (nm_1 (by decide) (nm_1 (by decide) nm_0))))))))))))) 4) ?_
  have h7 : Iv 0 8 (st 42 4) := (rb_42_4 hB)
  refine c_put (ci := 1) (C := RX1) (T := TX1) (N := 14) (j := 4) (v := (st 42 4)) hx hb hT in_X1 tyX1 tyX1_ok nmX1 hown hK hP hD hS cw_18 rfl (by decide) (hT _ t213) (by decide +kernel) (by decide +kernel) rfl rfl (Nat.le_of_ble_eq_true rfl) (cs_18 (upd (s6 18) 4 (st 42 4))) dX1_copy_37 (fun s8 H9 locs9 es8 hP9 hD9 hS9 => ?_)
  clear hP hD hS
  have hS := hS9
  have hP := hP9
  have hD := hD9
  clear hP9 hD9 hS9
  have hBs8 : CB s8 := by rw [es8]; exact cb_sw hBs6 (ki_3_4 (hBs6 18) h7)
  have hFs8 : FR [18, 19, 20, 21, 22, 23, 24, 26, 27, 28, 29, 30] st s8 := fr_sw hFs6 (List.mem_of_getElem? (i := 0) rfl) es8
  refine lv_aload_n hx hb dX1_copy_40 rfl (lv_at hl 0 rfl) ?_
  refine lv_aload_n hx hb dX1_copy_41 rfl (lv_at hl 1 rfl) ?_
  refine va_get (D := D) (ci := 1) (v := .int (s8 42 5)) (C := RX1) (T := TX1) (N := 14) hx hb hT in_X1 hown hK hP 42 cw_42 rfl 5 (by decide) (hT _ t216) (fun _ h9 => h9) rfl dX1_copy_42 ?_
  refine k_top (y := (st 42 5)) (congrFun (hFs8 42 (nm_1 (by decide) (nm_1 (by decide) (nm_1 (by decide) (nm_1 (by decide) (nm_1 (by decide) (nm_1 (by decide) (nm_1 (by decide) (nm_1 (by decide) (nm_1 (by decide) (nm_1 (by decide) (nm_1 (by decide) (nm_1 (by decide) nm_0))))))))))))) 5) ?_
  have h9 : Iv 0 3 (st 42 5) := (rb_42_5 hB)
  refine c_put (ci := 1) (C := RX1) (T := TX1) (N := 14) (j := 5) (v := (st 42 5)) hx hb hT in_X1 tyX1 tyX1_ok nmX1 hown hK hP hD hS cw_18 rfl (by decide) (hT _ t216) (by decide +kernel) (by decide +kernel) rfl rfl (Nat.le_of_ble_eq_true rfl) (cs_18 (upd (s8 18) 5 (st 42 5))) dX1_copy_45 (fun s10 H9 locs9 es10 hP9 hD9 hS9 => ?_)
  clear hP hD hS
  have hS := hS9
  have hP := hP9
  have hD := hD9
  clear hP9 hD9 hS9
  have hBs10 : CB s10 := by rw [es10]; exact cb_sw hBs8 (ki_3_5 (hBs8 18) h9)
  have hFs10 : FR [18, 19, 20, 21, 22, 23, 24, 26, 27, 28, 29, 30] st s10 := fr_sw hFs8 (List.mem_of_getElem? (i := 0) rfl) es10
  refine lv_aload_n hx hb dX1_copy_48 rfl (lv_at hl 0 rfl) ?_
  refine lv_aload_n hx hb dX1_copy_49 rfl (lv_at hl 1 rfl) ?_
  refine va_get (D := D) (ci := 1) (v := .int (s10 42 6)) (C := RX1) (T := TX1) (N := 14) hx hb hT in_X1 hown hK hP 42 cw_42 rfl 6 (by decide) (hT _ t219) (fun _ h9 => h9) rfl dX1_copy_50 ?_
  refine k_top (y := (st 42 6)) (congrFun (hFs10 42 (nm_1 (by decide) (nm_1 (by decide) (nm_1 (by decide) (nm_1 (by decide) (nm_1 (by decide) (nm_1 (by decide) (nm_1 (by decide) (nm_1 (by decide) (nm_1 (by decide) (nm_1 (by decide) (nm_1 (by decide) (nm_1 (by decide) nm_0))))))))))))) 6) ?_
  have h11 : Iv 0 6 (st 42 6) := (rb_42_6 hB)
  refine c_put (ci := 1) (C := RX1) (T := TX1) (N := 14) (j := 6) (v := (st 42 6)) hx hb hT in_X1 tyX1 tyX1_ok nmX1 hown hK hP hD hS cw_18 rfl (by decide) (hT _ t219) (by decide +kernel) (by decide +kernel) rfl rfl (Nat.le_of_ble_eq_true rfl) (cs_18 (upd (s10 18) 6 (st 42 6))) dX1_copy_53 (fun s12 H9 locs9 es12 hP9 hD9 hS9 => ?_)
  clear hP hD hS
  have hS := hS9
  have hP := hP9
  have hD := hD9
  clear hP9 hD9 hS9
  have hBs12 : CB s12 := by rw [es12]; exact cb_sw hBs10 (ki_3_6 (hBs10 18) h11)
  have hFs12 : FR [18, 19, 20, 21, 22, 23, 24, 26, 27, 28, 29, 30] st s12 := fr_sw hFs10 (List.mem_of_getElem? (i := 0) rfl) es12
  refine lv_aload_n hx hb dX1_copy_56 rfl (lv_at hl 1 rfl) ?_
  refine va_get (D := D) (ci := 1) (v := .ref (a 43)) (C := RX1) (T := TX1) (N := 14) hx hb hT in_X1 hown hK hP 42 cw_42 rfl 7 (by decide) (hT _ t222) (fun _ h9 => h9) rfl dX1_copy_57 ?_
  refine lv_iconst (v := 0) hx hb dX1_copy_60 (by decide) ?_
  refine lv_aload_n hx hb dX1_copy_61 rfl (lv_at hl 0 rfl) ?_
  refine va_get (D := D) (ci := 1) (v := .ref (a 19)) (C := RX1) (T := TX1) (N := 14) hx hb hT in_X1 hown hK hP 18 cw_18 rfl 7 (by decide) (hT _ t222) (fun _ h9 => h9) rfl dX1_copy_62 ?_
  refine lv_iconst (v := 0) hx hb dX1_copy_65 (by decide) ?_
  refine lv_bipush (v := 8) hx hb dX1_copy_66 (by decide) ?_
  refine c_cpy hx hb (hml.trans hl.1.symm) hown (hT _ t684) (hT _ t686) (hT _ t685) (hT _ t121) hK hP hD hS cw_43 cw_19 cs_19 (Nat.le_of_ble_eq_true rfl) (Nat.le_of_ble_eq_true rfl) (by decide) (by decide) (by decide) dX1_copy_68 (fun s13 H9 locs9 fs13 es13 gs13 hP9 hD9 hS9 => ?_)
  clear hP hD hS
  have hS := hS9
  have hP := hP9
  have hD := hD9
  clear hP9 hD9 hS9
  have hBs13 : CB s13 := by rw [es13]; exact cb_sw hBs12 (show KI 4 fs13 from fun j9 h9 => by rw [gs13 j9 h9]; exact (rb_43 hBs12 h9))
  have hFs13 : FR [18, 19, 20, 21, 22, 23, 24, 26, 27, 28, 29, 30] st s13 := fr_sw hFs12 (List.mem_of_getElem? (i := 1) rfl) es13
  refine lv_aload_n hx hb dX1_copy_71 rfl (lv_at hl 1 rfl) ?_
  refine va_get (D := D) (ci := 1) (v := .ref (a 44)) (C := RX1) (T := TX1) (N := 14) hx hb hT in_X1 hown hK hP 42 cw_42 rfl 8 (by decide) (hT _ t225) (fun _ h9 => h9) rfl dX1_copy_72 ?_
  refine lv_iconst (v := 0) hx hb dX1_copy_75 (by decide) ?_
  refine lv_aload_n hx hb dX1_copy_76 rfl (lv_at hl 0 rfl) ?_
  refine va_get (D := D) (ci := 1) (v := .ref (a 20)) (C := RX1) (T := TX1) (N := 14) hx hb hT in_X1 hown hK hP 18 cw_18 rfl 8 (by decide) (hT _ t225) (fun _ h9 => h9) rfl dX1_copy_77 ?_
  refine lv_iconst (v := 0) hx hb dX1_copy_80 (by decide) ?_
  refine lv_bipush (v := 8) hx hb dX1_copy_81 (by decide) ?_
  refine c_cpy hx hb (hml.trans hl.1.symm) hown (hT _ t684) (hT _ t686) (hT _ t685) (hT _ t121) hK hP hD hS cw_44 cw_20 cs_20 (Nat.le_of_ble_eq_true rfl) (Nat.le_of_ble_eq_true rfl) (by decide) (by decide) (by decide) dX1_copy_83 (fun s14 H9 locs9 fs14 es14 gs14 hP9 hD9 hS9 => ?_)
  clear hP hD hS
  have hS := hS9
  have hP := hP9
  have hD := hD9
  clear hP9 hD9 hS9
  have hBs14 : CB s14 := by rw [es14]; exact cb_sw hBs13 (show KI 4 fs14 from fun j9 h9 => by rw [gs14 j9 h9]; exact (rb_44 hBs13 h9))
  have hFs14 : FR [18, 19, 20, 21, 22, 23, 24, 26, 27, 28, 29, 30] st s14 := fr_sw hFs13 (List.mem_of_getElem? (i := 2) rfl) es14
  refine lv_aload_n hx hb dX1_copy_86 rfl (lv_at hl 1 rfl) ?_
  refine va_get (D := D) (ci := 1) (v := .ref (a 45)) (C := RX1) (T := TX1) (N := 14) hx hb hT in_X1 hown hK hP 42 cw_42 rfl 9 (by decide) (hT _ t228) (fun _ h9 => h9) rfl dX1_copy_87 ?_
  refine lv_iconst (v := 0) hx hb dX1_copy_90 (by decide) ?_
  refine lv_aload_n hx hb dX1_copy_91 rfl (lv_at hl 0 rfl) ?_
  refine va_get (D := D) (ci := 1) (v := .ref (a 21)) (C := RX1) (T := TX1) (N := 14) hx hb hT in_X1 hown hK hP 18 cw_18 rfl 9 (by decide) (hT _ t228) (fun _ h9 => h9) rfl dX1_copy_92 ?_
  refine lv_iconst (v := 0) hx hb dX1_copy_95 (by decide) ?_
  refine lv_bipush (v := 8) hx hb dX1_copy_96 (by decide) ?_
  refine c_cpy hx hb (hml.trans hl.1.symm) hown (hT _ t684) (hT _ t686) (hT _ t685) (hT _ t121) hK hP hD hS cw_45 cw_21 cs_21 (Nat.le_of_ble_eq_true rfl) (Nat.le_of_ble_eq_true rfl) (by decide) (by decide) (by decide) dX1_copy_98 (fun s15 H9 locs9 fs15 es15 gs15 hP9 hD9 hS9 => ?_)
  clear hP hD hS
  have hS := hS9
  have hP := hP9
  have hD := hD9
  clear hP9 hD9 hS9
  have hBs15 : CB s15 := by rw [es15]; exact cb_sw hBs14 trivial
  have hFs15 : FR [18, 19, 20, 21, 22, 23, 24, 26, 27, 28, 29, 30] st s15 := fr_sw hFs14 (List.mem_of_getElem? (i := 3) rfl) es15
  refine lv_aload_n hx hb dX1_copy_101 rfl (lv_at hl 1 rfl) ?_
  refine va_get (D := D) (ci := 1) (v := .ref (a 46)) (C := RX1) (T := TX1) (N := 14) hx hb hT in_X1 hown hK hP 42 cw_42 rfl 10 (by decide) (hT _ t233) (fun _ h9 => h9) rfl dX1_copy_102 ?_
  refine lv_iconst (v := 0) hx hb dX1_copy_105 (by decide) ?_
  refine lv_aload_n hx hb dX1_copy_106 rfl (lv_at hl 0 rfl) ?_
  refine va_get (D := D) (ci := 1) (v := .ref (a 22)) (C := RX1) (T := TX1) (N := 14) hx hb hT in_X1 hown hK hP 18 cw_18 rfl 10 (by decide) (hT _ t233) (fun _ h9 => h9) rfl dX1_copy_107 ?_
  refine lv_iconst (v := 0) hx hb dX1_copy_110 (by decide) ?_
  refine lv_bipush (v := 6) hx hb dX1_copy_111 (by decide) ?_
  refine c_cpy hx hb (hml.trans hl.1.symm) hown (hT _ t684) (hT _ t686) (hT _ t685) (hT _ t121) hK hP hD hS cw_46 cw_22 cs_22 (Nat.le_of_ble_eq_true rfl) (Nat.le_of_ble_eq_true rfl) (by decide) (by decide) (by decide) dX1_copy_113 (fun s16 H9 locs9 fs16 es16 gs16 hP9 hD9 hS9 => ?_)
  clear hP hD hS
  have hS := hS9
  have hP := hP9
  have hD := hD9
  clear hP9 hD9 hS9
  have hBs16 : CB s16 := by rw [es16]; exact cb_sw hBs15 (show KI 5 fs16 from fun j9 h9 => by rw [gs16 j9 h9]; exact (rb_46 hBs15 h9))
  have hFs16 : FR [18, 19, 20, 21, 22, 23, 24, 26, 27, 28, 29, 30] st s16 := fr_sw hFs15 (List.mem_of_getElem? (i := 4) rfl) es16
  refine lv_aload_n hx hb dX1_copy_116 rfl (lv_at hl 1 rfl) ?_
  refine va_get (D := D) (ci := 1) (v := .ref (a 47)) (C := RX1) (T := TX1) (N := 14) hx hb hT in_X1 hown hK hP 42 cw_42 rfl 11 (by decide) (hT _ t235) (fun _ h9 => h9) rfl dX1_copy_117 ?_
  refine lv_iconst (v := 0) hx hb dX1_copy_120 (by decide) ?_
  refine lv_aload_n hx hb dX1_copy_121 rfl (lv_at hl 0 rfl) ?_
  refine va_get (D := D) (ci := 1) (v := .ref (a 23)) (C := RX1) (T := TX1) (N := 14) hx hb hT in_X1 hown hK hP 18 cw_18 rfl 11 (by decide) (hT _ t235) (fun _ h9 => h9) rfl dX1_copy_122 ?_
  refine lv_iconst (v := 0) hx hb dX1_copy_125 (by decide) ?_
  refine lv_bipush (v := 6) hx hb dX1_copy_126 (by decide) ?_
  refine c_cpy hx hb (hml.trans hl.1.symm) hown (hT _ t684) (hT _ t686) (hT _ t685) (hT _ t121) hK hP hD hS cw_47 cw_23 cs_23 (Nat.le_of_ble_eq_true rfl) (Nat.le_of_ble_eq_true rfl) (by decide) (by decide) (by decide) dX1_copy_128 (fun s17 H9 locs9 fs17 es17 gs17 hP9 hD9 hS9 => ?_)
  clear hP hD hS
  have hS := hS9
  have hP := hP9
  have hD := hD9
  clear hP9 hD9 hS9
  have hBs17 : CB s17 := by rw [es17]; exact cb_sw hBs16 (show KI 6 fs17 from fun j9 h9 => by rw [gs17 j9 h9]; exact (rb_47 hBs16 h9))
  have hFs17 : FR [18, 19, 20, 21, 22, 23, 24, 26, 27, 28, 29, 30] st s17 := fr_sw hFs16 (List.mem_of_getElem? (i := 5) rfl) es17
  refine lv_aload_n hx hb dX1_copy_131 rfl (lv_at hl 1 rfl) ?_
  refine va_get (D := D) (ci := 1) (v := .ref (a 48)) (C := RX1) (T := TX1) (N := 14) hx hb hT in_X1 hown hK hP 42 cw_42 rfl 12 (by decide) (hT _ t237) (fun _ h9 => h9) rfl dX1_copy_132 ?_
  refine lv_iconst (v := 0) hx hb dX1_copy_135 (by decide) ?_
  refine lv_aload_n hx hb dX1_copy_136 rfl (lv_at hl 0 rfl) ?_
  refine va_get (D := D) (ci := 1) (v := .ref (a 24)) (C := RX1) (T := TX1) (N := 14) hx hb hT in_X1 hown hK hP 18 cw_18 rfl 12 (by decide) (hT _ t237) (fun _ h9 => h9) rfl dX1_copy_137 ?_
  refine lv_iconst (v := 0) hx hb dX1_copy_140 (by decide) ?_
  refine lv_bipush (v := 6) hx hb dX1_copy_141 (by decide) ?_
  refine c_cpy hx hb (hml.trans hl.1.symm) hown (hT _ t684) (hT _ t686) (hT _ t685) (hT _ t121) hK hP hD hS cw_48 cw_24 cs_24 (Nat.le_of_ble_eq_true rfl) (Nat.le_of_ble_eq_true rfl) (by decide) (by decide) (by decide) dX1_copy_143 (fun s18 H9 locs9 fs18 es18 gs18 hP9 hD9 hS9 => ?_)
  clear hP hD hS
  have hS := hS9
  have hP := hP9
  have hD := hD9
  clear hP9 hD9 hS9
  have hBs18 : CB s18 := by rw [es18]; exact cb_sw hBs17 trivial
  have hFs18 : FR [18, 19, 20, 21, 22, 23, 24, 26, 27, 28, 29, 30] st s18 := fr_sw hFs17 (List.mem_of_getElem? (i := 6) rfl) es18
  refine lv_aload_n hx hb dX1_copy_146 rfl (lv_at hl 0 rfl) ?_
  refine va_get (D := D) (ci := 1) (v := .ref (a 25)) (C := RX1) (T := TX1) (N := 14) hx hb hT in_X1 hown hK hP 18 cw_18 rfl 13 (by decide) (hT _ t239) (fun _ h9 => h9) rfl dX1_copy_147 ?_
  refine lv_aload_n hx hb dX1_copy_150 rfl (lv_at hl 1 rfl) ?_
  refine va_get (D := D) (ci := 1) (v := .ref (a 49)) (C := RX1) (T := TX1) (N := 14) hx hb hT in_X1 hown hK hP 42 cw_42 rfl 13 (by decide) (hT _ t239) (fun _ h9 => h9) rfl dX1_copy_151 ?_
  refine ca_v hP hD hS hA (fun hDc => run_V (mc := 0) (ms := 0) (As := [.ref (a 49)]) (rest := []) S (s_X5_copy l D k a s18 sl 25 49  _ (by decide) (by decide) hBs18  ) lkX1_68 ok_X5_copy ⟨rfl, rfl, Nat.le_of_ble_eq_true rfl, Nat.le_of_ble_eq_true rfl⟩ (pw_V (ci := 5) (q0 := 25) hK hN rfl cw_25 hP hDc) rfl hl.1 rfl (Nat.le_of_ble_eq_true rfl) ⟨Nat.zero_le _, Nat.zero_le _⟩ dX1_copy_154) (fun s19 H9 locs9 hs19 hP9 hD9 hS9 => ?_)
  clear hP hD hS
  have hS := hS9
  have hP := hP9
  have hD := hD9
  clear hP9 hD9 hS9
  obtain ⟨hBs19, gs19, fs19⟩ := hs19
  have hFs19 : FR [18, 19, 20, 21, 22, 23, 24, 26, 27, 28, 29, 30] st s19 := fr_ca hFs18 gs19 (sub_1 (List.mem_of_getElem? (i := 7) rfl) (sub_1 (List.mem_of_getElem? (i := 8) rfl) (sub_1 (List.mem_of_getElem? (i := 9) rfl) (sub_1 (List.mem_of_getElem? (i := 10) rfl) (sub_1 (List.mem_of_getElem? (i := 11) rfl) sub_0)))))
  rw [hQ]
  exact W.vret hx hb hr (fun t ht hW => ⟨⟨s19, rfl, ⟨hBs19, hFs19, trivial⟩, by rw [ht]; exact hP, va_K.moved hW.alike (hK.sub (tys' := []) [] rfl), by rw [hAe]; exact hD⟩, by rw [hAe]; exact hS.F ht⟩) hS.2.2 dX1_copy_157
set_option maxHeartbeats 4000000 in
set_option maxRecDepth 100000 in
theorem s_X1_copy_5 (l : Launch) (D : va_G) (k : Nat → ClassId) (a : Nat → Nat) (st : CT) (sl : CL) (sz : Nat) (hB : CB st)  : Met l yX1_copy (.code yX1_copy cX1_copy 2 none :: TB) (rmw 2 0 0) (va_Pc [.ref (a 18), .ref (a 65)] (PW D k sz (CWS k a st sl))) (QV D (S := CT) (fun u => CB u ∧ FR [18, 19, 20, 21, 22, 23, 24, 26, 27, 28, 29, 30] st u ∧ (True)) (fun u => CWS k a u sl) (fun _ => []) (CWS k a st sl) sz) 0 0 (va_A (CWS k a st sl) sz) := by
  refine Met.ofW (cc := cX1_copy) (maxL := 2) (ret := none) (by decide) rfl ?_
  intro p e s m args below meth c s₁ B hml hv
  obtain ⟨rfl, hsz, hP, hK, hD0, hN⟩ := hv
  have hx := B.exec
  have hb := B.bytes
  have hr := B.returns
  have hT : ∀ w9 ∈ TB, w9.before ([.ref (a 18), .ref (a 65)] : List Value).toArray s = true := fun w9 h => atoms_spec (ws := .code yX1_copy cX1_copy 2 none :: TB) B.pre w9 (List.mem_cons_of_mem _ h)
  have hown : s.vm.findClass RX1 = some m.cls := findClass_of_methodNamed B.named
  have S : CallFix p m c cX1_copy 2 s _ TB RX1 := ⟨hx, hb, hml, hown, hT⟩
  subst hsz
  have hD := hD0.self (sz := s.heap.size)
  generalize hAe : va_A (CWS k a st sl) s.heap.size = A at hD ⊢
  have hA : ∀ q : Nat, s.heap.size ≤ q → A q := fun q h => by rw [← hAe]; exact Or.inr h
  have hS : va_S A s.heap s.heap [] := va_S.rf
  have hl := lv_entry ([.ref (a 18), .ref (a 65)]) (n := 2) (Nat.le_of_ble_eq_true rfl)
  rw [lg_entry_eq]
  generalize (lg_sl ([.ref (a 18), .ref (a 65)]) ++ List.replicate (2 - (lg_sl ([.ref (a 18), .ref (a 65)])).length) Slot.unset).toArray = ls at hl ⊢
  have hl : lv_has ls 2 [(0, .ref (a 18)), (1, .ref (a 65))] := hl
  refine nameQ (fun Q hQ => ?_)
  refine lv_aload_n hx hb dX1_copy_0 rfl (lv_at hl 0 rfl) ?_
  refine lv_aload_n hx hb dX1_copy_1 rfl (lv_at hl 1 rfl) ?_
  refine va_get (D := D) (ci := 1) (v := .int (st 65 0)) (C := RX1) (T := TX1) (N := 14) hx hb hT in_X1 hown hK hP 65 cw_65 rfl 0 (by decide) (hT _ t195) (fun _ h9 => h9) rfl dX1_copy_2 ?_
  refine c_put (ci := 1) (C := RX1) (T := TX1) (N := 14) (j := 0) (v := (st 65 0)) hx hb hT in_X1 tyX1 tyX1_ok nmX1 hown hK hP hD hS cw_18 rfl (by decide) (hT _ t195) (by decide +kernel) (by decide +kernel) rfl rfl (Nat.le_of_ble_eq_true rfl) (cs_18 (upd (st 18) 0 (st 65 0))) dX1_copy_5 (fun s1 H9 locs9 es1 hP9 hD9 hS9 => ?_)
  clear hP hD hS
  have hS := hS9
  have hP := hP9
  have hD := hD9
  clear hP9 hD9 hS9
  have hBs1 : CB s1 := by rw [es1]; exact cb_sw hB (ki_3_0 (hB 18))
  have hFs1 : FR [18, 19, 20, 21, 22, 23, 24, 26, 27, 28, 29, 30] st s1 := fr_sw fr_rf (List.mem_of_getElem? (i := 0) rfl) es1
  refine lv_aload_n hx hb dX1_copy_8 rfl (lv_at hl 0 rfl) ?_
  refine lv_aload_n hx hb dX1_copy_9 rfl (lv_at hl 1 rfl) ?_
  refine va_get (D := D) (ci := 1) (v := .int (s1 65 1)) (C := RX1) (T := TX1) (N := 14) hx hb hT in_X1 hown hK hP 65 cw_65 rfl 1 (by decide) (hT _ t198) (fun _ h9 => h9) rfl dX1_copy_10 ?_
  refine k_top (y := (st 65 1)) (congrFun (hFs1 65 (nm_1 (by decide) (nm_1 (by decide) (nm_1 (by decide) (nm_1 (by decide) (nm_1 (by decide) (nm_1 (by decide) (nm_1 (by decide) (nm_1 (by decide) (nm_1 (by decide) (nm_1 (by decide) (nm_1 (by decide) (nm_1 (by decide) nm_0))))))))))))) 1) ?_
  have h2 : Iv 0 6 (st 65 1) := (rb_65_1 hB)
  refine c_put (ci := 1) (C := RX1) (T := TX1) (N := 14) (j := 1) (v := (st 65 1)) hx hb hT in_X1 tyX1 tyX1_ok nmX1 hown hK hP hD hS cw_18 rfl (by decide) (hT _ t198) (by decide +kernel) (by decide +kernel) rfl rfl (Nat.le_of_ble_eq_true rfl) (cs_18 (upd (s1 18) 1 (st 65 1))) dX1_copy_13 (fun s3 H9 locs9 es3 hP9 hD9 hS9 => ?_)
  clear hP hD hS
  have hS := hS9
  have hP := hP9
  have hD := hD9
  clear hP9 hD9 hS9
  have hBs3 : CB s3 := by rw [es3]; exact cb_sw hBs1 (ki_3_1 (hBs1 18) h2)
  have hFs3 : FR [18, 19, 20, 21, 22, 23, 24, 26, 27, 28, 29, 30] st s3 := fr_sw hFs1 (List.mem_of_getElem? (i := 0) rfl) es3
  refine lv_aload_n hx hb dX1_copy_16 rfl (lv_at hl 0 rfl) ?_
  refine lv_aload_n hx hb dX1_copy_17 rfl (lv_at hl 1 rfl) ?_
  refine va_get (D := D) (ci := 1) (v := .int (s3 65 2)) (C := RX1) (T := TX1) (N := 14) hx hb hT in_X1 hown hK hP 65 cw_65 rfl 2 (by decide) (hT _ t202) (fun _ h9 => h9) rfl dX1_copy_18 ?_
  refine k_top (y := (st 65 2)) (congrFun (hFs3 65 (nm_1 (by decide) (nm_1 (by decide) (nm_1 (by decide) (nm_1 (by decide) (nm_1 (by decide) (nm_1 (by decide) (nm_1 (by decide) (nm_1 (by decide) (nm_1 (by decide) (nm_1 (by decide) (nm_1 (by decide) (nm_1 (by decide) nm_0))))))))))))) 2) ?_
  refine c_put (ci := 1) (C := RX1) (T := TX1) (N := 14) (j := 2) (v := (st 65 2)) hx hb hT in_X1 tyX1 tyX1_ok nmX1 hown hK hP hD hS cw_18 rfl (by decide) (hT _ t202) (by decide +kernel) (by decide +kernel) rfl rfl (Nat.le_of_ble_eq_true rfl) (cs_18 (upd (s3 18) 2 (st 65 2))) dX1_copy_21 (fun s4 H9 locs9 es4 hP9 hD9 hS9 => ?_)
  clear hP hD hS
  have hS := hS9
  have hP := hP9
  have hD := hD9
  clear hP9 hD9 hS9
  have hBs4 : CB s4 := by rw [es4]; exact cb_sw hBs3 (ki_3_2 (hBs3 18))
  have hFs4 : FR [18, 19, 20, 21, 22, 23, 24, 26, 27, 28, 29, 30] st s4 := fr_sw hFs3 (List.mem_of_getElem? (i := 0) rfl) es4
  refine lv_aload_n hx hb dX1_copy_24 rfl (lv_at hl 0 rfl) ?_
  refine lv_aload_n hx hb dX1_copy_25 rfl (lv_at hl 1 rfl) ?_
  refine va_get (D := D) (ci := 1) (v := .int (s4 65 3)) (C := RX1) (T := TX1) (N := 14) hx hb hT in_X1 hown hK hP 65 cw_65 rfl 3 (by decide) (hT _ t207) (fun _ h9 => h9) rfl dX1_copy_26 ?_
  refine k_top (y := (st 65 3)) (congrFun (hFs4 65 (nm_1 (by decide) (nm_1 (by decide) (nm_1 (by decide) (nm_1 (by decide) (nm_1 (by decide) (nm_1 (by decide) (nm_1 (by decide) (nm_1 (by decide) (nm_1 (by decide) (nm_1 (by decide) (nm_1 (by decide) (nm_1 (by decide) nm_0))))))))))))) 3) ?_
  have h5 : Iv 0 8 (st 65 3) := (rb_65_3 hB)
  refine c_put (ci := 1) (C := RX1) (T := TX1) (N := 14) (j := 3) (v := (st 65 3)) hx hb hT in_X1 tyX1 tyX1_ok nmX1 hown hK hP hD hS cw_18 rfl (by decide) (hT _ t207) (by decide +kernel) (by decide +kernel) rfl rfl (Nat.le_of_ble_eq_true rfl) (cs_18 (upd (s4 18) 3 (st 65 3))) dX1_copy_29 (fun s6 H9 locs9 es6 hP9 hD9 hS9 => ?_)
  clear hP hD hS
  have hS := hS9
  have hP := hP9
  have hD := hD9
  clear hP9 hD9 hS9
  have hBs6 : CB s6 := by rw [es6]; exact cb_sw hBs4 (ki_3_3 (hBs4 18) h5)
  have hFs6 : FR [18, 19, 20, 21, 22, 23, 24, 26, 27, 28, 29, 30] st s6 := fr_sw hFs4 (List.mem_of_getElem? (i := 0) rfl) es6
  refine lv_aload_n hx hb dX1_copy_32 rfl (lv_at hl 0 rfl) ?_
  refine lv_aload_n hx hb dX1_copy_33 rfl (lv_at hl 1 rfl) ?_
  refine va_get (D := D) (ci := 1) (v := .int (s6 65 4)) (C := RX1) (T := TX1) (N := 14) hx hb hT in_X1 hown hK hP 65 cw_65 rfl 4 (by decide) (hT _ t213) (fun _ h9 => h9) rfl dX1_copy_34 ?_
  refine k_top (y := (st 65 4)) (congrFun (hFs6 65 (nm_1 (by decide) (nm_1 (by decide) (nm_1 (by decide) (nm_1 (by decide) (nm_1 (by decide) (nm_1 (by decide) (nm_1 (by decide) (nm_1 (by decide) (nm_1 (by decide) (nm_1 (by decide) (nm_1 (by decide) (nm_1 (by decide) nm_0))))))))))))) 4) ?_
  have h7 : Iv 0 8 (st 65 4) := (rb_65_4 hB)
  refine c_put (ci := 1) (C := RX1) (T := TX1) (N := 14) (j := 4) (v := (st 65 4)) hx hb hT in_X1 tyX1 tyX1_ok nmX1 hown hK hP hD hS cw_18 rfl (by decide) (hT _ t213) (by decide +kernel) (by decide +kernel) rfl rfl (Nat.le_of_ble_eq_true rfl) (cs_18 (upd (s6 18) 4 (st 65 4))) dX1_copy_37 (fun s8 H9 locs9 es8 hP9 hD9 hS9 => ?_)
  clear hP hD hS
  have hS := hS9
  have hP := hP9
  have hD := hD9
  clear hP9 hD9 hS9
  have hBs8 : CB s8 := by rw [es8]; exact cb_sw hBs6 (ki_3_4 (hBs6 18) h7)
  have hFs8 : FR [18, 19, 20, 21, 22, 23, 24, 26, 27, 28, 29, 30] st s8 := fr_sw hFs6 (List.mem_of_getElem? (i := 0) rfl) es8
  refine lv_aload_n hx hb dX1_copy_40 rfl (lv_at hl 0 rfl) ?_
  refine lv_aload_n hx hb dX1_copy_41 rfl (lv_at hl 1 rfl) ?_
  refine va_get (D := D) (ci := 1) (v := .int (s8 65 5)) (C := RX1) (T := TX1) (N := 14) hx hb hT in_X1 hown hK hP 65 cw_65 rfl 5 (by decide) (hT _ t216) (fun _ h9 => h9) rfl dX1_copy_42 ?_
  refine k_top (y := (st 65 5)) (congrFun (hFs8 65 (nm_1 (by decide) (nm_1 (by decide) (nm_1 (by decide) (nm_1 (by decide) (nm_1 (by decide) (nm_1 (by decide) (nm_1 (by decide) (nm_1 (by decide) (nm_1 (by decide) (nm_1 (by decide) (nm_1 (by decide) (nm_1 (by decide) nm_0))))))))))))) 5) ?_
  have h9 : Iv 0 3 (st 65 5) := (rb_65_5 hB)
  refine c_put (ci := 1) (C := RX1) (T := TX1) (N := 14) (j := 5) (v := (st 65 5)) hx hb hT in_X1 tyX1 tyX1_ok nmX1 hown hK hP hD hS cw_18 rfl (by decide) (hT _ t216) (by decide +kernel) (by decide +kernel) rfl rfl (Nat.le_of_ble_eq_true rfl) (cs_18 (upd (s8 18) 5 (st 65 5))) dX1_copy_45 (fun s10 H9 locs9 es10 hP9 hD9 hS9 => ?_)
  clear hP hD hS
  have hS := hS9
  have hP := hP9
  have hD := hD9
  clear hP9 hD9 hS9
  have hBs10 : CB s10 := by rw [es10]; exact cb_sw hBs8 (ki_3_5 (hBs8 18) h9)
  have hFs10 : FR [18, 19, 20, 21, 22, 23, 24, 26, 27, 28, 29, 30] st s10 := fr_sw hFs8 (List.mem_of_getElem? (i := 0) rfl) es10
  refine lv_aload_n hx hb dX1_copy_48 rfl (lv_at hl 0 rfl) ?_
  refine lv_aload_n hx hb dX1_copy_49 rfl (lv_at hl 1 rfl) ?_
  refine va_get (D := D) (ci := 1) (v := .int (s10 65 6)) (C := RX1) (T := TX1) (N := 14) hx hb hT in_X1 hown hK hP 65 cw_65 rfl 6 (by decide) (hT _ t219) (fun _ h9 => h9) rfl dX1_copy_50 ?_
  refine k_top (y := (st 65 6)) (congrFun (hFs10 65 (nm_1 (by decide) (nm_1 (by decide) (nm_1 (by decide) (nm_1 (by decide) (nm_1 (by decide) (nm_1 (by decide) (nm_1 (by decide) (nm_1 (by decide) (nm_1 (by decide) (nm_1 (by decide) (nm_1 (by decide) (nm_1 (by decide) nm_0))))))))))))) 6) ?_
  have h11 : Iv 0 6 (st 65 6) := (rb_65_6 hB)
  refine c_put (ci := 1) (C := RX1) (T := TX1) (N := 14) (j := 6) (v := (st 65 6)) hx hb hT in_X1 tyX1 tyX1_ok nmX1 hown hK hP hD hS cw_18 rfl (by decide) (hT _ t219) (by decide +kernel) (by decide +kernel) rfl rfl (Nat.le_of_ble_eq_true rfl) (cs_18 (upd (s10 18) 6 (st 65 6))) dX1_copy_53 (fun s12 H9 locs9 es12 hP9 hD9 hS9 => ?_)
  clear hP hD hS
  have hS := hS9
  have hP := hP9
  have hD := hD9
  clear hP9 hD9 hS9
  have hBs12 : CB s12 := by rw [es12]; exact cb_sw hBs10 (ki_3_6 (hBs10 18) h11)
  have hFs12 : FR [18, 19, 20, 21, 22, 23, 24, 26, 27, 28, 29, 30] st s12 := fr_sw hFs10 (List.mem_of_getElem? (i := 0) rfl) es12
  refine lv_aload_n hx hb dX1_copy_56 rfl (lv_at hl 1 rfl) ?_
  refine va_get (D := D) (ci := 1) (v := .ref (a 66)) (C := RX1) (T := TX1) (N := 14) hx hb hT in_X1 hown hK hP 65 cw_65 rfl 7 (by decide) (hT _ t222) (fun _ h9 => h9) rfl dX1_copy_57 ?_
  refine lv_iconst (v := 0) hx hb dX1_copy_60 (by decide) ?_
  refine lv_aload_n hx hb dX1_copy_61 rfl (lv_at hl 0 rfl) ?_
  refine va_get (D := D) (ci := 1) (v := .ref (a 19)) (C := RX1) (T := TX1) (N := 14) hx hb hT in_X1 hown hK hP 18 cw_18 rfl 7 (by decide) (hT _ t222) (fun _ h9 => h9) rfl dX1_copy_62 ?_
  refine lv_iconst (v := 0) hx hb dX1_copy_65 (by decide) ?_
  refine lv_bipush (v := 8) hx hb dX1_copy_66 (by decide) ?_
  refine c_cpy hx hb (hml.trans hl.1.symm) hown (hT _ t684) (hT _ t686) (hT _ t685) (hT _ t121) hK hP hD hS cw_66 cw_19 cs_19 (Nat.le_of_ble_eq_true rfl) (Nat.le_of_ble_eq_true rfl) (by decide) (by decide) (by decide) dX1_copy_68 (fun s13 H9 locs9 fs13 es13 gs13 hP9 hD9 hS9 => ?_)
  clear hP hD hS
  have hS := hS9
  have hP := hP9
  have hD := hD9
  clear hP9 hD9 hS9
  have hBs13 : CB s13 := by rw [es13]; exact cb_sw hBs12 (show KI 4 fs13 from fun j9 h9 => by rw [gs13 j9 h9]; exact (rb_66 hBs12 h9))
  have hFs13 : FR [18, 19, 20, 21, 22, 23, 24, 26, 27, 28, 29, 30] st s13 := fr_sw hFs12 (List.mem_of_getElem? (i := 1) rfl) es13
  refine lv_aload_n hx hb dX1_copy_71 rfl (lv_at hl 1 rfl) ?_
  refine va_get (D := D) (ci := 1) (v := .ref (a 67)) (C := RX1) (T := TX1) (N := 14) hx hb hT in_X1 hown hK hP 65 cw_65 rfl 8 (by decide) (hT _ t225) (fun _ h9 => h9) rfl dX1_copy_72 ?_
  refine lv_iconst (v := 0) hx hb dX1_copy_75 (by decide) ?_
  refine lv_aload_n hx hb dX1_copy_76 rfl (lv_at hl 0 rfl) ?_
  refine va_get (D := D) (ci := 1) (v := .ref (a 20)) (C := RX1) (T := TX1) (N := 14) hx hb hT in_X1 hown hK hP 18 cw_18 rfl 8 (by decide) (hT _ t225) (fun _ h9 => h9) rfl dX1_copy_77 ?_
  refine lv_iconst (v := 0) hx hb dX1_copy_80 (by decide) ?_
  refine lv_bipush (v := 8) hx hb dX1_copy_81 (by decide) ?_
  refine c_cpy hx hb (hml.trans hl.1.symm) hown (hT _ t684) (hT _ t686) (hT _ t685) (hT _ t121) hK hP hD hS cw_67 cw_20 cs_20 (Nat.le_of_ble_eq_true rfl) (Nat.le_of_ble_eq_true rfl) (by decide) (by decide) (by decide) dX1_copy_83 (fun s14 H9 locs9 fs14 es14 gs14 hP9 hD9 hS9 => ?_)
  clear hP hD hS
  have hS := hS9
  have hP := hP9
  have hD := hD9
  clear hP9 hD9 hS9
  have hBs14 : CB s14 := by rw [es14]; exact cb_sw hBs13 (show KI 4 fs14 from fun j9 h9 => by rw [gs14 j9 h9]; exact (rb_67 hBs13 h9))
  have hFs14 : FR [18, 19, 20, 21, 22, 23, 24, 26, 27, 28, 29, 30] st s14 := fr_sw hFs13 (List.mem_of_getElem? (i := 2) rfl) es14
  refine lv_aload_n hx hb dX1_copy_86 rfl (lv_at hl 1 rfl) ?_
  refine va_get (D := D) (ci := 1) (v := .ref (a 68)) (C := RX1) (T := TX1) (N := 14) hx hb hT in_X1 hown hK hP 65 cw_65 rfl 9 (by decide) (hT _ t228) (fun _ h9 => h9) rfl dX1_copy_87 ?_
  refine lv_iconst (v := 0) hx hb dX1_copy_90 (by decide) ?_
  refine lv_aload_n hx hb dX1_copy_91 rfl (lv_at hl 0 rfl) ?_
  refine va_get (D := D) (ci := 1) (v := .ref (a 21)) (C := RX1) (T := TX1) (N := 14) hx hb hT in_X1 hown hK hP 18 cw_18 rfl 9 (by decide) (hT _ t228) (fun _ h9 => h9) rfl dX1_copy_92 ?_
  refine lv_iconst (v := 0) hx hb dX1_copy_95 (by decide) ?_
  refine lv_bipush (v := 8) hx hb dX1_copy_96 (by decide) ?_
  refine c_cpy hx hb (hml.trans hl.1.symm) hown (hT _ t684) (hT _ t686) (hT _ t685) (hT _ t121) hK hP hD hS cw_68 cw_21 cs_21 (Nat.le_of_ble_eq_true rfl) (Nat.le_of_ble_eq_true rfl) (by decide) (by decide) (by decide) dX1_copy_98 (fun s15 H9 locs9 fs15 es15 gs15 hP9 hD9 hS9 => ?_)
  clear hP hD hS
  have hS := hS9
  have hP := hP9
  have hD := hD9
  clear hP9 hD9 hS9
  have hBs15 : CB s15 := by rw [es15]; exact cb_sw hBs14 trivial
  have hFs15 : FR [18, 19, 20, 21, 22, 23, 24, 26, 27, 28, 29, 30] st s15 := fr_sw hFs14 (List.mem_of_getElem? (i := 3) rfl) es15
  refine lv_aload_n hx hb dX1_copy_101 rfl (lv_at hl 1 rfl) ?_
  refine va_get (D := D) (ci := 1) (v := .ref (a 69)) (C := RX1) (T := TX1) (N := 14) hx hb hT in_X1 hown hK hP 65 cw_65 rfl 10 (by decide) (hT _ t233) (fun _ h9 => h9) rfl dX1_copy_102 ?_
  refine lv_iconst (v := 0) hx hb dX1_copy_105 (by decide) ?_
  refine lv_aload_n hx hb dX1_copy_106 rfl (lv_at hl 0 rfl) ?_
  refine va_get (D := D) (ci := 1) (v := .ref (a 22)) (C := RX1) (T := TX1) (N := 14) hx hb hT in_X1 hown hK hP 18 cw_18 rfl 10 (by decide) (hT _ t233) (fun _ h9 => h9) rfl dX1_copy_107 ?_
  refine lv_iconst (v := 0) hx hb dX1_copy_110 (by decide) ?_
  refine lv_bipush (v := 6) hx hb dX1_copy_111 (by decide) ?_
  refine c_cpy hx hb (hml.trans hl.1.symm) hown (hT _ t684) (hT _ t686) (hT _ t685) (hT _ t121) hK hP hD hS cw_69 cw_22 cs_22 (Nat.le_of_ble_eq_true rfl) (Nat.le_of_ble_eq_true rfl) (by decide) (by decide) (by decide) dX1_copy_113 (fun s16 H9 locs9 fs16 es16 gs16 hP9 hD9 hS9 => ?_)
  clear hP hD hS
  have hS := hS9
  have hP := hP9
  have hD := hD9
  clear hP9 hD9 hS9
  have hBs16 : CB s16 := by rw [es16]; exact cb_sw hBs15 (show KI 5 fs16 from fun j9 h9 => by rw [gs16 j9 h9]; exact (rb_69 hBs15 h9))
  have hFs16 : FR [18, 19, 20, 21, 22, 23, 24, 26, 27, 28, 29, 30] st s16 := fr_sw hFs15 (List.mem_of_getElem? (i := 4) rfl) es16
  refine lv_aload_n hx hb dX1_copy_116 rfl (lv_at hl 1 rfl) ?_
  refine va_get (D := D) (ci := 1) (v := .ref (a 70)) (C := RX1) (T := TX1) (N := 14) hx hb hT in_X1 hown hK hP 65 cw_65 rfl 11 (by decide) (hT _ t235) (fun _ h9 => h9) rfl dX1_copy_117 ?_
  refine lv_iconst (v := 0) hx hb dX1_copy_120 (by decide) ?_
  refine lv_aload_n hx hb dX1_copy_121 rfl (lv_at hl 0 rfl) ?_
  refine va_get (D := D) (ci := 1) (v := .ref (a 23)) (C := RX1) (T := TX1) (N := 14) hx hb hT in_X1 hown hK hP 18 cw_18 rfl 11 (by decide) (hT _ t235) (fun _ h9 => h9) rfl dX1_copy_122 ?_
  refine lv_iconst (v := 0) hx hb dX1_copy_125 (by decide) ?_
  refine lv_bipush (v := 6) hx hb dX1_copy_126 (by decide) ?_
  refine c_cpy hx hb (hml.trans hl.1.symm) hown (hT _ t684) (hT _ t686) (hT _ t685) (hT _ t121) hK hP hD hS cw_70 cw_23 cs_23 (Nat.le_of_ble_eq_true rfl) (Nat.le_of_ble_eq_true rfl) (by decide) (by decide) (by decide) dX1_copy_128 (fun s17 H9 locs9 fs17 es17 gs17 hP9 hD9 hS9 => ?_)
  clear hP hD hS
  have hS := hS9
  have hP := hP9
  have hD := hD9
  clear hP9 hD9 hS9
  have hBs17 : CB s17 := by rw [es17]; exact cb_sw hBs16 (show KI 6 fs17 from fun j9 h9 => by rw [gs17 j9 h9]; exact (rb_70 hBs16 h9))
  have hFs17 : FR [18, 19, 20, 21, 22, 23, 24, 26, 27, 28, 29, 30] st s17 := fr_sw hFs16 (List.mem_of_getElem? (i := 5) rfl) es17
  refine lv_aload_n hx hb dX1_copy_131 rfl (lv_at hl 1 rfl) ?_
  refine va_get (D := D) (ci := 1) (v := .ref (a 71)) (C := RX1) (T := TX1) (N := 14) hx hb hT in_X1 hown hK hP 65 cw_65 rfl 12 (by decide) (hT _ t237) (fun _ h9 => h9) rfl dX1_copy_132 ?_
  refine lv_iconst (v := 0) hx hb dX1_copy_135 (by decide) ?_
  refine lv_aload_n hx hb dX1_copy_136 rfl (lv_at hl 0 rfl) ?_
  refine va_get (D := D) (ci := 1) (v := .ref (a 24)) (C := RX1) (T := TX1) (N := 14) hx hb hT in_X1 hown hK hP 18 cw_18 rfl 12 (by decide) (hT _ t237) (fun _ h9 => h9) rfl dX1_copy_137 ?_
  refine lv_iconst (v := 0) hx hb dX1_copy_140 (by decide) ?_
  refine lv_bipush (v := 6) hx hb dX1_copy_141 (by decide) ?_
  refine c_cpy hx hb (hml.trans hl.1.symm) hown (hT _ t684) (hT _ t686) (hT _ t685) (hT _ t121) hK hP hD hS cw_71 cw_24 cs_24 (Nat.le_of_ble_eq_true rfl) (Nat.le_of_ble_eq_true rfl) (by decide) (by decide) (by decide) dX1_copy_143 (fun s18 H9 locs9 fs18 es18 gs18 hP9 hD9 hS9 => ?_)
  clear hP hD hS
  have hS := hS9
  have hP := hP9
  have hD := hD9
  clear hP9 hD9 hS9
  have hBs18 : CB s18 := by rw [es18]; exact cb_sw hBs17 trivial
  have hFs18 : FR [18, 19, 20, 21, 22, 23, 24, 26, 27, 28, 29, 30] st s18 := fr_sw hFs17 (List.mem_of_getElem? (i := 6) rfl) es18
  refine lv_aload_n hx hb dX1_copy_146 rfl (lv_at hl 0 rfl) ?_
  refine va_get (D := D) (ci := 1) (v := .ref (a 25)) (C := RX1) (T := TX1) (N := 14) hx hb hT in_X1 hown hK hP 18 cw_18 rfl 13 (by decide) (hT _ t239) (fun _ h9 => h9) rfl dX1_copy_147 ?_
  refine lv_aload_n hx hb dX1_copy_150 rfl (lv_at hl 1 rfl) ?_
  refine va_get (D := D) (ci := 1) (v := .ref (a 72)) (C := RX1) (T := TX1) (N := 14) hx hb hT in_X1 hown hK hP 65 cw_65 rfl 13 (by decide) (hT _ t239) (fun _ h9 => h9) rfl dX1_copy_151 ?_
  refine ca_v hP hD hS hA (fun hDc => run_V (mc := 0) (ms := 0) (As := [.ref (a 72)]) (rest := []) S (s_X5_copy l D k a s18 sl 25 72  _ (by decide) (by decide) hBs18  ) lkX1_68 ok_X5_copy ⟨rfl, rfl, Nat.le_of_ble_eq_true rfl, Nat.le_of_ble_eq_true rfl⟩ (pw_V (ci := 5) (q0 := 25) hK hN rfl cw_25 hP hDc) rfl hl.1 rfl (Nat.le_of_ble_eq_true rfl) ⟨Nat.zero_le _, Nat.zero_le _⟩ dX1_copy_154) (fun s19 H9 locs9 hs19 hP9 hD9 hS9 => ?_)
  clear hP hD hS
  have hS := hS9
  have hP := hP9
  have hD := hD9
  clear hP9 hD9 hS9
  obtain ⟨hBs19, gs19, fs19⟩ := hs19
  have hFs19 : FR [18, 19, 20, 21, 22, 23, 24, 26, 27, 28, 29, 30] st s19 := fr_ca hFs18 gs19 (sub_1 (List.mem_of_getElem? (i := 7) rfl) (sub_1 (List.mem_of_getElem? (i := 8) rfl) (sub_1 (List.mem_of_getElem? (i := 9) rfl) (sub_1 (List.mem_of_getElem? (i := 10) rfl) (sub_1 (List.mem_of_getElem? (i := 11) rfl) sub_0)))))
  rw [hQ]
  exact W.vret hx hb hr (fun t ht hW => ⟨⟨s19, rfl, ⟨hBs19, hFs19, trivial⟩, by rw [ht]; exact hP, va_K.moved hW.alike (hK.sub (tys' := []) [] rfl), by rw [hAe]; exact hD⟩, by rw [hAe]; exact hS.F ht⟩) hS.2.2 dX1_copy_157
set_option maxHeartbeats 4000000 in
set_option maxRecDepth 100000 in
theorem s_X1_copy_6 (l : Launch) (D : va_G) (k : Nat → ClassId) (a : Nat → Nat) (st : CT) (sl : CL) (sz : Nat) (hB : CB st)  : Met l yX1_copy (.code yX1_copy cX1_copy 2 none :: TB) (rmw 2 0 0) (va_Pc [.ref (a 18), .ref (a 88)] (PW D k sz (CWS k a st sl))) (QV D (S := CT) (fun u => CB u ∧ FR [18, 19, 20, 21, 22, 23, 24, 26, 27, 28, 29, 30] st u ∧ (True)) (fun u => CWS k a u sl) (fun _ => []) (CWS k a st sl) sz) 0 0 (va_A (CWS k a st sl) sz) := by
  refine Met.ofW (cc := cX1_copy) (maxL := 2) (ret := none) (by decide) rfl ?_
  intro p e s m args below meth c s₁ B hml hv
  obtain ⟨rfl, hsz, hP, hK, hD0, hN⟩ := hv
  have hx := B.exec
  have hb := B.bytes
  have hr := B.returns
  have hT : ∀ w9 ∈ TB, w9.before ([.ref (a 18), .ref (a 88)] : List Value).toArray s = true := fun w9 h => atoms_spec (ws := .code yX1_copy cX1_copy 2 none :: TB) B.pre w9 (List.mem_cons_of_mem _ h)
  have hown : s.vm.findClass RX1 = some m.cls := findClass_of_methodNamed B.named
  have S : CallFix p m c cX1_copy 2 s _ TB RX1 := ⟨hx, hb, hml, hown, hT⟩
  subst hsz
  have hD := hD0.self (sz := s.heap.size)
  generalize hAe : va_A (CWS k a st sl) s.heap.size = A at hD ⊢
  have hA : ∀ q : Nat, s.heap.size ≤ q → A q := fun q h => by rw [← hAe]; exact Or.inr h
  have hS : va_S A s.heap s.heap [] := va_S.rf
  have hl := lv_entry ([.ref (a 18), .ref (a 88)]) (n := 2) (Nat.le_of_ble_eq_true rfl)
  rw [lg_entry_eq]
  generalize (lg_sl ([.ref (a 18), .ref (a 88)]) ++ List.replicate (2 - (lg_sl ([.ref (a 18), .ref (a 88)])).length) Slot.unset).toArray = ls at hl ⊢
  have hl : lv_has ls 2 [(0, .ref (a 18)), (1, .ref (a 88))] := hl
  refine nameQ (fun Q hQ => ?_)
  refine lv_aload_n hx hb dX1_copy_0 rfl (lv_at hl 0 rfl) ?_
  refine lv_aload_n hx hb dX1_copy_1 rfl (lv_at hl 1 rfl) ?_
  refine va_get (D := D) (ci := 1) (v := .int (st 88 0)) (C := RX1) (T := TX1) (N := 14) hx hb hT in_X1 hown hK hP 88 cw_88 rfl 0 (by decide) (hT _ t195) (fun _ h9 => h9) rfl dX1_copy_2 ?_
  refine c_put (ci := 1) (C := RX1) (T := TX1) (N := 14) (j := 0) (v := (st 88 0)) hx hb hT in_X1 tyX1 tyX1_ok nmX1 hown hK hP hD hS cw_18 rfl (by decide) (hT _ t195) (by decide +kernel) (by decide +kernel) rfl rfl (Nat.le_of_ble_eq_true rfl) (cs_18 (upd (st 18) 0 (st 88 0))) dX1_copy_5 (fun s1 H9 locs9 es1 hP9 hD9 hS9 => ?_)
  clear hP hD hS
  have hS := hS9
  have hP := hP9
  have hD := hD9
  clear hP9 hD9 hS9
  have hBs1 : CB s1 := by rw [es1]; exact cb_sw hB (ki_3_0 (hB 18))
  have hFs1 : FR [18, 19, 20, 21, 22, 23, 24, 26, 27, 28, 29, 30] st s1 := fr_sw fr_rf (List.mem_of_getElem? (i := 0) rfl) es1
  refine lv_aload_n hx hb dX1_copy_8 rfl (lv_at hl 0 rfl) ?_
  refine lv_aload_n hx hb dX1_copy_9 rfl (lv_at hl 1 rfl) ?_
  refine va_get (D := D) (ci := 1) (v := .int (s1 88 1)) (C := RX1) (T := TX1) (N := 14) hx hb hT in_X1 hown hK hP 88 cw_88 rfl 1 (by decide) (hT _ t198) (fun _ h9 => h9) rfl dX1_copy_10 ?_
  refine k_top (y := (st 88 1)) (congrFun (hFs1 88 (nm_1 (by decide) (nm_1 (by decide) (nm_1 (by decide) (nm_1 (by decide) (nm_1 (by decide) (nm_1 (by decide) (nm_1 (by decide) (nm_1 (by decide) (nm_1 (by decide) (nm_1 (by decide) (nm_1 (by decide) (nm_1 (by decide) nm_0))))))))))))) 1) ?_
  have h2 : Iv 0 6 (st 88 1) := (rb_88_1 hB)
  refine c_put (ci := 1) (C := RX1) (T := TX1) (N := 14) (j := 1) (v := (st 88 1)) hx hb hT in_X1 tyX1 tyX1_ok nmX1 hown hK hP hD hS cw_18 rfl (by decide) (hT _ t198) (by decide +kernel) (by decide +kernel) rfl rfl (Nat.le_of_ble_eq_true rfl) (cs_18 (upd (s1 18) 1 (st 88 1))) dX1_copy_13 (fun s3 H9 locs9 es3 hP9 hD9 hS9 => ?_)
  clear hP hD hS
  have hS := hS9
  have hP := hP9
  have hD := hD9
  clear hP9 hD9 hS9
  have hBs3 : CB s3 := by rw [es3]; exact cb_sw hBs1 (ki_3_1 (hBs1 18) h2)
  have hFs3 : FR [18, 19, 20, 21, 22, 23, 24, 26, 27, 28, 29, 30] st s3 := fr_sw hFs1 (List.mem_of_getElem? (i := 0) rfl) es3
  refine lv_aload_n hx hb dX1_copy_16 rfl (lv_at hl 0 rfl) ?_
  refine lv_aload_n hx hb dX1_copy_17 rfl (lv_at hl 1 rfl) ?_
  refine va_get (D := D) (ci := 1) (v := .int (s3 88 2)) (C := RX1) (T := TX1) (N := 14) hx hb hT in_X1 hown hK hP 88 cw_88 rfl 2 (by decide) (hT _ t202) (fun _ h9 => h9) rfl dX1_copy_18 ?_
  refine k_top (y := (st 88 2)) (congrFun (hFs3 88 (nm_1 (by decide) (nm_1 (by decide) (nm_1 (by decide) (nm_1 (by decide) (nm_1 (by decide) (nm_1 (by decide) (nm_1 (by decide) (nm_1 (by decide) (nm_1 (by decide) (nm_1 (by decide) (nm_1 (by decide) (nm_1 (by decide) nm_0))))))))))))) 2) ?_
  refine c_put (ci := 1) (C := RX1) (T := TX1) (N := 14) (j := 2) (v := (st 88 2)) hx hb hT in_X1 tyX1 tyX1_ok nmX1 hown hK hP hD hS cw_18 rfl (by decide) (hT _ t202) (by decide +kernel) (by decide +kernel) rfl rfl (Nat.le_of_ble_eq_true rfl) (cs_18 (upd (s3 18) 2 (st 88 2))) dX1_copy_21 (fun s4 H9 locs9 es4 hP9 hD9 hS9 => ?_)
  clear hP hD hS
  have hS := hS9
  have hP := hP9
  have hD := hD9
  clear hP9 hD9 hS9
  have hBs4 : CB s4 := by rw [es4]; exact cb_sw hBs3 (ki_3_2 (hBs3 18))
  have hFs4 : FR [18, 19, 20, 21, 22, 23, 24, 26, 27, 28, 29, 30] st s4 := fr_sw hFs3 (List.mem_of_getElem? (i := 0) rfl) es4
  refine lv_aload_n hx hb dX1_copy_24 rfl (lv_at hl 0 rfl) ?_
  refine lv_aload_n hx hb dX1_copy_25 rfl (lv_at hl 1 rfl) ?_
  refine va_get (D := D) (ci := 1) (v := .int (s4 88 3)) (C := RX1) (T := TX1) (N := 14) hx hb hT in_X1 hown hK hP 88 cw_88 rfl 3 (by decide) (hT _ t207) (fun _ h9 => h9) rfl dX1_copy_26 ?_
  refine k_top (y := (st 88 3)) (congrFun (hFs4 88 (nm_1 (by decide) (nm_1 (by decide) (nm_1 (by decide) (nm_1 (by decide) (nm_1 (by decide) (nm_1 (by decide) (nm_1 (by decide) (nm_1 (by decide) (nm_1 (by decide) (nm_1 (by decide) (nm_1 (by decide) (nm_1 (by decide) nm_0))))))))))))) 3) ?_
  have h5 : Iv 0 8 (st 88 3) := (rb_88_3 hB)
  refine c_put (ci := 1) (C := RX1) (T := TX1) (N := 14) (j := 3) (v := (st 88 3)) hx hb hT in_X1 tyX1 tyX1_ok nmX1 hown hK hP hD hS cw_18 rfl (by decide) (hT _ t207) (by decide +kernel) (by decide +kernel) rfl rfl (Nat.le_of_ble_eq_true rfl) (cs_18 (upd (s4 18) 3 (st 88 3))) dX1_copy_29 (fun s6 H9 locs9 es6 hP9 hD9 hS9 => ?_)
  clear hP hD hS
  have hS := hS9
  have hP := hP9
  have hD := hD9
  clear hP9 hD9 hS9
  have hBs6 : CB s6 := by rw [es6]; exact cb_sw hBs4 (ki_3_3 (hBs4 18) h5)
  have hFs6 : FR [18, 19, 20, 21, 22, 23, 24, 26, 27, 28, 29, 30] st s6 := fr_sw hFs4 (List.mem_of_getElem? (i := 0) rfl) es6
  refine lv_aload_n hx hb dX1_copy_32 rfl (lv_at hl 0 rfl) ?_
  refine lv_aload_n hx hb dX1_copy_33 rfl (lv_at hl 1 rfl) ?_
  refine va_get (D := D) (ci := 1) (v := .int (s6 88 4)) (C := RX1) (T := TX1) (N := 14) hx hb hT in_X1 hown hK hP 88 cw_88 rfl 4 (by decide) (hT _ t213) (fun _ h9 => h9) rfl dX1_copy_34 ?_
  refine k_top (y := (st 88 4)) (congrFun (hFs6 88 (nm_1 (by decide) (nm_1 (by decide) (nm_1 (by decide) (nm_1 (by decide) (nm_1 (by decide) (nm_1 (by decide) (nm_1 (by decide) (nm_1 (by decide) (nm_1 (by decide) (nm_1 (by decide) (nm_1 (by decide) (nm_1 (by decide) nm_0))))))))))))) 4) ?_
  have h7 : Iv 0 8 (st 88 4) := (rb_88_4 hB)
  refine c_put (ci := 1) (C := RX1) (T := TX1) (N := 14) (j := 4) (v := (st 88 4)) hx hb hT in_X1 tyX1 tyX1_ok nmX1 hown hK hP hD hS cw_18 rfl (by decide) (hT _ t213) (by decide +kernel) (by decide +kernel) rfl rfl (Nat.le_of_ble_eq_true rfl) (cs_18 (upd (s6 18) 4 (st 88 4))) dX1_copy_37 (fun s8 H9 locs9 es8 hP9 hD9 hS9 => ?_)
  clear hP hD hS
  have hS := hS9
  have hP := hP9
  have hD := hD9
  clear hP9 hD9 hS9
  have hBs8 : CB s8 := by rw [es8]; exact cb_sw hBs6 (ki_3_4 (hBs6 18) h7)
  have hFs8 : FR [18, 19, 20, 21, 22, 23, 24, 26, 27, 28, 29, 30] st s8 := fr_sw hFs6 (List.mem_of_getElem? (i := 0) rfl) es8
  refine lv_aload_n hx hb dX1_copy_40 rfl (lv_at hl 0 rfl) ?_
  refine lv_aload_n hx hb dX1_copy_41 rfl (lv_at hl 1 rfl) ?_
  refine va_get (D := D) (ci := 1) (v := .int (s8 88 5)) (C := RX1) (T := TX1) (N := 14) hx hb hT in_X1 hown hK hP 88 cw_88 rfl 5 (by decide) (hT _ t216) (fun _ h9 => h9) rfl dX1_copy_42 ?_
  refine k_top (y := (st 88 5)) (congrFun (hFs8 88 (nm_1 (by decide) (nm_1 (by decide) (nm_1 (by decide) (nm_1 (by decide) (nm_1 (by decide) (nm_1 (by decide) (nm_1 (by decide) (nm_1 (by decide) (nm_1 (by decide) (nm_1 (by decide) (nm_1 (by decide) (nm_1 (by decide) nm_0))))))))))))) 5) ?_
  have h9 : Iv 0 3 (st 88 5) := (rb_88_5 hB)
  refine c_put (ci := 1) (C := RX1) (T := TX1) (N := 14) (j := 5) (v := (st 88 5)) hx hb hT in_X1 tyX1 tyX1_ok nmX1 hown hK hP hD hS cw_18 rfl (by decide) (hT _ t216) (by decide +kernel) (by decide +kernel) rfl rfl (Nat.le_of_ble_eq_true rfl) (cs_18 (upd (s8 18) 5 (st 88 5))) dX1_copy_45 (fun s10 H9 locs9 es10 hP9 hD9 hS9 => ?_)
  clear hP hD hS
  have hS := hS9
  have hP := hP9
  have hD := hD9
  clear hP9 hD9 hS9
  have hBs10 : CB s10 := by rw [es10]; exact cb_sw hBs8 (ki_3_5 (hBs8 18) h9)
  have hFs10 : FR [18, 19, 20, 21, 22, 23, 24, 26, 27, 28, 29, 30] st s10 := fr_sw hFs8 (List.mem_of_getElem? (i := 0) rfl) es10
  refine lv_aload_n hx hb dX1_copy_48 rfl (lv_at hl 0 rfl) ?_
  refine lv_aload_n hx hb dX1_copy_49 rfl (lv_at hl 1 rfl) ?_
  refine va_get (D := D) (ci := 1) (v := .int (s10 88 6)) (C := RX1) (T := TX1) (N := 14) hx hb hT in_X1 hown hK hP 88 cw_88 rfl 6 (by decide) (hT _ t219) (fun _ h9 => h9) rfl dX1_copy_50 ?_
  refine k_top (y := (st 88 6)) (congrFun (hFs10 88 (nm_1 (by decide) (nm_1 (by decide) (nm_1 (by decide) (nm_1 (by decide) (nm_1 (by decide) (nm_1 (by decide) (nm_1 (by decide) (nm_1 (by decide) (nm_1 (by decide) (nm_1 (by decide) (nm_1 (by decide) (nm_1 (by decide) nm_0))))))))))))) 6) ?_
  have h11 : Iv 0 6 (st 88 6) := (rb_88_6 hB)
  refine c_put (ci := 1) (C := RX1) (T := TX1) (N := 14) (j := 6) (v := (st 88 6)) hx hb hT in_X1 tyX1 tyX1_ok nmX1 hown hK hP hD hS cw_18 rfl (by decide) (hT _ t219) (by decide +kernel) (by decide +kernel) rfl rfl (Nat.le_of_ble_eq_true rfl) (cs_18 (upd (s10 18) 6 (st 88 6))) dX1_copy_53 (fun s12 H9 locs9 es12 hP9 hD9 hS9 => ?_)
  clear hP hD hS
  have hS := hS9
  have hP := hP9
  have hD := hD9
  clear hP9 hD9 hS9
  have hBs12 : CB s12 := by rw [es12]; exact cb_sw hBs10 (ki_3_6 (hBs10 18) h11)
  have hFs12 : FR [18, 19, 20, 21, 22, 23, 24, 26, 27, 28, 29, 30] st s12 := fr_sw hFs10 (List.mem_of_getElem? (i := 0) rfl) es12
  refine lv_aload_n hx hb dX1_copy_56 rfl (lv_at hl 1 rfl) ?_
  refine va_get (D := D) (ci := 1) (v := .ref (a 89)) (C := RX1) (T := TX1) (N := 14) hx hb hT in_X1 hown hK hP 88 cw_88 rfl 7 (by decide) (hT _ t222) (fun _ h9 => h9) rfl dX1_copy_57 ?_
  refine lv_iconst (v := 0) hx hb dX1_copy_60 (by decide) ?_
  refine lv_aload_n hx hb dX1_copy_61 rfl (lv_at hl 0 rfl) ?_
  refine va_get (D := D) (ci := 1) (v := .ref (a 19)) (C := RX1) (T := TX1) (N := 14) hx hb hT in_X1 hown hK hP 18 cw_18 rfl 7 (by decide) (hT _ t222) (fun _ h9 => h9) rfl dX1_copy_62 ?_
  refine lv_iconst (v := 0) hx hb dX1_copy_65 (by decide) ?_
  refine lv_bipush (v := 8) hx hb dX1_copy_66 (by decide) ?_
  refine c_cpy hx hb (hml.trans hl.1.symm) hown (hT _ t684) (hT _ t686) (hT _ t685) (hT _ t121) hK hP hD hS cw_89 cw_19 cs_19 (Nat.le_of_ble_eq_true rfl) (Nat.le_of_ble_eq_true rfl) (by decide) (by decide) (by decide) dX1_copy_68 (fun s13 H9 locs9 fs13 es13 gs13 hP9 hD9 hS9 => ?_)
  clear hP hD hS
  have hS := hS9
  have hP := hP9
  have hD := hD9
  clear hP9 hD9 hS9
  have hBs13 : CB s13 := by rw [es13]; exact cb_sw hBs12 (show KI 4 fs13 from fun j9 h9 => by rw [gs13 j9 h9]; exact (rb_89 hBs12 h9))
  have hFs13 : FR [18, 19, 20, 21, 22, 23, 24, 26, 27, 28, 29, 30] st s13 := fr_sw hFs12 (List.mem_of_getElem? (i := 1) rfl) es13
  refine lv_aload_n hx hb dX1_copy_71 rfl (lv_at hl 1 rfl) ?_
  refine va_get (D := D) (ci := 1) (v := .ref (a 90)) (C := RX1) (T := TX1) (N := 14) hx hb hT in_X1 hown hK hP 88 cw_88 rfl 8 (by decide) (hT _ t225) (fun _ h9 => h9) rfl dX1_copy_72 ?_
  refine lv_iconst (v := 0) hx hb dX1_copy_75 (by decide) ?_
  refine lv_aload_n hx hb dX1_copy_76 rfl (lv_at hl 0 rfl) ?_
  refine va_get (D := D) (ci := 1) (v := .ref (a 20)) (C := RX1) (T := TX1) (N := 14) hx hb hT in_X1 hown hK hP 18 cw_18 rfl 8 (by decide) (hT _ t225) (fun _ h9 => h9) rfl dX1_copy_77 ?_
  refine lv_iconst (v := 0) hx hb dX1_copy_80 (by decide) ?_
  refine lv_bipush (v := 8) hx hb dX1_copy_81 (by decide) ?_
  refine c_cpy hx hb (hml.trans hl.1.symm) hown (hT _ t684) (hT _ t686) (hT _ t685) (hT _ t121) hK hP hD hS cw_90 cw_20 cs_20 (Nat.le_of_ble_eq_true rfl) (Nat.le_of_ble_eq_true rfl) (by decide) (by decide) (by decide) dX1_copy_83 (fun s14 H9 locs9 fs14 es14 gs14 hP9 hD9 hS9 => ?_)
  clear hP hD hS
  have hS := hS9
  have hP := hP9
  have hD := hD9
  clear hP9 hD9 hS9
  have hBs14 : CB s14 := by rw [es14]; exact cb_sw hBs13 (show KI 4 fs14 from fun j9 h9 => by rw [gs14 j9 h9]; exact (rb_90 hBs13 h9))
  have hFs14 : FR [18, 19, 20, 21, 22, 23, 24, 26, 27, 28, 29, 30] st s14 := fr_sw hFs13 (List.mem_of_getElem? (i := 2) rfl) es14
  refine lv_aload_n hx hb dX1_copy_86 rfl (lv_at hl 1 rfl) ?_
  refine va_get (D := D) (ci := 1) (v := .ref (a 91)) (C := RX1) (T := TX1) (N := 14) hx hb hT in_X1 hown hK hP 88 cw_88 rfl 9 (by decide) (hT _ t228) (fun _ h9 => h9) rfl dX1_copy_87 ?_
  refine lv_iconst (v := 0) hx hb dX1_copy_90 (by decide) ?_
  refine lv_aload_n hx hb dX1_copy_91 rfl (lv_at hl 0 rfl) ?_
  refine va_get (D := D) (ci := 1) (v := .ref (a 21)) (C := RX1) (T := TX1) (N := 14) hx hb hT in_X1 hown hK hP 18 cw_18 rfl 9 (by decide) (hT _ t228) (fun _ h9 => h9) rfl dX1_copy_92 ?_
  refine lv_iconst (v := 0) hx hb dX1_copy_95 (by decide) ?_
  refine lv_bipush (v := 8) hx hb dX1_copy_96 (by decide) ?_
  refine c_cpy hx hb (hml.trans hl.1.symm) hown (hT _ t684) (hT _ t686) (hT _ t685) (hT _ t121) hK hP hD hS cw_91 cw_21 cs_21 (Nat.le_of_ble_eq_true rfl) (Nat.le_of_ble_eq_true rfl) (by decide) (by decide) (by decide) dX1_copy_98 (fun s15 H9 locs9 fs15 es15 gs15 hP9 hD9 hS9 => ?_)
  clear hP hD hS
  have hS := hS9
  have hP := hP9
  have hD := hD9
  clear hP9 hD9 hS9
  have hBs15 : CB s15 := by rw [es15]; exact cb_sw hBs14 trivial
  have hFs15 : FR [18, 19, 20, 21, 22, 23, 24, 26, 27, 28, 29, 30] st s15 := fr_sw hFs14 (List.mem_of_getElem? (i := 3) rfl) es15
  refine lv_aload_n hx hb dX1_copy_101 rfl (lv_at hl 1 rfl) ?_
  refine va_get (D := D) (ci := 1) (v := .ref (a 92)) (C := RX1) (T := TX1) (N := 14) hx hb hT in_X1 hown hK hP 88 cw_88 rfl 10 (by decide) (hT _ t233) (fun _ h9 => h9) rfl dX1_copy_102 ?_
  refine lv_iconst (v := 0) hx hb dX1_copy_105 (by decide) ?_
  refine lv_aload_n hx hb dX1_copy_106 rfl (lv_at hl 0 rfl) ?_
  refine va_get (D := D) (ci := 1) (v := .ref (a 22)) (C := RX1) (T := TX1) (N := 14) hx hb hT in_X1 hown hK hP 18 cw_18 rfl 10 (by decide) (hT _ t233) (fun _ h9 => h9) rfl dX1_copy_107 ?_
  refine lv_iconst (v := 0) hx hb dX1_copy_110 (by decide) ?_
  refine lv_bipush (v := 6) hx hb dX1_copy_111 (by decide) ?_
  refine c_cpy hx hb (hml.trans hl.1.symm) hown (hT _ t684) (hT _ t686) (hT _ t685) (hT _ t121) hK hP hD hS cw_92 cw_22 cs_22 (Nat.le_of_ble_eq_true rfl) (Nat.le_of_ble_eq_true rfl) (by decide) (by decide) (by decide) dX1_copy_113 (fun s16 H9 locs9 fs16 es16 gs16 hP9 hD9 hS9 => ?_)
  clear hP hD hS
  have hS := hS9
  have hP := hP9
  have hD := hD9
  clear hP9 hD9 hS9
  have hBs16 : CB s16 := by rw [es16]; exact cb_sw hBs15 (show KI 5 fs16 from fun j9 h9 => by rw [gs16 j9 h9]; exact (rb_92 hBs15 h9))
  have hFs16 : FR [18, 19, 20, 21, 22, 23, 24, 26, 27, 28, 29, 30] st s16 := fr_sw hFs15 (List.mem_of_getElem? (i := 4) rfl) es16
  refine lv_aload_n hx hb dX1_copy_116 rfl (lv_at hl 1 rfl) ?_
  refine va_get (D := D) (ci := 1) (v := .ref (a 93)) (C := RX1) (T := TX1) (N := 14) hx hb hT in_X1 hown hK hP 88 cw_88 rfl 11 (by decide) (hT _ t235) (fun _ h9 => h9) rfl dX1_copy_117 ?_
  refine lv_iconst (v := 0) hx hb dX1_copy_120 (by decide) ?_
  refine lv_aload_n hx hb dX1_copy_121 rfl (lv_at hl 0 rfl) ?_
  refine va_get (D := D) (ci := 1) (v := .ref (a 23)) (C := RX1) (T := TX1) (N := 14) hx hb hT in_X1 hown hK hP 18 cw_18 rfl 11 (by decide) (hT _ t235) (fun _ h9 => h9) rfl dX1_copy_122 ?_
  refine lv_iconst (v := 0) hx hb dX1_copy_125 (by decide) ?_
  refine lv_bipush (v := 6) hx hb dX1_copy_126 (by decide) ?_
  refine c_cpy hx hb (hml.trans hl.1.symm) hown (hT _ t684) (hT _ t686) (hT _ t685) (hT _ t121) hK hP hD hS cw_93 cw_23 cs_23 (Nat.le_of_ble_eq_true rfl) (Nat.le_of_ble_eq_true rfl) (by decide) (by decide) (by decide) dX1_copy_128 (fun s17 H9 locs9 fs17 es17 gs17 hP9 hD9 hS9 => ?_)
  clear hP hD hS
  have hS := hS9
  have hP := hP9
  have hD := hD9
  clear hP9 hD9 hS9
  have hBs17 : CB s17 := by rw [es17]; exact cb_sw hBs16 (show KI 6 fs17 from fun j9 h9 => by rw [gs17 j9 h9]; exact (rb_93 hBs16 h9))
  have hFs17 : FR [18, 19, 20, 21, 22, 23, 24, 26, 27, 28, 29, 30] st s17 := fr_sw hFs16 (List.mem_of_getElem? (i := 5) rfl) es17
  refine lv_aload_n hx hb dX1_copy_131 rfl (lv_at hl 1 rfl) ?_
  refine va_get (D := D) (ci := 1) (v := .ref (a 94)) (C := RX1) (T := TX1) (N := 14) hx hb hT in_X1 hown hK hP 88 cw_88 rfl 12 (by decide) (hT _ t237) (fun _ h9 => h9) rfl dX1_copy_132 ?_
  refine lv_iconst (v := 0) hx hb dX1_copy_135 (by decide) ?_
  refine lv_aload_n hx hb dX1_copy_136 rfl (lv_at hl 0 rfl) ?_
  refine va_get (D := D) (ci := 1) (v := .ref (a 24)) (C := RX1) (T := TX1) (N := 14) hx hb hT in_X1 hown hK hP 18 cw_18 rfl 12 (by decide) (hT _ t237) (fun _ h9 => h9) rfl dX1_copy_137 ?_
  refine lv_iconst (v := 0) hx hb dX1_copy_140 (by decide) ?_
  refine lv_bipush (v := 6) hx hb dX1_copy_141 (by decide) ?_
  refine c_cpy hx hb (hml.trans hl.1.symm) hown (hT _ t684) (hT _ t686) (hT _ t685) (hT _ t121) hK hP hD hS cw_94 cw_24 cs_24 (Nat.le_of_ble_eq_true rfl) (Nat.le_of_ble_eq_true rfl) (by decide) (by decide) (by decide) dX1_copy_143 (fun s18 H9 locs9 fs18 es18 gs18 hP9 hD9 hS9 => ?_)
  clear hP hD hS
  have hS := hS9
  have hP := hP9
  have hD := hD9
  clear hP9 hD9 hS9
  have hBs18 : CB s18 := by rw [es18]; exact cb_sw hBs17 trivial
  have hFs18 : FR [18, 19, 20, 21, 22, 23, 24, 26, 27, 28, 29, 30] st s18 := fr_sw hFs17 (List.mem_of_getElem? (i := 6) rfl) es18
  refine lv_aload_n hx hb dX1_copy_146 rfl (lv_at hl 0 rfl) ?_
  refine va_get (D := D) (ci := 1) (v := .ref (a 25)) (C := RX1) (T := TX1) (N := 14) hx hb hT in_X1 hown hK hP 18 cw_18 rfl 13 (by decide) (hT _ t239) (fun _ h9 => h9) rfl dX1_copy_147 ?_
  refine lv_aload_n hx hb dX1_copy_150 rfl (lv_at hl 1 rfl) ?_
  refine va_get (D := D) (ci := 1) (v := .ref (a 95)) (C := RX1) (T := TX1) (N := 14) hx hb hT in_X1 hown hK hP 88 cw_88 rfl 13 (by decide) (hT _ t239) (fun _ h9 => h9) rfl dX1_copy_151 ?_
  refine ca_v hP hD hS hA (fun hDc => run_V (mc := 0) (ms := 0) (As := [.ref (a 95)]) (rest := []) S (s_X5_copy l D k a s18 sl 25 95  _ (by decide) (by decide) hBs18  ) lkX1_68 ok_X5_copy ⟨rfl, rfl, Nat.le_of_ble_eq_true rfl, Nat.le_of_ble_eq_true rfl⟩ (pw_V (ci := 5) (q0 := 25) hK hN rfl cw_25 hP hDc) rfl hl.1 rfl (Nat.le_of_ble_eq_true rfl) ⟨Nat.zero_le _, Nat.zero_le _⟩ dX1_copy_154) (fun s19 H9 locs9 hs19 hP9 hD9 hS9 => ?_)
  clear hP hD hS
  have hS := hS9
  have hP := hP9
  have hD := hD9
  clear hP9 hD9 hS9
  obtain ⟨hBs19, gs19, fs19⟩ := hs19
  have hFs19 : FR [18, 19, 20, 21, 22, 23, 24, 26, 27, 28, 29, 30] st s19 := fr_ca hFs18 gs19 (sub_1 (List.mem_of_getElem? (i := 7) rfl) (sub_1 (List.mem_of_getElem? (i := 8) rfl) (sub_1 (List.mem_of_getElem? (i := 9) rfl) (sub_1 (List.mem_of_getElem? (i := 10) rfl) (sub_1 (List.mem_of_getElem? (i := 11) rfl) sub_0)))))
  rw [hQ]
  exact W.vret hx hb hr (fun t ht hW => ⟨⟨s19, rfl, ⟨hBs19, hFs19, trivial⟩, by rw [ht]; exact hP, va_K.moved hW.alike (hK.sub (tys' := []) [] rfl), by rw [hAe]; exact hD⟩, by rw [hAe]; exact hS.F ht⟩) hS.2.2 dX1_copy_157
