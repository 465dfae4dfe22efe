set_option maxHeartbeats 4000000 in
set_option maxRecDepth 100000 in
theorem m_X10_readErrand (l : Launch) (D : va_G) (k : Nat → ClassId) (a : Nat → Nat) (st : CT) (sl : CL) (sz : Nat) (hB : MB st)  (hj : Iv 0 5 (st 6 5)) : Met l yX10_readErrand (.code yX10_readErrand cX10_readErrand 2 none :: TB) (rmw 9 0 0) (va_Pc [.ref (a 0)] (PX D k sz (MWS k a st sl) NS)) (QV D (S := CT) (fun u => MB u ∧ FR [0, 6] st u ∧ u 0 0 = st 0 0 ∧ u 0 5 = st 0 5 ∧ u 0 7 = st 0 7 ∧ u 0 20 = st 0 20 ∧ u 0 21 = st 0 21 ∧ u 0 22 = st 0 22 ∧ u 0 26 = st 0 26 ∧ u 0 27 = st 0 27 ∧ u 0 29 = st 0 29 ∧ u 0 31 = st 0 31 ∧ u 0 33 = st 0 33 ∧ ((u 0 12 = 0 → st 0 12 = 0) ∧ (st 0 8).toInt ≤ (u 0 8).toInt)) (fun u => MWS k a u sl) (fun _ => []) (MWS k a st sl) sz) 0 0 (va_A (MWS k a st sl) sz) := by
  refine Met.ofW (cc := cX10_readErrand) (maxL := 2) (ret := none) (by decide) rfl ?_
  intro p e s m args below meth c s₁ B hml hv
  obtain ⟨rfl, hsz, hP, hK, hD0, hN, hX⟩ := hv
  have hx := B.exec
  have hb := B.bytes
  have hr := B.returns
  have hT : ∀ w9 ∈ TB, w9.before ([.ref (a 0)] : List Value).toArray s = true := fun w9 h => atoms_spec (ws := .code yX10_readErrand cX10_readErrand 2 none :: TB) B.pre w9 (List.mem_cons_of_mem _ h)
  have hown : s.vm.findClass RX10 = some m.cls := findClass_of_methodNamed B.named
  have S : CallFix p m c cX10_readErrand 2 s _ TB RX10 := ⟨hx, hb, hml, hown, hT⟩
  subst hsz
  have hD := hD0.self (sz := s.heap.size)
  generalize hAe : va_A (MWS k a st sl) s.heap.size = A at hD hX ⊢
  have hA : ∀ q : Nat, s.heap.size ≤ q → A q := fun q h => by rw [← hAe]; exact Or.inr h
  have hS : va_S A s.heap s.heap [] := va_S.rf
  have hl := lv_entry ([.ref (a 0)]) (n := 2) (Nat.le_of_ble_eq_true rfl)
  rw [lg_entry_eq]
  generalize (lg_sl ([.ref (a 0)]) ++ List.replicate (2 - (lg_sl ([.ref (a 0)])).length) Slot.unset).toArray = ls at hl ⊢
  have hl : lv_has ls 2 [(0, .ref (a 0))] := hl
  refine nameQ (fun Q hQ => ?_)
  refine lv_bipush (v := 110) hx hb dX10_readErrand_0 (by decide) ?_
  refine lv_iconst (v := 3) hx hb dX10_readErrand_2 (by decide) ?_
  refine lv_aload_n hx hb dX10_readErrand_3 rfl (lv_at hl 0 rfl) ?_
  refine va_get (D := D) (ci := 10) (v := .ref (a 6)) (C := RX10) (T := TX10) (N := 38) hx hb hT in_X10 hown hK hP 0 mw_0 rfl 14 (by decide) (hT _ t1276) (fun _ h9 => h9) rfl dX10_readErrand_4 ?_
  refine lv_iconst (v := 5) hx hb dX10_readErrand_7 (by decide) ?_
  refine va_iald hx hb hK hP 6 0 mw_6 rfl (by unfold vp_in; decide) dX10_readErrand_8 ?_
  refine k_top (y := (st 6 5)) rfl ?_
  refine lv_imul hx hb dX10_readErrand_9 ?_
  refine lv_topi (fun z1 ez1 => ?_)
  have h2 : Iv 0 15 z1 := iv_mull ez1 hj (k := 3) (by decide) (by decide) (by decide) (by decide) (by decide) (by decide)
  refine lv_iadd hx hb dX10_readErrand_10 ?_
  refine lv_topi (fun z3 ez3 => ?_)
  have h4 : Iv 110 125 z3 := iv_add ez3 (iv_c (by decide) : Iv 110 110 110) h2 (by decide) (by decide) (by decide) (by decide)
  refine lv_istore_n (lv' := [(1, .int z3), (0, .ref (a 0))]) hx hb dX10_readErrand_11 rfl hl (by decide) rfl (fun ls hl => ?_)
  refine lv_aload_n hx hb dX10_readErrand_12 rfl (lv_at hl 1 rfl) ?_
  refine va_get (D := D) (ci := 10) (v := .ref (a 6)) (C := RX10) (T := TX10) (N := 38) hx hb hT in_X10 hown hK hP 0 mw_0 rfl 14 (by decide) (hT _ t1276) (fun _ h9 => h9) rfl dX10_readErrand_13 ?_
  refine lv_iload_n hx hb dX10_readErrand_16 rfl (lv_at hl 0 rfl) ?_
  refine lv_aload_n hx hb dX10_readErrand_17 rfl (lv_at hl 1 rfl) ?_
  refine lv_iconst (v := 0) hx hb dX10_readErrand_18 (by decide) ?_
  refine lv_aload_n hx hb dX10_readErrand_19 rfl (lv_at hl 1 rfl) ?_
  refine va_get (D := D) (ci := 10) (v := .ref (a 6)) (C := RX10) (T := TX10) (N := 38) hx hb hT in_X10 hown hK hP 0 mw_0 rfl 14 (by decide) (hT _ t1276) (fun _ h9 => h9) rfl dX10_readErrand_20 ?_
  refine lv_iconst (v := 4) hx hb dX10_readErrand_23 (by decide) ?_
  refine va_iald hx hb hK hP 6 0 mw_6 rfl (by unfold vp_in; decide) dX10_readErrand_24 ?_
  refine k_top (y := (st 6 4)) rfl ?_
  have h5 : Iv 0 3 (st 6 4) := (tok_at (rm_6 hB).1 4 0 3 (by decide) (by decide) (by decide))
  refine lv_iconst (v := 1) hx hb dX10_readErrand_25 (by decide) ?_
  refine lv_isub hx hb dX10_readErrand_26 ?_
  refine lv_topi (fun z6 ez6 => ?_)
  have h7 : Iv (-1) 2 z6 := iv_sub ez6 h5 (iv_c (by decide) : Iv 1 1 1) (by decide) (by decide) (by decide) (by decide)
  refine ca_i hP hD hS hA (fun hDc => run_V (mc := 0) (ms := 0) (As := [.int 0, .int z6]) (rest := [.int z3, .ref (a 6)]) S (m_X10_number l D k a st sl  0 z6 _  hB  ) lkX10_168 ok_X10_number ⟨rfl, rfl, Nat.le_of_ble_eq_true rfl, Nat.le_of_ble_eq_true rfl⟩ (pw_V (ci := 10) (q0 := 0) hK hN rfl mw_0 hP hDc) rfl hl.1 rfl (Nat.le_of_ble_eq_true rfl) ⟨Nat.zero_le _, Nat.zero_le _⟩ dX10_readErrand_27) (fun r9 s8 H9 locs9 hs8 hP9 hD9 hS9 => ?_)
  clear hP hD hS
  have hS := hS9
  have hP := hP9
  have hD := hD9
  clear hP9 hD9 hS9
  obtain ⟨hBs8, gs8, qs8_0, qs8_1, qs8_2, qs8_3, qs8_4, qs8_5, qs8_6, qs8_7, qs8_8, qs8_9, qs8_10, fs8⟩ := hs8
  have hFs8 : FR [0, 6] st s8 := fr_ca fr_rf gs8 (sub_1 (List.mem_of_getElem? (i := 0) rfl) sub_0)
  have k10 := fs8
  have k11 : Iv 0 2 r9 := (by rcases k10.2.2 with q9 | q9; (rw [q9]; exact ⟨by decide, by decide⟩); (obtain ⟨y1, y2⟩ := id ((iv_c (by decide) : Iv 0 0 0)); obtain ⟨y3, y4⟩ := id (h7); exact ⟨by omega, by omega⟩))
  refine c_ist hx hb hK hP hD hS mw_6 ms_6 (iv_in h4 (by decide) (by decide)) dX10_readErrand_30 (fun s12 H9 locs9 es12 hP9 hD9 hS9 => ?_)
  clear hP hD hS
  have hS := hS9
  have hP := hP9
  have hD := hD9
  clear hP9 hD9 hS9
  have hBs12 : MB s12 := by rw [es12]; exact mb_sw hBs8 (fok_bd (hBs8 6) (bd_c hj (by have _c220 : (110 : Int32).toInt = 110 := rfl; have _c6 : (3 : Int32).toInt = 3 := rfl; have _ez1 := ti_mull ez1 hj (k := 3) (by decide) (by decide) (by decide) (by decide); have _ez3 := ti_add ez3 (iv_c (by decide) : Iv 110 110 110) h2 (by decide) (by decide); omega)) k11)
  have hFs12 : FR [0, 6] st s12 := fr_sw hFs8 (List.mem_of_getElem? (i := 1) rfl) es12
  refine lv_aload_n hx hb dX10_readErrand_31 rfl (lv_at hl 1 rfl) ?_
  obtain ⟨w13, vw13, tw13⟩ := hX.2 _ (List.mem_of_getElem? (l := LIT) (i := 21) rfl)
  have vw13 : vk_R RX10 174 "to" w13 s := vw13
  have tw13 : STA A w13 2 (fun j9 => ([116, 111] : List Int32).getD j9 0) s s.heap := tw13
  refine va_ldcS hx hb hown vw13 dX10_readErrand_32 ?_
  refine ca_v hP hD hS hA (fun hDc => run_V (mc := 0) (ms := 0) (As := [.ref w13]) (rest := []) S (m_X10_needs l D k a s12 sl   w13 2 (fun j9 => ([116, 111] : List Int32).getD j9 0) _  hBs12 (by decide) ) lkX10_164 ok_X10_needs ⟨rfl, rfl, Nat.le_of_ble_eq_true rfl, Nat.le_of_ble_eq_true rfl⟩ (px_V (ci := 10) (q0 := 0) nice_NSW hK hN rfl mw_0 hP hDc (show NSW w13 2 (fun j9 => ([116, 111] : List Int32).getD j9 0) A s s.heap from ⟨hX, tw13⟩) hS (px_free hD hS hA)) rfl hl.1 rfl (Nat.le_of_ble_eq_true rfl) ⟨Nat.zero_le _, Nat.zero_le _⟩ dX10_readErrand_34) (fun s14 H9 locs9 hs14 hP9 hD9 hS9 => ?_)
  clear hP hD hS
  have hS := hS9
  have hP := hP9
  have hD := hD9
  clear hP9 hD9 hS9
  obtain ⟨hBs14, gs14, qs14_0, qs14_1, qs14_2, qs14_3, qs14_4, qs14_5, qs14_6, qs14_7, qs14_8, qs14_9, qs14_10, fs14⟩ := hs14
  have hFs14 : FR [0, 6] st s14 := fr_ca hFs12 gs14 (sub_1 (List.mem_of_getElem? (i := 0) rfl) sub_0)
  have k16 := fs14
  refine lv_aload_n hx hb dX10_readErrand_37 rfl (lv_at hl 1 rfl) ?_
  refine va_get (D := D) (ci := 10) (v := .ref (a 6)) (C := RX10) (T := TX10) (N := 38) hx hb hT in_X10 hown hK hP 0 mw_0 rfl 14 (by decide) (hT _ t1276) (fun _ h9 => h9) rfl dX10_readErrand_38 ?_
  refine lv_iload_n hx hb dX10_readErrand_41 rfl (lv_at hl 0 rfl) ?_
  refine lv_iconst (v := 1) hx hb dX10_readErrand_42 (by decide) ?_
  refine lv_iadd hx hb dX10_readErrand_43 ?_
  refine lv_topi (fun z17 ez17 => ?_)
  have h18 : Iv 111 126 z17 := iv_add ez17 h4 (iv_c (by decide) : Iv 1 1 1) (by decide) (by decide) (by decide) (by decide)
  refine lv_aload_n hx hb dX10_readErrand_44 rfl (lv_at hl 1 rfl) ?_
  refine ca_i hP hD hS hA (fun hDc => run_V (mc := 0) (ms := 0) (As := []) (rest := [.int z17, .ref (a 6)]) S (m_X10_freshPlace l D k a s14 sl   _  hBs14  ) lkX10_171 ok_X10_freshPlace ⟨rfl, rfl, Nat.le_of_ble_eq_true rfl, Nat.le_of_ble_eq_true rfl⟩ (pw_V (ci := 10) (q0 := 0) hK hN rfl mw_0 hP hDc) rfl hl.1 rfl (Nat.le_of_ble_eq_true rfl) ⟨Nat.zero_le _, Nat.zero_le _⟩ dX10_readErrand_45) (fun r20 s19 H9 locs9 hs19 hP9 hD9 hS9 => ?_)
  clear hP hD hS
  have hS := hS9
  have hP := hP9
  have hD := hD9
  clear hP9 hD9 hS9
  obtain ⟨hBs19, gs19, qs19_0, qs19_1, qs19_2, qs19_3, qs19_4, qs19_5, qs19_6, qs19_7, qs19_8, qs19_9, qs19_10, fs19⟩ := hs19
  have hFs19 : FR [0, 6] st s19 := fr_ca hFs14 gs19 (sub_1 (List.mem_of_getElem? (i := 0) rfl) sub_0)
  have h21 : Iv 0 5 r20 := fs19.1
  have k22 := fs19.2
  refine c_ist hx hb hK hP hD hS mw_6 ms_6 (iv_in h18 (by decide) (by decide)) dX10_readErrand_48 (fun s23 H9 locs9 es23 hP9 hD9 hS9 => ?_)
  clear hP hD hS
  have hS := hS9
  have hP := hP9
  have hD := hD9
  clear hP9 hD9 hS9
  have hBs23 : MB s23 := by rw [es23]; exact mb_sw hBs19 (fok_bd (hBs19 6) (bd_g (k := 0) hj ⟨by decide, by decide⟩ (by have _c220 : (110 : Int32).toInt = 110 := rfl; have _c6 : (3 : Int32).toInt = 3 := rfl; have _ez1 := ti_mull ez1 hj (k := 3) (by decide) (by decide) (by decide) (by decide); have _ez3 := ti_add ez3 (iv_c (by decide) : Iv 110 110 110) h2 (by decide) (by decide); have _c2 : (1 : Int32).toInt = 1 := rfl; have _ez17 := ti_add ez17 h4 (iv_c (by decide) : Iv 1 1 1) (by decide) (by decide); have z9 : (0 : Int32).toInt = 0 := rfl; omega)) (iv_full r20))
  have hFs23 : FR [0, 6] st s23 := fr_sw hFs19 (List.mem_of_getElem? (i := 1) rfl) es23
  refine lv_aload_n hx hb dX10_readErrand_49 rfl (lv_at hl 1 rfl) ?_
  refine va_get (D := D) (ci := 10) (v := .ref (a 6)) (C := RX10) (T := TX10) (N := 38) hx hb hT in_X10 hown hK hP 0 mw_0 rfl 14 (by decide) (hT _ t1276) (fun _ h9 => h9) rfl dX10_readErrand_50 ?_
  refine lv_iload_n hx hb dX10_readErrand_53 rfl (lv_at hl 0 rfl) ?_
  refine lv_iconst (v := 2) hx hb dX10_readErrand_54 (by decide) ?_
  refine lv_iadd hx hb dX10_readErrand_55 ?_
  refine lv_topi (fun z24 ez24 => ?_)
  have h25 : Iv 112 127 z24 := iv_add ez24 h4 (iv_c (by decide) : Iv 2 2 2) (by decide) (by decide) (by decide) (by decide)
  refine lv_aload_n hx hb dX10_readErrand_56 rfl (lv_at hl 1 rfl) ?_
  obtain ⟨w26, vw26, tw26⟩ := hX.2 _ (List.mem_of_getElem? (l := LIT) (i := 27) rfl)
  have vw26 : vk_R RX10 196 "by" w26 s := vw26
  have tw26 : STA A w26 2 (fun j9 => ([98, 121] : List Int32).getD j9 0) s s.heap := tw26
  refine va_ldcS hx hb hown vw26 dX10_readErrand_57 ?_
  refine lv_iconst (v := 1) hx hb dX10_readErrand_59 (by decide) ?_
  refine lv_sipush (v := 200) hx hb dX10_readErrand_60 (by decide) ?_
  refine ca_i hP hD hS hA (fun hDc => run_V (mc := 0) (ms := 0) (As := [.ref w26, .int 1, .int 200]) (rest := [.int z24, .ref (a 6)]) S (m_X10_told l D k a s23 sl  1 200 w26 2 (fun j9 => ([98, 121] : List Int32).getD j9 0) _  hBs23 (by decide) ) lkX10_177 ok_X10_told ⟨rfl, rfl, Nat.le_of_ble_eq_true rfl, Nat.le_of_ble_eq_true rfl⟩ (px_V (ci := 10) (q0 := 0) nice_NSW hK hN rfl mw_0 hP hDc (show NSW w26 2 (fun j9 => ([98, 121] : List Int32).getD j9 0) A s s.heap from ⟨hX, tw26⟩) hS (px_free hD hS hA)) rfl hl.1 rfl (Nat.le_of_ble_eq_true rfl) ⟨Nat.zero_le _, Nat.zero_le _⟩ dX10_readErrand_63) (fun r28 s27 H9 locs9 hs27 hP9 hD9 hS9 => ?_)
  clear hP hD hS
  have hS := hS9
  have hP := hP9
  have hD := hD9
  clear hP9 hD9 hS9
  obtain ⟨hBs27, gs27, qs27_0, qs27_1, qs27_2, qs27_3, qs27_4, qs27_5, qs27_6, qs27_7, qs27_8, qs27_9, qs27_10, fs27⟩ := hs27
  have hFs27 : FR [0, 6] st s27 := fr_ca hFs23 gs27 (sub_1 (List.mem_of_getElem? (i := 0) rfl) sub_0)
  have k29 := fs27
  have k30 : Iv 0 200 r28 := (by rcases k29.2.2 with q9 | q9; (rw [q9]; exact ⟨by decide, by decide⟩); (obtain ⟨y1, y2⟩ := id ((iv_c (by decide) : Iv 1 1 1)); obtain ⟨y3, y4⟩ := id ((iv_c (by decide) : Iv 200 200 200)); exact ⟨by omega, by omega⟩))
  refine c_ist hx hb hK hP hD hS mw_6 ms_6 (iv_in h25 (by decide) (by decide)) dX10_readErrand_66 (fun s31 H9 locs9 es31 hP9 hD9 hS9 => ?_)
  clear hP hD hS
  have hS := hS9
  have hP := hP9
  have hD := hD9
  clear hP9 hD9 hS9
  have hBs31 : MB s31 := by rw [es31]; exact mb_sw hBs27 (fok_bd (hBs27 6) (bd_g (k := 1) hj ⟨by decide, by decide⟩ (by have _c220 : (110 : Int32).toInt = 110 := rfl; have _c6 : (3 : Int32).toInt = 3 := rfl; have _ez1 := ti_mull ez1 hj (k := 3) (by decide) (by decide) (by decide) (by decide); have _ez3 := ti_add ez3 (iv_c (by decide) : Iv 110 110 110) h2 (by decide) (by decide); have _c4 : (2 : Int32).toInt = 2 := rfl; have _ez24 := ti_add ez24 h4 (iv_c (by decide) : Iv 2 2 2) (by decide) (by decide); have z9 : (1 : Int32).toInt = 1 := rfl; omega)) (iv_full r28))
  have hFs31 : FR [0, 6] st s31 := fr_sw hFs27 (List.mem_of_getElem? (i := 1) rfl) es31
  refine lv_aload_n hx hb dX10_readErrand_67 rfl (lv_at hl 1 rfl) ?_
  refine va_get (D := D) (ci := 10) (v := .ref (a 6)) (C := RX10) (T := TX10) (N := 38) hx hb hT in_X10 hown hK hP 0 mw_0 rfl 14 (by decide) (hT _ t1276) (fun _ h9 => h9) rfl dX10_readErrand_68 ?_
  refine lv_iconst (v := 5) hx hb dX10_readErrand_71 (by decide) ?_
  refine lv_dup2_11 hx hb dX10_readErrand_72 rfl rfl ?_
  refine va_iald hx hb hK hP 6 0 mw_6 rfl (by unfold vp_in; decide) dX10_readErrand_73 ?_
  refine k_top (y := (s31 6 5)) rfl ?_
  refine k_top (y := (st 6 5)) (Eq.trans (Eq.trans (congrFun (sw_it es31) 5) (upd_no (cl_ne h25 (by decide) (by decide)))) (Eq.trans (congrFun (gs27 6 (nm_1 (by decide) nm_0)) 5) (Eq.trans (Eq.trans (congrFun (sw_it es23) 5) (upd_no (cl_ne h18 (by decide) (by decide)))) (Eq.trans (congrFun (gs19 6 (nm_1 (by decide) nm_0)) 5) (Eq.trans (congrFun (gs14 6 (nm_1 (by decide) nm_0)) 5) (Eq.trans (Eq.trans (congrFun (sw_it es12) 5) (upd_no (cl_ne h4 (by decide) (by decide)))) (congrFun (gs8 6 (nm_1 (by decide) nm_0)) 5))))))) ?_
  refine lv_iconst (v := 1) hx hb dX10_readErrand_74 (by decide) ?_
  refine lv_iadd hx hb dX10_readErrand_75 ?_
  refine lv_topi (fun z32 ez32 => ?_)
  have h33 : Iv 1 6 z32 := iv_add ez32 hj (iv_c (by decide) : Iv 1 1 1) (by decide) (by decide) (by decide) (by decide)
  refine c_ist hx hb hK hP hD hS mw_6 ms_6 (by unfold vp_in; decide) dX10_readErrand_76 (fun s34 H9 locs9 es34 hP9 hD9 hS9 => ?_)
  clear hP hD hS
  have hS := hS9
  have hP := hP9
  have hD := hD9
  clear hP9 hD9 hS9
  have hBs34 : MB s34 := by rw [es34]; exact mb_sw hBs31 (fok_bd (i := 5) (hBs31 6) ⟨by decide, by decide, by decide, by decide⟩ (iv_mono (c := 0) (d := 6) h33 (by decide) (by decide)))
  have hFs34 : FR [0, 6] st s34 := fr_sw hFs31 (List.mem_of_getElem? (i := 1) rfl) es34
  rw [hQ]
  exact W.vret hx hb hr (fun t ht hW => ⟨⟨s34, rfl, ⟨hBs34, hFs34, (Eq.trans (congrFun (sw_at es34 (by decide)) 0) (Eq.trans (congrFun (sw_at es31 (by decide)) 0) (Eq.trans qs27_0 (Eq.trans (congrFun (sw_at es23 (by decide)) 0) (Eq.trans qs19_0 (Eq.trans qs14_0 (Eq.trans (congrFun (sw_at es12 (by decide)) 0) qs8_0))))))), (Eq.trans (congrFun (sw_at es34 (by decide)) 5) (Eq.trans (congrFun (sw_at es31 (by decide)) 5) (Eq.trans qs27_1 (Eq.trans (congrFun (sw_at es23 (by decide)) 5) (Eq.trans qs19_1 (Eq.trans qs14_1 (Eq.trans (congrFun (sw_at es12 (by decide)) 5) qs8_1))))))), (Eq.trans (congrFun (sw_at es34 (by decide)) 7) (Eq.trans (congrFun (sw_at es31 (by decide)) 7) (Eq.trans qs27_2 (Eq.trans (congrFun (sw_at es23 (by decide)) 7) (Eq.trans qs19_2 (Eq.trans qs14_2 (Eq.trans (congrFun (sw_at es12 (by decide)) 7) qs8_2))))))), (Eq.trans (congrFun (sw_at es34 (by decide)) 20) (Eq.trans (congrFun (sw_at es31 (by decide)) 20) (Eq.trans qs27_3 (Eq.trans (congrFun (sw_at es23 (by decide)) 20) (Eq.trans qs19_3 (Eq.trans qs14_3 (Eq.trans (congrFun (sw_at es12 (by decide)) 20) qs8_3))))))), (Eq.trans (congrFun (sw_at es34 (by decide)) 21) (Eq.trans (congrFun (sw_at es31 (by decide)) 21) (Eq.trans qs27_4 (Eq.trans (congrFun (sw_at es23 (by decide)) 21) (Eq.trans qs19_4 (Eq.trans qs14_4 (Eq.trans (congrFun (sw_at es12 (by decide)) 21) qs8_4))))))), (Eq.trans (congrFun (sw_at es34 (by decide)) 22) (Eq.trans (congrFun (sw_at es31 (by decide)) 22) (Eq.trans qs27_5 (Eq.trans (congrFun (sw_at es23 (by decide)) 22) (Eq.trans qs19_5 (Eq.trans qs14_5 (Eq.trans (congrFun (sw_at es12 (by decide)) 22) qs8_5))))))), (Eq.trans (congrFun (sw_at es34 (by decide)) 26) (Eq.trans (congrFun (sw_at es31 (by decide)) 26) (Eq.trans qs27_6 (Eq.trans (congrFun (sw_at es23 (by decide)) 26) (Eq.trans qs19_6 (Eq.trans qs14_6 (Eq.trans (congrFun (sw_at es12 (by decide)) 26) qs8_6))))))), (Eq.trans (congrFun (sw_at es34 (by decide)) 27) (Eq.trans (congrFun (sw_at es31 (by decide)) 27) (Eq.trans qs27_7 (Eq.trans (congrFun (sw_at es23 (by decide)) 27) (Eq.trans qs19_7 (Eq.trans qs14_7 (Eq.trans (congrFun (sw_at es12 (by decide)) 27) qs8_7))))))), (Eq.trans (congrFun (sw_at es34 (by decide)) 29) (Eq.trans (congrFun (sw_at es31 (by decide)) 29) (Eq.trans qs27_8 (Eq.trans (congrFun (sw_at es23 (by decide)) 29) (Eq.trans qs19_8 (Eq.trans qs14_8 (Eq.trans (congrFun (sw_at es12 (by decide)) 29) qs8_8))))))), (Eq.trans (congrFun (sw_at es34 (by decide)) 31) (Eq.trans (congrFun (sw_at es31 (by decide)) 31) (Eq.trans qs27_9 (Eq.trans (congrFun (sw_at es23 (by decide)) 31) (Eq.trans qs19_9 (Eq.trans qs14_9 (Eq.trans (congrFun (sw_at es12 (by decide)) 31) qs8_9))))))), (Eq.trans (congrFun (sw_at es34 (by decide)) 33) (Eq.trans (congrFun (sw_at es31 (by decide)) 33) (Eq.trans qs27_10 (Eq.trans (congrFun (sw_at es23 (by decide)) 33) (Eq.trans qs19_10 (Eq.trans qs14_10 (Eq.trans (congrFun (sw_at es12 (by decide)) 33) qs8_10))))))), ⟨(fun z9 => by have y0 : (s27 0 12) = 0 := (Eq.trans (Eq.symm (Eq.trans (congrFun (sw_at es34 (by decide)) 12) (congrFun (sw_at es31 (by decide)) 12))) z9); have k35 := k29.1 y0; have k36 : s23 0 12 = 0 := k35; rw [(congrFun (sw_at es23 (by decide)) 12)] at k36; have k37 := k22.1 k36; have k38 : s14 0 12 = 0 := k37; have k39 := k16.1 k38; have k40 : s12 0 12 = 0 := k39; rw [(congrFun (sw_at es12 (by decide)) 12)] at k40; have k41 := k10.1 k40; have k42 : st 0 12 = 0 := k41.1; exact k42), (Int.le_trans k10.2.1 (Int.le_trans (show (s8 0 8).toInt ≤ (s12 0 8).toInt from by rw [(congrFun (sw_at es12 (by decide)) 8)]; exact Int.le_refl _) (Int.le_trans k16.2 (Int.le_trans k22.2 (Int.le_trans (show (s19 0 8).toInt ≤ (s23 0 8).toInt from by rw [(congrFun (sw_at es23 (by decide)) 8)]; exact Int.le_refl _) (Int.le_trans k29.2.1 (Int.le_trans (show (s27 0 8).toInt ≤ (s31 0 8).toInt from by rw [(congrFun (sw_at es31 (by decide)) 8)]; exact Int.le_refl _) (show (s31 0 8).toInt ≤ (s34 0 8).toInt from by rw [(congrFun (sw_at es34 (by decide)) 8)]; exact Int.le_refl _))))))))⟩⟩, by rw [ht]; exact hP, va_K.moved hW.alike (hK.sub (tys' := []) [] rfl), by rw [hAe]; exact hD⟩, by rw [hAe]; exact hS.F ht⟩) hS.2.2 dX10_readErrand_77
set_option maxHeartbeats 4000000 in
set_option maxRecDepth 100000 in
theorem m_X10_readNext (l : Launch) (D : va_G) (k : Nat → ClassId) (a : Nat → Nat) (st : CT) (sl : CL) (sz : Nat) (hB : MB st)  : Met l yX10_readNext (.code yX10_readNext cX10_readNext 2 none :: TB) (rmw 10 0 0) (va_Pc [.ref (a 0)] (PX D k sz (MWS k a st sl) NS)) (QV D (S := CT) (fun u => MB u ∧ FR [0, 6] st u ∧ u 0 0 = st 0 0 ∧ u 0 5 = st 0 5 ∧ u 0 7 = st 0 7 ∧ u 0 20 = st 0 20 ∧ u 0 21 = st 0 21 ∧ u 0 22 = st 0 22 ∧ u 0 26 = st 0 26 ∧ u 0 27 = st 0 27 ∧ u 0 29 = st 0 29 ∧ u 0 31 = st 0 31 ∧ u 0 33 = st 0 33 ∧ ((u 0 12 = 0 → st 0 12 = 0) ∧ (st 0 8).toInt ≤ (u 0 8).toInt)) (fun u => MWS k a u sl) (fun _ => []) (MWS k a st sl) sz) 0 0 (va_A (MWS k a st sl) sz) := by
  refine Met.ofW (cc := cX10_readNext) (maxL := 2) (ret := none) (by decide) rfl ?_
  intro p e s m args below meth c s₁ B hml hv
  obtain ⟨rfl, hsz, hP, hK, hD0, hN, hX⟩ := hv
  have hx := B.exec
  have hb := B.bytes
  have hr := B.returns
  have hT : ∀ w9 ∈ TB, w9.before ([.ref (a 0)] : List Value).toArray s = true := fun w9 h => atoms_spec (ws := .code yX10_readNext cX10_readNext 2 none :: TB) B.pre w9 (List.mem_cons_of_mem _ h)
  have hown : s.vm.findClass RX10 = some m.cls := findClass_of_methodNamed B.named
  have S : CallFix p m c cX10_readNext 2 s _ TB RX10 := ⟨hx, hb, hml, hown, hT⟩
  subst hsz
  have hD := hD0.self (sz := s.heap.size)
  generalize hAe : va_A (MWS k a st sl) s.heap.size = A at hD hX ⊢
  have hA : ∀ q : Nat, s.heap.size ≤ q → A q := fun q h => by rw [← hAe]; exact Or.inr h
  have hS : va_S A s.heap s.heap [] := va_S.rf
  have hl := lv_entry ([.ref (a 0)]) (n := 2) (Nat.le_of_ble_eq_true rfl)
  rw [lg_entry_eq]
  generalize (lg_sl ([.ref (a 0)]) ++ List.replicate (2 - (lg_sl ([.ref (a 0)])).length) Slot.unset).toArray = ls at hl ⊢
  have hl : lv_has ls 2 [(0, .ref (a 0))] := hl
  refine nameQ (fun Q hQ => ?_)
  refine lv_aload_n hx hb dX10_readNext_0 rfl (lv_at hl 0 rfl) ?_
  obtain ⟨w1, vw1, tw1⟩ := hX.2 _ (List.mem_of_getElem? (l := LIT) (i := 17) rfl)
  have vw1 : vk_R RX10 198 "road" w1 s := vw1
  have tw1 : STA A w1 4 (fun j9 => ([114, 111, 97, 100] : List Int32).getD j9 0) s s.heap := tw1
  refine va_ldcS hx hb hown vw1 dX10_readNext_1 ?_
  refine ro_V (As := [.ref w1]) (rest := []) S (m_X10_is l D k a st sl   w1 4 (fun j9 => ([114, 111, 97, 100] : List Int32).getD j9 0) _  hB (by decide) ) lkX10_150 ok_X10_is ⟨rfl, rfl, Nat.le_of_ble_eq_true rfl, Nat.le_of_ble_eq_true rfl⟩ (px_V (ci := 10) (q0 := 0) nice_NSW hK hN rfl mw_0 hP (hD.weaken (fun _ _ _ _ => trivial)) (show NSW w1 4 (fun j9 => ([114, 111, 97, 100] : List Int32).getD j9 0) A s s.heap from ⟨hX, tw1⟩) hS (px_free hD hS hA)) rfl hl.1 rfl (Nat.le_of_ble_eq_true rfl) ⟨Nat.zero_le _, Nat.zero_le _⟩ dX10_readNext_3 (fun r2 er2 => ?_)
  rcases er2 with ⟨rfl, g9⟩ | ⟨rfl, g9⟩
  · skip
    have g3 := g9
    have k4 := g3
    refine lv_if_ne (tgt := 36) hx hb dX10_readNext_6 (by decide) (fun c5 => ?_) (fun c5 => ?_)
    rotate_left
    · first | exact absurd c5 (by decide) | exact absurd (by decide) c5
    refine lv_iconst (v := 1) hx hb dX10_readNext_36 (by decide) ?_
    refine lv_goto (tgt := 41) hx hb dX10_readNext_37 (by decide) ?_
    refine lv_istore_n (lv' := [(1, .int 1), (0, .ref (a 0))]) hx hb dX10_readNext_41 rfl hl (by decide) rfl (fun ls hl => ?_)
    refine lv_iload_n hx hb dX10_readNext_42 rfl (lv_at hl 0 rfl) ?_
    refine lv_if_ne (tgt := 51) hx hb dX10_readNext_43 (by decide) (fun c6 => ?_) (fun c6 => ?_)
    rotate_left
    · first | exact absurd c6 (by decide) | exact absurd (by decide) c6
    refine lv_aload_n hx hb dX10_readNext_51 rfl (lv_at hl 1 rfl) ?_
    obtain ⟨w7, vw7, tw7⟩ := hX.2 _ (List.mem_of_getElem? (l := LIT) (i := 17) rfl)
    have vw7 : vk_R RX10 198 "road" w7 s := vw7
    have tw7 : STA A w7 4 (fun j9 => ([114, 111, 97, 100] : List Int32).getD j9 0) s s.heap := tw7
    refine va_ldcS hx hb hown vw7 dX10_readNext_52 ?_
    refine ro_V (As := [.ref w7]) (rest := []) S (m_X10_is l D k a st sl   w7 4 (fun j9 => ([114, 111, 97, 100] : List Int32).getD j9 0) _  hB (by decide) ) lkX10_150 ok_X10_is ⟨rfl, rfl, Nat.le_of_ble_eq_true rfl, Nat.le_of_ble_eq_true rfl⟩ (px_V (ci := 10) (q0 := 0) nice_NSW hK hN rfl mw_0 hP (hD.weaken (fun _ _ _ _ => trivial)) (show NSW w7 4 (fun j9 => ([114, 111, 97, 100] : List Int32).getD j9 0) A s s.heap from ⟨hX, tw7⟩) hS (px_free hD hS hA)) rfl hl.1 rfl (Nat.le_of_ble_eq_true rfl) ⟨Nat.zero_le _, Nat.zero_le _⟩ dX10_readNext_54 (fun r8 er8 => ?_)
    rcases er8 with ⟨rfl, g9⟩ | ⟨rfl, g9⟩
    · skip
      have g9 := g9
      have k10 := g9
      refine lv_if_eq (tgt := 71) hx hb dX10_readNext_57 (by decide) (fun c11 => ?_) (fun c11 => ?_)
      · first | exact absurd c11 (by decide) | exact absurd (by decide) c11
      refine lv_aload_n hx hb dX10_readNext_60 rfl (lv_at hl 1 rfl) ?_
      refine va_get (D := D) (ci := 10) (v := .ref (a 6)) (C := RX10) (T := TX10) (N := 38) hx hb hT in_X10 hown hK hP 0 mw_0 rfl 14 (by decide) (hT _ t1276) (fun _ h9 => h9) rfl dX10_readNext_61 ?_
      refine lv_iconst (v := 2) hx hb dX10_readNext_64 (by decide) ?_
      refine va_iald hx hb hK hP 6 0 mw_6 rfl (by unfold vp_in; decide) dX10_readNext_65 ?_
      refine k_top (y := (st 6 2)) rfl ?_
      have h12 : Iv 0 8 (st 6 2) := (tok_at (rm_6 hB).1 2 0 8 (by decide) (by decide) (by decide))
      refine lv_bipush (v := 8) hx hb dX10_readNext_66 (by decide) ?_
      refine lv_icmp_eq (tgt := 91) hx hb dX10_readNext_68 (by decide) (fun c13 => ?_) (fun c13 => ?_)
      · skip
        have h14 : Iv 8 8 (st 6 2) := eq_l c13 (iv_c (by decide) : Iv 8 8 8)
        refine lv_aload_n hx hb dX10_readNext_91 rfl (lv_at hl 1 rfl) ?_
        refine lv_iconst (v := 3) hx hb dX10_readNext_92 (by decide) ?_
        refine ca_v hP hD hS hA (fun hDc => run_V (mc := 0) (ms := 0) (As := [.int 3]) (rest := []) S (m_X10_errs l D k a st sl  3 _  hB (iv_mono (c := 1) (d := 3) (iv_c (by decide) : Iv 3 3 3) (by decide) (by decide)) ) lkX10_160 ok_X10_errs ⟨rfl, rfl, Nat.le_of_ble_eq_true rfl, Nat.le_of_ble_eq_true rfl⟩ (pw_V (ci := 10) (q0 := 0) hK hN rfl mw_0 hP hDc) rfl hl.1 rfl (Nat.le_of_ble_eq_true rfl) ⟨Nat.zero_le _, Nat.zero_le _⟩ dX10_readNext_93) (fun s15 H9 locs9 hs15 hP9 hD9 hS9 => ?_)
        clear hP hD hS
        have hS := hS9
        have hP := hP9
        have hD := hD9
        clear hP9 hD9 hS9
        obtain ⟨hBs15, gs15, qs15_0, qs15_1, qs15_2, qs15_3, qs15_4, qs15_5, qs15_6, qs15_7, qs15_8, qs15_9, qs15_10, qs15_11, qs15_12, qs15_13, qs15_14, fs15⟩ := hs15
        have hFs15 : FR [0, 6] st s15 := fr_ca fr_rf gs15 (sub_1 (List.mem_of_getElem? (i := 0) rfl) sub_0)
        have k17 := fs15
        refine lv_aload_n hx hb dX10_readNext_96 rfl (lv_at hl 1 rfl) ?_
        obtain ⟨w18, vw18, tw18⟩ := hX.2 _ (List.mem_of_getElem? (l := LIT) (i := 19) rfl)
        have vw18 : vk_R RX10 202 "cart" w18 s := vw18
        have tw18 : STA A w18 4 (fun j9 => ([99, 97, 114, 116] : List Int32).getD j9 0) s s.heap := tw18
        refine va_ldcS hx hb hown vw18 dX10_readNext_97 ?_
        refine ro_V (As := [.ref w18]) (rest := []) S (m_X10_is l D k a s15 sl   w18 4 (fun j9 => ([99, 97, 114, 116] : List Int32).getD j9 0) _  hBs15 (by decide) ) lkX10_150 ok_X10_is ⟨rfl, rfl, Nat.le_of_ble_eq_true rfl, Nat.le_of_ble_eq_true rfl⟩ (px_V (ci := 10) (q0 := 0) nice_NSW hK hN rfl mw_0 hP (hD.weaken (fun _ _ _ _ => trivial)) (show NSW w18 4 (fun j9 => ([99, 97, 114, 116] : List Int32).getD j9 0) A s s.heap from ⟨hX, tw18⟩) hS (px_free hD hS hA)) rfl hl.1 rfl (Nat.le_of_ble_eq_true rfl) ⟨Nat.zero_le _, Nat.zero_le _⟩ dX10_readNext_99 (fun r19 er19 => ?_)
        rcases er19 with ⟨rfl, g9⟩ | ⟨rfl, g9⟩
        · skip
          have g20 := g9
          have k21 := g20
          exact absurd k21.1.1 k17
        · skip
          have g22 := g9
          have k23 := g22
          refine lv_if_eq (tgt := 115) hx hb dX10_readNext_102 (by decide) (fun c24 => ?_) (fun c24 => ?_)
          rotate_left
          · first | exact absurd c24 (by decide) | exact absurd (by decide) c24
          refine lv_aload_n hx hb dX10_readNext_115 rfl (lv_at hl 1 rfl) ?_
          obtain ⟨w25, vw25, tw25⟩ := hX.2 _ (List.mem_of_getElem? (l := LIT) (i := 20) rfl)
          have vw25 : vk_R RX10 204 "errand" w25 s := vw25
          have tw25 : STA A w25 6 (fun j9 => ([101, 114, 114, 97, 110, 100] : List Int32).getD j9 0) s s.heap := tw25
          refine va_ldcS hx hb hown vw25 dX10_readNext_116 ?_
          refine ro_V (As := [.ref w25]) (rest := []) S (m_X10_is l D k a s15 sl   w25 6 (fun j9 => ([101, 114, 114, 97, 110, 100] : List Int32).getD j9 0) _  hBs15 (by decide) ) lkX10_150 ok_X10_is ⟨rfl, rfl, Nat.le_of_ble_eq_true rfl, Nat.le_of_ble_eq_true rfl⟩ (px_V (ci := 10) (q0 := 0) nice_NSW hK hN rfl mw_0 hP (hD.weaken (fun _ _ _ _ => trivial)) (show NSW w25 6 (fun j9 => ([101, 114, 114, 97, 110, 100] : List Int32).getD j9 0) A s s.heap from ⟨hX, tw25⟩) hS (px_free hD hS hA)) rfl hl.1 rfl (Nat.le_of_ble_eq_true rfl) ⟨Nat.zero_le _, Nat.zero_le _⟩ dX10_readNext_118 (fun r26 er26 => ?_)
          rcases er26 with ⟨rfl, g9⟩ | ⟨rfl, g9⟩
          · skip
            have g27 := g9
            have k28 := g27
            exact absurd k28.1.1 k17
          · skip
            have g29 := g9
            have k30 := g29
            refine lv_if_eq (tgt := 140) hx hb dX10_readNext_121 (by decide) (fun c31 => ?_) (fun c31 => ?_)
            rotate_left
            · first | exact absurd c31 (by decide) | exact absurd (by decide) c31
            refine lv_aload_n hx hb dX10_readNext_140 rfl (lv_at hl 1 rfl) ?_
            refine ro_V (As := []) (rest := []) S (m_X10_good l D k a s15 sl   _  hBs15  ) lkX10_136 ok_X10_good ⟨rfl, rfl, Nat.le_of_ble_eq_true rfl, Nat.le_of_ble_eq_true rfl⟩ (pw_V (ci := 10) (q0 := 0) hK hN rfl mw_0 hP (hD.weaken (fun _ _ _ _ => trivial))) rfl hl.1 rfl (Nat.le_of_ble_eq_true rfl) ⟨Nat.zero_le _, Nat.zero_le _⟩ dX10_readNext_141 (fun r32 er32 => ?_)
            rcases er32 with ⟨rfl, g9⟩ | ⟨rfl, g9⟩
            · skip
              have g33 := g9
              have k34 := g33
              exact absurd k34 k17
            · skip
              have g35 := g9
              have k36 := g35
              refine lv_if_ne (tgt := 148) hx hb dX10_readNext_144 (by decide) (fun c37 => ?_) (fun c37 => ?_)
              · first | exact absurd c37 (by decide) | exact absurd (by decide) c37
              rw [hQ]
              exact W.vret hx hb hr (fun t ht hW => ⟨⟨s15, rfl, ⟨hBs15, hFs15, qs15_0, qs15_1, qs15_2, qs15_7, qs15_8, qs15_9, qs15_10, qs15_11, qs15_12, qs15_13, qs15_14, ⟨(fun z9 => absurd z9 k36), (show (st 0 8).toInt ≤ (s15 0 8).toInt from by rw [qs15_3]; exact Int.le_refl _)⟩⟩, by rw [ht]; exact hP, va_K.moved hW.alike (hK.sub (tys' := []) [] rfl), by rw [hAe]; exact hD⟩, by rw [hAe]; exact hS.F ht⟩) hS.2.2 dX10_readNext_147
      · skip
        have h38 : Iv 0 7 (st 6 2) := ne_hi h12 c13 (by decide) (by decide)
        refine lv_aload_n hx hb dX10_readNext_71 rfl (lv_at hl 1 rfl) ?_
        obtain ⟨w39, vw39, tw39⟩ := hX.2 _ (List.mem_of_getElem? (l := LIT) (i := 18) rfl)
        have vw39 : vk_R RX10 200 "wheel" w39 s := vw39
        have tw39 : STA A w39 5 (fun j9 => ([119, 104, 101, 101, 108] : List Int32).getD j9 0) s s.heap := tw39
        refine va_ldcS hx hb hown vw39 dX10_readNext_72 ?_
        refine ro_V (As := [.ref w39]) (rest := []) S (m_X10_is l D k a st sl   w39 5 (fun j9 => ([119, 104, 101, 101, 108] : List Int32).getD j9 0) _  hB (by decide) ) lkX10_150 ok_X10_is ⟨rfl, rfl, Nat.le_of_ble_eq_true rfl, Nat.le_of_ble_eq_true rfl⟩ (px_V (ci := 10) (q0 := 0) nice_NSW hK hN rfl mw_0 hP (hD.weaken (fun _ _ _ _ => trivial)) (show NSW w39 5 (fun j9 => ([119, 104, 101, 101, 108] : List Int32).getD j9 0) A s s.heap from ⟨hX, tw39⟩) hS (px_free hD hS hA)) rfl hl.1 rfl (Nat.le_of_ble_eq_true rfl) ⟨Nat.zero_le _, Nat.zero_le _⟩ dX10_readNext_74 (fun r40 er40 => ?_)
        rcases er40 with ⟨rfl, g9⟩ | ⟨rfl, g9⟩
        · skip
          have g41 := g9
          have k42 := g41
          refine lv_if_eq (tgt := 96) hx hb dX10_readNext_77 (by decide) (fun c43 => ?_) (fun c43 => ?_)
          · first | exact absurd c43 (by decide) | exact absurd (by decide) c43
          refine lv_aload_n hx hb dX10_readNext_80 rfl (lv_at hl 1 rfl) ?_
          refine va_get (D := D) (ci := 10) (v := .ref (a 6)) (C := RX10) (T := TX10) (N := 38) hx hb hT in_X10 hown hK hP 0 mw_0 rfl 14 (by decide) (hT _ t1276) (fun _ h9 => h9) rfl dX10_readNext_81 ?_
          refine lv_iconst (v := 3) hx hb dX10_readNext_84 (by decide) ?_
          refine va_iald hx hb hK hP 6 0 mw_6 rfl (by unfold vp_in; decide) dX10_readNext_85 ?_
          refine k_top (y := (st 6 3)) rfl ?_
          have h44 : Iv 0 8 (st 6 3) := (tok_at (rm_6 hB).1 3 0 8 (by decide) (by decide) (by decide))
          refine lv_bipush (v := 8) hx hb dX10_readNext_86 (by decide) ?_
          refine lv_icmp_ne (tgt := 96) hx hb dX10_readNext_88 (by decide) (fun c45 => ?_) (fun c45 => ?_)
          · skip
            have h46 : Iv 0 7 (st 6 3) := ne_hi h44 (show ¬ (st 6 3) = 8 from c45) (by decide) (by decide)
            refine lv_aload_n hx hb dX10_readNext_96 rfl (lv_at hl 1 rfl) ?_
            obtain ⟨w47, vw47, tw47⟩ := hX.2 _ (List.mem_of_getElem? (l := LIT) (i := 19) rfl)
            have vw47 : vk_R RX10 202 "cart" w47 s := vw47
            have tw47 : STA A w47 4 (fun j9 => ([99, 97, 114, 116] : List Int32).getD j9 0) s s.heap := tw47
            refine va_ldcS hx hb hown vw47 dX10_readNext_97 ?_
            refine ro_V (As := [.ref w47]) (rest := []) S (m_X10_is l D k a st sl   w47 4 (fun j9 => ([99, 97, 114, 116] : List Int32).getD j9 0) _  hB (by decide) ) lkX10_150 ok_X10_is ⟨rfl, rfl, Nat.le_of_ble_eq_true rfl, Nat.le_of_ble_eq_true rfl⟩ (px_V (ci := 10) (q0 := 0) nice_NSW hK hN rfl mw_0 hP (hD.weaken (fun _ _ _ _ => trivial)) (show NSW w47 4 (fun j9 => ([99, 97, 114, 116] : List Int32).getD j9 0) A s s.heap from ⟨hX, tw47⟩) hS (px_free hD hS hA)) rfl hl.1 rfl (Nat.le_of_ble_eq_true rfl) ⟨Nat.zero_le _, Nat.zero_le _⟩ dX10_readNext_99 (fun r48 er48 => ?_)
            rcases er48 with ⟨rfl, g9⟩ | ⟨rfl, g9⟩
            · skip
              have g49 := g9
              have k50 := g49
              refine lv_if_eq (tgt := 115) hx hb dX10_readNext_102 (by decide) (fun c51 => ?_) (fun c51 => ?_)
              · first | exact absurd c51 (by decide) | exact absurd (by decide) c51
              refine lv_aload_n hx hb dX10_readNext_105 rfl (lv_at hl 1 rfl) ?_
              refine va_get (D := D) (ci := 10) (v := .ref (a 6)) (C := RX10) (T := TX10) (N := 38) hx hb hT in_X10 hown hK hP 0 mw_0 rfl 14 (by decide) (hT _ t1276) (fun _ h9 => h9) rfl dX10_readNext_106 ?_
              refine lv_iconst (v := 4) hx hb dX10_readNext_109 (by decide) ?_
              refine va_iald hx hb hK hP 6 0 mw_6 rfl (by unfold vp_in; decide) dX10_readNext_110 ?_
              refine k_top (y := (st 6 4)) rfl ?_
              have h52 : Iv 0 3 (st 6 4) := (tok_at (rm_6 hB).1 4 0 3 (by decide) (by decide) (by decide))
              refine lv_iconst (v := 3) hx hb dX10_readNext_111 (by decide) ?_
              refine lv_icmp_eq (tgt := 135) hx hb dX10_readNext_112 (by decide) (fun c53 => ?_) (fun c53 => ?_)
              · skip
                have h54 : Iv 3 3 (st 6 4) := eq_l c53 (iv_c (by decide) : Iv 3 3 3)
                refine lv_aload_n hx hb dX10_readNext_135 rfl (lv_at hl 1 rfl) ?_
                refine lv_iconst (v := 3) hx hb dX10_readNext_136 (by decide) ?_
                refine ca_v hP hD hS hA (fun hDc => run_V (mc := 0) (ms := 0) (As := [.int 3]) (rest := []) S (m_X10_errs l D k a st sl  3 _  hB (iv_mono (c := 1) (d := 3) (iv_c (by decide) : Iv 3 3 3) (by decide) (by decide)) ) lkX10_160 ok_X10_errs ⟨rfl, rfl, Nat.le_of_ble_eq_true rfl, Nat.le_of_ble_eq_true rfl⟩ (pw_V (ci := 10) (q0 := 0) hK hN rfl mw_0 hP hDc) rfl hl.1 rfl (Nat.le_of_ble_eq_true rfl) ⟨Nat.zero_le _, Nat.zero_le _⟩ dX10_readNext_137) (fun s55 H9 locs9 hs55 hP9 hD9 hS9 => ?_)
                clear hP hD hS
                have hS := hS9
                have hP := hP9
                have hD := hD9
                clear hP9 hD9 hS9
                obtain ⟨hBs55, gs55, qs55_0, qs55_1, qs55_2, qs55_3, qs55_4, qs55_5, qs55_6, qs55_7, qs55_8, qs55_9, qs55_10, qs55_11, qs55_12, qs55_13, qs55_14, fs55⟩ := hs55
                have hFs55 : FR [0, 6] st s55 := fr_ca fr_rf gs55 (sub_1 (List.mem_of_getElem? (i := 0) rfl) sub_0)
                have k57 := fs55
                refine lv_aload_n hx hb dX10_readNext_140 rfl (lv_at hl 1 rfl) ?_
                refine ro_V (As := []) (rest := []) S (m_X10_good l D k a s55 sl   _  hBs55  ) lkX10_136 ok_X10_good ⟨rfl, rfl, Nat.le_of_ble_eq_true rfl, Nat.le_of_ble_eq_true rfl⟩ (pw_V (ci := 10) (q0 := 0) hK hN rfl mw_0 hP (hD.weaken (fun _ _ _ _ => trivial))) rfl hl.1 rfl (Nat.le_of_ble_eq_true rfl) ⟨Nat.zero_le _, Nat.zero_le _⟩ dX10_readNext_141 (fun r58 er58 => ?_)
                rcases er58 with ⟨rfl, g9⟩ | ⟨rfl, g9⟩
                · skip
                  have g59 := g9
                  have k60 := g59
                  exact absurd k60 k57
                · skip
                  have g61 := g9
                  have k62 := g61
                  refine lv_if_ne (tgt := 148) hx hb dX10_readNext_144 (by decide) (fun c63 => ?_) (fun c63 => ?_)
                  · first | exact absurd c63 (by decide) | exact absurd (by decide) c63
                  rw [hQ]
                  exact W.vret hx hb hr (fun t ht hW => ⟨⟨s55, rfl, ⟨hBs55, hFs55, qs55_0, qs55_1, qs55_2, qs55_7, qs55_8, qs55_9, qs55_10, qs55_11, qs55_12, qs55_13, qs55_14, ⟨(fun z9 => absurd z9 k62), (show (st 0 8).toInt ≤ (s55 0 8).toInt from by rw [qs55_3]; exact Int.le_refl _)⟩⟩, by rw [ht]; exact hP, va_K.moved hW.alike (hK.sub (tys' := []) [] rfl), by rw [hAe]; exact hD⟩, by rw [hAe]; exact hS.F ht⟩) hS.2.2 dX10_readNext_147
              · skip
                have h64 : Iv 0 2 (st 6 4) := ne_hi h52 c53 (by decide) (by decide)
                refine lv_aload_n hx hb dX10_readNext_115 rfl (lv_at hl 1 rfl) ?_
                obtain ⟨w65, vw65, tw65⟩ := hX.2 _ (List.mem_of_getElem? (l := LIT) (i := 20) rfl)
                have vw65 : vk_R RX10 204 "errand" w65 s := vw65
                have tw65 : STA A w65 6 (fun j9 => ([101, 114, 114, 97, 110, 100] : List Int32).getD j9 0) s s.heap := tw65
                refine va_ldcS hx hb hown vw65 dX10_readNext_116 ?_
                refine ro_V (As := [.ref w65]) (rest := []) S (m_X10_is l D k a st sl   w65 6 (fun j9 => ([101, 114, 114, 97, 110, 100] : List Int32).getD j9 0) _  hB (by decide) ) lkX10_150 ok_X10_is ⟨rfl, rfl, Nat.le_of_ble_eq_true rfl, Nat.le_of_ble_eq_true rfl⟩ (px_V (ci := 10) (q0 := 0) nice_NSW hK hN rfl mw_0 hP (hD.weaken (fun _ _ _ _ => trivial)) (show NSW w65 6 (fun j9 => ([101, 114, 114, 97, 110, 100] : List Int32).getD j9 0) A s s.heap from ⟨hX, tw65⟩) hS (px_free hD hS hA)) rfl hl.1 rfl (Nat.le_of_ble_eq_true rfl) ⟨Nat.zero_le _, Nat.zero_le _⟩ dX10_readNext_118 (fun r66 er66 => ?_)
                rcases er66 with ⟨rfl, g9⟩ | ⟨rfl, g9⟩
                · skip
                  have g67 := g9
                  have k68 := g67
                  refine lv_if_eq (tgt := 140) hx hb dX10_readNext_121 (by decide) (fun c69 => ?_) (fun c69 => ?_)
                  · first | exact absurd c69 (by decide) | exact absurd (by decide) c69
                  refine lv_aload_n hx hb dX10_readNext_124 rfl (lv_at hl 1 rfl) ?_
                  refine va_get (D := D) (ci := 10) (v := .ref (a 6)) (C := RX10) (T := TX10) (N := 38) hx hb hT in_X10 hown hK hP 0 mw_0 rfl 14 (by decide) (hT _ t1276) (fun _ h9 => h9) rfl dX10_readNext_125 ?_
                  refine lv_iconst (v := 5) hx hb dX10_readNext_128 (by decide) ?_
                  refine va_iald hx hb hK hP 6 0 mw_6 rfl (by unfold vp_in; decide) dX10_readNext_129 ?_
                  refine k_top (y := (st 6 5)) rfl ?_
                  have h70 : Iv 0 6 (st 6 5) := (tok_at (rm_6 hB).1 5 0 6 (by decide) (by decide) (by decide))
                  refine lv_bipush (v := 6) hx hb dX10_readNext_130 (by decide) ?_
                  refine lv_icmp_ne (tgt := 140) hx hb dX10_readNext_132 (by decide) (fun c71 => ?_) (fun c71 => ?_)
                  · skip
                    have h72 : Iv 0 5 (st 6 5) := ne_hi h70 (show ¬ (st 6 5) = 6 from c71) (by decide) (by decide)
                    refine lv_aload_n hx hb dX10_readNext_140 rfl (lv_at hl 1 rfl) ?_
                    refine ro_V (As := []) (rest := []) S (m_X10_good l D k a st sl   _  hB  ) lkX10_136 ok_X10_good ⟨rfl, rfl, Nat.le_of_ble_eq_true rfl, Nat.le_of_ble_eq_true rfl⟩ (pw_V (ci := 10) (q0 := 0) hK hN rfl mw_0 hP (hD.weaken (fun _ _ _ _ => trivial))) rfl hl.1 rfl (Nat.le_of_ble_eq_true rfl) ⟨Nat.zero_le _, Nat.zero_le _⟩ dX10_readNext_141 (fun r73 er73 => ?_)
                    rcases er73 with ⟨rfl, g9⟩ | ⟨rfl, g9⟩
                    · skip
                      have g74 := g9
                      have k75 := g74
                      refine lv_if_ne (tgt := 148) hx hb dX10_readNext_144 (by decide) (fun c76 => ?_) (fun c76 => ?_)
                      rotate_left
                      · first | exact absurd c76 (by decide) | exact absurd (by decide) c76
                      refine lv_aload_n hx hb dX10_readNext_148 rfl (lv_at hl 1 rfl) ?_
                      obtain ⟨w77, vw77, tw77⟩ := hX.2 _ (List.mem_of_getElem? (l := LIT) (i := 17) rfl)
                      have vw77 : vk_R RX10 198 "road" w77 s := vw77
                      have tw77 : STA A w77 4 (fun j9 => ([114, 111, 97, 100] : List Int32).getD j9 0) s s.heap := tw77
                      refine va_ldcS hx hb hown vw77 dX10_readNext_149 ?_
                      refine ca_i hP hD hS hA (fun hDc => run_V (mc := 0) (ms := 0) (As := [.ref w77]) (rest := []) S (m_X10_takes l D k a st sl   w77 4 (fun j9 => ([114, 111, 97, 100] : List Int32).getD j9 0) _  hB (by decide) ) lkX10_157 ok_X10_takes ⟨rfl, rfl, Nat.le_of_ble_eq_true rfl, Nat.le_of_ble_eq_true rfl⟩ (px_V (ci := 10) (q0 := 0) nice_NSW hK hN rfl mw_0 hP hDc (show NSW w77 4 (fun j9 => ([114, 111, 97, 100] : List Int32).getD j9 0) A s s.heap from ⟨hX, tw77⟩) hS (px_free hD hS hA)) rfl hl.1 rfl (Nat.le_of_ble_eq_true rfl) ⟨Nat.zero_le _, Nat.zero_le _⟩ dX10_readNext_151) (fun r79 s78 H9 locs9 hs78 hP9 hD9 hS9 => ?_)
                      clear hP hD hS
                      have hS := hS9
                      have hP := hP9
                      have hD := hD9
                      clear hP9 hD9 hS9
                      obtain ⟨hBs78, gs78, qs78_0, qs78_1, qs78_2, qs78_3, qs78_4, qs78_5, qs78_6, qs78_7, qs78_8, qs78_9, qs78_10, qs78_11, qs78_12, fs78⟩ := hs78
                      have hFs78 : FR [0, 6] st s78 := fr_ca fr_rf gs78 (sub_1 (List.mem_of_getElem? (i := 0) rfl) sub_0)
                      rcases fs78 with ⟨rfl, g9⟩ | ⟨rfl, g9⟩
                      · skip
                        have g80 := g9
                        have k81 := g80
                        refine lv_if_eq (tgt := 164) hx hb dX10_readNext_154 (by decide) (fun c82 => ?_) (fun c82 => ?_)
                        · first | exact absurd c82 (by decide) | exact absurd (by decide) c82
                        refine lv_aload_n hx hb dX10_readNext_157 rfl (lv_at hl 1 rfl) ?_
                        refine ca_v hP hD hS hA (fun hDc => run_V (mc := 0) (ms := 0) (As := []) (rest := []) S (m_X10_readRoad l D k a s78 sl   _  hBs78  (eq_l (congrFun (gs78 6 (nm_1 (by decide) nm_0)) 2) h38)) lkX10_206 ok_X10_readRoad ⟨rfl, rfl, Nat.le_of_ble_eq_true rfl, Nat.le_of_ble_eq_true rfl⟩ (px_V (ci := 10) (q0 := 0) nice_NS hK hN rfl mw_0 hP hDc hX hS (px_free hD hS hA)) rfl hl.1 rfl (Nat.le_of_ble_eq_true rfl) ⟨Nat.zero_le _, Nat.zero_le _⟩ dX10_readNext_158) (fun s83 H9 locs9 hs83 hP9 hD9 hS9 => ?_)
                        clear hP hD hS
                        have hS := hS9
                        have hP := hP9
                        have hD := hD9
                        clear hP9 hD9 hS9
                        obtain ⟨hBs83, gs83, qs83_0, qs83_1, qs83_2, qs83_3, qs83_4, qs83_5, qs83_6, qs83_7, qs83_8, qs83_9, qs83_10, fs83⟩ := hs83
                        have hFs83 : FR [0, 6] st s83 := fr_ca hFs78 gs83 (sub_1 (List.mem_of_getElem? (i := 0) rfl) (sub_1 (List.mem_of_getElem? (i := 1) rfl) sub_0))
                        have k85 := fs83
                        refine lv_goto (tgt := 204) hx hb dX10_readNext_161 (by decide) ?_
                        rw [hQ]
                        exact W.vret hx hb hr (fun t ht hW => ⟨⟨s83, rfl, ⟨hBs83, hFs83, (Eq.trans qs83_0 qs78_0), (Eq.trans qs83_1 qs78_1), (Eq.trans qs83_2 qs78_2), (Eq.trans qs83_3 qs78_5), (Eq.trans qs83_4 qs78_6), (Eq.trans qs83_5 qs78_7), (Eq.trans qs83_6 qs78_8), (Eq.trans qs83_7 qs78_9), (Eq.trans qs83_8 qs78_10), (Eq.trans qs83_9 qs78_11), (Eq.trans qs83_10 qs78_12), ⟨(fun _ => k75), (Int.le_trans k81.2.1 k85.2)⟩⟩, by rw [ht]; exact hP, va_K.moved hW.alike (hK.sub (tys' := []) [] rfl), by rw [hAe]; exact hD⟩, by rw [hAe]; exact hS.F ht⟩) hS.2.2 dX10_readNext_204
                      · skip
                        have g86 := g9
                        have k87 := g86
                        exact absurd k4 k87.1
                    · skip
                      have g88 := g9
                      have k89 := g88
                      refine lv_if_ne (tgt := 148) hx hb dX10_readNext_144 (by decide) (fun c90 => ?_) (fun c90 => ?_)
                      · first | exact absurd c90 (by decide) | exact absurd (by decide) c90
                      rw [hQ]
                      exact W.vret hx hb hr (fun t ht hW => ⟨⟨st, rfl, ⟨hB, fr_rf, rfl, rfl, rfl, rfl, rfl, rfl, rfl, rfl, rfl, rfl, rfl, ⟨(fun z9 => absurd z9 k89), (Int.le_refl _)⟩⟩, by rw [ht]; exact hP, va_K.moved hW.alike (hK.sub (tys' := []) [] rfl), by rw [hAe]; exact hD⟩, by rw [hAe]; exact hS.F ht⟩) hS.2.2 dX10_readNext_147
                  · skip
                    have h91 : Iv 6 6 (st 6 5) := eq_l c71 (iv_c (by decide) : Iv 6 6 6)
                    refine lv_aload_n hx hb dX10_readNext_135 rfl (lv_at hl 1 rfl) ?_
                    refine lv_iconst (v := 3) hx hb dX10_readNext_136 (by decide) ?_
                    refine ca_v hP hD hS hA (fun hDc => run_V (mc := 0) (ms := 0) (As := [.int 3]) (rest := []) S (m_X10_errs l D k a st sl  3 _  hB (iv_mono (c := 1) (d := 3) (iv_c (by decide) : Iv 3 3 3) (by decide) (by decide)) ) lkX10_160 ok_X10_errs ⟨rfl, rfl, Nat.le_of_ble_eq_true rfl, Nat.le_of_ble_eq_true rfl⟩ (pw_V (ci := 10) (q0 := 0) hK hN rfl mw_0 hP hDc) rfl hl.1 rfl (Nat.le_of_ble_eq_true rfl) ⟨Nat.zero_le _, Nat.zero_le _⟩ dX10_readNext_137) (fun s92 H9 locs9 hs92 hP9 hD9 hS9 => ?_)
                    clear hP hD hS
                    have hS := hS9
                    have hP := hP9
                    have hD := hD9
                    clear hP9 hD9 hS9
                    obtain ⟨hBs92, gs92, qs92_0, qs92_1, qs92_2, qs92_3, qs92_4, qs92_5, qs92_6, qs92_7, qs92_8, qs92_9, qs92_10, qs92_11, qs92_12, qs92_13, qs92_14, fs92⟩ := hs92
                    have hFs92 : FR [0, 6] st s92 := fr_ca fr_rf gs92 (sub_1 (List.mem_of_getElem? (i := 0) rfl) sub_0)
                    have k94 := fs92
                    refine lv_aload_n hx hb dX10_readNext_140 rfl (lv_at hl 1 rfl) ?_
                    refine ro_V (As := []) (rest := []) S (m_X10_good l D k a s92 sl   _  hBs92  ) lkX10_136 ok_X10_good ⟨rfl, rfl, Nat.le_of_ble_eq_true rfl, Nat.le_of_ble_eq_true rfl⟩ (pw_V (ci := 10) (q0 := 0) hK hN rfl mw_0 hP (hD.weaken (fun _ _ _ _ => trivial))) rfl hl.1 rfl (Nat.le_of_ble_eq_true rfl) ⟨Nat.zero_le _, Nat.zero_le _⟩ dX10_readNext_141 (fun r95 er95 => ?_)
                    rcases er95 with ⟨rfl, g9⟩ | ⟨rfl, g9⟩
                    · skip
                      have g96 := g9
                      have k97 := g96
                      exact absurd k97 k94
                    · skip
                      have g98 := g9
                      have k99 := g98
                      refine lv_if_ne (tgt := 148) hx hb dX10_readNext_144 (by decide) (fun c100 => ?_) (fun c100 => ?_)
                      · first | exact absurd c100 (by decide) | exact absurd (by decide) c100
                      rw [hQ]
                      exact W.vret hx hb hr (fun t ht hW => ⟨⟨s92, rfl, ⟨hBs92, hFs92, qs92_0, qs92_1, qs92_2, qs92_7, qs92_8, qs92_9, qs92_10, qs92_11, qs92_12, qs92_13, qs92_14, ⟨(fun z9 => absurd z9 k99), (show (st 0 8).toInt ≤ (s92 0 8).toInt from by rw [qs92_3]; exact Int.le_refl _)⟩⟩, by rw [ht]; exact hP, va_K.moved hW.alike (hK.sub (tys' := []) [] rfl), by rw [hAe]; exact hD⟩, by rw [hAe]; exact hS.F ht⟩) hS.2.2 dX10_readNext_147
                · skip
                  have g101 := g9
                  have k102 := g101
                  refine lv_if_eq (tgt := 140) hx hb dX10_readNext_121 (by decide) (fun c103 => ?_) (fun c103 => ?_)
                  rotate_left
                  · first | exact absurd c103 (by decide) | exact absurd (by decide) c103
                  refine lv_aload_n hx hb dX10_readNext_140 rfl (lv_at hl 1 rfl) ?_
                  refine ro_V (As := []) (rest := []) S (m_X10_good l D k a st sl   _  hB  ) lkX10_136 ok_X10_good ⟨rfl, rfl, Nat.le_of_ble_eq_true rfl, Nat.le_of_ble_eq_true rfl⟩ (pw_V (ci := 10) (q0 := 0) hK hN rfl mw_0 hP (hD.weaken (fun _ _ _ _ => trivial))) rfl hl.1 rfl (Nat.le_of_ble_eq_true rfl) ⟨Nat.zero_le _, Nat.zero_le _⟩ dX10_readNext_141 (fun r104 er104 => ?_)
                  rcases er104 with ⟨rfl, g9⟩ | ⟨rfl, g9⟩
                  · skip
                    have g105 := g9
                    have k106 := g105
                    refine lv_if_ne (tgt := 148) hx hb dX10_readNext_144 (by decide) (fun c107 => ?_) (fun c107 => ?_)
                    rotate_left
                    · first | exact absurd c107 (by decide) | exact absurd (by decide) c107
                    refine lv_aload_n hx hb dX10_readNext_148 rfl (lv_at hl 1 rfl) ?_
                    obtain ⟨w108, vw108, tw108⟩ := hX.2 _ (List.mem_of_getElem? (l := LIT) (i := 17) rfl)
                    have vw108 : vk_R RX10 198 "road" w108 s := vw108
                    have tw108 : STA A w108 4 (fun j9 => ([114, 111, 97, 100] : List Int32).getD j9 0) s s.heap := tw108
                    refine va_ldcS hx hb hown vw108 dX10_readNext_149 ?_
                    refine ca_i hP hD hS hA (fun hDc => run_V (mc := 0) (ms := 0) (As := [.ref w108]) (rest := []) S (m_X10_takes l D k a st sl   w108 4 (fun j9 => ([114, 111, 97, 100] : List Int32).getD j9 0) _  hB (by decide) ) lkX10_157 ok_X10_takes ⟨rfl, rfl, Nat.le_of_ble_eq_true rfl, Nat.le_of_ble_eq_true rfl⟩ (px_V (ci := 10) (q0 := 0) nice_NSW hK hN rfl mw_0 hP hDc (show NSW w108 4 (fun j9 => ([114, 111, 97, 100] : List Int32).getD j9 0) A s s.heap from ⟨hX, tw108⟩) hS (px_free hD hS hA)) rfl hl.1 rfl (Nat.le_of_ble_eq_true rfl) ⟨Nat.zero_le _, Nat.zero_le _⟩ dX10_readNext_151) (fun r110 s109 H9 locs9 hs109 hP9 hD9 hS9 => ?_)
                    clear hP hD hS
                    have hS := hS9
                    have hP := hP9
                    have hD := hD9
                    clear hP9 hD9 hS9
                    obtain ⟨hBs109, gs109, qs109_0, qs109_1, qs109_2, qs109_3, qs109_4, qs109_5, qs109_6, qs109_7, qs109_8, qs109_9, qs109_10, qs109_11, qs109_12, fs109⟩ := hs109
                    have hFs109 : FR [0, 6] st s109 := fr_ca fr_rf gs109 (sub_1 (List.mem_of_getElem? (i := 0) rfl) sub_0)
                    rcases fs109 with ⟨rfl, g9⟩ | ⟨rfl, g9⟩
                    · skip
                      have g111 := g9
                      have k112 := g111
                      refine lv_if_eq (tgt := 164) hx hb dX10_readNext_154 (by decide) (fun c113 => ?_) (fun c113 => ?_)
                      · first | exact absurd c113 (by decide) | exact absurd (by decide) c113
                      refine lv_aload_n hx hb dX10_readNext_157 rfl (lv_at hl 1 rfl) ?_
                      refine ca_v hP hD hS hA (fun hDc => run_V (mc := 0) (ms := 0) (As := []) (rest := []) S (m_X10_readRoad l D k a s109 sl   _  hBs109  (eq_l (congrFun (gs109 6 (nm_1 (by decide) nm_0)) 2) h38)) lkX10_206 ok_X10_readRoad ⟨rfl, rfl, Nat.le_of_ble_eq_true rfl, Nat.le_of_ble_eq_true rfl⟩ (px_V (ci := 10) (q0 := 0) nice_NS hK hN rfl mw_0 hP hDc hX hS (px_free hD hS hA)) rfl hl.1 rfl (Nat.le_of_ble_eq_true rfl) ⟨Nat.zero_le _, Nat.zero_le _⟩ dX10_readNext_158) (fun s114 H9 locs9 hs114 hP9 hD9 hS9 => ?_)
                      clear hP hD hS
                      have hS := hS9
                      have hP := hP9
                      have hD := hD9
                      clear hP9 hD9 hS9
                      obtain ⟨hBs114, gs114, qs114_0, qs114_1, qs114_2, qs114_3, qs114_4, qs114_5, qs114_6, qs114_7, qs114_8, qs114_9, qs114_10, fs114⟩ := hs114
                      have hFs114 : FR [0, 6] st s114 := fr_ca hFs109 gs114 (sub_1 (List.mem_of_getElem? (i := 0) rfl) (sub_1 (List.mem_of_getElem? (i := 1) rfl) sub_0))
                      have k116 := fs114
                      refine lv_goto (tgt := 204) hx hb dX10_readNext_161 (by decide) ?_
                      rw [hQ]
                      exact W.vret hx hb hr (fun t ht hW => ⟨⟨s114, rfl, ⟨hBs114, hFs114, (Eq.trans qs114_0 qs109_0), (Eq.trans qs114_1 qs109_1), (Eq.trans qs114_2 qs109_2), (Eq.trans qs114_3 qs109_5), (Eq.trans qs114_4 qs109_6), (Eq.trans qs114_5 qs109_7), (Eq.trans qs114_6 qs109_8), (Eq.trans qs114_7 qs109_9), (Eq.trans qs114_8 qs109_10), (Eq.trans qs114_9 qs109_11), (Eq.trans qs114_10 qs109_12), ⟨(fun _ => k106), (Int.le_trans k112.2.1 k116.2)⟩⟩, by rw [ht]; exact hP, va_K.moved hW.alike (hK.sub (tys' := []) [] rfl), by rw [hAe]; exact hD⟩, by rw [hAe]; exact hS.F ht⟩) hS.2.2 dX10_readNext_204
                    · skip
                      have g117 := g9
                      have k118 := g117
                      exact absurd k4 k118.1
                  · skip
                    have g119 := g9
                    have k120 := g119
                    refine lv_if_ne (tgt := 148) hx hb dX10_readNext_144 (by decide) (fun c121 => ?_) (fun c121 => ?_)
                    · first | exact absurd c121 (by decide) | exact absurd (by decide) c121
                    rw [hQ]
                    exact W.vret hx hb hr (fun t ht hW => ⟨⟨st, rfl, ⟨hB, fr_rf, rfl, rfl, rfl, rfl, rfl, rfl, rfl, rfl, rfl, rfl, rfl, ⟨(fun z9 => absurd z9 k120), (Int.le_refl _)⟩⟩, by rw [ht]; exact hP, va_K.moved hW.alike (hK.sub (tys' := []) [] rfl), by rw [hAe]; exact hD⟩, by rw [hAe]; exact hS.F ht⟩) hS.2.2 dX10_readNext_147
            · skip
              have g122 := g9
              have k123 := g122
              refine lv_if_eq (tgt := 115) hx hb dX10_readNext_102 (by decide) (fun c124 => ?_) (fun c124 => ?_)
              rotate_left
              · first | exact absurd c124 (by decide) | exact absurd (by decide) c124
              refine lv_aload_n hx hb dX10_readNext_115 rfl (lv_at hl 1 rfl) ?_
              obtain ⟨w125, vw125, tw125⟩ := hX.2 _ (List.mem_of_getElem? (l := LIT) (i := 20) rfl)
              have vw125 : vk_R RX10 204 "errand" w125 s := vw125
              have tw125 : STA A w125 6 (fun j9 => ([101, 114, 114, 97, 110, 100] : List Int32).getD j9 0) s s.heap := tw125
              refine va_ldcS hx hb hown vw125 dX10_readNext_116 ?_
              refine ro_V (As := [.ref w125]) (rest := []) S (m_X10_is l D k a st sl   w125 6 (fun j9 => ([101, 114, 114, 97, 110, 100] : List Int32).getD j9 0) _  hB (by decide) ) lkX10_150 ok_X10_is ⟨rfl, rfl, Nat.le_of_ble_eq_true rfl, Nat.le_of_ble_eq_true rfl⟩ (px_V (ci := 10) (q0 := 0) nice_NSW hK hN rfl mw_0 hP (hD.weaken (fun _ _ _ _ => trivial)) (show NSW w125 6 (fun j9 => ([101, 114, 114, 97, 110, 100] : List Int32).getD j9 0) A s s.heap from ⟨hX, tw125⟩) hS (px_free hD hS hA)) rfl hl.1 rfl (Nat.le_of_ble_eq_true rfl) ⟨Nat.zero_le _, Nat.zero_le _⟩ dX10_readNext_118 (fun r126 er126 => ?_)
              rcases er126 with ⟨rfl, g9⟩ | ⟨rfl, g9⟩
              · skip
                have g127 := g9
                have k128 := g127
                refine lv_if_eq (tgt := 140) hx hb dX10_readNext_121 (by decide) (fun c129 => ?_) (fun c129 => ?_)
                · first | exact absurd c129 (by decide) | exact absurd (by decide) c129
                refine lv_aload_n hx hb dX10_readNext_124 rfl (lv_at hl 1 rfl) ?_
                refine va_get (D := D) (ci := 10) (v := .ref (a 6)) (C := RX10) (T := TX10) (N := 38) hx hb hT in_X10 hown hK hP 0 mw_0 rfl 14 (by decide) (hT _ t1276) (fun _ h9 => h9) rfl dX10_readNext_125 ?_
                refine lv_iconst (v := 5) hx hb dX10_readNext_128 (by decide) ?_
                refine va_iald hx hb hK hP 6 0 mw_6 rfl (by unfold vp_in; decide) dX10_readNext_129 ?_
                refine k_top (y := (st 6 5)) rfl ?_
                have h130 : Iv 0 6 (st 6 5) := (tok_at (rm_6 hB).1 5 0 6 (by decide) (by decide) (by decide))
                refine lv_bipush (v := 6) hx hb dX10_readNext_130 (by decide) ?_
                refine lv_icmp_ne (tgt := 140) hx hb dX10_readNext_132 (by decide) (fun c131 => ?_) (fun c131 => ?_)
                · skip
                  have h132 : Iv 0 5 (st 6 5) := ne_hi h130 (show ¬ (st 6 5) = 6 from c131) (by decide) (by decide)
                  refine lv_aload_n hx hb dX10_readNext_140 rfl (lv_at hl 1 rfl) ?_
                  refine ro_V (As := []) (rest := []) S (m_X10_good l D k a st sl   _  hB  ) lkX10_136 ok_X10_good ⟨rfl, rfl, Nat.le_of_ble_eq_true rfl, Nat.le_of_ble_eq_true rfl⟩ (pw_V (ci := 10) (q0 := 0) hK hN rfl mw_0 hP (hD.weaken (fun _ _ _ _ => trivial))) rfl hl.1 rfl (Nat.le_of_ble_eq_true rfl) ⟨Nat.zero_le _, Nat.zero_le _⟩ dX10_readNext_141 (fun r133 er133 => ?_)
                  rcases er133 with ⟨rfl, g9⟩ | ⟨rfl, g9⟩
                  · skip
                    have g134 := g9
                    have k135 := g134
                    refine lv_if_ne (tgt := 148) hx hb dX10_readNext_144 (by decide) (fun c136 => ?_) (fun c136 => ?_)
                    rotate_left
                    · first | exact absurd c136 (by decide) | exact absurd (by decide) c136
                    refine lv_aload_n hx hb dX10_readNext_148 rfl (lv_at hl 1 rfl) ?_
                    obtain ⟨w137, vw137, tw137⟩ := hX.2 _ (List.mem_of_getElem? (l := LIT) (i := 17) rfl)
                    have vw137 : vk_R RX10 198 "road" w137 s := vw137
                    have tw137 : STA A w137 4 (fun j9 => ([114, 111, 97, 100] : List Int32).getD j9 0) s s.heap := tw137
                    refine va_ldcS hx hb hown vw137 dX10_readNext_149 ?_
                    refine ca_i hP hD hS hA (fun hDc => run_V (mc := 0) (ms := 0) (As := [.ref w137]) (rest := []) S (m_X10_takes l D k a st sl   w137 4 (fun j9 => ([114, 111, 97, 100] : List Int32).getD j9 0) _  hB (by decide) ) lkX10_157 ok_X10_takes ⟨rfl, rfl, Nat.le_of_ble_eq_true rfl, Nat.le_of_ble_eq_true rfl⟩ (px_V (ci := 10) (q0 := 0) nice_NSW hK hN rfl mw_0 hP hDc (show NSW w137 4 (fun j9 => ([114, 111, 97, 100] : List Int32).getD j9 0) A s s.heap from ⟨hX, tw137⟩) hS (px_free hD hS hA)) rfl hl.1 rfl (Nat.le_of_ble_eq_true rfl) ⟨Nat.zero_le _, Nat.zero_le _⟩ dX10_readNext_151) (fun r139 s138 H9 locs9 hs138 hP9 hD9 hS9 => ?_)
                    clear hP hD hS
                    have hS := hS9
                    have hP := hP9
                    have hD := hD9
                    clear hP9 hD9 hS9
                    obtain ⟨hBs138, gs138, qs138_0, qs138_1, qs138_2, qs138_3, qs138_4, qs138_5, qs138_6, qs138_7, qs138_8, qs138_9, qs138_10, qs138_11, qs138_12, fs138⟩ := hs138
                    have hFs138 : FR [0, 6] st s138 := fr_ca fr_rf gs138 (sub_1 (List.mem_of_getElem? (i := 0) rfl) sub_0)
                    rcases fs138 with ⟨rfl, g9⟩ | ⟨rfl, g9⟩
                    · skip
                      have g140 := g9
                      have k141 := g140
                      refine lv_if_eq (tgt := 164) hx hb dX10_readNext_154 (by decide) (fun c142 => ?_) (fun c142 => ?_)
                      · first | exact absurd c142 (by decide) | exact absurd (by decide) c142
                      refine lv_aload_n hx hb dX10_readNext_157 rfl (lv_at hl 1 rfl) ?_
                      refine ca_v hP hD hS hA (fun hDc => run_V (mc := 0) (ms := 0) (As := []) (rest := []) S (m_X10_readRoad l D k a s138 sl   _  hBs138  (eq_l (congrFun (gs138 6 (nm_1 (by decide) nm_0)) 2) h38)) lkX10_206 ok_X10_readRoad ⟨rfl, rfl, Nat.le_of_ble_eq_true rfl, Nat.le_of_ble_eq_true rfl⟩ (px_V (ci := 10) (q0 := 0) nice_NS hK hN rfl mw_0 hP hDc hX hS (px_free hD hS hA)) rfl hl.1 rfl (Nat.le_of_ble_eq_true rfl) ⟨Nat.zero_le _, Nat.zero_le _⟩ dX10_readNext_158) (fun s143 H9 locs9 hs143 hP9 hD9 hS9 => ?_)
                      clear hP hD hS
                      have hS := hS9
                      have hP := hP9
                      have hD := hD9
                      clear hP9 hD9 hS9
                      obtain ⟨hBs143, gs143, qs143_0, qs143_1, qs143_2, qs143_3, qs143_4, qs143_5, qs143_6, qs143_7, qs143_8, qs143_9, qs143_10, fs143⟩ := hs143
                      have hFs143 : FR [0, 6] st s143 := fr_ca hFs138 gs143 (sub_1 (List.mem_of_getElem? (i := 0) rfl) (sub_1 (List.mem_of_getElem? (i := 1) rfl) sub_0))
                      have k145 := fs143
                      refine lv_goto (tgt := 204) hx hb dX10_readNext_161 (by decide) ?_
                      rw [hQ]
                      exact W.vret hx hb hr (fun t ht hW => ⟨⟨s143, rfl, ⟨hBs143, hFs143, (Eq.trans qs143_0 qs138_0), (Eq.trans qs143_1 qs138_1), (Eq.trans qs143_2 qs138_2), (Eq.trans qs143_3 qs138_5), (Eq.trans qs143_4 qs138_6), (Eq.trans qs143_5 qs138_7), (Eq.trans qs143_6 qs138_8), (Eq.trans qs143_7 qs138_9), (Eq.trans qs143_8 qs138_10), (Eq.trans qs143_9 qs138_11), (Eq.trans qs143_10 qs138_12), ⟨(fun _ => k135), (Int.le_trans k141.2.1 k145.2)⟩⟩, by rw [ht]; exact hP, va_K.moved hW.alike (hK.sub (tys' := []) [] rfl), by rw [hAe]; exact hD⟩, by rw [hAe]; exact hS.F ht⟩) hS.2.2 dX10_readNext_204
                    · skip
                      have g146 := g9
                      have k147 := g146
                      exact absurd k4 k147.1
                  · skip
                    have g148 := g9
                    have k149 := g148
                    refine lv_if_ne (tgt := 148) hx hb dX10_readNext_144 (by decide) (fun c150 => ?_) (fun c150 => ?_)
                    · first | exact absurd c150 (by decide) | exact absurd (by decide) c150
                    rw [hQ]
                    exact W.vret hx hb hr (fun t ht hW => ⟨⟨st, rfl, ⟨hB, fr_rf, rfl, rfl, rfl, rfl, rfl, rfl, rfl, rfl, rfl, rfl, rfl, ⟨(fun z9 => absurd z9 k149), (Int.le_refl _)⟩⟩, by rw [ht]; exact hP, va_K.moved hW.alike (hK.sub (tys' := []) [] rfl), by rw [hAe]; exact hD⟩, by rw [hAe]; exact hS.F ht⟩) hS.2.2 dX10_readNext_147
                · skip
                  have h151 : Iv 6 6 (st 6 5) := eq_l c131 (iv_c (by decide) : Iv 6 6 6)
                  refine lv_aload_n hx hb dX10_readNext_135 rfl (lv_at hl 1 rfl) ?_
                  refine lv_iconst (v := 3) hx hb dX10_readNext_136 (by decide) ?_
                  refine ca_v hP hD hS hA (fun hDc => run_V (mc := 0) (ms := 0) (As := [.int 3]) (rest := []) S (m_X10_errs l D k a st sl  3 _  hB (iv_mono (c := 1) (d := 3) (iv_c (by decide) : Iv 3 3 3) (by decide) (by decide)) ) lkX10_160 ok_X10_errs ⟨rfl, rfl, Nat.le_of_ble_eq_true rfl, Nat.le_of_ble_eq_true rfl⟩ (pw_V (ci := 10) (q0 := 0) hK hN rfl mw_0 hP hDc) rfl hl.1 rfl (Nat.le_of_ble_eq_true rfl) ⟨Nat.zero_le _, Nat.zero_le _⟩ dX10_readNext_137) (fun s152 H9 locs9 hs152 hP9 hD9 hS9 => ?_)
                  clear hP hD hS
                  have hS := hS9
                  have hP := hP9
                  have hD := hD9
                  clear hP9 hD9 hS9
                  obtain ⟨hBs152, gs152, qs152_0, qs152_1, qs152_2, qs152_3, qs152_4, qs152_5, qs152_6, qs152_7, qs152_8, qs152_9, qs152_10, qs152_11, qs152_12, qs152_13, qs152_14, fs152⟩ := hs152
                  have hFs152 : FR [0, 6] st s152 := fr_ca fr_rf gs152 (sub_1 (List.mem_of_getElem? (i := 0) rfl) sub_0)
                  have k154 := fs152
                  refine lv_aload_n hx hb dX10_readNext_140 rfl (lv_at hl 1 rfl) ?_
                  refine ro_V (As := []) (rest := []) S (m_X10_good l D k a s152 sl   _  hBs152  ) lkX10_136 ok_X10_good ⟨rfl, rfl, Nat.le_of_ble_eq_true rfl, Nat.le_of_ble_eq_true rfl⟩ (pw_V (ci := 10) (q0 := 0) hK hN rfl mw_0 hP (hD.weaken (fun _ _ _ _ => trivial))) rfl hl.1 rfl (Nat.le_of_ble_eq_true rfl) ⟨Nat.zero_le _, Nat.zero_le _⟩ dX10_readNext_141 (fun r155 er155 => ?_)
                  rcases er155 with ⟨rfl, g9⟩ | ⟨rfl, g9⟩
                  · skip
                    have g156 := g9
                    have k157 := g156
                    exact absurd k157 k154
                  · skip
                    have g158 := g9
                    have k159 := g158
                    refine lv_if_ne (tgt := 148) hx hb dX10_readNext_144 (by decide) (fun c160 => ?_) (fun c160 => ?_)
                    · first | exact absurd c160 (by decide) | exact absurd (by decide) c160
                    rw [hQ]
                    exact W.vret hx hb hr (fun t ht hW => ⟨⟨s152, rfl, ⟨hBs152, hFs152, qs152_0, qs152_1, qs152_2, qs152_7, qs152_8, qs152_9, qs152_10, qs152_11, qs152_12, qs152_13, qs152_14, ⟨(fun z9 => absurd z9 k159), (show (st 0 8).toInt ≤ (s152 0 8).toInt from by rw [qs152_3]; exact Int.le_refl _)⟩⟩, by rw [ht]; exact hP, va_K.moved hW.alike (hK.sub (tys' := []) [] rfl), by rw [hAe]; exact hD⟩, by rw [hAe]; exact hS.F ht⟩) hS.2.2 dX10_readNext_147
              · skip
                have g161 := g9
                have k162 := g161
                refine lv_if_eq (tgt := 140) hx hb dX10_readNext_121 (by decide) (fun c163 => ?_) (fun c163 => ?_)
                rotate_left
                · first | exact absurd c163 (by decide) | exact absurd (by decide) c163
                refine lv_aload_n hx hb dX10_readNext_140 rfl (lv_at hl 1 rfl) ?_
                refine ro_V (As := []) (rest := []) S (m_X10_good l D k a st sl   _  hB  ) lkX10_136 ok_X10_good ⟨rfl, rfl, Nat.le_of_ble_eq_true rfl, Nat.le_of_ble_eq_true rfl⟩ (pw_V (ci := 10) (q0 := 0) hK hN rfl mw_0 hP (hD.weaken (fun _ _ _ _ => trivial))) rfl hl.1 rfl (Nat.le_of_ble_eq_true rfl) ⟨Nat.zero_le _, Nat.zero_le _⟩ dX10_readNext_141 (fun r164 er164 => ?_)
                rcases er164 with ⟨rfl, g9⟩ | ⟨rfl, g9⟩
                · skip
                  have g165 := g9
                  have k166 := g165
                  refine lv_if_ne (tgt := 148) hx hb dX10_readNext_144 (by decide) (fun c167 => ?_) (fun c167 => ?_)
                  rotate_left
                  · first | exact absurd c167 (by decide) | exact absurd (by decide) c167
                  refine lv_aload_n hx hb dX10_readNext_148 rfl (lv_at hl 1 rfl) ?_
                  obtain ⟨w168, vw168, tw168⟩ := hX.2 _ (List.mem_of_getElem? (l := LIT) (i := 17) rfl)
                  have vw168 : vk_R RX10 198 "road" w168 s := vw168
                  have tw168 : STA A w168 4 (fun j9 => ([114, 111, 97, 100] : List Int32).getD j9 0) s s.heap := tw168
                  refine va_ldcS hx hb hown vw168 dX10_readNext_149 ?_
                  refine ca_i hP hD hS hA (fun hDc => run_V (mc := 0) (ms := 0) (As := [.ref w168]) (rest := []) S (m_X10_takes l D k a st sl   w168 4 (fun j9 => ([114, 111, 97, 100] : List Int32).getD j9 0) _  hB (by decide) ) lkX10_157 ok_X10_takes ⟨rfl, rfl, Nat.le_of_ble_eq_true rfl, Nat.le_of_ble_eq_true rfl⟩ (px_V (ci := 10) (q0 := 0) nice_NSW hK hN rfl mw_0 hP hDc (show NSW w168 4 (fun j9 => ([114, 111, 97, 100] : List Int32).getD j9 0) A s s.heap from ⟨hX, tw168⟩) hS (px_free hD hS hA)) rfl hl.1 rfl (Nat.le_of_ble_eq_true rfl) ⟨Nat.zero_le _, Nat.zero_le _⟩ dX10_readNext_151) (fun r170 s169 H9 locs9 hs169 hP9 hD9 hS9 => ?_)
                  clear hP hD hS
                  have hS := hS9
                  have hP := hP9
                  have hD := hD9
                  clear hP9 hD9 hS9
                  obtain ⟨hBs169, gs169, qs169_0, qs169_1, qs169_2, qs169_3, qs169_4, qs169_5, qs169_6, qs169_7, qs169_8, qs169_9, qs169_10, qs169_11, qs169_12, fs169⟩ := hs169
                  have hFs169 : FR [0, 6] st s169 := fr_ca fr_rf gs169 (sub_1 (List.mem_of_getElem? (i := 0) rfl) sub_0)
                  rcases fs169 with ⟨rfl, g9⟩ | ⟨rfl, g9⟩
                  · skip
                    have g171 := g9
                    have k172 := g171
                    refine lv_if_eq (tgt := 164) hx hb dX10_readNext_154 (by decide) (fun c173 => ?_) (fun c173 => ?_)
                    · first | exact absurd c173 (by decide) | exact absurd (by decide) c173
                    refine lv_aload_n hx hb dX10_readNext_157 rfl (lv_at hl 1 rfl) ?_
                    refine ca_v hP hD hS hA (fun hDc => run_V (mc := 0) (ms := 0) (As := []) (rest := []) S (m_X10_readRoad l D k a s169 sl   _  hBs169  (eq_l (congrFun (gs169 6 (nm_1 (by decide) nm_0)) 2) h38)) lkX10_206 ok_X10_readRoad ⟨rfl, rfl, Nat.le_of_ble_eq_true rfl, Nat.le_of_ble_eq_true rfl⟩ (px_V (ci := 10) (q0 := 0) nice_NS hK hN rfl mw_0 hP hDc hX hS (px_free hD hS hA)) rfl hl.1 rfl (Nat.le_of_ble_eq_true rfl) ⟨Nat.zero_le _, Nat.zero_le _⟩ dX10_readNext_158) (fun s174 H9 locs9 hs174 hP9 hD9 hS9 => ?_)
                    clear hP hD hS
                    have hS := hS9
                    have hP := hP9
                    have hD := hD9
                    clear hP9 hD9 hS9
                    obtain ⟨hBs174, gs174, qs174_0, qs174_1, qs174_2, qs174_3, qs174_4, qs174_5, qs174_6, qs174_7, qs174_8, qs174_9, qs174_10, fs174⟩ := hs174
                    have hFs174 : FR [0, 6] st s174 := fr_ca hFs169 gs174 (sub_1 (List.mem_of_getElem? (i := 0) rfl) (sub_1 (List.mem_of_getElem? (i := 1) rfl) sub_0))
                    have k176 := fs174
                    refine lv_goto (tgt := 204) hx hb dX10_readNext_161 (by decide) ?_
                    rw [hQ]
                    exact W.vret hx hb hr (fun t ht hW => ⟨⟨s174, rfl, ⟨hBs174, hFs174, (Eq.trans qs174_0 qs169_0), (Eq.trans qs174_1 qs169_1), (Eq.trans qs174_2 qs169_2), (Eq.trans qs174_3 qs169_5), (Eq.trans qs174_4 qs169_6), (Eq.trans qs174_5 qs169_7), (Eq.trans qs174_6 qs169_8), (Eq.trans qs174_7 qs169_9), (Eq.trans qs174_8 qs169_10), (Eq.trans qs174_9 qs169_11), (Eq.trans qs174_10 qs169_12), ⟨(fun _ => k166), (Int.le_trans k172.2.1 k176.2)⟩⟩, by rw [ht]; exact hP, va_K.moved hW.alike (hK.sub (tys' := []) [] rfl), by rw [hAe]; exact hD⟩, by rw [hAe]; exact hS.F ht⟩) hS.2.2 dX10_readNext_204
                  · skip
                    have g177 := g9
                    have k178 := g177
                    exact absurd k4 k178.1
                · skip
                  have g179 := g9
                  have k180 := g179
                  refine lv_if_ne (tgt := 148) hx hb dX10_readNext_144 (by decide) (fun c181 => ?_) (fun c181 => ?_)
                  · first | exact absurd c181 (by decide) | exact absurd (by decide) c181
                  rw [hQ]
                  exact W.vret hx hb hr (fun t ht hW => ⟨⟨st, rfl, ⟨hB, fr_rf, rfl, rfl, rfl, rfl, rfl, rfl, rfl, rfl, rfl, rfl, rfl, ⟨(fun z9 => absurd z9 k180), (Int.le_refl _)⟩⟩, by rw [ht]; exact hP, va_K.moved hW.alike (hK.sub (tys' := []) [] rfl), by rw [hAe]; exact hD⟩, by rw [hAe]; exact hS.F ht⟩) hS.2.2 dX10_readNext_147
          · skip
            have h182 : Iv 8 8 (st 6 3) := eq_l c45 (iv_c (by decide) : Iv 8 8 8)
            refine lv_aload_n hx hb dX10_readNext_91 rfl (lv_at hl 1 rfl) ?_
            refine lv_iconst (v := 3) hx hb dX10_readNext_92 (by decide) ?_
            refine ca_v hP hD hS hA (fun hDc => run_V (mc := 0) (ms := 0) (As := [.int 3]) (rest := []) S (m_X10_errs l D k a st sl  3 _  hB (iv_mono (c := 1) (d := 3) (iv_c (by decide) : Iv 3 3 3) (by decide) (by decide)) ) lkX10_160 ok_X10_errs ⟨rfl, rfl, Nat.le_of_ble_eq_true rfl, Nat.le_of_ble_eq_true rfl⟩ (pw_V (ci := 10) (q0 := 0) hK hN rfl mw_0 hP hDc) rfl hl.1 rfl (Nat.le_of_ble_eq_true rfl) ⟨Nat.zero_le _, Nat.zero_le _⟩ dX10_readNext_93) (fun s183 H9 locs9 hs183 hP9 hD9 hS9 => ?_)
            clear hP hD hS
            have hS := hS9
            have hP := hP9
            have hD := hD9
            clear hP9 hD9 hS9
            obtain ⟨hBs183, gs183, qs183_0, qs183_1, qs183_2, qs183_3, qs183_4, qs183_5, qs183_6, qs183_7, qs183_8, qs183_9, qs183_10, qs183_11, qs183_12, qs183_13, qs183_14, fs183⟩ := hs183
            have hFs183 : FR [0, 6] st s183 := fr_ca fr_rf gs183 (sub_1 (List.mem_of_getElem? (i := 0) rfl) sub_0)
            have k185 := fs183
            refine lv_aload_n hx hb dX10_readNext_96 rfl (lv_at hl 1 rfl) ?_
            obtain ⟨w186, vw186, tw186⟩ := hX.2 _ (List.mem_of_getElem? (l := LIT) (i := 19) rfl)
            have vw186 : vk_R RX10 202 "cart" w186 s := vw186
            have tw186 : STA A w186 4 (fun j9 => ([99, 97, 114, 116] : List Int32).getD j9 0) s s.heap := tw186
            refine va_ldcS hx hb hown vw186 dX10_readNext_97 ?_
            refine ro_V (As := [.ref w186]) (rest := []) S (m_X10_is l D k a s183 sl   w186 4 (fun j9 => ([99, 97, 114, 116] : List Int32).getD j9 0) _  hBs183 (by decide) ) lkX10_150 ok_X10_is ⟨rfl, rfl, Nat.le_of_ble_eq_true rfl, Nat.le_of_ble_eq_true rfl⟩ (px_V (ci := 10) (q0 := 0) nice_NSW hK hN rfl mw_0 hP (hD.weaken (fun _ _ _ _ => trivial)) (show NSW w186 4 (fun j9 => ([99, 97, 114, 116] : List Int32).getD j9 0) A s s.heap from ⟨hX, tw186⟩) hS (px_free hD hS hA)) rfl hl.1 rfl (Nat.le_of_ble_eq_true rfl) ⟨Nat.zero_le _, Nat.zero_le _⟩ dX10_readNext_99 (fun r187 er187 => ?_)
            rcases er187 with ⟨rfl, g9⟩ | ⟨rfl, g9⟩
            · skip
              have g188 := g9
              have k189 := g188
              exact absurd k189.1.1 k185
            · skip
              have g190 := g9
              have k191 := g190
              refine lv_if_eq (tgt := 115) hx hb dX10_readNext_102 (by decide) (fun c192 => ?_) (fun c192 => ?_)
              rotate_left
              · first | exact absurd c192 (by decide) | exact absurd (by decide) c192
              refine lv_aload_n hx hb dX10_readNext_115 rfl (lv_at hl 1 rfl) ?_
              obtain ⟨w193, vw193, tw193⟩ := hX.2 _ (List.mem_of_getElem? (l := LIT) (i := 20) rfl)
              have vw193 : vk_R RX10 204 "errand" w193 s := vw193
              have tw193 : STA A w193 6 (fun j9 => ([101, 114, 114, 97, 110, 100] : List Int32).getD j9 0) s s.heap := tw193
              refine va_ldcS hx hb hown vw193 dX10_readNext_116 ?_
              refine ro_V (As := [.ref w193]) (rest := []) S (m_X10_is l D k a s183 sl   w193 6 (fun j9 => ([101, 114, 114, 97, 110, 100] : List Int32).getD j9 0) _  hBs183 (by decide) ) lkX10_150 ok_X10_is ⟨rfl, rfl, Nat.le_of_ble_eq_true rfl, Nat.le_of_ble_eq_true rfl⟩ (px_V (ci := 10) (q0 := 0) nice_NSW hK hN rfl mw_0 hP (hD.weaken (fun _ _ _ _ => trivial)) (show NSW w193 6 (fun j9 => ([101, 114, 114, 97, 110, 100] : List Int32).getD j9 0) A s s.heap from ⟨hX, tw193⟩) hS (px_free hD hS hA)) rfl hl.1 rfl (Nat.le_of_ble_eq_true rfl) ⟨Nat.zero_le _, Nat.zero_le _⟩ dX10_readNext_118 (fun r194 er194 => ?_)
              rcases er194 with ⟨rfl, g9⟩ | ⟨rfl, g9⟩
              · skip
                have g195 := g9
                have k196 := g195
                exact absurd k196.1.1 k185
              · skip
                have g197 := g9
                have k198 := g197
                refine lv_if_eq (tgt := 140) hx hb dX10_readNext_121 (by decide) (fun c199 => ?_) (fun c199 => ?_)
                rotate_left
                · first | exact absurd c199 (by decide) | exact absurd (by decide) c199
                refine lv_aload_n hx hb dX10_readNext_140 rfl (lv_at hl 1 rfl) ?_
                refine ro_V (As := []) (rest := []) S (m_X10_good l D k a s183 sl   _  hBs183  ) lkX10_136 ok_X10_good ⟨rfl, rfl, Nat.le_of_ble_eq_true rfl, Nat.le_of_ble_eq_true rfl⟩ (pw_V (ci := 10) (q0 := 0) hK hN rfl mw_0 hP (hD.weaken (fun _ _ _ _ => trivial))) rfl hl.1 rfl (Nat.le_of_ble_eq_true rfl) ⟨Nat.zero_le _, Nat.zero_le _⟩ dX10_readNext_141 (fun r200 er200 => ?_)
                rcases er200 with ⟨rfl, g9⟩ | ⟨rfl, g9⟩
                · skip
                  have g201 := g9
                  have k202 := g201
                  exact absurd k202 k185
                · skip
                  have g203 := g9
                  have k204 := g203
                  refine lv_if_ne (tgt := 148) hx hb dX10_readNext_144 (by decide) (fun c205 => ?_) (fun c205 => ?_)
                  · first | exact absurd c205 (by decide) | exact absurd (by decide) c205
                  rw [hQ]
                  exact W.vret hx hb hr (fun t ht hW => ⟨⟨s183, rfl, ⟨hBs183, hFs183, qs183_0, qs183_1, qs183_2, qs183_7, qs183_8, qs183_9, qs183_10, qs183_11, qs183_12, qs183_13, qs183_14, ⟨(fun z9 => absurd z9 k204), (show (st 0 8).toInt ≤ (s183 0 8).toInt from by rw [qs183_3]; exact Int.le_refl _)⟩⟩, by rw [ht]; exact hP, va_K.moved hW.alike (hK.sub (tys' := []) [] rfl), by rw [hAe]; exact hD⟩, by rw [hAe]; exact hS.F ht⟩) hS.2.2 dX10_readNext_147
        · skip
          have g206 := g9
          have k207 := g206
          refine lv_if_eq (tgt := 96) hx hb dX10_readNext_77 (by decide) (fun c208 => ?_) (fun c208 => ?_)
          rotate_left
          · first | exact absurd c208 (by decide) | exact absurd (by decide) c208
          refine lv_aload_n hx hb dX10_readNext_96 rfl (lv_at hl 1 rfl) ?_
          obtain ⟨w209, vw209, tw209⟩ := hX.2 _ (List.mem_of_getElem? (l := LIT) (i := 19) rfl)
          have vw209 : vk_R RX10 202 "cart" w209 s := vw209
          have tw209 : STA A w209 4 (fun j9 => ([99, 97, 114, 116] : List Int32).getD j9 0) s s.heap := tw209
          refine va_ldcS hx hb hown vw209 dX10_readNext_97 ?_
          refine ro_V (As := [.ref w209]) (rest := []) S (m_X10_is l D k a st sl   w209 4 (fun j9 => ([99, 97, 114, 116] : List Int32).getD j9 0) _  hB (by decide) ) lkX10_150 ok_X10_is ⟨rfl, rfl, Nat.le_of_ble_eq_true rfl, Nat.le_of_ble_eq_true rfl⟩ (px_V (ci := 10) (q0 := 0) nice_NSW hK hN rfl mw_0 hP (hD.weaken (fun _ _ _ _ => trivial)) (show NSW w209 4 (fun j9 => ([99, 97, 114, 116] : List Int32).getD j9 0) A s s.heap from ⟨hX, tw209⟩) hS (px_free hD hS hA)) rfl hl.1 rfl (Nat.le_of_ble_eq_true rfl) ⟨Nat.zero_le _, Nat.zero_le _⟩ dX10_readNext_99 (fun r210 er210 => ?_)
          rcases er210 with ⟨rfl, g9⟩ | ⟨rfl, g9⟩
          · skip
            have g211 := g9
            have k212 := g211
            refine lv_if_eq (tgt := 115) hx hb dX10_readNext_102 (by decide) (fun c213 => ?_) (fun c213 => ?_)
            · first | exact absurd c213 (by decide) | exact absurd (by decide) c213
            refine lv_aload_n hx hb dX10_readNext_105 rfl (lv_at hl 1 rfl) ?_
            refine va_get (D := D) (ci := 10) (v := .ref (a 6)) (C := RX10) (T := TX10) (N := 38) hx hb hT in_X10 hown hK hP 0 mw_0 rfl 14 (by decide) (hT _ t1276) (fun _ h9 => h9) rfl dX10_readNext_106 ?_
            refine lv_iconst (v := 4) hx hb dX10_readNext_109 (by decide) ?_
            refine va_iald hx hb hK hP 6 0 mw_6 rfl (by unfold vp_in; decide) dX10_readNext_110 ?_
            refine k_top (y := (st 6 4)) rfl ?_
            have h214 : Iv 0 3 (st 6 4) := (tok_at (rm_6 hB).1 4 0 3 (by decide) (by decide) (by decide))
            refine lv_iconst (v := 3) hx hb dX10_readNext_111 (by decide) ?_
            refine lv_icmp_eq (tgt := 135) hx hb dX10_readNext_112 (by decide) (fun c215 => ?_) (fun c215 => ?_)
            · skip
              have h216 : Iv 3 3 (st 6 4) := eq_l c215 (iv_c (by decide) : Iv 3 3 3)
              refine lv_aload_n hx hb dX10_readNext_135 rfl (lv_at hl 1 rfl) ?_
              refine lv_iconst (v := 3) hx hb dX10_readNext_136 (by decide) ?_
              refine ca_v hP hD hS hA (fun hDc => run_V (mc := 0) (ms := 0) (As := [.int 3]) (rest := []) S (m_X10_errs l D k a st sl  3 _  hB (iv_mono (c := 1) (d := 3) (iv_c (by decide) : Iv 3 3 3) (by decide) (by decide)) ) lkX10_160 ok_X10_errs ⟨rfl, rfl, Nat.le_of_ble_eq_true rfl, Nat.le_of_ble_eq_true rfl⟩ (pw_V (ci := 10) (q0 := 0) hK hN rfl mw_0 hP hDc) rfl hl.1 rfl (Nat.le_of_ble_eq_true rfl) ⟨Nat.zero_le _, Nat.zero_le _⟩ dX10_readNext_137) (fun s217 H9 locs9 hs217 hP9 hD9 hS9 => ?_)
              clear hP hD hS
              have hS := hS9
              have hP := hP9
              have hD := hD9
              clear hP9 hD9 hS9
              obtain ⟨hBs217, gs217, qs217_0, qs217_1, qs217_2, qs217_3, qs217_4, qs217_5, qs217_6, qs217_7, qs217_8, qs217_9, qs217_10, qs217_11, qs217_12, qs217_13, qs217_14, fs217⟩ := hs217
              have hFs217 : FR [0, 6] st s217 := fr_ca fr_rf gs217 (sub_1 (List.mem_of_getElem? (i := 0) rfl) sub_0)
              have k219 := fs217
              refine lv_aload_n hx hb dX10_readNext_140 rfl (lv_at hl 1 rfl) ?_
              refine ro_V (As := []) (rest := []) S (m_X10_good l D k a s217 sl   _  hBs217  ) lkX10_136 ok_X10_good ⟨rfl, rfl, Nat.le_of_ble_eq_true rfl, Nat.le_of_ble_eq_true rfl⟩ (pw_V (ci := 10) (q0 := 0) hK hN rfl mw_0 hP (hD.weaken (fun _ _ _ _ => trivial))) rfl hl.1 rfl (Nat.le_of_ble_eq_true rfl) ⟨Nat.zero_le _, Nat.zero_le _⟩ dX10_readNext_141 (fun r220 er220 => ?_)
              rcases er220 with ⟨rfl, g9⟩ | ⟨rfl, g9⟩
              · skip
                have g221 := g9
                have k222 := g221
                exact absurd k222 k219
              · skip
                have g223 := g9
                have k224 := g223
                refine lv_if_ne (tgt := 148) hx hb dX10_readNext_144 (by decide) (fun c225 => ?_) (fun c225 => ?_)
                · first | exact absurd c225 (by decide) | exact absurd (by decide) c225
                rw [hQ]
                exact W.vret hx hb hr (fun t ht hW => ⟨⟨s217, rfl, ⟨hBs217, hFs217, qs217_0, qs217_1, qs217_2, qs217_7, qs217_8, qs217_9, qs217_10, qs217_11, qs217_12, qs217_13, qs217_14, ⟨(fun z9 => absurd z9 k224), (show (st 0 8).toInt ≤ (s217 0 8).toInt from by rw [qs217_3]; exact Int.le_refl _)⟩⟩, by rw [ht]; exact hP, va_K.moved hW.alike (hK.sub (tys' := []) [] rfl), by rw [hAe]; exact hD⟩, by rw [hAe]; exact hS.F ht⟩) hS.2.2 dX10_readNext_147
            · skip
              have h226 : Iv 0 2 (st 6 4) := ne_hi h214 c215 (by decide) (by decide)
              refine lv_aload_n hx hb dX10_readNext_115 rfl (lv_at hl 1 rfl) ?_
              obtain ⟨w227, vw227, tw227⟩ := hX.2 _ (List.mem_of_getElem? (l := LIT) (i := 20) rfl)
              have vw227 : vk_R RX10 204 "errand" w227 s := vw227
              have tw227 : STA A w227 6 (fun j9 => ([101, 114, 114, 97, 110, 100] : List Int32).getD j9 0) s s.heap := tw227
              refine va_ldcS hx hb hown vw227 dX10_readNext_116 ?_
              refine ro_V (As := [.ref w227]) (rest := []) S (m_X10_is l D k a st sl   w227 6 (fun j9 => ([101, 114, 114, 97, 110, 100] : List Int32).getD j9 0) _  hB (by decide) ) lkX10_150 ok_X10_is ⟨rfl, rfl, Nat.le_of_ble_eq_true rfl, Nat.le_of_ble_eq_true rfl⟩ (px_V (ci := 10) (q0 := 0) nice_NSW hK hN rfl mw_0 hP (hD.weaken (fun _ _ _ _ => trivial)) (show NSW w227 6 (fun j9 => ([101, 114, 114, 97, 110, 100] : List Int32).getD j9 0) A s s.heap from ⟨hX, tw227⟩) hS (px_free hD hS hA)) rfl hl.1 rfl (Nat.le_of_ble_eq_true rfl) ⟨Nat.zero_le _, Nat.zero_le _⟩ dX10_readNext_118 (fun r228 er228 => ?_)
              rcases er228 with ⟨rfl, g9⟩ | ⟨rfl, g9⟩
              · skip
                have g229 := g9
                have k230 := g229
                refine lv_if_eq (tgt := 140) hx hb dX10_readNext_121 (by decide) (fun c231 => ?_) (fun c231 => ?_)
                · first | exact absurd c231 (by decide) | exact absurd (by decide) c231
                refine lv_aload_n hx hb dX10_readNext_124 rfl (lv_at hl 1 rfl) ?_
                refine va_get (D := D) (ci := 10) (v := .ref (a 6)) (C := RX10) (T := TX10) (N := 38) hx hb hT in_X10 hown hK hP 0 mw_0 rfl 14 (by decide) (hT _ t1276) (fun _ h9 => h9) rfl dX10_readNext_125 ?_
                refine lv_iconst (v := 5) hx hb dX10_readNext_128 (by decide) ?_
                refine va_iald hx hb hK hP 6 0 mw_6 rfl (by unfold vp_in; decide) dX10_readNext_129 ?_
                refine k_top (y := (st 6 5)) rfl ?_
                have h232 : Iv 0 6 (st 6 5) := (tok_at (rm_6 hB).1 5 0 6 (by decide) (by decide) (by decide))
                refine lv_bipush (v := 6) hx hb dX10_readNext_130 (by decide) ?_
                refine lv_icmp_ne (tgt := 140) hx hb dX10_readNext_132 (by decide) (fun c233 => ?_) (fun c233 => ?_)
                · skip
                  have h234 : Iv 0 5 (st 6 5) := ne_hi h232 (show ¬ (st 6 5) = 6 from c233) (by decide) (by decide)
                  refine lv_aload_n hx hb dX10_readNext_140 rfl (lv_at hl 1 rfl) ?_
                  refine ro_V (As := []) (rest := []) S (m_X10_good l D k a st sl   _  hB  ) lkX10_136 ok_X10_good ⟨rfl, rfl, Nat.le_of_ble_eq_true rfl, Nat.le_of_ble_eq_true rfl⟩ (pw_V (ci := 10) (q0 := 0) hK hN rfl mw_0 hP (hD.weaken (fun _ _ _ _ => trivial))) rfl hl.1 rfl (Nat.le_of_ble_eq_true rfl) ⟨Nat.zero_le _, Nat.zero_le _⟩ dX10_readNext_141 (fun r235 er235 => ?_)
                  rcases er235 with ⟨rfl, g9⟩ | ⟨rfl, g9⟩
                  · skip
                    have g236 := g9
                    have k237 := g236
                    refine lv_if_ne (tgt := 148) hx hb dX10_readNext_144 (by decide) (fun c238 => ?_) (fun c238 => ?_)
                    rotate_left
                    · first | exact absurd c238 (by decide) | exact absurd (by decide) c238
                    refine lv_aload_n hx hb dX10_readNext_148 rfl (lv_at hl 1 rfl) ?_
                    obtain ⟨w239, vw239, tw239⟩ := hX.2 _ (List.mem_of_getElem? (l := LIT) (i := 17) rfl)
                    have vw239 : vk_R RX10 198 "road" w239 s := vw239
                    have tw239 : STA A w239 4 (fun j9 => ([114, 111, 97, 100] : List Int32).getD j9 0) s s.heap := tw239
                    refine va_ldcS hx hb hown vw239 dX10_readNext_149 ?_
                    refine ca_i hP hD hS hA (fun hDc => run_V (mc := 0) (ms := 0) (As := [.ref w239]) (rest := []) S (m_X10_takes l D k a st sl   w239 4 (fun j9 => ([114, 111, 97, 100] : List Int32).getD j9 0) _  hB (by decide) ) lkX10_157 ok_X10_takes ⟨rfl, rfl, Nat.le_of_ble_eq_true rfl, Nat.le_of_ble_eq_true rfl⟩ (px_V (ci := 10) (q0 := 0) nice_NSW hK hN rfl mw_0 hP hDc (show NSW w239 4 (fun j9 => ([114, 111, 97, 100] : List Int32).getD j9 0) A s s.heap from ⟨hX, tw239⟩) hS (px_free hD hS hA)) rfl hl.1 rfl (Nat.le_of_ble_eq_true rfl) ⟨Nat.zero_le _, Nat.zero_le _⟩ dX10_readNext_151) (fun r241 s240 H9 locs9 hs240 hP9 hD9 hS9 => ?_)
                    clear hP hD hS
                    have hS := hS9
                    have hP := hP9
                    have hD := hD9
                    clear hP9 hD9 hS9
                    obtain ⟨hBs240, gs240, qs240_0, qs240_1, qs240_2, qs240_3, qs240_4, qs240_5, qs240_6, qs240_7, qs240_8, qs240_9, qs240_10, qs240_11, qs240_12, fs240⟩ := hs240
                    have hFs240 : FR [0, 6] st s240 := fr_ca fr_rf gs240 (sub_1 (List.mem_of_getElem? (i := 0) rfl) sub_0)
                    rcases fs240 with ⟨rfl, g9⟩ | ⟨rfl, g9⟩
                    · skip
                      have g242 := g9
                      have k243 := g242
                      refine lv_if_eq (tgt := 164) hx hb dX10_readNext_154 (by decide) (fun c244 => ?_) (fun c244 => ?_)
                      · first | exact absurd c244 (by decide) | exact absurd (by decide) c244
                      refine lv_aload_n hx hb dX10_readNext_157 rfl (lv_at hl 1 rfl) ?_
                      refine ca_v hP hD hS hA (fun hDc => run_V (mc := 0) (ms := 0) (As := []) (rest := []) S (m_X10_readRoad l D k a s240 sl   _  hBs240  (eq_l (congrFun (gs240 6 (nm_1 (by decide) nm_0)) 2) h38)) lkX10_206 ok_X10_readRoad ⟨rfl, rfl, Nat.le_of_ble_eq_true rfl, Nat.le_of_ble_eq_true rfl⟩ (px_V (ci := 10) (q0 := 0) nice_NS hK hN rfl mw_0 hP hDc hX hS (px_free hD hS hA)) rfl hl.1 rfl (Nat.le_of_ble_eq_true rfl) ⟨Nat.zero_le _, Nat.zero_le _⟩ dX10_readNext_158) (fun s245 H9 locs9 hs245 hP9 hD9 hS9 => ?_)
                      clear hP hD hS
                      have hS := hS9
                      have hP := hP9
                      have hD := hD9
                      clear hP9 hD9 hS9
                      obtain ⟨hBs245, gs245, qs245_0, qs245_1, qs245_2, qs245_3, qs245_4, qs245_5, qs245_6, qs245_7, qs245_8, qs245_9, qs245_10, fs245⟩ := hs245
                      have hFs245 : FR [0, 6] st s245 := fr_ca hFs240 gs245 (sub_1 (List.mem_of_getElem? (i := 0) rfl) (sub_1 (List.mem_of_getElem? (i := 1) rfl) sub_0))
                      have k247 := fs245
                      refine lv_goto (tgt := 204) hx hb dX10_readNext_161 (by decide) ?_
                      rw [hQ]
                      exact W.vret hx hb hr (fun t ht hW => ⟨⟨s245, rfl, ⟨hBs245, hFs245, (Eq.trans qs245_0 qs240_0), (Eq.trans qs245_1 qs240_1), (Eq.trans qs245_2 qs240_2), (Eq.trans qs245_3 qs240_5), (Eq.trans qs245_4 qs240_6), (Eq.trans qs245_5 qs240_7), (Eq.trans qs245_6 qs240_8), (Eq.trans qs245_7 qs240_9), (Eq.trans qs245_8 qs240_10), (Eq.trans qs245_9 qs240_11), (Eq.trans qs245_10 qs240_12), ⟨(fun _ => k237), (Int.le_trans k243.2.1 k247.2)⟩⟩, by rw [ht]; exact hP, va_K.moved hW.alike (hK.sub (tys' := []) [] rfl), by rw [hAe]; exact hD⟩, by rw [hAe]; exact hS.F ht⟩) hS.2.2 dX10_readNext_204
                    · skip
                      have g248 := g9
                      have k249 := g248
                      exact absurd k4 k249.1
                  · skip
                    have g250 := g9
                    have k251 := g250
                    refine lv_if_ne (tgt := 148) hx hb dX10_readNext_144 (by decide) (fun c252 => ?_) (fun c252 => ?_)
                    · first | exact absurd c252 (by decide) | exact absurd (by decide) c252
                    rw [hQ]
                    exact W.vret hx hb hr (fun t ht hW => ⟨⟨st, rfl, ⟨hB, fr_rf, rfl, rfl, rfl, rfl, rfl, rfl, rfl, rfl, rfl, rfl, rfl, ⟨(fun z9 => absurd z9 k251), (Int.le_refl _)⟩⟩, by rw [ht]; exact hP, va_K.moved hW.alike (hK.sub (tys' := []) [] rfl), by rw [hAe]; exact hD⟩, by rw [hAe]; exact hS.F ht⟩) hS.2.2 dX10_readNext_147
                · skip
                  have h253 : Iv 6 6 (st 6 5) := eq_l c233 (iv_c (by decide) : Iv 6 6 6)
                  refine lv_aload_n hx hb dX10_readNext_135 rfl (lv_at hl 1 rfl) ?_
                  refine lv_iconst (v := 3) hx hb dX10_readNext_136 (by decide) ?_
                  refine ca_v hP hD hS hA (fun hDc => run_V (mc := 0) (ms := 0) (As := [.int 3]) (rest := []) S (m_X10_errs l D k a st sl  3 _  hB (iv_mono (c := 1) (d := 3) (iv_c (by decide) : Iv 3 3 3) (by decide) (by decide)) ) lkX10_160 ok_X10_errs ⟨rfl, rfl, Nat.le_of_ble_eq_true rfl, Nat.le_of_ble_eq_true rfl⟩ (pw_V (ci := 10) (q0 := 0) hK hN rfl mw_0 hP hDc) rfl hl.1 rfl (Nat.le_of_ble_eq_true rfl) ⟨Nat.zero_le _, Nat.zero_le _⟩ dX10_readNext_137) (fun s254 H9 locs9 hs254 hP9 hD9 hS9 => ?_)
                  clear hP hD hS
                  have hS := hS9
                  have hP := hP9
                  have hD := hD9
                  clear hP9 hD9 hS9
                  obtain ⟨hBs254, gs254, qs254_0, qs254_1, qs254_2, qs254_3, qs254_4, qs254_5, qs254_6, qs254_7, qs254_8, qs254_9, qs254_10, qs254_11, qs254_12, qs254_13, qs254_14, fs254⟩ := hs254
                  have hFs254 : FR [0, 6] st s254 := fr_ca fr_rf gs254 (sub_1 (List.mem_of_getElem? (i := 0) rfl) sub_0)
                  have k256 := fs254
                  refine lv_aload_n hx hb dX10_readNext_140 rfl (lv_at hl 1 rfl) ?_
                  refine ro_V (As := []) (rest := []) S (m_X10_good l D k a s254 sl   _  hBs254  ) lkX10_136 ok_X10_good ⟨rfl, rfl, Nat.le_of_ble_eq_true rfl, Nat.le_of_ble_eq_true rfl⟩ (pw_V (ci := 10) (q0 := 0) hK hN rfl mw_0 hP (hD.weaken (fun _ _ _ _ => trivial))) rfl hl.1 rfl (Nat.le_of_ble_eq_true rfl) ⟨Nat.zero_le _, Nat.zero_le _⟩ dX10_readNext_141 (fun r257 er257 => ?_)
                  rcases er257 with ⟨rfl, g9⟩ | ⟨rfl, g9⟩
                  · skip
                    have g258 := g9
                    have k259 := g258
                    exact absurd k259 k256
                  · skip
                    have g260 := g9
                    have k261 := g260
                    refine lv_if_ne (tgt := 148) hx hb dX10_readNext_144 (by decide) (fun c262 => ?_) (fun c262 => ?_)
                    · first | exact absurd c262 (by decide) | exact absurd (by decide) c262
                    rw [hQ]
                    exact W.vret hx hb hr (fun t ht hW => ⟨⟨s254, rfl, ⟨hBs254, hFs254, qs254_0, qs254_1, qs254_2, qs254_7, qs254_8, qs254_9, qs254_10, qs254_11, qs254_12, qs254_13, qs254_14, ⟨(fun z9 => absurd z9 k261), (show (st 0 8).toInt ≤ (s254 0 8).toInt from by rw [qs254_3]; exact Int.le_refl _)⟩⟩, by rw [ht]; exact hP, va_K.moved hW.alike (hK.sub (tys' := []) [] rfl), by rw [hAe]; exact hD⟩, by rw [hAe]; exact hS.F ht⟩) hS.2.2 dX10_readNext_147
              · skip
                have g263 := g9
                have k264 := g263
                refine lv_if_eq (tgt := 140) hx hb dX10_readNext_121 (by decide) (fun c265 => ?_) (fun c265 => ?_)
                rotate_left
                · first | exact absurd c265 (by decide) | exact absurd (by decide) c265
                refine lv_aload_n hx hb dX10_readNext_140 rfl (lv_at hl 1 rfl) ?_
                refine ro_V (As := []) (rest := []) S (m_X10_good l D k a st sl   _  hB  ) lkX10_136 ok_X10_good ⟨rfl, rfl, Nat.le_of_ble_eq_true rfl, Nat.le_of_ble_eq_true rfl⟩ (pw_V (ci := 10) (q0 := 0) hK hN rfl mw_0 hP (hD.weaken (fun _ _ _ _ => trivial))) rfl hl.1 rfl (Nat.le_of_ble_eq_true rfl) ⟨Nat.zero_le _, Nat.zero_le _⟩ dX10_readNext_141 (fun r266 er266 => ?_)
                rcases er266 with ⟨rfl, g9⟩ | ⟨rfl, g9⟩
                · skip
                  have g267 := g9
                  have k268 := g267
                  refine lv_if_ne (tgt := 148) hx hb dX10_readNext_144 (by decide) (fun c269 => ?_) (fun c269 => ?_)
                  rotate_left
                  · first | exact absurd c269 (by decide) | exact absurd (by decide) c269
                  refine lv_aload_n hx hb dX10_readNext_148 rfl (lv_at hl 1 rfl) ?_
                  obtain ⟨w270, vw270, tw270⟩ := hX.2 _ (List.mem_of_getElem? (l := LIT) (i := 17) rfl)
                  have vw270 : vk_R RX10 198 "road" w270 s := vw270
                  have tw270 : STA A w270 4 (fun j9 => ([114, 111, 97, 100] : List Int32).getD j9 0) s s.heap := tw270
                  refine va_ldcS hx hb hown vw270 dX10_readNext_149 ?_
                  refine ca_i hP hD hS hA (fun hDc => run_V (mc := 0) (ms := 0) (As := [.ref w270]) (rest := []) S (m_X10_takes l D k a st sl   w270 4 (fun j9 => ([114, 111, 97, 100] : List Int32).getD j9 0) _  hB (by decide) ) lkX10_157 ok_X10_takes ⟨rfl, rfl, Nat.le_of_ble_eq_true rfl, Nat.le_of_ble_eq_true rfl⟩ (px_V (ci := 10) (q0 := 0) nice_NSW hK hN rfl mw_0 hP hDc (show NSW w270 4 (fun j9 => ([114, 111, 97, 100] : List Int32).getD j9 0) A s s.heap from ⟨hX, tw270⟩) hS (px_free hD hS hA)) rfl hl.1 rfl (Nat.le_of_ble_eq_true rfl) ⟨Nat.zero_le _, Nat.zero_le _⟩ dX10_readNext_151) (fun r272 s271 H9 locs9 hs271 hP9 hD9 hS9 => ?_)
                  clear hP hD hS
                  have hS := hS9
                  have hP := hP9
                  have hD := hD9
                  clear hP9 hD9 hS9
                  obtain ⟨hBs271, gs271, qs271_0, qs271_1, qs271_2, qs271_3, qs271_4, qs271_5, qs271_6, qs271_7, qs271_8, qs271_9, qs271_10, qs271_11, qs271_12, fs271⟩ := hs271
                  have hFs271 : FR [0, 6] st s271 := fr_ca fr_rf gs271 (sub_1 (List.mem_of_getElem? (i := 0) rfl) sub_0)
                  rcases fs271 with ⟨rfl, g9⟩ | ⟨rfl, g9⟩
                  · skip
                    have g273 := g9
                    have k274 := g273
                    refine lv_if_eq (tgt := 164) hx hb dX10_readNext_154 (by decide) (fun c275 => ?_) (fun c275 => ?_)
                    · first | exact absurd c275 (by decide) | exact absurd (by decide) c275
                    refine lv_aload_n hx hb dX10_readNext_157 rfl (lv_at hl 1 rfl) ?_
                    refine ca_v hP hD hS hA (fun hDc => run_V (mc := 0) (ms := 0) (As := []) (rest := []) S (m_X10_readRoad l D k a s271 sl   _  hBs271  (eq_l (congrFun (gs271 6 (nm_1 (by decide) nm_0)) 2) h38)) lkX10_206 ok_X10_readRoad ⟨rfl, rfl, Nat.le_of_ble_eq_true rfl, Nat.le_of_ble_eq_true rfl⟩ (px_V (ci := 10) (q0 := 0) nice_NS hK hN rfl mw_0 hP hDc hX hS (px_free hD hS hA)) rfl hl.1 rfl (Nat.le_of_ble_eq_true rfl) ⟨Nat.zero_le _, Nat.zero_le _⟩ dX10_readNext_158) (fun s276 H9 locs9 hs276 hP9 hD9 hS9 => ?_)
                    clear hP hD hS
                    have hS := hS9
                    have hP := hP9
                    have hD := hD9
                    clear hP9 hD9 hS9
                    obtain ⟨hBs276, gs276, qs276_0, qs276_1, qs276_2, qs276_3, qs276_4, qs276_5, qs276_6, qs276_7, qs276_8, qs276_9, qs276_10, fs276⟩ := hs276
                    have hFs276 : FR [0, 6] st s276 := fr_ca hFs271 gs276 (sub_1 (List.mem_of_getElem? (i := 0) rfl) (sub_1 (List.mem_of_getElem? (i := 1) rfl) sub_0))
                    have k278 := fs276
                    refine lv_goto (tgt := 204) hx hb dX10_readNext_161 (by decide) ?_
                    rw [hQ]
                    exact W.vret hx hb hr (fun t ht hW => ⟨⟨s276, rfl, ⟨hBs276, hFs276, (Eq.trans qs276_0 qs271_0), (Eq.trans qs276_1 qs271_1), (Eq.trans qs276_2 qs271_2), (Eq.trans qs276_3 qs271_5), (Eq.trans qs276_4 qs271_6), (Eq.trans qs276_5 qs271_7), (Eq.trans qs276_6 qs271_8), (Eq.trans qs276_7 qs271_9), (Eq.trans qs276_8 qs271_10), (Eq.trans qs276_9 qs271_11), (Eq.trans qs276_10 qs271_12), ⟨(fun _ => k268), (Int.le_trans k274.2.1 k278.2)⟩⟩, by rw [ht]; exact hP, va_K.moved hW.alike (hK.sub (tys' := []) [] rfl), by rw [hAe]; exact hD⟩, by rw [hAe]; exact hS.F ht⟩) hS.2.2 dX10_readNext_204
                  · skip
                    have g279 := g9
                    have k280 := g279
                    exact absurd k4 k280.1
                · skip
                  have g281 := g9
                  have k282 := g281
                  refine lv_if_ne (tgt := 148) hx hb dX10_readNext_144 (by decide) (fun c283 => ?_) (fun c283 => ?_)
                  · first | exact absurd c283 (by decide) | exact absurd (by decide) c283
                  rw [hQ]
                  exact W.vret hx hb hr (fun t ht hW => ⟨⟨st, rfl, ⟨hB, fr_rf, rfl, rfl, rfl, rfl, rfl, rfl, rfl, rfl, rfl, rfl, rfl, ⟨(fun z9 => absurd z9 k282), (Int.le_refl _)⟩⟩, by rw [ht]; exact hP, va_K.moved hW.alike (hK.sub (tys' := []) [] rfl), by rw [hAe]; exact hD⟩, by rw [hAe]; exact hS.F ht⟩) hS.2.2 dX10_readNext_147
          · skip
            have g284 := g9
            have k285 := g284
            refine lv_if_eq (tgt := 115) hx hb dX10_readNext_102 (by decide) (fun c286 => ?_) (fun c286 => ?_)
            rotate_left
            · first | exact absurd c286 (by decide) | exact absurd (by decide) c286
            refine lv_aload_n hx hb dX10_readNext_115 rfl (lv_at hl 1 rfl) ?_
            obtain ⟨w287, vw287, tw287⟩ := hX.2 _ (List.mem_of_getElem? (l := LIT) (i := 20) rfl)
            have vw287 : vk_R RX10 204 "errand" w287 s := vw287
            have tw287 : STA A w287 6 (fun j9 => ([101, 114, 114, 97, 110, 100] : List Int32).getD j9 0) s s.heap := tw287
            refine va_ldcS hx hb hown vw287 dX10_readNext_116 ?_
            refine ro_V (As := [.ref w287]) (rest := []) S (m_X10_is l D k a st sl   w287 6 (fun j9 => ([101, 114, 114, 97, 110, 100] : List Int32).getD j9 0) _  hB (by decide) ) lkX10_150 ok_X10_is ⟨rfl, rfl, Nat.le_of_ble_eq_true rfl, Nat.le_of_ble_eq_true rfl⟩ (px_V (ci := 10) (q0 := 0) nice_NSW hK hN rfl mw_0 hP (hD.weaken (fun _ _ _ _ => trivial)) (show NSW w287 6 (fun j9 => ([101, 114, 114, 97, 110, 100] : List Int32).getD j9 0) A s s.heap from ⟨hX, tw287⟩) hS (px_free hD hS hA)) rfl hl.1 rfl (Nat.le_of_ble_eq_true rfl) ⟨Nat.zero_le _, Nat.zero_le _⟩ dX10_readNext_118 (fun r288 er288 => ?_)
            rcases er288 with ⟨rfl, g9⟩ | ⟨rfl, g9⟩
            · skip
              have g289 := g9
              have k290 := g289
              refine lv_if_eq (tgt := 140) hx hb dX10_readNext_121 (by decide) (fun c291 => ?_) (fun c291 => ?_)
              · first | exact absurd c291 (by decide) | exact absurd (by decide) c291
              refine lv_aload_n hx hb dX10_readNext_124 rfl (lv_at hl 1 rfl) ?_
              refine va_get (D := D) (ci := 10) (v := .ref (a 6)) (C := RX10) (T := TX10) (N := 38) hx hb hT in_X10 hown hK hP 0 mw_0 rfl 14 (by decide) (hT _ t1276) (fun _ h9 => h9) rfl dX10_readNext_125 ?_
              refine lv_iconst (v := 5) hx hb dX10_readNext_128 (by decide) ?_
              refine va_iald hx hb hK hP 6 0 mw_6 rfl (by unfold vp_in; decide) dX10_readNext_129 ?_
              refine k_top (y := (st 6 5)) rfl ?_
              have h292 : Iv 0 6 (st 6 5) := (tok_at (rm_6 hB).1 5 0 6 (by decide) (by decide) (by decide))
              refine lv_bipush (v := 6) hx hb dX10_readNext_130 (by decide) ?_
              refine lv_icmp_ne (tgt := 140) hx hb dX10_readNext_132 (by decide) (fun c293 => ?_) (fun c293 => ?_)
              · skip
                have h294 : Iv 0 5 (st 6 5) := ne_hi h292 (show ¬ (st 6 5) = 6 from c293) (by decide) (by decide)
                refine lv_aload_n hx hb dX10_readNext_140 rfl (lv_at hl 1 rfl) ?_
                refine ro_V (As := []) (rest := []) S (m_X10_good l D k a st sl   _  hB  ) lkX10_136 ok_X10_good ⟨rfl, rfl, Nat.le_of_ble_eq_true rfl, Nat.le_of_ble_eq_true rfl⟩ (pw_V (ci := 10) (q0 := 0) hK hN rfl mw_0 hP (hD.weaken (fun _ _ _ _ => trivial))) rfl hl.1 rfl (Nat.le_of_ble_eq_true rfl) ⟨Nat.zero_le _, Nat.zero_le _⟩ dX10_readNext_141 (fun r295 er295 => ?_)
                rcases er295 with ⟨rfl, g9⟩ | ⟨rfl, g9⟩
                · skip
                  have g296 := g9
                  have k297 := g296
                  refine lv_if_ne (tgt := 148) hx hb dX10_readNext_144 (by decide) (fun c298 => ?_) (fun c298 => ?_)
                  rotate_left
                  · first | exact absurd c298 (by decide) | exact absurd (by decide) c298
                  refine lv_aload_n hx hb dX10_readNext_148 rfl (lv_at hl 1 rfl) ?_
                  obtain ⟨w299, vw299, tw299⟩ := hX.2 _ (List.mem_of_getElem? (l := LIT) (i := 17) rfl)
                  have vw299 : vk_R RX10 198 "road" w299 s := vw299
                  have tw299 : STA A w299 4 (fun j9 => ([114, 111, 97, 100] : List Int32).getD j9 0) s s.heap := tw299
                  refine va_ldcS hx hb hown vw299 dX10_readNext_149 ?_
                  refine ca_i hP hD hS hA (fun hDc => run_V (mc := 0) (ms := 0) (As := [.ref w299]) (rest := []) S (m_X10_takes l D k a st sl   w299 4 (fun j9 => ([114, 111, 97, 100] : List Int32).getD j9 0) _  hB (by decide) ) lkX10_157 ok_X10_takes ⟨rfl, rfl, Nat.le_of_ble_eq_true rfl, Nat.le_of_ble_eq_true rfl⟩ (px_V (ci := 10) (q0 := 0) nice_NSW hK hN rfl mw_0 hP hDc (show NSW w299 4 (fun j9 => ([114, 111, 97, 100] : List Int32).getD j9 0) A s s.heap from ⟨hX, tw299⟩) hS (px_free hD hS hA)) rfl hl.1 rfl (Nat.le_of_ble_eq_true rfl) ⟨Nat.zero_le _, Nat.zero_le _⟩ dX10_readNext_151) (fun r301 s300 H9 locs9 hs300 hP9 hD9 hS9 => ?_)
                  clear hP hD hS
                  have hS := hS9
                  have hP := hP9
                  have hD := hD9
                  clear hP9 hD9 hS9
                  obtain ⟨hBs300, gs300, qs300_0, qs300_1, qs300_2, qs300_3, qs300_4, qs300_5, qs300_6, qs300_7, qs300_8, qs300_9, qs300_10, qs300_11, qs300_12, fs300⟩ := hs300
                  have hFs300 : FR [0, 6] st s300 := fr_ca fr_rf gs300 (sub_1 (List.mem_of_getElem? (i := 0) rfl) sub_0)
                  rcases fs300 with ⟨rfl, g9⟩ | ⟨rfl, g9⟩
                  · skip
                    have g302 := g9
                    have k303 := g302
                    refine lv_if_eq (tgt := 164) hx hb dX10_readNext_154 (by decide) (fun c304 => ?_) (fun c304 => ?_)
                    · first | exact absurd c304 (by decide) | exact absurd (by decide) c304
                    refine lv_aload_n hx hb dX10_readNext_157 rfl (lv_at hl 1 rfl) ?_
                    refine ca_v hP hD hS hA (fun hDc => run_V (mc := 0) (ms := 0) (As := []) (rest := []) S (m_X10_readRoad l D k a s300 sl   _  hBs300  (eq_l (congrFun (gs300 6 (nm_1 (by decide) nm_0)) 2) h38)) lkX10_206 ok_X10_readRoad ⟨rfl, rfl, Nat.le_of_ble_eq_true rfl, Nat.le_of_ble_eq_true rfl⟩ (px_V (ci := 10) (q0 := 0) nice_NS hK hN rfl mw_0 hP hDc hX hS (px_free hD hS hA)) rfl hl.1 rfl (Nat.le_of_ble_eq_true rfl) ⟨Nat.zero_le _, Nat.zero_le _⟩ dX10_readNext_158) (fun s305 H9 locs9 hs305 hP9 hD9 hS9 => ?_)
                    clear hP hD hS
                    have hS := hS9
                    have hP := hP9
                    have hD := hD9
                    clear hP9 hD9 hS9
                    obtain ⟨hBs305, gs305, qs305_0, qs305_1, qs305_2, qs305_3, qs305_4, qs305_5, qs305_6, qs305_7, qs305_8, qs305_9, qs305_10, fs305⟩ := hs305
                    have hFs305 : FR [0, 6] st s305 := fr_ca hFs300 gs305 (sub_1 (List.mem_of_getElem? (i := 0) rfl) (sub_1 (List.mem_of_getElem? (i := 1) rfl) sub_0))
                    have k307 := fs305
                    refine lv_goto (tgt := 204) hx hb dX10_readNext_161 (by decide) ?_
                    rw [hQ]
                    exact W.vret hx hb hr (fun t ht hW => ⟨⟨s305, rfl, ⟨hBs305, hFs305, (Eq.trans qs305_0 qs300_0), (Eq.trans qs305_1 qs300_1), (Eq.trans qs305_2 qs300_2), (Eq.trans qs305_3 qs300_5), (Eq.trans qs305_4 qs300_6), (Eq.trans qs305_5 qs300_7), (Eq.trans qs305_6 qs300_8), (Eq.trans qs305_7 qs300_9), (Eq.trans qs305_8 qs300_10), (Eq.trans qs305_9 qs300_11), (Eq.trans qs305_10 qs300_12), ⟨(fun _ => k297), (Int.le_trans k303.2.1 k307.2)⟩⟩, by rw [ht]; exact hP, va_K.moved hW.alike (hK.sub (tys' := []) [] rfl), by rw [hAe]; exact hD⟩, by rw [hAe]; exact hS.F ht⟩) hS.2.2 dX10_readNext_204
                  · skip
                    have g308 := g9
                    have k309 := g308
                    exact absurd k4 k309.1
                · skip
                  have g310 := g9
                  have k311 := g310
                  refine lv_if_ne (tgt := 148) hx hb dX10_readNext_144 (by decide) (fun c312 => ?_) (fun c312 => ?_)
                  · first | exact absurd c312 (by decide) | exact absurd (by decide) c312
                  rw [hQ]
                  exact W.vret hx hb hr (fun t ht hW => ⟨⟨st, rfl, ⟨hB, fr_rf, rfl, rfl, rfl, rfl, rfl, rfl, rfl, rfl, rfl, rfl, rfl, ⟨(fun z9 => absurd z9 k311), (Int.le_refl _)⟩⟩, by rw [ht]; exact hP, va_K.moved hW.alike (hK.sub (tys' := []) [] rfl), by rw [hAe]; exact hD⟩, by rw [hAe]; exact hS.F ht⟩) hS.2.2 dX10_readNext_147
              · skip
                have h313 : Iv 6 6 (st 6 5) := eq_l c293 (iv_c (by decide) : Iv 6 6 6)
                refine lv_aload_n hx hb dX10_readNext_135 rfl (lv_at hl 1 rfl) ?_
                refine lv_iconst (v := 3) hx hb dX10_readNext_136 (by decide) ?_
                refine ca_v hP hD hS hA (fun hDc => run_V (mc := 0) (ms := 0) (As := [.int 3]) (rest := []) S (m_X10_errs l D k a st sl  3 _  hB (iv_mono (c := 1) (d := 3) (iv_c (by decide) : Iv 3 3 3) (by decide) (by decide)) ) lkX10_160 ok_X10_errs ⟨rfl, rfl, Nat.le_of_ble_eq_true rfl, Nat.le_of_ble_eq_true rfl⟩ (pw_V (ci := 10) (q0 := 0) hK hN rfl mw_0 hP hDc) rfl hl.1 rfl (Nat.le_of_ble_eq_true rfl) ⟨Nat.zero_le _, Nat.zero_le _⟩ dX10_readNext_137) (fun s314 H9 locs9 hs314 hP9 hD9 hS9 => ?_)
                clear hP hD hS
                have hS := hS9
                have hP := hP9
                have hD := hD9
                clear hP9 hD9 hS9
                obtain ⟨hBs314, gs314, qs314_0, qs314_1, qs314_2, qs314_3, qs314_4, qs314_5, qs314_6, qs314_7, qs314_8, qs314_9, qs314_10, qs314_11, qs314_12, qs314_13, qs314_14, fs314⟩ := hs314
                have hFs314 : FR [0, 6] st s314 := fr_ca fr_rf gs314 (sub_1 (List.mem_of_getElem? (i := 0) rfl) sub_0)
                have k316 := fs314
                refine lv_aload_n hx hb dX10_readNext_140 rfl (lv_at hl 1 rfl) ?_
                refine ro_V (As := []) (rest := []) S (m_X10_good l D k a s314 sl   _  hBs314  ) lkX10_136 ok_X10_good ⟨rfl, rfl, Nat.le_of_ble_eq_true rfl, Nat.le_of_ble_eq_true rfl⟩ (pw_V (ci := 10) (q0 := 0) hK hN rfl mw_0 hP (hD.weaken (fun _ _ _ _ => trivial))) rfl hl.1 rfl (Nat.le_of_ble_eq_true rfl) ⟨Nat.zero_le _, Nat.zero_le _⟩ dX10_readNext_141 (fun r317 er317 => ?_)
                rcases er317 with ⟨rfl, g9⟩ | ⟨rfl, g9⟩
                · skip
                  have g318 := g9
                  have k319 := g318
                  exact absurd k319 k316
                · skip
                  have g320 := g9
                  have k321 := g320
                  refine lv_if_ne (tgt := 148) hx hb dX10_readNext_144 (by decide) (fun c322 => ?_) (fun c322 => ?_)
                  · first | exact absurd c322 (by decide) | exact absurd (by decide) c322
                  rw [hQ]
                  exact W.vret hx hb hr (fun t ht hW => ⟨⟨s314, rfl, ⟨hBs314, hFs314, qs314_0, qs314_1, qs314_2, qs314_7, qs314_8, qs314_9, qs314_10, qs314_11, qs314_12, qs314_13, qs314_14, ⟨(fun z9 => absurd z9 k321), (show (st 0 8).toInt ≤ (s314 0 8).toInt from by rw [qs314_3]; exact Int.le_refl _)⟩⟩, by rw [ht]; exact hP, va_K.moved hW.alike (hK.sub (tys' := []) [] rfl), by rw [hAe]; exact hD⟩, by rw [hAe]; exact hS.F ht⟩) hS.2.2 dX10_readNext_147
            · skip
              have g323 := g9
              have k324 := g323
              refine lv_if_eq (tgt := 140) hx hb dX10_readNext_121 (by decide) (fun c325 => ?_) (fun c325 => ?_)
              rotate_left
              · first | exact absurd c325 (by decide) | exact absurd (by decide) c325
              refine lv_aload_n hx hb dX10_readNext_140 rfl (lv_at hl 1 rfl) ?_
              refine ro_V (As := []) (rest := []) S (m_X10_good l D k a st sl   _  hB  ) lkX10_136 ok_X10_good ⟨rfl, rfl, Nat.le_of_ble_eq_true rfl, Nat.le_of_ble_eq_true rfl⟩ (pw_V (ci := 10) (q0 := 0) hK hN rfl mw_0 hP (hD.weaken (fun _ _ _ _ => trivial))) rfl hl.1 rfl (Nat.le_of_ble_eq_true rfl) ⟨Nat.zero_le _, Nat.zero_le _⟩ dX10_readNext_141 (fun r326 er326 => ?_)
              rcases er326 with ⟨rfl, g9⟩ | ⟨rfl, g9⟩
              · skip
                have g327 := g9
                have k328 := g327
                refine lv_if_ne (tgt := 148) hx hb dX10_readNext_144 (by decide) (fun c329 => ?_) (fun c329 => ?_)
                rotate_left
                · first | exact absurd c329 (by decide) | exact absurd (by decide) c329
                refine lv_aload_n hx hb dX10_readNext_148 rfl (lv_at hl 1 rfl) ?_
                obtain ⟨w330, vw330, tw330⟩ := hX.2 _ (List.mem_of_getElem? (l := LIT) (i := 17) rfl)
                have vw330 : vk_R RX10 198 "road" w330 s := vw330
                have tw330 : STA A w330 4 (fun j9 => ([114, 111, 97, 100] : List Int32).getD j9 0) s s.heap := tw330
                refine va_ldcS hx hb hown vw330 dX10_readNext_149 ?_
                refine ca_i hP hD hS hA (fun hDc => run_V (mc := 0) (ms := 0) (As := [.ref w330]) (rest := []) S (m_X10_takes l D k a st sl   w330 4 (fun j9 => ([114, 111, 97, 100] : List Int32).getD j9 0) _  hB (by decide) ) lkX10_157 ok_X10_takes ⟨rfl, rfl, Nat.le_of_ble_eq_true rfl, Nat.le_of_ble_eq_true rfl⟩ (px_V (ci := 10) (q0 := 0) nice_NSW hK hN rfl mw_0 hP hDc (show NSW w330 4 (fun j9 => ([114, 111, 97, 100] : List Int32).getD j9 0) A s s.heap from ⟨hX, tw330⟩) hS (px_free hD hS hA)) rfl hl.1 rfl (Nat.le_of_ble_eq_true rfl) ⟨Nat.zero_le _, Nat.zero_le _⟩ dX10_readNext_151) (fun r332 s331 H9 locs9 hs331 hP9 hD9 hS9 => ?_)
                clear hP hD hS
                have hS := hS9
                have hP := hP9
                have hD := hD9
                clear hP9 hD9 hS9
                obtain ⟨hBs331, gs331, qs331_0, qs331_1, qs331_2, qs331_3, qs331_4, qs331_5, qs331_6, qs331_7, qs331_8, qs331_9, qs331_10, qs331_11, qs331_12, fs331⟩ := hs331
                have hFs331 : FR [0, 6] st s331 := fr_ca fr_rf gs331 (sub_1 (List.mem_of_getElem? (i := 0) rfl) sub_0)
                rcases fs331 with ⟨rfl, g9⟩ | ⟨rfl, g9⟩
                · skip
                  have g333 := g9
                  have k334 := g333
                  refine lv_if_eq (tgt := 164) hx hb dX10_readNext_154 (by decide) (fun c335 => ?_) (fun c335 => ?_)
                  · first | exact absurd c335 (by decide) | exact absurd (by decide) c335
                  refine lv_aload_n hx hb dX10_readNext_157 rfl (lv_at hl 1 rfl) ?_
                  refine ca_v hP hD hS hA (fun hDc => run_V (mc := 0) (ms := 0) (As := []) (rest := []) S (m_X10_readRoad l D k a s331 sl   _  hBs331  (eq_l (congrFun (gs331 6 (nm_1 (by decide) nm_0)) 2) h38)) lkX10_206 ok_X10_readRoad ⟨rfl, rfl, Nat.le_of_ble_eq_true rfl, Nat.le_of_ble_eq_true rfl⟩ (px_V (ci := 10) (q0 := 0) nice_NS hK hN rfl mw_0 hP hDc hX hS (px_free hD hS hA)) rfl hl.1 rfl (Nat.le_of_ble_eq_true rfl) ⟨Nat.zero_le _, Nat.zero_le _⟩ dX10_readNext_158) (fun s336 H9 locs9 hs336 hP9 hD9 hS9 => ?_)
                  clear hP hD hS
                  have hS := hS9
                  have hP := hP9
                  have hD := hD9
                  clear hP9 hD9 hS9
                  obtain ⟨hBs336, gs336, qs336_0, qs336_1, qs336_2, qs336_3, qs336_4, qs336_5, qs336_6, qs336_7, qs336_8, qs336_9, qs336_10, fs336⟩ := hs336
                  have hFs336 : FR [0, 6] st s336 := fr_ca hFs331 gs336 (sub_1 (List.mem_of_getElem? (i := 0) rfl) (sub_1 (List.mem_of_getElem? (i := 1) rfl) sub_0))
                  have k338 := fs336
                  refine lv_goto (tgt := 204) hx hb dX10_readNext_161 (by decide) ?_
                  rw [hQ]
                  exact W.vret hx hb hr (fun t ht hW => ⟨⟨s336, rfl, ⟨hBs336, hFs336, (Eq.trans qs336_0 qs331_0), (Eq.trans qs336_1 qs331_1), (Eq.trans qs336_2 qs331_2), (Eq.trans qs336_3 qs331_5), (Eq.trans qs336_4 qs331_6), (Eq.trans qs336_5 qs331_7), (Eq.trans qs336_6 qs331_8), (Eq.trans qs336_7 qs331_9), (Eq.trans qs336_8 qs331_10), (Eq.trans qs336_9 qs331_11), (Eq.trans qs336_10 qs331_12), ⟨(fun _ => k328), (Int.le_trans k334.2.1 k338.2)⟩⟩, by rw [ht]; exact hP, va_K.moved hW.alike (hK.sub (tys' := []) [] rfl), by rw [hAe]; exact hD⟩, by rw [hAe]; exact hS.F ht⟩) hS.2.2 dX10_readNext_204
                · skip
                  have g339 := g9
                  have k340 := g339
                  exact absurd k4 k340.1
              · skip
                have g341 := g9
                have k342 := g341
                refine lv_if_ne (tgt := 148) hx hb dX10_readNext_144 (by decide) (fun c343 => ?_) (fun c343 => ?_)
                · first | exact absurd c343 (by decide) | exact absurd (by decide) c343
                rw [hQ]
                exact W.vret hx hb hr (fun t ht hW => ⟨⟨st, rfl, ⟨hB, fr_rf, rfl, rfl, rfl, rfl, rfl, rfl, rfl, rfl, rfl, rfl, rfl, ⟨(fun z9 => absurd z9 k342), (Int.le_refl _)⟩⟩, by rw [ht]; exact hP, va_K.moved hW.alike (hK.sub (tys' := []) [] rfl), by rw [hAe]; exact hD⟩, by rw [hAe]; exact hS.F ht⟩) hS.2.2 dX10_readNext_147
    · skip
      have g344 := g9
      have k345 := g344
      exact absurd k4 k345
  · skip
    have g346 := g9
    have k347 := g346
    refine lv_if_ne (tgt := 36) hx hb dX10_readNext_6 (by decide) (fun c348 => ?_) (fun c348 => ?_)
    · first | exact absurd c348 (by decide) | exact absurd (by decide) c348
    refine lv_aload_n hx hb dX10_readNext_9 rfl (lv_at hl 0 rfl) ?_
    obtain ⟨w349, vw349, tw349⟩ := hX.2 _ (List.mem_of_getElem? (l := LIT) (i := 18) rfl)
    have vw349 : vk_R RX10 200 "wheel" w349 s := vw349
    have tw349 : STA A w349 5 (fun j9 => ([119, 104, 101, 101, 108] : List Int32).getD j9 0) s s.heap := tw349
    refine va_ldcS hx hb hown vw349 dX10_readNext_10 ?_
    refine ro_V (As := [.ref w349]) (rest := []) S (m_X10_is l D k a st sl   w349 5 (fun j9 => ([119, 104, 101, 101, 108] : List Int32).getD j9 0) _  hB (by decide) ) lkX10_150 ok_X10_is ⟨rfl, rfl, Nat.le_of_ble_eq_true rfl, Nat.le_of_ble_eq_true rfl⟩ (px_V (ci := 10) (q0 := 0) nice_NSW hK hN rfl mw_0 hP (hD.weaken (fun _ _ _ _ => trivial)) (show NSW w349 5 (fun j9 => ([119, 104, 101, 101, 108] : List Int32).getD j9 0) A s s.heap from ⟨hX, tw349⟩) hS (px_free hD hS hA)) rfl hl.1 rfl (Nat.le_of_ble_eq_true rfl) ⟨Nat.zero_le _, Nat.zero_le _⟩ dX10_readNext_12 (fun r350 er350 => ?_)
    rcases er350 with ⟨rfl, g9⟩ | ⟨rfl, g9⟩
    · skip
      have g351 := g9
      have k352 := g351
      refine lv_if_ne (tgt := 36) hx hb dX10_readNext_15 (by decide) (fun c353 => ?_) (fun c353 => ?_)
      rotate_left
      · first | exact absurd c353 (by decide) | exact absurd (by decide) c353
      refine lv_iconst (v := 1) hx hb dX10_readNext_36 (by decide) ?_
      refine lv_goto (tgt := 41) hx hb dX10_readNext_37 (by decide) ?_
      refine lv_istore_n (lv' := [(1, .int 1), (0, .ref (a 0))]) hx hb dX10_readNext_41 rfl hl (by decide) rfl (fun ls hl => ?_)
      refine lv_iload_n hx hb dX10_readNext_42 rfl (lv_at hl 0 rfl) ?_
      refine lv_if_ne (tgt := 51) hx hb dX10_readNext_43 (by decide) (fun c354 => ?_) (fun c354 => ?_)
      rotate_left
      · first | exact absurd c354 (by decide) | exact absurd (by decide) c354
      refine lv_aload_n hx hb dX10_readNext_51 rfl (lv_at hl 1 rfl) ?_
      obtain ⟨w355, vw355, tw355⟩ := hX.2 _ (List.mem_of_getElem? (l := LIT) (i := 17) rfl)
      have vw355 : vk_R RX10 198 "road" w355 s := vw355
      have tw355 : STA A w355 4 (fun j9 => ([114, 111, 97, 100] : List Int32).getD j9 0) s s.heap := tw355
      refine va_ldcS hx hb hown vw355 dX10_readNext_52 ?_
      refine ro_V (As := [.ref w355]) (rest := []) S (m_X10_is l D k a st sl   w355 4 (fun j9 => ([114, 111, 97, 100] : List Int32).getD j9 0) _  hB (by decide) ) lkX10_150 ok_X10_is ⟨rfl, rfl, Nat.le_of_ble_eq_true rfl, Nat.le_of_ble_eq_true rfl⟩ (px_V (ci := 10) (q0 := 0) nice_NSW hK hN rfl mw_0 hP (hD.weaken (fun _ _ _ _ => trivial)) (show NSW w355 4 (fun j9 => ([114, 111, 97, 100] : List Int32).getD j9 0) A s s.heap from ⟨hX, tw355⟩) hS (px_free hD hS hA)) rfl hl.1 rfl (Nat.le_of_ble_eq_true rfl) ⟨Nat.zero_le _, Nat.zero_le _⟩ dX10_readNext_54 (fun r356 er356 => ?_)
      rcases er356 with ⟨rfl, g9⟩ | ⟨rfl, g9⟩
      · skip
        have g357 := g9
        have k358 := g357
        exact absurd k358 k347
      · skip
        have g359 := g9
        have k360 := g359
        refine lv_if_eq (tgt := 71) hx hb dX10_readNext_57 (by decide) (fun c361 => ?_) (fun c361 => ?_)
        rotate_left
        · first | exact absurd c361 (by decide) | exact absurd (by decide) c361
        refine lv_aload_n hx hb dX10_readNext_71 rfl (lv_at hl 1 rfl) ?_
        obtain ⟨w362, vw362, tw362⟩ := hX.2 _ (List.mem_of_getElem? (l := LIT) (i := 18) rfl)
        have vw362 : vk_R RX10 200 "wheel" w362 s := vw362
        have tw362 : STA A w362 5 (fun j9 => ([119, 104, 101, 101, 108] : List Int32).getD j9 0) s s.heap := tw362
        refine va_ldcS hx hb hown vw362 dX10_readNext_72 ?_
        refine ro_V (As := [.ref w362]) (rest := []) S (m_X10_is l D k a st sl   w362 5 (fun j9 => ([119, 104, 101, 101, 108] : List Int32).getD j9 0) _  hB (by decide) ) lkX10_150 ok_X10_is ⟨rfl, rfl, Nat.le_of_ble_eq_true rfl, Nat.le_of_ble_eq_true rfl⟩ (px_V (ci := 10) (q0 := 0) nice_NSW hK hN rfl mw_0 hP (hD.weaken (fun _ _ _ _ => trivial)) (show NSW w362 5 (fun j9 => ([119, 104, 101, 101, 108] : List Int32).getD j9 0) A s s.heap from ⟨hX, tw362⟩) hS (px_free hD hS hA)) rfl hl.1 rfl (Nat.le_of_ble_eq_true rfl) ⟨Nat.zero_le _, Nat.zero_le _⟩ dX10_readNext_74 (fun r363 er363 => ?_)
        rcases er363 with ⟨rfl, g9⟩ | ⟨rfl, g9⟩
        · skip
          have g364 := g9
          have k365 := g364
          refine lv_if_eq (tgt := 96) hx hb dX10_readNext_77 (by decide) (fun c366 => ?_) (fun c366 => ?_)
          · first | exact absurd c366 (by decide) | exact absurd (by decide) c366
          refine lv_aload_n hx hb dX10_readNext_80 rfl (lv_at hl 1 rfl) ?_
          refine va_get (D := D) (ci := 10) (v := .ref (a 6)) (C := RX10) (T := TX10) (N := 38) hx hb hT in_X10 hown hK hP 0 mw_0 rfl 14 (by decide) (hT _ t1276) (fun _ h9 => h9) rfl dX10_readNext_81 ?_
          refine lv_iconst (v := 3) hx hb dX10_readNext_84 (by decide) ?_
          refine va_iald hx hb hK hP 6 0 mw_6 rfl (by unfold vp_in; decide) dX10_readNext_85 ?_
          refine k_top (y := (st 6 3)) rfl ?_
          have h367 : Iv 0 8 (st 6 3) := (tok_at (rm_6 hB).1 3 0 8 (by decide) (by decide) (by decide))
          refine lv_bipush (v := 8) hx hb dX10_readNext_86 (by decide) ?_
          refine lv_icmp_ne (tgt := 96) hx hb dX10_readNext_88 (by decide) (fun c368 => ?_) (fun c368 => ?_)
          · skip
            have h369 : Iv 0 7 (st 6 3) := ne_hi h367 (show ¬ (st 6 3) = 8 from c368) (by decide) (by decide)
            refine lv_aload_n hx hb dX10_readNext_96 rfl (lv_at hl 1 rfl) ?_
            obtain ⟨w370, vw370, tw370⟩ := hX.2 _ (List.mem_of_getElem? (l := LIT) (i := 19) rfl)
            have vw370 : vk_R RX10 202 "cart" w370 s := vw370
            have tw370 : STA A w370 4 (fun j9 => ([99, 97, 114, 116] : List Int32).getD j9 0) s s.heap := tw370
            refine va_ldcS hx hb hown vw370 dX10_readNext_97 ?_
            refine ro_V (As := [.ref w370]) (rest := []) S (m_X10_is l D k a st sl   w370 4 (fun j9 => ([99, 97, 114, 116] : List Int32).getD j9 0) _  hB (by decide) ) lkX10_150 ok_X10_is ⟨rfl, rfl, Nat.le_of_ble_eq_true rfl, Nat.le_of_ble_eq_true rfl⟩ (px_V (ci := 10) (q0 := 0) nice_NSW hK hN rfl mw_0 hP (hD.weaken (fun _ _ _ _ => trivial)) (show NSW w370 4 (fun j9 => ([99, 97, 114, 116] : List Int32).getD j9 0) A s s.heap from ⟨hX, tw370⟩) hS (px_free hD hS hA)) rfl hl.1 rfl (Nat.le_of_ble_eq_true rfl) ⟨Nat.zero_le _, Nat.zero_le _⟩ dX10_readNext_99 (fun r371 er371 => ?_)
            rcases er371 with ⟨rfl, g9⟩ | ⟨rfl, g9⟩
            · skip
              have g372 := g9
              have k373 := g372
              refine lv_if_eq (tgt := 115) hx hb dX10_readNext_102 (by decide) (fun c374 => ?_) (fun c374 => ?_)
              · first | exact absurd c374 (by decide) | exact absurd (by decide) c374
              refine lv_aload_n hx hb dX10_readNext_105 rfl (lv_at hl 1 rfl) ?_
              refine va_get (D := D) (ci := 10) (v := .ref (a 6)) (C := RX10) (T := TX10) (N := 38) hx hb hT in_X10 hown hK hP 0 mw_0 rfl 14 (by decide) (hT _ t1276) (fun _ h9 => h9) rfl dX10_readNext_106 ?_
              refine lv_iconst (v := 4) hx hb dX10_readNext_109 (by decide) ?_
              refine va_iald hx hb hK hP 6 0 mw_6 rfl (by unfold vp_in; decide) dX10_readNext_110 ?_
              refine k_top (y := (st 6 4)) rfl ?_
              have h375 : Iv 0 3 (st 6 4) := (tok_at (rm_6 hB).1 4 0 3 (by decide) (by decide) (by decide))
              refine lv_iconst (v := 3) hx hb dX10_readNext_111 (by decide) ?_
              refine lv_icmp_eq (tgt := 135) hx hb dX10_readNext_112 (by decide) (fun c376 => ?_) (fun c376 => ?_)
              · skip
                have h377 : Iv 3 3 (st 6 4) := eq_l c376 (iv_c (by decide) : Iv 3 3 3)
                refine lv_aload_n hx hb dX10_readNext_135 rfl (lv_at hl 1 rfl) ?_
                refine lv_iconst (v := 3) hx hb dX10_readNext_136 (by decide) ?_
                refine ca_v hP hD hS hA (fun hDc => run_V (mc := 0) (ms := 0) (As := [.int 3]) (rest := []) S (m_X10_errs l D k a st sl  3 _  hB (iv_mono (c := 1) (d := 3) (iv_c (by decide) : Iv 3 3 3) (by decide) (by decide)) ) lkX10_160 ok_X10_errs ⟨rfl, rfl, Nat.le_of_ble_eq_true rfl, Nat.le_of_ble_eq_true rfl⟩ (pw_V (ci := 10) (q0 := 0) hK hN rfl mw_0 hP hDc) rfl hl.1 rfl (Nat.le_of_ble_eq_true rfl) ⟨Nat.zero_le _, Nat.zero_le _⟩ dX10_readNext_137) (fun s378 H9 locs9 hs378 hP9 hD9 hS9 => ?_)
                clear hP hD hS
                have hS := hS9
                have hP := hP9
                have hD := hD9
                clear hP9 hD9 hS9
                obtain ⟨hBs378, gs378, qs378_0, qs378_1, qs378_2, qs378_3, qs378_4, qs378_5, qs378_6, qs378_7, qs378_8, qs378_9, qs378_10, qs378_11, qs378_12, qs378_13, qs378_14, fs378⟩ := hs378
                have hFs378 : FR [0, 6] st s378 := fr_ca fr_rf gs378 (sub_1 (List.mem_of_getElem? (i := 0) rfl) sub_0)
                have k380 := fs378
                refine lv_aload_n hx hb dX10_readNext_140 rfl (lv_at hl 1 rfl) ?_
                refine ro_V (As := []) (rest := []) S (m_X10_good l D k a s378 sl   _  hBs378  ) lkX10_136 ok_X10_good ⟨rfl, rfl, Nat.le_of_ble_eq_true rfl, Nat.le_of_ble_eq_true rfl⟩ (pw_V (ci := 10) (q0 := 0) hK hN rfl mw_0 hP (hD.weaken (fun _ _ _ _ => trivial))) rfl hl.1 rfl (Nat.le_of_ble_eq_true rfl) ⟨Nat.zero_le _, Nat.zero_le _⟩ dX10_readNext_141 (fun r381 er381 => ?_)
                rcases er381 with ⟨rfl, g9⟩ | ⟨rfl, g9⟩
                · skip
                  have g382 := g9
                  have k383 := g382
                  exact absurd k383 k380
                · skip
                  have g384 := g9
                  have k385 := g384
                  refine lv_if_ne (tgt := 148) hx hb dX10_readNext_144 (by decide) (fun c386 => ?_) (fun c386 => ?_)
                  · first | exact absurd c386 (by decide) | exact absurd (by decide) c386
                  rw [hQ]
                  exact W.vret hx hb hr (fun t ht hW => ⟨⟨s378, rfl, ⟨hBs378, hFs378, qs378_0, qs378_1, qs378_2, qs378_7, qs378_8, qs378_9, qs378_10, qs378_11, qs378_12, qs378_13, qs378_14, ⟨(fun z9 => absurd z9 k385), (show (st 0 8).toInt ≤ (s378 0 8).toInt from by rw [qs378_3]; exact Int.le_refl _)⟩⟩, by rw [ht]; exact hP, va_K.moved hW.alike (hK.sub (tys' := []) [] rfl), by rw [hAe]; exact hD⟩, by rw [hAe]; exact hS.F ht⟩) hS.2.2 dX10_readNext_147
              · skip
                have h387 : Iv 0 2 (st 6 4) := ne_hi h375 c376 (by decide) (by decide)
                refine lv_aload_n hx hb dX10_readNext_115 rfl (lv_at hl 1 rfl) ?_
                obtain ⟨w388, vw388, tw388⟩ := hX.2 _ (List.mem_of_getElem? (l := LIT) (i := 20) rfl)
                have vw388 : vk_R RX10 204 "errand" w388 s := vw388
                have tw388 : STA A w388 6 (fun j9 => ([101, 114, 114, 97, 110, 100] : List Int32).getD j9 0) s s.heap := tw388
                refine va_ldcS hx hb hown vw388 dX10_readNext_116 ?_
                refine ro_V (As := [.ref w388]) (rest := []) S (m_X10_is l D k a st sl   w388 6 (fun j9 => ([101, 114, 114, 97, 110, 100] : List Int32).getD j9 0) _  hB (by decide) ) lkX10_150 ok_X10_is ⟨rfl, rfl, Nat.le_of_ble_eq_true rfl, Nat.le_of_ble_eq_true rfl⟩ (px_V (ci := 10) (q0 := 0) nice_NSW hK hN rfl mw_0 hP (hD.weaken (fun _ _ _ _ => trivial)) (show NSW w388 6 (fun j9 => ([101, 114, 114, 97, 110, 100] : List Int32).getD j9 0) A s s.heap from ⟨hX, tw388⟩) hS (px_free hD hS hA)) rfl hl.1 rfl (Nat.le_of_ble_eq_true rfl) ⟨Nat.zero_le _, Nat.zero_le _⟩ dX10_readNext_118 (fun r389 er389 => ?_)
                rcases er389 with ⟨rfl, g9⟩ | ⟨rfl, g9⟩
                · skip
                  have g390 := g9
                  have k391 := g390
                  refine lv_if_eq (tgt := 140) hx hb dX10_readNext_121 (by decide) (fun c392 => ?_) (fun c392 => ?_)
                  · first | exact absurd c392 (by decide) | exact absurd (by decide) c392
                  refine lv_aload_n hx hb dX10_readNext_124 rfl (lv_at hl 1 rfl) ?_
                  refine va_get (D := D) (ci := 10) (v := .ref (a 6)) (C := RX10) (T := TX10) (N := 38) hx hb hT in_X10 hown hK hP 0 mw_0 rfl 14 (by decide) (hT _ t1276) (fun _ h9 => h9) rfl dX10_readNext_125 ?_
                  refine lv_iconst (v := 5) hx hb dX10_readNext_128 (by decide) ?_
                  refine va_iald hx hb hK hP 6 0 mw_6 rfl (by unfold vp_in; decide) dX10_readNext_129 ?_
                  refine k_top (y := (st 6 5)) rfl ?_
                  have h393 : Iv 0 6 (st 6 5) := (tok_at (rm_6 hB).1 5 0 6 (by decide) (by decide) (by decide))
                  refine lv_bipush (v := 6) hx hb dX10_readNext_130 (by decide) ?_
                  refine lv_icmp_ne (tgt := 140) hx hb dX10_readNext_132 (by decide) (fun c394 => ?_) (fun c394 => ?_)
                  · skip
                    have h395 : Iv 0 5 (st 6 5) := ne_hi h393 (show ¬ (st 6 5) = 6 from c394) (by decide) (by decide)
                    refine lv_aload_n hx hb dX10_readNext_140 rfl (lv_at hl 1 rfl) ?_
                    refine ro_V (As := []) (rest := []) S (m_X10_good l D k a st sl   _  hB  ) lkX10_136 ok_X10_good ⟨rfl, rfl, Nat.le_of_ble_eq_true rfl, Nat.le_of_ble_eq_true rfl⟩ (pw_V (ci := 10) (q0 := 0) hK hN rfl mw_0 hP (hD.weaken (fun _ _ _ _ => trivial))) rfl hl.1 rfl (Nat.le_of_ble_eq_true rfl) ⟨Nat.zero_le _, Nat.zero_le _⟩ dX10_readNext_141 (fun r396 er396 => ?_)
                    rcases er396 with ⟨rfl, g9⟩ | ⟨rfl, g9⟩
                    · skip
                      have g397 := g9
                      have k398 := g397
                      refine lv_if_ne (tgt := 148) hx hb dX10_readNext_144 (by decide) (fun c399 => ?_) (fun c399 => ?_)
                      rotate_left
                      · first | exact absurd c399 (by decide) | exact absurd (by decide) c399
                      refine lv_aload_n hx hb dX10_readNext_148 rfl (lv_at hl 1 rfl) ?_
                      obtain ⟨w400, vw400, tw400⟩ := hX.2 _ (List.mem_of_getElem? (l := LIT) (i := 17) rfl)
                      have vw400 : vk_R RX10 198 "road" w400 s := vw400
                      have tw400 : STA A w400 4 (fun j9 => ([114, 111, 97, 100] : List Int32).getD j9 0) s s.heap := tw400
                      refine va_ldcS hx hb hown vw400 dX10_readNext_149 ?_
                      refine ca_i hP hD hS hA (fun hDc => run_V (mc := 0) (ms := 0) (As := [.ref w400]) (rest := []) S (m_X10_takes l D k a st sl   w400 4 (fun j9 => ([114, 111, 97, 100] : List Int32).getD j9 0) _  hB (by decide) ) lkX10_157 ok_X10_takes ⟨rfl, rfl, Nat.le_of_ble_eq_true rfl, Nat.le_of_ble_eq_true rfl⟩ (px_V (ci := 10) (q0 := 0) nice_NSW hK hN rfl mw_0 hP hDc (show NSW w400 4 (fun j9 => ([114, 111, 97, 100] : List Int32).getD j9 0) A s s.heap from ⟨hX, tw400⟩) hS (px_free hD hS hA)) rfl hl.1 rfl (Nat.le_of_ble_eq_true rfl) ⟨Nat.zero_le _, Nat.zero_le _⟩ dX10_readNext_151) (fun r402 s401 H9 locs9 hs401 hP9 hD9 hS9 => ?_)
                      clear hP hD hS
                      have hS := hS9
                      have hP := hP9
                      have hD := hD9
                      clear hP9 hD9 hS9
                      obtain ⟨hBs401, gs401, qs401_0, qs401_1, qs401_2, qs401_3, qs401_4, qs401_5, qs401_6, qs401_7, qs401_8, qs401_9, qs401_10, qs401_11, qs401_12, fs401⟩ := hs401
                      have hFs401 : FR [0, 6] st s401 := fr_ca fr_rf gs401 (sub_1 (List.mem_of_getElem? (i := 0) rfl) sub_0)
                      rcases fs401 with ⟨rfl, g9⟩ | ⟨rfl, g9⟩
                      · skip
                        have g403 := g9
                        have k404 := g403
                        exact absurd k404.1 k347
                      · skip
                        have g405 := g9
                        have k406 := g405
                        refine lv_if_eq (tgt := 164) hx hb dX10_readNext_154 (by decide) (fun c407 => ?_) (fun c407 => ?_)
                        rotate_left
                        · first | exact absurd c407 (by decide) | exact absurd (by decide) c407
                        refine lv_aload_n hx hb dX10_readNext_164 rfl (lv_at hl 1 rfl) ?_
                        obtain ⟨w408, vw408, tw408⟩ := hX.2 _ (List.mem_of_getElem? (l := LIT) (i := 18) rfl)
                        have vw408 : vk_R RX10 200 "wheel" w408 s := vw408
                        have tw408 : STA A w408 5 (fun j9 => ([119, 104, 101, 101, 108] : List Int32).getD j9 0) s s.heap := tw408
                        refine va_ldcS hx hb hown vw408 dX10_readNext_165 ?_
                        refine ca_i hP hD hS hA (fun hDc => run_V (mc := 0) (ms := 0) (As := [.ref w408]) (rest := []) S (m_X10_takes l D k a s401 sl   w408 5 (fun j9 => ([119, 104, 101, 101, 108] : List Int32).getD j9 0) _  hBs401 (by decide) ) lkX10_157 ok_X10_takes ⟨rfl, rfl, Nat.le_of_ble_eq_true rfl, Nat.le_of_ble_eq_true rfl⟩ (px_V (ci := 10) (q0 := 0) nice_NSW hK hN rfl mw_0 hP hDc (show NSW w408 5 (fun j9 => ([119, 104, 101, 101, 108] : List Int32).getD j9 0) A s s.heap from ⟨hX, tw408⟩) hS (px_free hD hS hA)) rfl hl.1 rfl (Nat.le_of_ble_eq_true rfl) ⟨Nat.zero_le _, Nat.zero_le _⟩ dX10_readNext_167) (fun r410 s409 H9 locs9 hs409 hP9 hD9 hS9 => ?_)
                        clear hP hD hS
                        have hS := hS9
                        have hP := hP9
                        have hD := hD9
                        clear hP9 hD9 hS9
                        obtain ⟨hBs409, gs409, qs409_0, qs409_1, qs409_2, qs409_3, qs409_4, qs409_5, qs409_6, qs409_7, qs409_8, qs409_9, qs409_10, qs409_11, qs409_12, fs409⟩ := hs409
                        have hFs409 : FR [0, 6] st s409 := fr_ca hFs401 gs409 (sub_1 (List.mem_of_getElem? (i := 0) rfl) sub_0)
                        rcases fs409 with ⟨rfl, g9⟩ | ⟨rfl, g9⟩
                        · skip
                          have g411 := g9
                          have k412 := g411
                          refine lv_if_eq (tgt := 180) hx hb dX10_readNext_170 (by decide) (fun c413 => ?_) (fun c413 => ?_)
                          · first | exact absurd c413 (by decide) | exact absurd (by decide) c413
                          refine lv_aload_n hx hb dX10_readNext_173 rfl (lv_at hl 1 rfl) ?_
                          refine ca_v hP hD hS hA (fun hDc => run_V (mc := 0) (ms := 0) (As := []) (rest := []) S (m_X10_readWheel l D k a s409 sl   _  hBs409  (eq_l (Eq.trans (congrFun (gs409 6 (nm_1 (by decide) nm_0)) 3) (congrFun (gs401 6 (nm_1 (by decide) nm_0)) 3)) h369)) lkX10_209 ok_X10_readWheel ⟨rfl, rfl, Nat.le_of_ble_eq_true rfl, Nat.le_of_ble_eq_true rfl⟩ (px_V (ci := 10) (q0 := 0) nice_NS hK hN rfl mw_0 hP hDc hX hS (px_free hD hS hA)) rfl hl.1 rfl (Nat.le_of_ble_eq_true rfl) ⟨Nat.zero_le _, Nat.zero_le _⟩ dX10_readNext_174) (fun s414 H9 locs9 hs414 hP9 hD9 hS9 => ?_)
                          clear hP hD hS
                          have hS := hS9
                          have hP := hP9
                          have hD := hD9
                          clear hP9 hD9 hS9
                          obtain ⟨hBs414, gs414, qs414_0, qs414_1, qs414_2, qs414_3, qs414_4, qs414_5, qs414_6, qs414_7, qs414_8, qs414_9, qs414_10, fs414⟩ := hs414
                          have hFs414 : FR [0, 6] st s414 := fr_ca hFs409 gs414 (sub_1 (List.mem_of_getElem? (i := 0) rfl) (sub_1 (List.mem_of_getElem? (i := 1) rfl) sub_0))
                          have k416 := fs414
                          refine lv_goto (tgt := 204) hx hb dX10_readNext_177 (by decide) ?_
                          rw [hQ]
                          exact W.vret hx hb hr (fun t ht hW => ⟨⟨s414, rfl, ⟨hBs414, hFs414, (Eq.trans qs414_0 (Eq.trans qs409_0 qs401_0)), (Eq.trans qs414_1 (Eq.trans qs409_1 qs401_1)), (Eq.trans qs414_2 (Eq.trans qs409_2 qs401_2)), (Eq.trans qs414_3 (Eq.trans qs409_5 qs401_5)), (Eq.trans qs414_4 (Eq.trans qs409_6 qs401_6)), (Eq.trans qs414_5 (Eq.trans qs409_7 qs401_7)), (Eq.trans qs414_6 (Eq.trans qs409_8 qs401_8)), (Eq.trans qs414_7 (Eq.trans qs409_9 qs401_9)), (Eq.trans qs414_8 (Eq.trans qs409_10 qs401_10)), (Eq.trans qs414_9 (Eq.trans qs409_11 qs401_11)), (Eq.trans qs414_10 (Eq.trans qs409_12 qs401_12)), ⟨(fun _ => k398), (Int.le_trans (show (st 0 8).toInt ≤ (s401 0 8).toInt from by rw [k406.2]; exact Int.le_refl _) (Int.le_trans k412.2.1 k416.2))⟩⟩, by rw [ht]; exact hP, va_K.moved hW.alike (hK.sub (tys' := []) [] rfl), by rw [hAe]; exact hD⟩, by rw [hAe]; exact hS.F ht⟩) hS.2.2 dX10_readNext_204
                        · skip
                          have g417 := g9
                          have k418 := g417
                          exact absurd (isw_fr1 k406.2 (gs401 4 (nm_1 (by decide) nm_0)) k352) k418.1
                    · skip
                      have g419 := g9
                      have k420 := g419
                      refine lv_if_ne (tgt := 148) hx hb dX10_readNext_144 (by decide) (fun c421 => ?_) (fun c421 => ?_)
                      · first | exact absurd c421 (by decide) | exact absurd (by decide) c421
                      rw [hQ]
                      exact W.vret hx hb hr (fun t ht hW => ⟨⟨st, rfl, ⟨hB, fr_rf, rfl, rfl, rfl, rfl, rfl, rfl, rfl, rfl, rfl, rfl, rfl, ⟨(fun z9 => absurd z9 k420), (Int.le_refl _)⟩⟩, by rw [ht]; exact hP, va_K.moved hW.alike (hK.sub (tys' := []) [] rfl), by rw [hAe]; exact hD⟩, by rw [hAe]; exact hS.F ht⟩) hS.2.2 dX10_readNext_147
                  · skip
                    have h422 : Iv 6 6 (st 6 5) := eq_l c394 (iv_c (by decide) : Iv 6 6 6)
                    refine lv_aload_n hx hb dX10_readNext_135 rfl (lv_at hl 1 rfl) ?_
                    refine lv_iconst (v := 3) hx hb dX10_readNext_136 (by decide) ?_
                    refine ca_v hP hD hS hA (fun hDc => run_V (mc := 0) (ms := 0) (As := [.int 3]) (rest := []) S (m_X10_errs l D k a st sl  3 _  hB (iv_mono (c := 1) (d := 3) (iv_c (by decide) : Iv 3 3 3) (by decide) (by decide)) ) lkX10_160 ok_X10_errs ⟨rfl, rfl, Nat.le_of_ble_eq_true rfl, Nat.le_of_ble_eq_true rfl⟩ (pw_V (ci := 10) (q0 := 0) hK hN rfl mw_0 hP hDc) rfl hl.1 rfl (Nat.le_of_ble_eq_true rfl) ⟨Nat.zero_le _, Nat.zero_le _⟩ dX10_readNext_137) (fun s423 H9 locs9 hs423 hP9 hD9 hS9 => ?_)
                    clear hP hD hS
                    have hS := hS9
                    have hP := hP9
                    have hD := hD9
                    clear hP9 hD9 hS9
                    obtain ⟨hBs423, gs423, qs423_0, qs423_1, qs423_2, qs423_3, qs423_4, qs423_5, qs423_6, qs423_7, qs423_8, qs423_9, qs423_10, qs423_11, qs423_12, qs423_13, qs423_14, fs423⟩ := hs423
                    have hFs423 : FR [0, 6] st s423 := fr_ca fr_rf gs423 (sub_1 (List.mem_of_getElem? (i := 0) rfl) sub_0)
                    have k425 := fs423
                    refine lv_aload_n hx hb dX10_readNext_140 rfl (lv_at hl 1 rfl) ?_
                    refine ro_V (As := []) (rest := []) S (m_X10_good l D k a s423 sl   _  hBs423  ) lkX10_136 ok_X10_good ⟨rfl, rfl, Nat.le_of_ble_eq_true rfl, Nat.le_of_ble_eq_true rfl⟩ (pw_V (ci := 10) (q0 := 0) hK hN rfl mw_0 hP (hD.weaken (fun _ _ _ _ => trivial))) rfl hl.1 rfl (Nat.le_of_ble_eq_true rfl) ⟨Nat.zero_le _, Nat.zero_le _⟩ dX10_readNext_141 (fun r426 er426 => ?_)
                    rcases er426 with ⟨rfl, g9⟩ | ⟨rfl, g9⟩
                    · skip
                      have g427 := g9
                      have k428 := g427
                      exact absurd k428 k425
                    · skip
                      have g429 := g9
                      have k430 := g429
                      refine lv_if_ne (tgt := 148) hx hb dX10_readNext_144 (by decide) (fun c431 => ?_) (fun c431 => ?_)
                      · first | exact absurd c431 (by decide) | exact absurd (by decide) c431
                      rw [hQ]
                      exact W.vret hx hb hr (fun t ht hW => ⟨⟨s423, rfl, ⟨hBs423, hFs423, qs423_0, qs423_1, qs423_2, qs423_7, qs423_8, qs423_9, qs423_10, qs423_11, qs423_12, qs423_13, qs423_14, ⟨(fun z9 => absurd z9 k430), (show (st 0 8).toInt ≤ (s423 0 8).toInt from by rw [qs423_3]; exact Int.le_refl _)⟩⟩, by rw [ht]; exact hP, va_K.moved hW.alike (hK.sub (tys' := []) [] rfl), by rw [hAe]; exact hD⟩, by rw [hAe]; exact hS.F ht⟩) hS.2.2 dX10_readNext_147
                · skip
                  have g432 := g9
                  have k433 := g432
                  refine lv_if_eq (tgt := 140) hx hb dX10_readNext_121 (by decide) (fun c434 => ?_) (fun c434 => ?_)
                  rotate_left
                  · first | exact absurd c434 (by decide) | exact absurd (by decide) c434
                  refine lv_aload_n hx hb dX10_readNext_140 rfl (lv_at hl 1 rfl) ?_
                  refine ro_V (As := []) (rest := []) S (m_X10_good l D k a st sl   _  hB  ) lkX10_136 ok_X10_good ⟨rfl, rfl, Nat.le_of_ble_eq_true rfl, Nat.le_of_ble_eq_true rfl⟩ (pw_V (ci := 10) (q0 := 0) hK hN rfl mw_0 hP (hD.weaken (fun _ _ _ _ => trivial))) rfl hl.1 rfl (Nat.le_of_ble_eq_true rfl) ⟨Nat.zero_le _, Nat.zero_le _⟩ dX10_readNext_141 (fun r435 er435 => ?_)
                  rcases er435 with ⟨rfl, g9⟩ | ⟨rfl, g9⟩
                  · skip
                    have g436 := g9
                    have k437 := g436
                    refine lv_if_ne (tgt := 148) hx hb dX10_readNext_144 (by decide) (fun c438 => ?_) (fun c438 => ?_)
                    rotate_left
                    · first | exact absurd c438 (by decide) | exact absurd (by decide) c438
                    refine lv_aload_n hx hb dX10_readNext_148 rfl (lv_at hl 1 rfl) ?_
                    obtain ⟨w439, vw439, tw439⟩ := hX.2 _ (List.mem_of_getElem? (l := LIT) (i := 17) rfl)
                    have vw439 : vk_R RX10 198 "road" w439 s := vw439
                    have tw439 : STA A w439 4 (fun j9 => ([114, 111, 97, 100] : List Int32).getD j9 0) s s.heap := tw439
                    refine va_ldcS hx hb hown vw439 dX10_readNext_149 ?_
                    refine ca_i hP hD hS hA (fun hDc => run_V (mc := 0) (ms := 0) (As := [.ref w439]) (rest := []) S (m_X10_takes l D k a st sl   w439 4 (fun j9 => ([114, 111, 97, 100] : List Int32).getD j9 0) _  hB (by decide) ) lkX10_157 ok_X10_takes ⟨rfl, rfl, Nat.le_of_ble_eq_true rfl, Nat.le_of_ble_eq_true rfl⟩ (px_V (ci := 10) (q0 := 0) nice_NSW hK hN rfl mw_0 hP hDc (show NSW w439 4 (fun j9 => ([114, 111, 97, 100] : List Int32).getD j9 0) A s s.heap from ⟨hX, tw439⟩) hS (px_free hD hS hA)) rfl hl.1 rfl (Nat.le_of_ble_eq_true rfl) ⟨Nat.zero_le _, Nat.zero_le _⟩ dX10_readNext_151) (fun r441 s440 H9 locs9 hs440 hP9 hD9 hS9 => ?_)
                    clear hP hD hS
                    have hS := hS9
                    have hP := hP9
                    have hD := hD9
                    clear hP9 hD9 hS9
                    obtain ⟨hBs440, gs440, qs440_0, qs440_1, qs440_2, qs440_3, qs440_4, qs440_5, qs440_6, qs440_7, qs440_8, qs440_9, qs440_10, qs440_11, qs440_12, fs440⟩ := hs440
                    have hFs440 : FR [0, 6] st s440 := fr_ca fr_rf gs440 (sub_1 (List.mem_of_getElem? (i := 0) rfl) sub_0)
                    rcases fs440 with ⟨rfl, g9⟩ | ⟨rfl, g9⟩
                    · skip
                      have g442 := g9
                      have k443 := g442
                      exact absurd k443.1 k347
                    · skip
                      have g444 := g9
                      have k445 := g444
                      refine lv_if_eq (tgt := 164) hx hb dX10_readNext_154 (by decide) (fun c446 => ?_) (fun c446 => ?_)
                      rotate_left
                      · first | exact absurd c446 (by decide) | exact absurd (by decide) c446
                      refine lv_aload_n hx hb dX10_readNext_164 rfl (lv_at hl 1 rfl) ?_
                      obtain ⟨w447, vw447, tw447⟩ := hX.2 _ (List.mem_of_getElem? (l := LIT) (i := 18) rfl)
                      have vw447 : vk_R RX10 200 "wheel" w447 s := vw447
                      have tw447 : STA A w447 5 (fun j9 => ([119, 104, 101, 101, 108] : List Int32).getD j9 0) s s.heap := tw447
                      refine va_ldcS hx hb hown vw447 dX10_readNext_165 ?_
                      refine ca_i hP hD hS hA (fun hDc => run_V (mc := 0) (ms := 0) (As := [.ref w447]) (rest := []) S (m_X10_takes l D k a s440 sl   w447 5 (fun j9 => ([119, 104, 101, 101, 108] : List Int32).getD j9 0) _  hBs440 (by decide) ) lkX10_157 ok_X10_takes ⟨rfl, rfl, Nat.le_of_ble_eq_true rfl, Nat.le_of_ble_eq_true rfl⟩ (px_V (ci := 10) (q0 := 0) nice_NSW hK hN rfl mw_0 hP hDc (show NSW w447 5 (fun j9 => ([119, 104, 101, 101, 108] : List Int32).getD j9 0) A s s.heap from ⟨hX, tw447⟩) hS (px_free hD hS hA)) rfl hl.1 rfl (Nat.le_of_ble_eq_true rfl) ⟨Nat.zero_le _, Nat.zero_le _⟩ dX10_readNext_167) (fun r449 s448 H9 locs9 hs448 hP9 hD9 hS9 => ?_)
                      clear hP hD hS
                      have hS := hS9
                      have hP := hP9
                      have hD := hD9
                      clear hP9 hD9 hS9
                      obtain ⟨hBs448, gs448, qs448_0, qs448_1, qs448_2, qs448_3, qs448_4, qs448_5, qs448_6, qs448_7, qs448_8, qs448_9, qs448_10, qs448_11, qs448_12, fs448⟩ := hs448
                      have hFs448 : FR [0, 6] st s448 := fr_ca hFs440 gs448 (sub_1 (List.mem_of_getElem? (i := 0) rfl) sub_0)
                      rcases fs448 with ⟨rfl, g9⟩ | ⟨rfl, g9⟩
                      · skip
                        have g450 := g9
                        have k451 := g450
                        refine lv_if_eq (tgt := 180) hx hb dX10_readNext_170 (by decide) (fun c452 => ?_) (fun c452 => ?_)
                        · first | exact absurd c452 (by decide) | exact absurd (by decide) c452
                        refine lv_aload_n hx hb dX10_readNext_173 rfl (lv_at hl 1 rfl) ?_
                        refine ca_v hP hD hS hA (fun hDc => run_V (mc := 0) (ms := 0) (As := []) (rest := []) S (m_X10_readWheel l D k a s448 sl   _  hBs448  (eq_l (Eq.trans (congrFun (gs448 6 (nm_1 (by decide) nm_0)) 3) (congrFun (gs440 6 (nm_1 (by decide) nm_0)) 3)) h369)) lkX10_209 ok_X10_readWheel ⟨rfl, rfl, Nat.le_of_ble_eq_true rfl, Nat.le_of_ble_eq_true rfl⟩ (px_V (ci := 10) (q0 := 0) nice_NS hK hN rfl mw_0 hP hDc hX hS (px_free hD hS hA)) rfl hl.1 rfl (Nat.le_of_ble_eq_true rfl) ⟨Nat.zero_le _, Nat.zero_le _⟩ dX10_readNext_174) (fun s453 H9 locs9 hs453 hP9 hD9 hS9 => ?_)
                        clear hP hD hS
                        have hS := hS9
                        have hP := hP9
                        have hD := hD9
                        clear hP9 hD9 hS9
                        obtain ⟨hBs453, gs453, qs453_0, qs453_1, qs453_2, qs453_3, qs453_4, qs453_5, qs453_6, qs453_7, qs453_8, qs453_9, qs453_10, fs453⟩ := hs453
                        have hFs453 : FR [0, 6] st s453 := fr_ca hFs448 gs453 (sub_1 (List.mem_of_getElem? (i := 0) rfl) (sub_1 (List.mem_of_getElem? (i := 1) rfl) sub_0))
                        have k455 := fs453
                        refine lv_goto (tgt := 204) hx hb dX10_readNext_177 (by decide) ?_
                        rw [hQ]
                        exact W.vret hx hb hr (fun t ht hW => ⟨⟨s453, rfl, ⟨hBs453, hFs453, (Eq.trans qs453_0 (Eq.trans qs448_0 qs440_0)), (Eq.trans qs453_1 (Eq.trans qs448_1 qs440_1)), (Eq.trans qs453_2 (Eq.trans qs448_2 qs440_2)), (Eq.trans qs453_3 (Eq.trans qs448_5 qs440_5)), (Eq.trans qs453_4 (Eq.trans qs448_6 qs440_6)), (Eq.trans qs453_5 (Eq.trans qs448_7 qs440_7)), (Eq.trans qs453_6 (Eq.trans qs448_8 qs440_8)), (Eq.trans qs453_7 (Eq.trans qs448_9 qs440_9)), (Eq.trans qs453_8 (Eq.trans qs448_10 qs440_10)), (Eq.trans qs453_9 (Eq.trans qs448_11 qs440_11)), (Eq.trans qs453_10 (Eq.trans qs448_12 qs440_12)), ⟨(fun _ => k437), (Int.le_trans (show (st 0 8).toInt ≤ (s440 0 8).toInt from by rw [k445.2]; exact Int.le_refl _) (Int.le_trans k451.2.1 k455.2))⟩⟩, by rw [ht]; exact hP, va_K.moved hW.alike (hK.sub (tys' := []) [] rfl), by rw [hAe]; exact hD⟩, by rw [hAe]; exact hS.F ht⟩) hS.2.2 dX10_readNext_204
                      · skip
                        have g456 := g9
                        have k457 := g456
                        exact absurd (isw_fr1 k445.2 (gs440 4 (nm_1 (by decide) nm_0)) k352) k457.1
                  · skip
                    have g458 := g9
                    have k459 := g458
                    refine lv_if_ne (tgt := 148) hx hb dX10_readNext_144 (by decide) (fun c460 => ?_) (fun c460 => ?_)
                    · first | exact absurd c460 (by decide) | exact absurd (by decide) c460
                    rw [hQ]
                    exact W.vret hx hb hr (fun t ht hW => ⟨⟨st, rfl, ⟨hB, fr_rf, rfl, rfl, rfl, rfl, rfl, rfl, rfl, rfl, rfl, rfl, rfl, ⟨(fun z9 => absurd z9 k459), (Int.le_refl _)⟩⟩, by rw [ht]; exact hP, va_K.moved hW.alike (hK.sub (tys' := []) [] rfl), by rw [hAe]; exact hD⟩, by rw [hAe]; exact hS.F ht⟩) hS.2.2 dX10_readNext_147
            · skip
              have g461 := g9
              have k462 := g461
              refine lv_if_eq (tgt := 115) hx hb dX10_readNext_102 (by decide) (fun c463 => ?_) (fun c463 => ?_)
              rotate_left
              · first | exact absurd c463 (by decide) | exact absurd (by decide) c463
              refine lv_aload_n hx hb dX10_readNext_115 rfl (lv_at hl 1 rfl) ?_
              obtain ⟨w464, vw464, tw464⟩ := hX.2 _ (List.mem_of_getElem? (l := LIT) (i := 20) rfl)
              have vw464 : vk_R RX10 204 "errand" w464 s := vw464
              have tw464 : STA A w464 6 (fun j9 => ([101, 114, 114, 97, 110, 100] : List Int32).getD j9 0) s s.heap := tw464
              refine va_ldcS hx hb hown vw464 dX10_readNext_116 ?_
              refine ro_V (As := [.ref w464]) (rest := []) S (m_X10_is l D k a st sl   w464 6 (fun j9 => ([101, 114, 114, 97, 110, 100] : List Int32).getD j9 0) _  hB (by decide) ) lkX10_150 ok_X10_is ⟨rfl, rfl, Nat.le_of_ble_eq_true rfl, Nat.le_of_ble_eq_true rfl⟩ (px_V (ci := 10) (q0 := 0) nice_NSW hK hN rfl mw_0 hP (hD.weaken (fun _ _ _ _ => trivial)) (show NSW w464 6 (fun j9 => ([101, 114, 114, 97, 110, 100] : List Int32).getD j9 0) A s s.heap from ⟨hX, tw464⟩) hS (px_free hD hS hA)) rfl hl.1 rfl (Nat.le_of_ble_eq_true rfl) ⟨Nat.zero_le _, Nat.zero_le _⟩ dX10_readNext_118 (fun r465 er465 => ?_)
              rcases er465 with ⟨rfl, g9⟩ | ⟨rfl, g9⟩
              · skip
                have g466 := g9
                have k467 := g466
                refine lv_if_eq (tgt := 140) hx hb dX10_readNext_121 (by decide) (fun c468 => ?_) (fun c468 => ?_)
                · first | exact absurd c468 (by decide) | exact absurd (by decide) c468
                refine lv_aload_n hx hb dX10_readNext_124 rfl (lv_at hl 1 rfl) ?_
                refine va_get (D := D) (ci := 10) (v := .ref (a 6)) (C := RX10) (T := TX10) (N := 38) hx hb hT in_X10 hown hK hP 0 mw_0 rfl 14 (by decide) (hT _ t1276) (fun _ h9 => h9) rfl dX10_readNext_125 ?_
                refine lv_iconst (v := 5) hx hb dX10_readNext_128 (by decide) ?_
                refine va_iald hx hb hK hP 6 0 mw_6 rfl (by unfold vp_in; decide) dX10_readNext_129 ?_
                refine k_top (y := (st 6 5)) rfl ?_
                have h469 : Iv 0 6 (st 6 5) := (tok_at (rm_6 hB).1 5 0 6 (by decide) (by decide) (by decide))
                refine lv_bipush (v := 6) hx hb dX10_readNext_130 (by decide) ?_
                refine lv_icmp_ne (tgt := 140) hx hb dX10_readNext_132 (by decide) (fun c470 => ?_) (fun c470 => ?_)
                · skip
                  have h471 : Iv 0 5 (st 6 5) := ne_hi h469 (show ¬ (st 6 5) = 6 from c470) (by decide) (by decide)
                  refine lv_aload_n hx hb dX10_readNext_140 rfl (lv_at hl 1 rfl) ?_
                  refine ro_V (As := []) (rest := []) S (m_X10_good l D k a st sl   _  hB  ) lkX10_136 ok_X10_good ⟨rfl, rfl, Nat.le_of_ble_eq_true rfl, Nat.le_of_ble_eq_true rfl⟩ (pw_V (ci := 10) (q0 := 0) hK hN rfl mw_0 hP (hD.weaken (fun _ _ _ _ => trivial))) rfl hl.1 rfl (Nat.le_of_ble_eq_true rfl) ⟨Nat.zero_le _, Nat.zero_le _⟩ dX10_readNext_141 (fun r472 er472 => ?_)
                  rcases er472 with ⟨rfl, g9⟩ | ⟨rfl, g9⟩
                  · skip
                    have g473 := g9
                    have k474 := g473
                    refine lv_if_ne (tgt := 148) hx hb dX10_readNext_144 (by decide) (fun c475 => ?_) (fun c475 => ?_)
                    rotate_left
                    · first | exact absurd c475 (by decide) | exact absurd (by decide) c475
                    refine lv_aload_n hx hb dX10_readNext_148 rfl (lv_at hl 1 rfl) ?_
                    obtain ⟨w476, vw476, tw476⟩ := hX.2 _ (List.mem_of_getElem? (l := LIT) (i := 17) rfl)
                    have vw476 : vk_R RX10 198 "road" w476 s := vw476
                    have tw476 : STA A w476 4 (fun j9 => ([114, 111, 97, 100] : List Int32).getD j9 0) s s.heap := tw476
                    refine va_ldcS hx hb hown vw476 dX10_readNext_149 ?_
                    refine ca_i hP hD hS hA (fun hDc => run_V (mc := 0) (ms := 0) (As := [.ref w476]) (rest := []) S (m_X10_takes l D k a st sl   w476 4 (fun j9 => ([114, 111, 97, 100] : List Int32).getD j9 0) _  hB (by decide) ) lkX10_157 ok_X10_takes ⟨rfl, rfl, Nat.le_of_ble_eq_true rfl, Nat.le_of_ble_eq_true rfl⟩ (px_V (ci := 10) (q0 := 0) nice_NSW hK hN rfl mw_0 hP hDc (show NSW w476 4 (fun j9 => ([114, 111, 97, 100] : List Int32).getD j9 0) A s s.heap from ⟨hX, tw476⟩) hS (px_free hD hS hA)) rfl hl.1 rfl (Nat.le_of_ble_eq_true rfl) ⟨Nat.zero_le _, Nat.zero_le _⟩ dX10_readNext_151) (fun r478 s477 H9 locs9 hs477 hP9 hD9 hS9 => ?_)
                    clear hP hD hS
                    have hS := hS9
                    have hP := hP9
                    have hD := hD9
                    clear hP9 hD9 hS9
                    obtain ⟨hBs477, gs477, qs477_0, qs477_1, qs477_2, qs477_3, qs477_4, qs477_5, qs477_6, qs477_7, qs477_8, qs477_9, qs477_10, qs477_11, qs477_12, fs477⟩ := hs477
                    have hFs477 : FR [0, 6] st s477 := fr_ca fr_rf gs477 (sub_1 (List.mem_of_getElem? (i := 0) rfl) sub_0)
                    rcases fs477 with ⟨rfl, g9⟩ | ⟨rfl, g9⟩
                    · skip
                      have g479 := g9
                      have k480 := g479
                      exact absurd k480.1 k347
                    · skip
                      have g481 := g9
                      have k482 := g481
                      refine lv_if_eq (tgt := 164) hx hb dX10_readNext_154 (by decide) (fun c483 => ?_) (fun c483 => ?_)
                      rotate_left
                      · first | exact absurd c483 (by decide) | exact absurd (by decide) c483
                      refine lv_aload_n hx hb dX10_readNext_164 rfl (lv_at hl 1 rfl) ?_
                      obtain ⟨w484, vw484, tw484⟩ := hX.2 _ (List.mem_of_getElem? (l := LIT) (i := 18) rfl)
                      have vw484 : vk_R RX10 200 "wheel" w484 s := vw484
                      have tw484 : STA A w484 5 (fun j9 => ([119, 104, 101, 101, 108] : List Int32).getD j9 0) s s.heap := tw484
                      refine va_ldcS hx hb hown vw484 dX10_readNext_165 ?_
                      refine ca_i hP hD hS hA (fun hDc => run_V (mc := 0) (ms := 0) (As := [.ref w484]) (rest := []) S (m_X10_takes l D k a s477 sl   w484 5 (fun j9 => ([119, 104, 101, 101, 108] : List Int32).getD j9 0) _  hBs477 (by decide) ) lkX10_157 ok_X10_takes ⟨rfl, rfl, Nat.le_of_ble_eq_true rfl, Nat.le_of_ble_eq_true rfl⟩ (px_V (ci := 10) (q0 := 0) nice_NSW hK hN rfl mw_0 hP hDc (show NSW w484 5 (fun j9 => ([119, 104, 101, 101, 108] : List Int32).getD j9 0) A s s.heap from ⟨hX, tw484⟩) hS (px_free hD hS hA)) rfl hl.1 rfl (Nat.le_of_ble_eq_true rfl) ⟨Nat.zero_le _, Nat.zero_le _⟩ dX10_readNext_167) (fun r486 s485 H9 locs9 hs485 hP9 hD9 hS9 => ?_)
                      clear hP hD hS
                      have hS := hS9
                      have hP := hP9
                      have hD := hD9
                      clear hP9 hD9 hS9
                      obtain ⟨hBs485, gs485, qs485_0, qs485_1, qs485_2, qs485_3, qs485_4, qs485_5, qs485_6, qs485_7, qs485_8, qs485_9, qs485_10, qs485_11, qs485_12, fs485⟩ := hs485
                      have hFs485 : FR [0, 6] st s485 := fr_ca hFs477 gs485 (sub_1 (List.mem_of_getElem? (i := 0) rfl) sub_0)
                      rcases fs485 with ⟨rfl, g9⟩ | ⟨rfl, g9⟩
                      · skip
                        have g487 := g9
                        have k488 := g487
                        refine lv_if_eq (tgt := 180) hx hb dX10_readNext_170 (by decide) (fun c489 => ?_) (fun c489 => ?_)
                        · first | exact absurd c489 (by decide) | exact absurd (by decide) c489
                        refine lv_aload_n hx hb dX10_readNext_173 rfl (lv_at hl 1 rfl) ?_
                        refine ca_v hP hD hS hA (fun hDc => run_V (mc := 0) (ms := 0) (As := []) (rest := []) S (m_X10_readWheel l D k a s485 sl   _  hBs485  (eq_l (Eq.trans (congrFun (gs485 6 (nm_1 (by decide) nm_0)) 3) (congrFun (gs477 6 (nm_1 (by decide) nm_0)) 3)) h369)) lkX10_209 ok_X10_readWheel ⟨rfl, rfl, Nat.le_of_ble_eq_true rfl, Nat.le_of_ble_eq_true rfl⟩ (px_V (ci := 10) (q0 := 0) nice_NS hK hN rfl mw_0 hP hDc hX hS (px_free hD hS hA)) rfl hl.1 rfl (Nat.le_of_ble_eq_true rfl) ⟨Nat.zero_le _, Nat.zero_le _⟩ dX10_readNext_174) (fun s490 H9 locs9 hs490 hP9 hD9 hS9 => ?_)
                        clear hP hD hS
                        have hS := hS9
                        have hP := hP9
                        have hD := hD9
                        clear hP9 hD9 hS9
                        obtain ⟨hBs490, gs490, qs490_0, qs490_1, qs490_2, qs490_3, qs490_4, qs490_5, qs490_6, qs490_7, qs490_8, qs490_9, qs490_10, fs490⟩ := hs490
                        have hFs490 : FR [0, 6] st s490 := fr_ca hFs485 gs490 (sub_1 (List.mem_of_getElem? (i := 0) rfl) (sub_1 (List.mem_of_getElem? (i := 1) rfl) sub_0))
                        have k492 := fs490
                        refine lv_goto (tgt := 204) hx hb dX10_readNext_177 (by decide) ?_
                        rw [hQ]
                        exact W.vret hx hb hr (fun t ht hW => ⟨⟨s490, rfl, ⟨hBs490, hFs490, (Eq.trans qs490_0 (Eq.trans qs485_0 qs477_0)), (Eq.trans qs490_1 (Eq.trans qs485_1 qs477_1)), (Eq.trans qs490_2 (Eq.trans qs485_2 qs477_2)), (Eq.trans qs490_3 (Eq.trans qs485_5 qs477_5)), (Eq.trans qs490_4 (Eq.trans qs485_6 qs477_6)), (Eq.trans qs490_5 (Eq.trans qs485_7 qs477_7)), (Eq.trans qs490_6 (Eq.trans qs485_8 qs477_8)), (Eq.trans qs490_7 (Eq.trans qs485_9 qs477_9)), (Eq.trans qs490_8 (Eq.trans qs485_10 qs477_10)), (Eq.trans qs490_9 (Eq.trans qs485_11 qs477_11)), (Eq.trans qs490_10 (Eq.trans qs485_12 qs477_12)), ⟨(fun _ => k474), (Int.le_trans (show (st 0 8).toInt ≤ (s477 0 8).toInt from by rw [k482.2]; exact Int.le_refl _) (Int.le_trans k488.2.1 k492.2))⟩⟩, by rw [ht]; exact hP, va_K.moved hW.alike (hK.sub (tys' := []) [] rfl), by rw [hAe]; exact hD⟩, by rw [hAe]; exact hS.F ht⟩) hS.2.2 dX10_readNext_204
                      · skip
                        have g493 := g9
                        have k494 := g493
                        exact absurd (isw_fr1 k482.2 (gs477 4 (nm_1 (by decide) nm_0)) k352) k494.1
                  · skip
                    have g495 := g9
                    have k496 := g495
                    refine lv_if_ne (tgt := 148) hx hb dX10_readNext_144 (by decide) (fun c497 => ?_) (fun c497 => ?_)
                    · first | exact absurd c497 (by decide) | exact absurd (by decide) c497
                    rw [hQ]
                    exact W.vret hx hb hr (fun t ht hW => ⟨⟨st, rfl, ⟨hB, fr_rf, rfl, rfl, rfl, rfl, rfl, rfl, rfl, rfl, rfl, rfl, rfl, ⟨(fun z9 => absurd z9 k496), (Int.le_refl _)⟩⟩, by rw [ht]; exact hP, va_K.moved hW.alike (hK.sub (tys' := []) [] rfl), by rw [hAe]; exact hD⟩, by rw [hAe]; exact hS.F ht⟩) hS.2.2 dX10_readNext_147
                · skip
                  have h498 : Iv 6 6 (st 6 5) := eq_l c470 (iv_c (by decide) : Iv 6 6 6)
                  refine lv_aload_n hx hb dX10_readNext_135 rfl (lv_at hl 1 rfl) ?_
                  refine lv_iconst (v := 3) hx hb dX10_readNext_136 (by decide) ?_
                  refine ca_v hP hD hS hA (fun hDc => run_V (mc := 0) (ms := 0) (As := [.int 3]) (rest := []) S (m_X10_errs l D k a st sl  3 _  hB (iv_mono (c := 1) (d := 3) (iv_c (by decide) : Iv 3 3 3) (by decide) (by decide)) ) lkX10_160 ok_X10_errs ⟨rfl, rfl, Nat.le_of_ble_eq_true rfl, Nat.le_of_ble_eq_true rfl⟩ (pw_V (ci := 10) (q0 := 0) hK hN rfl mw_0 hP hDc) rfl hl.1 rfl (Nat.le_of_ble_eq_true rfl) ⟨Nat.zero_le _, Nat.zero_le _⟩ dX10_readNext_137) (fun s499 H9 locs9 hs499 hP9 hD9 hS9 => ?_)
                  clear hP hD hS
                  have hS := hS9
                  have hP := hP9
                  have hD := hD9
                  clear hP9 hD9 hS9
                  obtain ⟨hBs499, gs499, qs499_0, qs499_1, qs499_2, qs499_3, qs499_4, qs499_5, qs499_6, qs499_7, qs499_8, qs499_9, qs499_10, qs499_11, qs499_12, qs499_13, qs499_14, fs499⟩ := hs499
                  have hFs499 : FR [0, 6] st s499 := fr_ca fr_rf gs499 (sub_1 (List.mem_of_getElem? (i := 0) rfl) sub_0)
                  have k501 := fs499
                  refine lv_aload_n hx hb dX10_readNext_140 rfl (lv_at hl 1 rfl) ?_
                  refine ro_V (As := []) (rest := []) S (m_X10_good l D k a s499 sl   _  hBs499  ) lkX10_136 ok_X10_good ⟨rfl, rfl, Nat.le_of_ble_eq_true rfl, Nat.le_of_ble_eq_true rfl⟩ (pw_V (ci := 10) (q0 := 0) hK hN rfl mw_0 hP (hD.weaken (fun _ _ _ _ => trivial))) rfl hl.1 rfl (Nat.le_of_ble_eq_true rfl) ⟨Nat.zero_le _, Nat.zero_le _⟩ dX10_readNext_141 (fun r502 er502 => ?_)
                  rcases er502 with ⟨rfl, g9⟩ | ⟨rfl, g9⟩
                  · skip
                    have g503 := g9
                    have k504 := g503
                    exact absurd k504 k501
                  · skip
                    have g505 := g9
                    have k506 := g505
                    refine lv_if_ne (tgt := 148) hx hb dX10_readNext_144 (by decide) (fun c507 => ?_) (fun c507 => ?_)
                    · first | exact absurd c507 (by decide) | exact absurd (by decide) c507
                    rw [hQ]
                    exact W.vret hx hb hr (fun t ht hW => ⟨⟨s499, rfl, ⟨hBs499, hFs499, qs499_0, qs499_1, qs499_2, qs499_7, qs499_8, qs499_9, qs499_10, qs499_11, qs499_12, qs499_13, qs499_14, ⟨(fun z9 => absurd z9 k506), (show (st 0 8).toInt ≤ (s499 0 8).toInt from by rw [qs499_3]; exact Int.le_refl _)⟩⟩, by rw [ht]; exact hP, va_K.moved hW.alike (hK.sub (tys' := []) [] rfl), by rw [hAe]; exact hD⟩, by rw [hAe]; exact hS.F ht⟩) hS.2.2 dX10_readNext_147
              · skip
                have g508 := g9
                have k509 := g508
                refine lv_if_eq (tgt := 140) hx hb dX10_readNext_121 (by decide) (fun c510 => ?_) (fun c510 => ?_)
                rotate_left
                · first | exact absurd c510 (by decide) | exact absurd (by decide) c510
                refine lv_aload_n hx hb dX10_readNext_140 rfl (lv_at hl 1 rfl) ?_
                refine ro_V (As := []) (rest := []) S (m_X10_good l D k a st sl   _  hB  ) lkX10_136 ok_X10_good ⟨rfl, rfl, Nat.le_of_ble_eq_true rfl, Nat.le_of_ble_eq_true rfl⟩ (pw_V (ci := 10) (q0 := 0) hK hN rfl mw_0 hP (hD.weaken (fun _ _ _ _ => trivial))) rfl hl.1 rfl (Nat.le_of_ble_eq_true rfl) ⟨Nat.zero_le _, Nat.zero_le _⟩ dX10_readNext_141 (fun r511 er511 => ?_)
                rcases er511 with ⟨rfl, g9⟩ | ⟨rfl, g9⟩
                · skip
                  have g512 := g9
                  have k513 := g512
                  refine lv_if_ne (tgt := 148) hx hb dX10_readNext_144 (by decide) (fun c514 => ?_) (fun c514 => ?_)
                  rotate_left
                  · first | exact absurd c514 (by decide) | exact absurd (by decide) c514
                  refine lv_aload_n hx hb dX10_readNext_148 rfl (lv_at hl 1 rfl) ?_
                  obtain ⟨w515, vw515, tw515⟩ := hX.2 _ (List.mem_of_getElem? (l := LIT) (i := 17) rfl)
                  have vw515 : vk_R RX10 198 "road" w515 s := vw515
                  have tw515 : STA A w515 4 (fun j9 => ([114, 111, 97, 100] : List Int32).getD j9 0) s s.heap := tw515
                  refine va_ldcS hx hb hown vw515 dX10_readNext_149 ?_
                  refine ca_i hP hD hS hA (fun hDc => run_V (mc := 0) (ms := 0) (As := [.ref w515]) (rest := []) S (m_X10_takes l D k a st sl   w515 4 (fun j9 => ([114, 111, 97, 100] : List Int32).getD j9 0) _  hB (by decide) ) lkX10_157 ok_X10_takes ⟨rfl, rfl, Nat.le_of_ble_eq_true rfl, Nat.le_of_ble_eq_true rfl⟩ (px_V (ci := 10) (q0 := 0) nice_NSW hK hN rfl mw_0 hP hDc (show NSW w515 4 (fun j9 => ([114, 111, 97, 100] : List Int32).getD j9 0) A s s.heap from ⟨hX, tw515⟩) hS (px_free hD hS hA)) rfl hl.1 rfl (Nat.le_of_ble_eq_true rfl) ⟨Nat.zero_le _, Nat.zero_le _⟩ dX10_readNext_151) (fun r517 s516 H9 locs9 hs516 hP9 hD9 hS9 => ?_)
                  clear hP hD hS
                  have hS := hS9
                  have hP := hP9
                  have hD := hD9
                  clear hP9 hD9 hS9
                  obtain ⟨hBs516, gs516, qs516_0, qs516_1, qs516_2, qs516_3, qs516_4, qs516_5, qs516_6, qs516_7, qs516_8, qs516_9, qs516_10, qs516_11, qs516_12, fs516⟩ := hs516
                  have hFs516 : FR [0, 6] st s516 := fr_ca fr_rf gs516 (sub_1 (List.mem_of_getElem? (i := 0) rfl) sub_0)
                  rcases fs516 with ⟨rfl, g9⟩ | ⟨rfl, g9⟩
                  · skip
                    have g518 := g9
                    have k519 := g518
                    exact absurd k519.1 k347
                  · skip
                    have g520 := g9
                    have k521 := g520
                    refine lv_if_eq (tgt := 164) hx hb dX10_readNext_154 (by decide) (fun c522 => ?_) (fun c522 => ?_)
                    rotate_left
                    · first | exact absurd c522 (by decide) | exact absurd (by decide) c522
                    refine lv_aload_n hx hb dX10_readNext_164 rfl (lv_at hl 1 rfl) ?_
                    obtain ⟨w523, vw523, tw523⟩ := hX.2 _ (List.mem_of_getElem? (l := LIT) (i := 18) rfl)
                    have vw523 : vk_R RX10 200 "wheel" w523 s := vw523
                    have tw523 : STA A w523 5 (fun j9 => ([119, 104, 101, 101, 108] : List Int32).getD j9 0) s s.heap := tw523
                    refine va_ldcS hx hb hown vw523 dX10_readNext_165 ?_
                    refine ca_i hP hD hS hA (fun hDc => run_V (mc := 0) (ms := 0) (As := [.ref w523]) (rest := []) S (m_X10_takes l D k a s516 sl   w523 5 (fun j9 => ([119, 104, 101, 101, 108] : List Int32).getD j9 0) _  hBs516 (by decide) ) lkX10_157 ok_X10_takes ⟨rfl, rfl, Nat.le_of_ble_eq_true rfl, Nat.le_of_ble_eq_true rfl⟩ (px_V (ci := 10) (q0 := 0) nice_NSW hK hN rfl mw_0 hP hDc (show NSW w523 5 (fun j9 => ([119, 104, 101, 101, 108] : List Int32).getD j9 0) A s s.heap from ⟨hX, tw523⟩) hS (px_free hD hS hA)) rfl hl.1 rfl (Nat.le_of_ble_eq_true rfl) ⟨Nat.zero_le _, Nat.zero_le _⟩ dX10_readNext_167) (fun r525 s524 H9 locs9 hs524 hP9 hD9 hS9 => ?_)
                    clear hP hD hS
                    have hS := hS9
                    have hP := hP9
                    have hD := hD9
                    clear hP9 hD9 hS9
                    obtain ⟨hBs524, gs524, qs524_0, qs524_1, qs524_2, qs524_3, qs524_4, qs524_5, qs524_6, qs524_7, qs524_8, qs524_9, qs524_10, qs524_11, qs524_12, fs524⟩ := hs524
                    have hFs524 : FR [0, 6] st s524 := fr_ca hFs516 gs524 (sub_1 (List.mem_of_getElem? (i := 0) rfl) sub_0)
                    rcases fs524 with ⟨rfl, g9⟩ | ⟨rfl, g9⟩
                    · skip
                      have g526 := g9
                      have k527 := g526
                      refine lv_if_eq (tgt := 180) hx hb dX10_readNext_170 (by decide) (fun c528 => ?_) (fun c528 => ?_)
                      · first | exact absurd c528 (by decide) | exact absurd (by decide) c528
                      refine lv_aload_n hx hb dX10_readNext_173 rfl (lv_at hl 1 rfl) ?_
                      refine ca_v hP hD hS hA (fun hDc => run_V (mc := 0) (ms := 0) (As := []) (rest := []) S (m_X10_readWheel l D k a s524 sl   _  hBs524  (eq_l (Eq.trans (congrFun (gs524 6 (nm_1 (by decide) nm_0)) 3) (congrFun (gs516 6 (nm_1 (by decide) nm_0)) 3)) h369)) lkX10_209 ok_X10_readWheel ⟨rfl, rfl, Nat.le_of_ble_eq_true rfl, Nat.le_of_ble_eq_true rfl⟩ (px_V (ci := 10) (q0 := 0) nice_NS hK hN rfl mw_0 hP hDc hX hS (px_free hD hS hA)) rfl hl.1 rfl (Nat.le_of_ble_eq_true rfl) ⟨Nat.zero_le _, Nat.zero_le _⟩ dX10_readNext_174) (fun s529 H9 locs9 hs529 hP9 hD9 hS9 => ?_)
                      clear hP hD hS
                      have hS := hS9
                      have hP := hP9
                      have hD := hD9
                      clear hP9 hD9 hS9
                      obtain ⟨hBs529, gs529, qs529_0, qs529_1, qs529_2, qs529_3, qs529_4, qs529_5, qs529_6, qs529_7, qs529_8, qs529_9, qs529_10, fs529⟩ := hs529
                      have hFs529 : FR [0, 6] st s529 := fr_ca hFs524 gs529 (sub_1 (List.mem_of_getElem? (i := 0) rfl) (sub_1 (List.mem_of_getElem? (i := 1) rfl) sub_0))
                      have k531 := fs529
                      refine lv_goto (tgt := 204) hx hb dX10_readNext_177 (by decide) ?_
                      rw [hQ]
                      exact W.vret hx hb hr (fun t ht hW => ⟨⟨s529, rfl, ⟨hBs529, hFs529, (Eq.trans qs529_0 (Eq.trans qs524_0 qs516_0)), (Eq.trans qs529_1 (Eq.trans qs524_1 qs516_1)), (Eq.trans qs529_2 (Eq.trans qs524_2 qs516_2)), (Eq.trans qs529_3 (Eq.trans qs524_5 qs516_5)), (Eq.trans qs529_4 (Eq.trans qs524_6 qs516_6)), (Eq.trans qs529_5 (Eq.trans qs524_7 qs516_7)), (Eq.trans qs529_6 (Eq.trans qs524_8 qs516_8)), (Eq.trans qs529_7 (Eq.trans qs524_9 qs516_9)), (Eq.trans qs529_8 (Eq.trans qs524_10 qs516_10)), (Eq.trans qs529_9 (Eq.trans qs524_11 qs516_11)), (Eq.trans qs529_10 (Eq.trans qs524_12 qs516_12)), ⟨(fun _ => k513), (Int.le_trans (show (st 0 8).toInt ≤ (s516 0 8).toInt from by rw [k521.2]; exact Int.le_refl _) (Int.le_trans k527.2.1 k531.2))⟩⟩, by rw [ht]; exact hP, va_K.moved hW.alike (hK.sub (tys' := []) [] rfl), by rw [hAe]; exact hD⟩, by rw [hAe]; exact hS.F ht⟩) hS.2.2 dX10_readNext_204
                    · skip
                      have g532 := g9
                      have k533 := g532
                      exact absurd (isw_fr1 k521.2 (gs516 4 (nm_1 (by decide) nm_0)) k352) k533.1
                · skip
                  have g534 := g9
                  have k535 := g534
                  refine lv_if_ne (tgt := 148) hx hb dX10_readNext_144 (by decide) (fun c536 => ?_) (fun c536 => ?_)
                  · first | exact absurd c536 (by decide) | exact absurd (by decide) c536
                  rw [hQ]
                  exact W.vret hx hb hr (fun t ht hW => ⟨⟨st, rfl, ⟨hB, fr_rf, rfl, rfl, rfl, rfl, rfl, rfl, rfl, rfl, rfl, rfl, rfl, ⟨(fun z9 => absurd z9 k535), (Int.le_refl _)⟩⟩, by rw [ht]; exact hP, va_K.moved hW.alike (hK.sub (tys' := []) [] rfl), by rw [hAe]; exact hD⟩, by rw [hAe]; exact hS.F ht⟩) hS.2.2 dX10_readNext_147
          · skip
            have h537 : Iv 8 8 (st 6 3) := eq_l c368 (iv_c (by decide) : Iv 8 8 8)
            refine lv_aload_n hx hb dX10_readNext_91 rfl (lv_at hl 1 rfl) ?_
            refine lv_iconst (v := 3) hx hb dX10_readNext_92 (by decide) ?_
            refine ca_v hP hD hS hA (fun hDc => run_V (mc := 0) (ms := 0) (As := [.int 3]) (rest := []) S (m_X10_errs l D k a st sl  3 _  hB (iv_mono (c := 1) (d := 3) (iv_c (by decide) : Iv 3 3 3) (by decide) (by decide)) ) lkX10_160 ok_X10_errs ⟨rfl, rfl, Nat.le_of_ble_eq_true rfl, Nat.le_of_ble_eq_true rfl⟩ (pw_V (ci := 10) (q0 := 0) hK hN rfl mw_0 hP hDc) rfl hl.1 rfl (Nat.le_of_ble_eq_true rfl) ⟨Nat.zero_le _, Nat.zero_le _⟩ dX10_readNext_93) (fun s538 H9 locs9 hs538 hP9 hD9 hS9 => ?_)
            clear hP hD hS
            have hS := hS9
            have hP := hP9
            have hD := hD9
            clear hP9 hD9 hS9
            obtain ⟨hBs538, gs538, qs538_0, qs538_1, qs538_2, qs538_3, qs538_4, qs538_5, qs538_6, qs538_7, qs538_8, qs538_9, qs538_10, qs538_11, qs538_12, qs538_13, qs538_14, fs538⟩ := hs538
            have hFs538 : FR [0, 6] st s538 := fr_ca fr_rf gs538 (sub_1 (List.mem_of_getElem? (i := 0) rfl) sub_0)
            have k540 := fs538
            refine lv_aload_n hx hb dX10_readNext_96 rfl (lv_at hl 1 rfl) ?_
            obtain ⟨w541, vw541, tw541⟩ := hX.2 _ (List.mem_of_getElem? (l := LIT) (i := 19) rfl)
            have vw541 : vk_R RX10 202 "cart" w541 s := vw541
            have tw541 : STA A w541 4 (fun j9 => ([99, 97, 114, 116] : List Int32).getD j9 0) s s.heap := tw541
            refine va_ldcS hx hb hown vw541 dX10_readNext_97 ?_
            refine ro_V (As := [.ref w541]) (rest := []) S (m_X10_is l D k a s538 sl   w541 4 (fun j9 => ([99, 97, 114, 116] : List Int32).getD j9 0) _  hBs538 (by decide) ) lkX10_150 ok_X10_is ⟨rfl, rfl, Nat.le_of_ble_eq_true rfl, Nat.le_of_ble_eq_true rfl⟩ (px_V (ci := 10) (q0 := 0) nice_NSW hK hN rfl mw_0 hP (hD.weaken (fun _ _ _ _ => trivial)) (show NSW w541 4 (fun j9 => ([99, 97, 114, 116] : List Int32).getD j9 0) A s s.heap from ⟨hX, tw541⟩) hS (px_free hD hS hA)) rfl hl.1 rfl (Nat.le_of_ble_eq_true rfl) ⟨Nat.zero_le _, Nat.zero_le _⟩ dX10_readNext_99 (fun r542 er542 => ?_)
            rcases er542 with ⟨rfl, g9⟩ | ⟨rfl, g9⟩
            · skip
              have g543 := g9
              have k544 := g543
              exact absurd k544.1.1 k540
            · skip
              have g545 := g9
              have k546 := g545
              refine lv_if_eq (tgt := 115) hx hb dX10_readNext_102 (by decide) (fun c547 => ?_) (fun c547 => ?_)
              rotate_left
              · first | exact absurd c547 (by decide) | exact absurd (by decide) c547
              refine lv_aload_n hx hb dX10_readNext_115 rfl (lv_at hl 1 rfl) ?_
              obtain ⟨w548, vw548, tw548⟩ := hX.2 _ (List.mem_of_getElem? (l := LIT) (i := 20) rfl)
              have vw548 : vk_R RX10 204 "errand" w548 s := vw548
              have tw548 : STA A w548 6 (fun j9 => ([101, 114, 114, 97, 110, 100] : List Int32).getD j9 0) s s.heap := tw548
              refine va_ldcS hx hb hown vw548 dX10_readNext_116 ?_
              refine ro_V (As := [.ref w548]) (rest := []) S (m_X10_is l D k a s538 sl   w548 6 (fun j9 => ([101, 114, 114, 97, 110, 100] : List Int32).getD j9 0) _  hBs538 (by decide) ) lkX10_150 ok_X10_is ⟨rfl, rfl, Nat.le_of_ble_eq_true rfl, Nat.le_of_ble_eq_true rfl⟩ (px_V (ci := 10) (q0 := 0) nice_NSW hK hN rfl mw_0 hP (hD.weaken (fun _ _ _ _ => trivial)) (show NSW w548 6 (fun j9 => ([101, 114, 114, 97, 110, 100] : List Int32).getD j9 0) A s s.heap from ⟨hX, tw548⟩) hS (px_free hD hS hA)) rfl hl.1 rfl (Nat.le_of_ble_eq_true rfl) ⟨Nat.zero_le _, Nat.zero_le _⟩ dX10_readNext_118 (fun r549 er549 => ?_)
              rcases er549 with ⟨rfl, g9⟩ | ⟨rfl, g9⟩
              · skip
                have g550 := g9
                have k551 := g550
                exact absurd k551.1.1 k540
              · skip
                have g552 := g9
                have k553 := g552
                refine lv_if_eq (tgt := 140) hx hb dX10_readNext_121 (by decide) (fun c554 => ?_) (fun c554 => ?_)
                rotate_left
                · first | exact absurd c554 (by decide) | exact absurd (by decide) c554
                refine lv_aload_n hx hb dX10_readNext_140 rfl (lv_at hl 1 rfl) ?_
                refine ro_V (As := []) (rest := []) S (m_X10_good l D k a s538 sl   _  hBs538  ) lkX10_136 ok_X10_good ⟨rfl, rfl, Nat.le_of_ble_eq_true rfl, Nat.le_of_ble_eq_true rfl⟩ (pw_V (ci := 10) (q0 := 0) hK hN rfl mw_0 hP (hD.weaken (fun _ _ _ _ => trivial))) rfl hl.1 rfl (Nat.le_of_ble_eq_true rfl) ⟨Nat.zero_le _, Nat.zero_le _⟩ dX10_readNext_141 (fun r555 er555 => ?_)
                rcases er555 with ⟨rfl, g9⟩ | ⟨rfl, g9⟩
                · skip
                  have g556 := g9
                  have k557 := g556
                  exact absurd k557 k540
                · skip
                  have g558 := g9
                  have k559 := g558
                  refine lv_if_ne (tgt := 148) hx hb dX10_readNext_144 (by decide) (fun c560 => ?_) (fun c560 => ?_)
                  · first | exact absurd c560 (by decide) | exact absurd (by decide) c560
                  rw [hQ]
                  exact W.vret hx hb hr (fun t ht hW => ⟨⟨s538, rfl, ⟨hBs538, hFs538, qs538_0, qs538_1, qs538_2, qs538_7, qs538_8, qs538_9, qs538_10, qs538_11, qs538_12, qs538_13, qs538_14, ⟨(fun z9 => absurd z9 k559), (show (st 0 8).toInt ≤ (s538 0 8).toInt from by rw [qs538_3]; exact Int.le_refl _)⟩⟩, by rw [ht]; exact hP, va_K.moved hW.alike (hK.sub (tys' := []) [] rfl), by rw [hAe]; exact hD⟩, by rw [hAe]; exact hS.F ht⟩) hS.2.2 dX10_readNext_147
        · skip
          have g561 := g9
          have k562 := g561
          exact absurd k352 k562
    · skip
      have g563 := g9
      have k564 := g563
      refine lv_if_ne (tgt := 36) hx hb dX10_readNext_15 (by decide) (fun c565 => ?_) (fun c565 => ?_)
      · first | exact absurd c565 (by decide) | exact absurd (by decide) c565
      refine lv_aload_n hx hb dX10_readNext_18 rfl (lv_at hl 0 rfl) ?_
      obtain ⟨w566, vw566, tw566⟩ := hX.2 _ (List.mem_of_getElem? (l := LIT) (i := 19) rfl)
      have vw566 : vk_R RX10 202 "cart" w566 s := vw566
      have tw566 : STA A w566 4 (fun j9 => ([99, 97, 114, 116] : List Int32).getD j9 0) s s.heap := tw566
      refine va_ldcS hx hb hown vw566 dX10_readNext_19 ?_
      refine ro_V (As := [.ref w566]) (rest := []) S (m_X10_is l D k a st sl   w566 4 (fun j9 => ([99, 97, 114, 116] : List Int32).getD j9 0) _  hB (by decide) ) lkX10_150 ok_X10_is ⟨rfl, rfl, Nat.le_of_ble_eq_true rfl, Nat.le_of_ble_eq_true rfl⟩ (px_V (ci := 10) (q0 := 0) nice_NSW hK hN rfl mw_0 hP (hD.weaken (fun _ _ _ _ => trivial)) (show NSW w566 4 (fun j9 => ([99, 97, 114, 116] : List Int32).getD j9 0) A s s.heap from ⟨hX, tw566⟩) hS (px_free hD hS hA)) rfl hl.1 rfl (Nat.le_of_ble_eq_true rfl) ⟨Nat.zero_le _, Nat.zero_le _⟩ dX10_readNext_21 (fun r567 er567 => ?_)
      rcases er567 with ⟨rfl, g9⟩ | ⟨rfl, g9⟩
      · skip
        have g568 := g9
        have k569 := g568
        refine lv_if_ne (tgt := 36) hx hb dX10_readNext_24 (by decide) (fun c570 => ?_) (fun c570 => ?_)
        rotate_left
        · first | exact absurd c570 (by decide) | exact absurd (by decide) c570
        refine lv_iconst (v := 1) hx hb dX10_readNext_36 (by decide) ?_
        refine lv_goto (tgt := 41) hx hb dX10_readNext_37 (by decide) ?_
        refine lv_istore_n (lv' := [(1, .int 1), (0, .ref (a 0))]) hx hb dX10_readNext_41 rfl hl (by decide) rfl (fun ls hl => ?_)
        refine lv_iload_n hx hb dX10_readNext_42 rfl (lv_at hl 0 rfl) ?_
        refine lv_if_ne (tgt := 51) hx hb dX10_readNext_43 (by decide) (fun c571 => ?_) (fun c571 => ?_)
        rotate_left
        · first | exact absurd c571 (by decide) | exact absurd (by decide) c571
        refine lv_aload_n hx hb dX10_readNext_51 rfl (lv_at hl 1 rfl) ?_
        obtain ⟨w572, vw572, tw572⟩ := hX.2 _ (List.mem_of_getElem? (l := LIT) (i := 17) rfl)
        have vw572 : vk_R RX10 198 "road" w572 s := vw572
        have tw572 : STA A w572 4 (fun j9 => ([114, 111, 97, 100] : List Int32).getD j9 0) s s.heap := tw572
        refine va_ldcS hx hb hown vw572 dX10_readNext_52 ?_
        refine ro_V (As := [.ref w572]) (rest := []) S (m_X10_is l D k a st sl   w572 4 (fun j9 => ([114, 111, 97, 100] : List Int32).getD j9 0) _  hB (by decide) ) lkX10_150 ok_X10_is ⟨rfl, rfl, Nat.le_of_ble_eq_true rfl, Nat.le_of_ble_eq_true rfl⟩ (px_V (ci := 10) (q0 := 0) nice_NSW hK hN rfl mw_0 hP (hD.weaken (fun _ _ _ _ => trivial)) (show NSW w572 4 (fun j9 => ([114, 111, 97, 100] : List Int32).getD j9 0) A s s.heap from ⟨hX, tw572⟩) hS (px_free hD hS hA)) rfl hl.1 rfl (Nat.le_of_ble_eq_true rfl) ⟨Nat.zero_le _, Nat.zero_le _⟩ dX10_readNext_54 (fun r573 er573 => ?_)
        rcases er573 with ⟨rfl, g9⟩ | ⟨rfl, g9⟩
        · skip
          have g574 := g9
          have k575 := g574
          exact absurd k575 k347
        · skip
          have g576 := g9
          have k577 := g576
          refine lv_if_eq (tgt := 71) hx hb dX10_readNext_57 (by decide) (fun c578 => ?_) (fun c578 => ?_)
          rotate_left
          · first | exact absurd c578 (by decide) | exact absurd (by decide) c578
          refine lv_aload_n hx hb dX10_readNext_71 rfl (lv_at hl 1 rfl) ?_
          obtain ⟨w579, vw579, tw579⟩ := hX.2 _ (List.mem_of_getElem? (l := LIT) (i := 18) rfl)
          have vw579 : vk_R RX10 200 "wheel" w579 s := vw579
          have tw579 : STA A w579 5 (fun j9 => ([119, 104, 101, 101, 108] : List Int32).getD j9 0) s s.heap := tw579
          refine va_ldcS hx hb hown vw579 dX10_readNext_72 ?_
          refine ro_V (As := [.ref w579]) (rest := []) S (m_X10_is l D k a st sl   w579 5 (fun j9 => ([119, 104, 101, 101, 108] : List Int32).getD j9 0) _  hB (by decide) ) lkX10_150 ok_X10_is ⟨rfl, rfl, Nat.le_of_ble_eq_true rfl, Nat.le_of_ble_eq_true rfl⟩ (px_V (ci := 10) (q0 := 0) nice_NSW hK hN rfl mw_0 hP (hD.weaken (fun _ _ _ _ => trivial)) (show NSW w579 5 (fun j9 => ([119, 104, 101, 101, 108] : List Int32).getD j9 0) A s s.heap from ⟨hX, tw579⟩) hS (px_free hD hS hA)) rfl hl.1 rfl (Nat.le_of_ble_eq_true rfl) ⟨Nat.zero_le _, Nat.zero_le _⟩ dX10_readNext_74 (fun r580 er580 => ?_)
          rcases er580 with ⟨rfl, g9⟩ | ⟨rfl, g9⟩
          · skip
            have g581 := g9
            have k582 := g581
            exact absurd k582 k564
          · skip
            have g583 := g9
            have k584 := g583
            refine lv_if_eq (tgt := 96) hx hb dX10_readNext_77 (by decide) (fun c585 => ?_) (fun c585 => ?_)
            rotate_left
            · first | exact absurd c585 (by decide) | exact absurd (by decide) c585
            refine lv_aload_n hx hb dX10_readNext_96 rfl (lv_at hl 1 rfl) ?_
            obtain ⟨w586, vw586, tw586⟩ := hX.2 _ (List.mem_of_getElem? (l := LIT) (i := 19) rfl)
            have vw586 : vk_R RX10 202 "cart" w586 s := vw586
            have tw586 : STA A w586 4 (fun j9 => ([99, 97, 114, 116] : List Int32).getD j9 0) s s.heap := tw586
            refine va_ldcS hx hb hown vw586 dX10_readNext_97 ?_
            refine ro_V (As := [.ref w586]) (rest := []) S (m_X10_is l D k a st sl   w586 4 (fun j9 => ([99, 97, 114, 116] : List Int32).getD j9 0) _  hB (by decide) ) lkX10_150 ok_X10_is ⟨rfl, rfl, Nat.le_of_ble_eq_true rfl, Nat.le_of_ble_eq_true rfl⟩ (px_V (ci := 10) (q0 := 0) nice_NSW hK hN rfl mw_0 hP (hD.weaken (fun _ _ _ _ => trivial)) (show NSW w586 4 (fun j9 => ([99, 97, 114, 116] : List Int32).getD j9 0) A s s.heap from ⟨hX, tw586⟩) hS (px_free hD hS hA)) rfl hl.1 rfl (Nat.le_of_ble_eq_true rfl) ⟨Nat.zero_le _, Nat.zero_le _⟩ dX10_readNext_99 (fun r587 er587 => ?_)
            rcases er587 with ⟨rfl, g9⟩ | ⟨rfl, g9⟩
            · skip
              have g588 := g9
              have k589 := g588
              refine lv_if_eq (tgt := 115) hx hb dX10_readNext_102 (by decide) (fun c590 => ?_) (fun c590 => ?_)
              · first | exact absurd c590 (by decide) | exact absurd (by decide) c590
              refine lv_aload_n hx hb dX10_readNext_105 rfl (lv_at hl 1 rfl) ?_
              refine va_get (D := D) (ci := 10) (v := .ref (a 6)) (C := RX10) (T := TX10) (N := 38) hx hb hT in_X10 hown hK hP 0 mw_0 rfl 14 (by decide) (hT _ t1276) (fun _ h9 => h9) rfl dX10_readNext_106 ?_
              refine lv_iconst (v := 4) hx hb dX10_readNext_109 (by decide) ?_
              refine va_iald hx hb hK hP 6 0 mw_6 rfl (by unfold vp_in; decide) dX10_readNext_110 ?_
              refine k_top (y := (st 6 4)) rfl ?_
              have h591 : Iv 0 3 (st 6 4) := (tok_at (rm_6 hB).1 4 0 3 (by decide) (by decide) (by decide))
              refine lv_iconst (v := 3) hx hb dX10_readNext_111 (by decide) ?_
              refine lv_icmp_eq (tgt := 135) hx hb dX10_readNext_112 (by decide) (fun c592 => ?_) (fun c592 => ?_)
              · skip
                have h593 : Iv 3 3 (st 6 4) := eq_l c592 (iv_c (by decide) : Iv 3 3 3)
                refine lv_aload_n hx hb dX10_readNext_135 rfl (lv_at hl 1 rfl) ?_
                refine lv_iconst (v := 3) hx hb dX10_readNext_136 (by decide) ?_
                refine ca_v hP hD hS hA (fun hDc => run_V (mc := 0) (ms := 0) (As := [.int 3]) (rest := []) S (m_X10_errs l D k a st sl  3 _  hB (iv_mono (c := 1) (d := 3) (iv_c (by decide) : Iv 3 3 3) (by decide) (by decide)) ) lkX10_160 ok_X10_errs ⟨rfl, rfl, Nat.le_of_ble_eq_true rfl, Nat.le_of_ble_eq_true rfl⟩ (pw_V (ci := 10) (q0 := 0) hK hN rfl mw_0 hP hDc) rfl hl.1 rfl (Nat.le_of_ble_eq_true rfl) ⟨Nat.zero_le _, Nat.zero_le _⟩ dX10_readNext_137) (fun s594 H9 locs9 hs594 hP9 hD9 hS9 => ?_)
                clear hP hD hS
                have hS := hS9
                have hP := hP9
                have hD := hD9
                clear hP9 hD9 hS9
                obtain ⟨hBs594, gs594, qs594_0, qs594_1, qs594_2, qs594_3, qs594_4, qs594_5, qs594_6, qs594_7, qs594_8, qs594_9, qs594_10, qs594_11, qs594_12, qs594_13, qs594_14, fs594⟩ := hs594
                have hFs594 : FR [0, 6] st s594 := fr_ca fr_rf gs594 (sub_1 (List.mem_of_getElem? (i := 0) rfl) sub_0)
                have k596 := fs594
                refine lv_aload_n hx hb dX10_readNext_140 rfl (lv_at hl 1 rfl) ?_
                refine ro_V (As := []) (rest := []) S (m_X10_good l D k a s594 sl   _  hBs594  ) lkX10_136 ok_X10_good ⟨rfl, rfl, Nat.le_of_ble_eq_true rfl, Nat.le_of_ble_eq_true rfl⟩ (pw_V (ci := 10) (q0 := 0) hK hN rfl mw_0 hP (hD.weaken (fun _ _ _ _ => trivial))) rfl hl.1 rfl (Nat.le_of_ble_eq_true rfl) ⟨Nat.zero_le _, Nat.zero_le _⟩ dX10_readNext_141 (fun r597 er597 => ?_)
                rcases er597 with ⟨rfl, g9⟩ | ⟨rfl, g9⟩
                · skip
                  have g598 := g9
                  have k599 := g598
                  exact absurd k599 k596
                · skip
                  have g600 := g9
                  have k601 := g600
                  refine lv_if_ne (tgt := 148) hx hb dX10_readNext_144 (by decide) (fun c602 => ?_) (fun c602 => ?_)
                  · first | exact absurd c602 (by decide) | exact absurd (by decide) c602
                  rw [hQ]
                  exact W.vret hx hb hr (fun t ht hW => ⟨⟨s594, rfl, ⟨hBs594, hFs594, qs594_0, qs594_1, qs594_2, qs594_7, qs594_8, qs594_9, qs594_10, qs594_11, qs594_12, qs594_13, qs594_14, ⟨(fun z9 => absurd z9 k601), (show (st 0 8).toInt ≤ (s594 0 8).toInt from by rw [qs594_3]; exact Int.le_refl _)⟩⟩, by rw [ht]; exact hP, va_K.moved hW.alike (hK.sub (tys' := []) [] rfl), by rw [hAe]; exact hD⟩, by rw [hAe]; exact hS.F ht⟩) hS.2.2 dX10_readNext_147
              · skip
                have h603 : Iv 0 2 (st 6 4) := ne_hi h591 c592 (by decide) (by decide)
                refine lv_aload_n hx hb dX10_readNext_115 rfl (lv_at hl 1 rfl) ?_
                obtain ⟨w604, vw604, tw604⟩ := hX.2 _ (List.mem_of_getElem? (l := LIT) (i := 20) rfl)
                have vw604 : vk_R RX10 204 "errand" w604 s := vw604
                have tw604 : STA A w604 6 (fun j9 => ([101, 114, 114, 97, 110, 100] : List Int32).getD j9 0) s s.heap := tw604
                refine va_ldcS hx hb hown vw604 dX10_readNext_116 ?_
                refine ro_V (As := [.ref w604]) (rest := []) S (m_X10_is l D k a st sl   w604 6 (fun j9 => ([101, 114, 114, 97, 110, 100] : List Int32).getD j9 0) _  hB (by decide) ) lkX10_150 ok_X10_is ⟨rfl, rfl, Nat.le_of_ble_eq_true rfl, Nat.le_of_ble_eq_true rfl⟩ (px_V (ci := 10) (q0 := 0) nice_NSW hK hN rfl mw_0 hP (hD.weaken (fun _ _ _ _ => trivial)) (show NSW w604 6 (fun j9 => ([101, 114, 114, 97, 110, 100] : List Int32).getD j9 0) A s s.heap from ⟨hX, tw604⟩) hS (px_free hD hS hA)) rfl hl.1 rfl (Nat.le_of_ble_eq_true rfl) ⟨Nat.zero_le _, Nat.zero_le _⟩ dX10_readNext_118 (fun r605 er605 => ?_)
                rcases er605 with ⟨rfl, g9⟩ | ⟨rfl, g9⟩
                · skip
                  have g606 := g9
                  have k607 := g606
                  refine lv_if_eq (tgt := 140) hx hb dX10_readNext_121 (by decide) (fun c608 => ?_) (fun c608 => ?_)
                  · first | exact absurd c608 (by decide) | exact absurd (by decide) c608
                  refine lv_aload_n hx hb dX10_readNext_124 rfl (lv_at hl 1 rfl) ?_
                  refine va_get (D := D) (ci := 10) (v := .ref (a 6)) (C := RX10) (T := TX10) (N := 38) hx hb hT in_X10 hown hK hP 0 mw_0 rfl 14 (by decide) (hT _ t1276) (fun _ h9 => h9) rfl dX10_readNext_125 ?_
                  refine lv_iconst (v := 5) hx hb dX10_readNext_128 (by decide) ?_
                  refine va_iald hx hb hK hP 6 0 mw_6 rfl (by unfold vp_in; decide) dX10_readNext_129 ?_
                  refine k_top (y := (st 6 5)) rfl ?_
                  have h609 : Iv 0 6 (st 6 5) := (tok_at (rm_6 hB).1 5 0 6 (by decide) (by decide) (by decide))
                  refine lv_bipush (v := 6) hx hb dX10_readNext_130 (by decide) ?_
                  refine lv_icmp_ne (tgt := 140) hx hb dX10_readNext_132 (by decide) (fun c610 => ?_) (fun c610 => ?_)
                  · skip
                    have h611 : Iv 0 5 (st 6 5) := ne_hi h609 (show ¬ (st 6 5) = 6 from c610) (by decide) (by decide)
                    refine lv_aload_n hx hb dX10_readNext_140 rfl (lv_at hl 1 rfl) ?_
                    refine ro_V (As := []) (rest := []) S (m_X10_good l D k a st sl   _  hB  ) lkX10_136 ok_X10_good ⟨rfl, rfl, Nat.le_of_ble_eq_true rfl, Nat.le_of_ble_eq_true rfl⟩ (pw_V (ci := 10) (q0 := 0) hK hN rfl mw_0 hP (hD.weaken (fun _ _ _ _ => trivial))) rfl hl.1 rfl (Nat.le_of_ble_eq_true rfl) ⟨Nat.zero_le _, Nat.zero_le _⟩ dX10_readNext_141 (fun r612 er612 => ?_)
                    rcases er612 with ⟨rfl, g9⟩ | ⟨rfl, g9⟩
                    · skip
                      have g613 := g9
                      have k614 := g613
                      refine lv_if_ne (tgt := 148) hx hb dX10_readNext_144 (by decide) (fun c615 => ?_) (fun c615 => ?_)
                      rotate_left
                      · first | exact absurd c615 (by decide) | exact absurd (by decide) c615
                      refine lv_aload_n hx hb dX10_readNext_148 rfl (lv_at hl 1 rfl) ?_
                      obtain ⟨w616, vw616, tw616⟩ := hX.2 _ (List.mem_of_getElem? (l := LIT) (i := 17) rfl)
                      have vw616 : vk_R RX10 198 "road" w616 s := vw616
                      have tw616 : STA A w616 4 (fun j9 => ([114, 111, 97, 100] : List Int32).getD j9 0) s s.heap := tw616
                      refine va_ldcS hx hb hown vw616 dX10_readNext_149 ?_
                      refine ca_i hP hD hS hA (fun hDc => run_V (mc := 0) (ms := 0) (As := [.ref w616]) (rest := []) S (m_X10_takes l D k a st sl   w616 4 (fun j9 => ([114, 111, 97, 100] : List Int32).getD j9 0) _  hB (by decide) ) lkX10_157 ok_X10_takes ⟨rfl, rfl, Nat.le_of_ble_eq_true rfl, Nat.le_of_ble_eq_true rfl⟩ (px_V (ci := 10) (q0 := 0) nice_NSW hK hN rfl mw_0 hP hDc (show NSW w616 4 (fun j9 => ([114, 111, 97, 100] : List Int32).getD j9 0) A s s.heap from ⟨hX, tw616⟩) hS (px_free hD hS hA)) rfl hl.1 rfl (Nat.le_of_ble_eq_true rfl) ⟨Nat.zero_le _, Nat.zero_le _⟩ dX10_readNext_151) (fun r618 s617 H9 locs9 hs617 hP9 hD9 hS9 => ?_)
                      clear hP hD hS
                      have hS := hS9
                      have hP := hP9
                      have hD := hD9
                      clear hP9 hD9 hS9
                      obtain ⟨hBs617, gs617, qs617_0, qs617_1, qs617_2, qs617_3, qs617_4, qs617_5, qs617_6, qs617_7, qs617_8, qs617_9, qs617_10, qs617_11, qs617_12, fs617⟩ := hs617
                      have hFs617 : FR [0, 6] st s617 := fr_ca fr_rf gs617 (sub_1 (List.mem_of_getElem? (i := 0) rfl) sub_0)
                      rcases fs617 with ⟨rfl, g9⟩ | ⟨rfl, g9⟩
                      · skip
                        have g619 := g9
                        have k620 := g619
                        exact absurd k620.1 k347
                      · skip
                        have g621 := g9
                        have k622 := g621
                        refine lv_if_eq (tgt := 164) hx hb dX10_readNext_154 (by decide) (fun c623 => ?_) (fun c623 => ?_)
                        rotate_left
                        · first | exact absurd c623 (by decide) | exact absurd (by decide) c623
                        refine lv_aload_n hx hb dX10_readNext_164 rfl (lv_at hl 1 rfl) ?_
                        obtain ⟨w624, vw624, tw624⟩ := hX.2 _ (List.mem_of_getElem? (l := LIT) (i := 18) rfl)
                        have vw624 : vk_R RX10 200 "wheel" w624 s := vw624
                        have tw624 : STA A w624 5 (fun j9 => ([119, 104, 101, 101, 108] : List Int32).getD j9 0) s s.heap := tw624
                        refine va_ldcS hx hb hown vw624 dX10_readNext_165 ?_
                        refine ca_i hP hD hS hA (fun hDc => run_V (mc := 0) (ms := 0) (As := [.ref w624]) (rest := []) S (m_X10_takes l D k a s617 sl   w624 5 (fun j9 => ([119, 104, 101, 101, 108] : List Int32).getD j9 0) _  hBs617 (by decide) ) lkX10_157 ok_X10_takes ⟨rfl, rfl, Nat.le_of_ble_eq_true rfl, Nat.le_of_ble_eq_true rfl⟩ (px_V (ci := 10) (q0 := 0) nice_NSW hK hN rfl mw_0 hP hDc (show NSW w624 5 (fun j9 => ([119, 104, 101, 101, 108] : List Int32).getD j9 0) A s s.heap from ⟨hX, tw624⟩) hS (px_free hD hS hA)) rfl hl.1 rfl (Nat.le_of_ble_eq_true rfl) ⟨Nat.zero_le _, Nat.zero_le _⟩ dX10_readNext_167) (fun r626 s625 H9 locs9 hs625 hP9 hD9 hS9 => ?_)
                        clear hP hD hS
                        have hS := hS9
                        have hP := hP9
                        have hD := hD9
                        clear hP9 hD9 hS9
                        obtain ⟨hBs625, gs625, qs625_0, qs625_1, qs625_2, qs625_3, qs625_4, qs625_5, qs625_6, qs625_7, qs625_8, qs625_9, qs625_10, qs625_11, qs625_12, fs625⟩ := hs625
                        have hFs625 : FR [0, 6] st s625 := fr_ca hFs617 gs625 (sub_1 (List.mem_of_getElem? (i := 0) rfl) sub_0)
                        rcases fs625 with ⟨rfl, g9⟩ | ⟨rfl, g9⟩
                        · skip
                          have g627 := g9
                          have k628 := g627
                          exact absurd k628.1 (isw_fr0 k622.2 (gs617 4 (nm_1 (by decide) nm_0)) k564)
                        · skip
                          have g629 := g9
                          have k630 := g629
                          refine lv_if_eq (tgt := 180) hx hb dX10_readNext_170 (by decide) (fun c631 => ?_) (fun c631 => ?_)
                          rotate_left
                          · first | exact absurd c631 (by decide) | exact absurd (by decide) c631
                          refine lv_aload_n hx hb dX10_readNext_180 rfl (lv_at hl 1 rfl) ?_
                          obtain ⟨w632, vw632, tw632⟩ := hX.2 _ (List.mem_of_getElem? (l := LIT) (i := 19) rfl)
                          have vw632 : vk_R RX10 202 "cart" w632 s := vw632
                          have tw632 : STA A w632 4 (fun j9 => ([99, 97, 114, 116] : List Int32).getD j9 0) s s.heap := tw632
                          refine va_ldcS hx hb hown vw632 dX10_readNext_181 ?_
                          refine ca_i hP hD hS hA (fun hDc => run_V (mc := 0) (ms := 0) (As := [.ref w632]) (rest := []) S (m_X10_takes l D k a s625 sl   w632 4 (fun j9 => ([99, 97, 114, 116] : List Int32).getD j9 0) _  hBs625 (by decide) ) lkX10_157 ok_X10_takes ⟨rfl, rfl, Nat.le_of_ble_eq_true rfl, Nat.le_of_ble_eq_true rfl⟩ (px_V (ci := 10) (q0 := 0) nice_NSW hK hN rfl mw_0 hP hDc (show NSW w632 4 (fun j9 => ([99, 97, 114, 116] : List Int32).getD j9 0) A s s.heap from ⟨hX, tw632⟩) hS (px_free hD hS hA)) rfl hl.1 rfl (Nat.le_of_ble_eq_true rfl) ⟨Nat.zero_le _, Nat.zero_le _⟩ dX10_readNext_183) (fun r634 s633 H9 locs9 hs633 hP9 hD9 hS9 => ?_)
                          clear hP hD hS
                          have hS := hS9
                          have hP := hP9
                          have hD := hD9
                          clear hP9 hD9 hS9
                          obtain ⟨hBs633, gs633, qs633_0, qs633_1, qs633_2, qs633_3, qs633_4, qs633_5, qs633_6, qs633_7, qs633_8, qs633_9, qs633_10, qs633_11, qs633_12, fs633⟩ := hs633
                          have hFs633 : FR [0, 6] st s633 := fr_ca hFs625 gs633 (sub_1 (List.mem_of_getElem? (i := 0) rfl) sub_0)
                          rcases fs633 with ⟨rfl, g9⟩ | ⟨rfl, g9⟩
                          · skip
                            have g635 := g9
                            have k636 := g635
                            refine lv_if_eq (tgt := 196) hx hb dX10_readNext_186 (by decide) (fun c637 => ?_) (fun c637 => ?_)
                            · first | exact absurd c637 (by decide) | exact absurd (by decide) c637
                            refine lv_aload_n hx hb dX10_readNext_189 rfl (lv_at hl 1 rfl) ?_
                            refine ca_v hP hD hS hA (fun hDc => run_V (mc := 0) (ms := 0) (As := []) (rest := []) S (m_X10_readCart l D k a s633 sl   _  hBs633  (eq_l (Eq.trans (congrFun (gs633 6 (nm_1 (by decide) nm_0)) 4) (Eq.trans (congrFun (gs625 6 (nm_1 (by decide) nm_0)) 4) (congrFun (gs617 6 (nm_1 (by decide) nm_0)) 4))) h603)) lkX10_212 ok_X10_readCart ⟨rfl, rfl, Nat.le_of_ble_eq_true rfl, Nat.le_of_ble_eq_true rfl⟩ (px_V (ci := 10) (q0 := 0) nice_NS hK hN rfl mw_0 hP hDc hX hS (px_free hD hS hA)) rfl hl.1 rfl (Nat.le_of_ble_eq_true rfl) ⟨Nat.zero_le _, Nat.zero_le _⟩ dX10_readNext_190) (fun s638 H9 locs9 hs638 hP9 hD9 hS9 => ?_)
                            clear hP hD hS
                            have hS := hS9
                            have hP := hP9
                            have hD := hD9
                            clear hP9 hD9 hS9
                            obtain ⟨hBs638, gs638, qs638_0, qs638_1, qs638_2, qs638_3, qs638_4, qs638_5, qs638_6, qs638_7, qs638_8, qs638_9, qs638_10, fs638⟩ := hs638
                            have hFs638 : FR [0, 6] st s638 := fr_ca hFs633 gs638 (sub_1 (List.mem_of_getElem? (i := 0) rfl) (sub_1 (List.mem_of_getElem? (i := 1) rfl) sub_0))
                            have k640 := fs638
                            refine lv_goto (tgt := 204) hx hb dX10_readNext_193 (by decide) ?_
                            rw [hQ]
                            exact W.vret hx hb hr (fun t ht hW => ⟨⟨s638, rfl, ⟨hBs638, hFs638, (Eq.trans qs638_0 (Eq.trans qs633_0 (Eq.trans qs625_0 qs617_0))), (Eq.trans qs638_1 (Eq.trans qs633_1 (Eq.trans qs625_1 qs617_1))), (Eq.trans qs638_2 (Eq.trans qs633_2 (Eq.trans qs625_2 qs617_2))), (Eq.trans qs638_3 (Eq.trans qs633_5 (Eq.trans qs625_5 qs617_5))), (Eq.trans qs638_4 (Eq.trans qs633_6 (Eq.trans qs625_6 qs617_6))), (Eq.trans qs638_5 (Eq.trans qs633_7 (Eq.trans qs625_7 qs617_7))), (Eq.trans qs638_6 (Eq.trans qs633_8 (Eq.trans qs625_8 qs617_8))), (Eq.trans qs638_7 (Eq.trans qs633_9 (Eq.trans qs625_9 qs617_9))), (Eq.trans qs638_8 (Eq.trans qs633_10 (Eq.trans qs625_10 qs617_10))), (Eq.trans qs638_9 (Eq.trans qs633_11 (Eq.trans qs625_11 qs617_11))), (Eq.trans qs638_10 (Eq.trans qs633_12 (Eq.trans qs625_12 qs617_12))), ⟨(fun _ => k614), (Int.le_trans (show (st 0 8).toInt ≤ (s617 0 8).toInt from by rw [k622.2]; exact Int.le_refl _) (Int.le_trans (show (s617 0 8).toInt ≤ (s625 0 8).toInt from by rw [k630.2]; exact Int.le_refl _) (Int.le_trans k636.2.1 k640.2)))⟩⟩, by rw [ht]; exact hP, va_K.moved hW.alike (hK.sub (tys' := []) [] rfl), by rw [hAe]; exact hD⟩, by rw [hAe]; exact hS.F ht⟩) hS.2.2 dX10_readNext_204
                          · skip
                            have g641 := g9
                            have k642 := g641
                            exact absurd (isw_fr1 k630.2 (gs625 4 (nm_1 (by decide) nm_0)) (isw_fr1 k622.2 (gs617 4 (nm_1 (by decide) nm_0)) k569)) k642.1
                    · skip
                      have g643 := g9
                      have k644 := g643
                      refine lv_if_ne (tgt := 148) hx hb dX10_readNext_144 (by decide) (fun c645 => ?_) (fun c645 => ?_)
                      · first | exact absurd c645 (by decide) | exact absurd (by decide) c645
                      rw [hQ]
                      exact W.vret hx hb hr (fun t ht hW => ⟨⟨st, rfl, ⟨hB, fr_rf, rfl, rfl, rfl, rfl, rfl, rfl, rfl, rfl, rfl, rfl, rfl, ⟨(fun z9 => absurd z9 k644), (Int.le_refl _)⟩⟩, by rw [ht]; exact hP, va_K.moved hW.alike (hK.sub (tys' := []) [] rfl), by rw [hAe]; exact hD⟩, by rw [hAe]; exact hS.F ht⟩) hS.2.2 dX10_readNext_147
                  · skip
                    have h646 : Iv 6 6 (st 6 5) := eq_l c610 (iv_c (by decide) : Iv 6 6 6)
                    refine lv_aload_n hx hb dX10_readNext_135 rfl (lv_at hl 1 rfl) ?_
                    refine lv_iconst (v := 3) hx hb dX10_readNext_136 (by decide) ?_
                    refine ca_v hP hD hS hA (fun hDc => run_V (mc := 0) (ms := 0) (As := [.int 3]) (rest := []) S (m_X10_errs l D k a st sl  3 _  hB (iv_mono (c := 1) (d := 3) (iv_c (by decide) : Iv 3 3 3) (by decide) (by decide)) ) lkX10_160 ok_X10_errs ⟨rfl, rfl, Nat.le_of_ble_eq_true rfl, Nat.le_of_ble_eq_true rfl⟩ (pw_V (ci := 10) (q0 := 0) hK hN rfl mw_0 hP hDc) rfl hl.1 rfl (Nat.le_of_ble_eq_true rfl) ⟨Nat.zero_le _, Nat.zero_le _⟩ dX10_readNext_137) (fun s647 H9 locs9 hs647 hP9 hD9 hS9 => ?_)
                    clear hP hD hS
                    have hS := hS9
                    have hP := hP9
                    have hD := hD9
                    clear hP9 hD9 hS9
                    obtain ⟨hBs647, gs647, qs647_0, qs647_1, qs647_2, qs647_3, qs647_4, qs647_5, qs647_6, qs647_7, qs647_8, qs647_9, qs647_10, qs647_11, qs647_12, qs647_13, qs647_14, fs647⟩ := hs647
                    have hFs647 : FR [0, 6] st s647 := fr_ca fr_rf gs647 (sub_1 (List.mem_of_getElem? (i := 0) rfl) sub_0)
                    have k649 := fs647
                    refine lv_aload_n hx hb dX10_readNext_140 rfl (lv_at hl 1 rfl) ?_
                    refine ro_V (As := []) (rest := []) S (m_X10_good l D k a s647 sl   _  hBs647  ) lkX10_136 ok_X10_good ⟨rfl, rfl, Nat.le_of_ble_eq_true rfl, Nat.le_of_ble_eq_true rfl⟩ (pw_V (ci := 10) (q0 := 0) hK hN rfl mw_0 hP (hD.weaken (fun _ _ _ _ => trivial))) rfl hl.1 rfl (Nat.le_of_ble_eq_true rfl) ⟨Nat.zero_le _, Nat.zero_le _⟩ dX10_readNext_141 (fun r650 er650 => ?_)
                    rcases er650 with ⟨rfl, g9⟩ | ⟨rfl, g9⟩
                    · skip
                      have g651 := g9
                      have k652 := g651
                      exact absurd k652 k649
                    · skip
                      have g653 := g9
                      have k654 := g653
                      refine lv_if_ne (tgt := 148) hx hb dX10_readNext_144 (by decide) (fun c655 => ?_) (fun c655 => ?_)
                      · first | exact absurd c655 (by decide) | exact absurd (by decide) c655
                      rw [hQ]
                      exact W.vret hx hb hr (fun t ht hW => ⟨⟨s647, rfl, ⟨hBs647, hFs647, qs647_0, qs647_1, qs647_2, qs647_7, qs647_8, qs647_9, qs647_10, qs647_11, qs647_12, qs647_13, qs647_14, ⟨(fun z9 => absurd z9 k654), (show (st 0 8).toInt ≤ (s647 0 8).toInt from by rw [qs647_3]; exact Int.le_refl _)⟩⟩, by rw [ht]; exact hP, va_K.moved hW.alike (hK.sub (tys' := []) [] rfl), by rw [hAe]; exact hD⟩, by rw [hAe]; exact hS.F ht⟩) hS.2.2 dX10_readNext_147
                · skip
                  have g656 := g9
                  have k657 := g656
                  refine lv_if_eq (tgt := 140) hx hb dX10_readNext_121 (by decide) (fun c658 => ?_) (fun c658 => ?_)
                  rotate_left
                  · first | exact absurd c658 (by decide) | exact absurd (by decide) c658
                  refine lv_aload_n hx hb dX10_readNext_140 rfl (lv_at hl 1 rfl) ?_
                  refine ro_V (As := []) (rest := []) S (m_X10_good l D k a st sl   _  hB  ) lkX10_136 ok_X10_good ⟨rfl, rfl, Nat.le_of_ble_eq_true rfl, Nat.le_of_ble_eq_true rfl⟩ (pw_V (ci := 10) (q0 := 0) hK hN rfl mw_0 hP (hD.weaken (fun _ _ _ _ => trivial))) rfl hl.1 rfl (Nat.le_of_ble_eq_true rfl) ⟨Nat.zero_le _, Nat.zero_le _⟩ dX10_readNext_141 (fun r659 er659 => ?_)
                  rcases er659 with ⟨rfl, g9⟩ | ⟨rfl, g9⟩
                  · skip
                    have g660 := g9
                    have k661 := g660
                    refine lv_if_ne (tgt := 148) hx hb dX10_readNext_144 (by decide) (fun c662 => ?_) (fun c662 => ?_)
                    rotate_left
                    · first | exact absurd c662 (by decide) | exact absurd (by decide) c662
                    refine lv_aload_n hx hb dX10_readNext_148 rfl (lv_at hl 1 rfl) ?_
                    obtain ⟨w663, vw663, tw663⟩ := hX.2 _ (List.mem_of_getElem? (l := LIT) (i := 17) rfl)
                    have vw663 : vk_R RX10 198 "road" w663 s := vw663
                    have tw663 : STA A w663 4 (fun j9 => ([114, 111, 97, 100] : List Int32).getD j9 0) s s.heap := tw663
                    refine va_ldcS hx hb hown vw663 dX10_readNext_149 ?_
                    refine ca_i hP hD hS hA (fun hDc => run_V (mc := 0) (ms := 0) (As := [.ref w663]) (rest := []) S (m_X10_takes l D k a st sl   w663 4 (fun j9 => ([114, 111, 97, 100] : List Int32).getD j9 0) _  hB (by decide) ) lkX10_157 ok_X10_takes ⟨rfl, rfl, Nat.le_of_ble_eq_true rfl, Nat.le_of_ble_eq_true rfl⟩ (px_V (ci := 10) (q0 := 0) nice_NSW hK hN rfl mw_0 hP hDc (show NSW w663 4 (fun j9 => ([114, 111, 97, 100] : List Int32).getD j9 0) A s s.heap from ⟨hX, tw663⟩) hS (px_free hD hS hA)) rfl hl.1 rfl (Nat.le_of_ble_eq_true rfl) ⟨Nat.zero_le _, Nat.zero_le _⟩ dX10_readNext_151) (fun r665 s664 H9 locs9 hs664 hP9 hD9 hS9 => ?_)
                    clear hP hD hS
                    have hS := hS9
                    have hP := hP9
                    have hD := hD9
                    clear hP9 hD9 hS9
                    obtain ⟨hBs664, gs664, qs664_0, qs664_1, qs664_2, qs664_3, qs664_4, qs664_5, qs664_6, qs664_7, qs664_8, qs664_9, qs664_10, qs664_11, qs664_12, fs664⟩ := hs664
                    have hFs664 : FR [0, 6] st s664 := fr_ca fr_rf gs664 (sub_1 (List.mem_of_getElem? (i := 0) rfl) sub_0)
                    rcases fs664 with ⟨rfl, g9⟩ | ⟨rfl, g9⟩
                    · skip
                      have g666 := g9
                      have k667 := g666
                      exact absurd k667.1 k347
                    · skip
                      have g668 := g9
                      have k669 := g668
                      refine lv_if_eq (tgt := 164) hx hb dX10_readNext_154 (by decide) (fun c670 => ?_) (fun c670 => ?_)
                      rotate_left
                      · first | exact absurd c670 (by decide) | exact absurd (by decide) c670
                      refine lv_aload_n hx hb dX10_readNext_164 rfl (lv_at hl 1 rfl) ?_
                      obtain ⟨w671, vw671, tw671⟩ := hX.2 _ (List.mem_of_getElem? (l := LIT) (i := 18) rfl)
                      have vw671 : vk_R RX10 200 "wheel" w671 s := vw671
                      have tw671 : STA A w671 5 (fun j9 => ([119, 104, 101, 101, 108] : List Int32).getD j9 0) s s.heap := tw671
                      refine va_ldcS hx hb hown vw671 dX10_readNext_165 ?_
                      refine ca_i hP hD hS hA (fun hDc => run_V (mc := 0) (ms := 0) (As := [.ref w671]) (rest := []) S (m_X10_takes l D k a s664 sl   w671 5 (fun j9 => ([119, 104, 101, 101, 108] : List Int32).getD j9 0) _  hBs664 (by decide) ) lkX10_157 ok_X10_takes ⟨rfl, rfl, Nat.le_of_ble_eq_true rfl, Nat.le_of_ble_eq_true rfl⟩ (px_V (ci := 10) (q0 := 0) nice_NSW hK hN rfl mw_0 hP hDc (show NSW w671 5 (fun j9 => ([119, 104, 101, 101, 108] : List Int32).getD j9 0) A s s.heap from ⟨hX, tw671⟩) hS (px_free hD hS hA)) rfl hl.1 rfl (Nat.le_of_ble_eq_true rfl) ⟨Nat.zero_le _, Nat.zero_le _⟩ dX10_readNext_167) (fun r673 s672 H9 locs9 hs672 hP9 hD9 hS9 => ?_)
                      clear hP hD hS
                      have hS := hS9
                      have hP := hP9
                      have hD := hD9
                      clear hP9 hD9 hS9
                      obtain ⟨hBs672, gs672, qs672_0, qs672_1, qs672_2, qs672_3, qs672_4, qs672_5, qs672_6, qs672_7, qs672_8, qs672_9, qs672_10, qs672_11, qs672_12, fs672⟩ := hs672
                      have hFs672 : FR [0, 6] st s672 := fr_ca hFs664 gs672 (sub_1 (List.mem_of_getElem? (i := 0) rfl) sub_0)
                      rcases fs672 with ⟨rfl, g9⟩ | ⟨rfl, g9⟩
                      · skip
                        have g674 := g9
                        have k675 := g674
                        exact absurd k675.1 (isw_fr0 k669.2 (gs664 4 (nm_1 (by decide) nm_0)) k564)
                      · skip
                        have g676 := g9
                        have k677 := g676
                        refine lv_if_eq (tgt := 180) hx hb dX10_readNext_170 (by decide) (fun c678 => ?_) (fun c678 => ?_)
                        rotate_left
                        · first | exact absurd c678 (by decide) | exact absurd (by decide) c678
                        refine lv_aload_n hx hb dX10_readNext_180 rfl (lv_at hl 1 rfl) ?_
                        obtain ⟨w679, vw679, tw679⟩ := hX.2 _ (List.mem_of_getElem? (l := LIT) (i := 19) rfl)
                        have vw679 : vk_R RX10 202 "cart" w679 s := vw679
                        have tw679 : STA A w679 4 (fun j9 => ([99, 97, 114, 116] : List Int32).getD j9 0) s s.heap := tw679
                        refine va_ldcS hx hb hown vw679 dX10_readNext_181 ?_
                        refine ca_i hP hD hS hA (fun hDc => run_V (mc := 0) (ms := 0) (As := [.ref w679]) (rest := []) S (m_X10_takes l D k a s672 sl   w679 4 (fun j9 => ([99, 97, 114, 116] : List Int32).getD j9 0) _  hBs672 (by decide) ) lkX10_157 ok_X10_takes ⟨rfl, rfl, Nat.le_of_ble_eq_true rfl, Nat.le_of_ble_eq_true rfl⟩ (px_V (ci := 10) (q0 := 0) nice_NSW hK hN rfl mw_0 hP hDc (show NSW w679 4 (fun j9 => ([99, 97, 114, 116] : List Int32).getD j9 0) A s s.heap from ⟨hX, tw679⟩) hS (px_free hD hS hA)) rfl hl.1 rfl (Nat.le_of_ble_eq_true rfl) ⟨Nat.zero_le _, Nat.zero_le _⟩ dX10_readNext_183) (fun r681 s680 H9 locs9 hs680 hP9 hD9 hS9 => ?_)
                        clear hP hD hS
                        have hS := hS9
                        have hP := hP9
                        have hD := hD9
                        clear hP9 hD9 hS9
                        obtain ⟨hBs680, gs680, qs680_0, qs680_1, qs680_2, qs680_3, qs680_4, qs680_5, qs680_6, qs680_7, qs680_8, qs680_9, qs680_10, qs680_11, qs680_12, fs680⟩ := hs680
                        have hFs680 : FR [0, 6] st s680 := fr_ca hFs672 gs680 (sub_1 (List.mem_of_getElem? (i := 0) rfl) sub_0)
                        rcases fs680 with ⟨rfl, g9⟩ | ⟨rfl, g9⟩
                        · skip
                          have g682 := g9
                          have k683 := g682
                          refine lv_if_eq (tgt := 196) hx hb dX10_readNext_186 (by decide) (fun c684 => ?_) (fun c684 => ?_)
                          · first | exact absurd c684 (by decide) | exact absurd (by decide) c684
                          refine lv_aload_n hx hb dX10_readNext_189 rfl (lv_at hl 1 rfl) ?_
                          refine ca_v hP hD hS hA (fun hDc => run_V (mc := 0) (ms := 0) (As := []) (rest := []) S (m_X10_readCart l D k a s680 sl   _  hBs680  (eq_l (Eq.trans (congrFun (gs680 6 (nm_1 (by decide) nm_0)) 4) (Eq.trans (congrFun (gs672 6 (nm_1 (by decide) nm_0)) 4) (congrFun (gs664 6 (nm_1 (by decide) nm_0)) 4))) h603)) lkX10_212 ok_X10_readCart ⟨rfl, rfl, Nat.le_of_ble_eq_true rfl, Nat.le_of_ble_eq_true rfl⟩ (px_V (ci := 10) (q0 := 0) nice_NS hK hN rfl mw_0 hP hDc hX hS (px_free hD hS hA)) rfl hl.1 rfl (Nat.le_of_ble_eq_true rfl) ⟨Nat.zero_le _, Nat.zero_le _⟩ dX10_readNext_190) (fun s685 H9 locs9 hs685 hP9 hD9 hS9 => ?_)
                          clear hP hD hS
                          have hS := hS9
                          have hP := hP9
                          have hD := hD9
                          clear hP9 hD9 hS9
                          obtain ⟨hBs685, gs685, qs685_0, qs685_1, qs685_2, qs685_3, qs685_4, qs685_5, qs685_6, qs685_7, qs685_8, qs685_9, qs685_10, fs685⟩ := hs685
                          have hFs685 : FR [0, 6] st s685 := fr_ca hFs680 gs685 (sub_1 (List.mem_of_getElem? (i := 0) rfl) (sub_1 (List.mem_of_getElem? (i := 1) rfl) sub_0))
                          have k687 := fs685
                          refine lv_goto (tgt := 204) hx hb dX10_readNext_193 (by decide) ?_
                          rw [hQ]
                          exact W.vret hx hb hr (fun t ht hW => ⟨⟨s685, rfl, ⟨hBs685, hFs685, (Eq.trans qs685_0 (Eq.trans qs680_0 (Eq.trans qs672_0 qs664_0))), (Eq.trans qs685_1 (Eq.trans qs680_1 (Eq.trans qs672_1 qs664_1))), (Eq.trans qs685_2 (Eq.trans qs680_2 (Eq.trans qs672_2 qs664_2))), (Eq.trans qs685_3 (Eq.trans qs680_5 (Eq.trans qs672_5 qs664_5))), (Eq.trans qs685_4 (Eq.trans qs680_6 (Eq.trans qs672_6 qs664_6))), (Eq.trans qs685_5 (Eq.trans qs680_7 (Eq.trans qs672_7 qs664_7))), (Eq.trans qs685_6 (Eq.trans qs680_8 (Eq.trans qs672_8 qs664_8))), (Eq.trans qs685_7 (Eq.trans qs680_9 (Eq.trans qs672_9 qs664_9))), (Eq.trans qs685_8 (Eq.trans qs680_10 (Eq.trans qs672_10 qs664_10))), (Eq.trans qs685_9 (Eq.trans qs680_11 (Eq.trans qs672_11 qs664_11))), (Eq.trans qs685_10 (Eq.trans qs680_12 (Eq.trans qs672_12 qs664_12))), ⟨(fun _ => k661), (Int.le_trans (show (st 0 8).toInt ≤ (s664 0 8).toInt from by rw [k669.2]; exact Int.le_refl _) (Int.le_trans (show (s664 0 8).toInt ≤ (s672 0 8).toInt from by rw [k677.2]; exact Int.le_refl _) (Int.le_trans k683.2.1 k687.2)))⟩⟩, by rw [ht]; exact hP, va_K.moved hW.alike (hK.sub (tys' := []) [] rfl), by rw [hAe]; exact hD⟩, by rw [hAe]; exact hS.F ht⟩) hS.2.2 dX10_readNext_204
                        · skip
                          have g688 := g9
                          have k689 := g688
                          exact absurd (isw_fr1 k677.2 (gs672 4 (nm_1 (by decide) nm_0)) (isw_fr1 k669.2 (gs664 4 (nm_1 (by decide) nm_0)) k569)) k689.1
                  · skip
                    have g690 := g9
                    have k691 := g690
                    refine lv_if_ne (tgt := 148) hx hb dX10_readNext_144 (by decide) (fun c692 => ?_) (fun c692 => ?_)
                    · first | exact absurd c692 (by decide) | exact absurd (by decide) c692
                    rw [hQ]
                    exact W.vret hx hb hr (fun t ht hW => ⟨⟨st, rfl, ⟨hB, fr_rf, rfl, rfl, rfl, rfl, rfl, rfl, rfl, rfl, rfl, rfl, rfl, ⟨(fun z9 => absurd z9 k691), (Int.le_refl _)⟩⟩, by rw [ht]; exact hP, va_K.moved hW.alike (hK.sub (tys' := []) [] rfl), by rw [hAe]; exact hD⟩, by rw [hAe]; exact hS.F ht⟩) hS.2.2 dX10_readNext_147
            · skip
              have g693 := g9
              have k694 := g693
              exact absurd k569 k694
      · skip
        have g695 := g9
        have k696 := g695
        refine lv_if_ne (tgt := 36) hx hb dX10_readNext_24 (by decide) (fun c697 => ?_) (fun c697 => ?_)
        · first | exact absurd c697 (by decide) | exact absurd (by decide) c697
        refine lv_aload_n hx hb dX10_readNext_27 rfl (lv_at hl 0 rfl) ?_
        obtain ⟨w698, vw698, tw698⟩ := hX.2 _ (List.mem_of_getElem? (l := LIT) (i := 20) rfl)
        have vw698 : vk_R RX10 204 "errand" w698 s := vw698
        have tw698 : STA A w698 6 (fun j9 => ([101, 114, 114, 97, 110, 100] : List Int32).getD j9 0) s s.heap := tw698
        refine va_ldcS hx hb hown vw698 dX10_readNext_28 ?_
        refine ro_V (As := [.ref w698]) (rest := []) S (m_X10_is l D k a st sl   w698 6 (fun j9 => ([101, 114, 114, 97, 110, 100] : List Int32).getD j9 0) _  hB (by decide) ) lkX10_150 ok_X10_is ⟨rfl, rfl, Nat.le_of_ble_eq_true rfl, Nat.le_of_ble_eq_true rfl⟩ (px_V (ci := 10) (q0 := 0) nice_NSW hK hN rfl mw_0 hP (hD.weaken (fun _ _ _ _ => trivial)) (show NSW w698 6 (fun j9 => ([101, 114, 114, 97, 110, 100] : List Int32).getD j9 0) A s s.heap from ⟨hX, tw698⟩) hS (px_free hD hS hA)) rfl hl.1 rfl (Nat.le_of_ble_eq_true rfl) ⟨Nat.zero_le _, Nat.zero_le _⟩ dX10_readNext_30 (fun r699 er699 => ?_)
        rcases er699 with ⟨rfl, g9⟩ | ⟨rfl, g9⟩
        · skip
          have g700 := g9
          have k701 := g700
          refine lv_if_eq (tgt := 40) hx hb dX10_readNext_33 (by decide) (fun c702 => ?_) (fun c702 => ?_)
          · first | exact absurd c702 (by decide) | exact absurd (by decide) c702
          refine lv_iconst (v := 1) hx hb dX10_readNext_36 (by decide) ?_
          refine lv_goto (tgt := 41) hx hb dX10_readNext_37 (by decide) ?_
          refine lv_istore_n (lv' := [(1, .int 1), (0, .ref (a 0))]) hx hb dX10_readNext_41 rfl hl (by decide) rfl (fun ls hl => ?_)
          refine lv_iload_n hx hb dX10_readNext_42 rfl (lv_at hl 0 rfl) ?_
          refine lv_if_ne (tgt := 51) hx hb dX10_readNext_43 (by decide) (fun c703 => ?_) (fun c703 => ?_)
          rotate_left
          · first | exact absurd c703 (by decide) | exact absurd (by decide) c703
          refine lv_aload_n hx hb dX10_readNext_51 rfl (lv_at hl 1 rfl) ?_
          obtain ⟨w704, vw704, tw704⟩ := hX.2 _ (List.mem_of_getElem? (l := LIT) (i := 17) rfl)
          have vw704 : vk_R RX10 198 "road" w704 s := vw704
          have tw704 : STA A w704 4 (fun j9 => ([114, 111, 97, 100] : List Int32).getD j9 0) s s.heap := tw704
          refine va_ldcS hx hb hown vw704 dX10_readNext_52 ?_
          refine ro_V (As := [.ref w704]) (rest := []) S (m_X10_is l D k a st sl   w704 4 (fun j9 => ([114, 111, 97, 100] : List Int32).getD j9 0) _  hB (by decide) ) lkX10_150 ok_X10_is ⟨rfl, rfl, Nat.le_of_ble_eq_true rfl, Nat.le_of_ble_eq_true rfl⟩ (px_V (ci := 10) (q0 := 0) nice_NSW hK hN rfl mw_0 hP (hD.weaken (fun _ _ _ _ => trivial)) (show NSW w704 4 (fun j9 => ([114, 111, 97, 100] : List Int32).getD j9 0) A s s.heap from ⟨hX, tw704⟩) hS (px_free hD hS hA)) rfl hl.1 rfl (Nat.le_of_ble_eq_true rfl) ⟨Nat.zero_le _, Nat.zero_le _⟩ dX10_readNext_54 (fun r705 er705 => ?_)
          rcases er705 with ⟨rfl, g9⟩ | ⟨rfl, g9⟩
          · skip
            have g706 := g9
            have k707 := g706
            exact absurd k707 k347
          · skip
            have g708 := g9
            have k709 := g708
            refine lv_if_eq (tgt := 71) hx hb dX10_readNext_57 (by decide) (fun c710 => ?_) (fun c710 => ?_)
            rotate_left
            · first | exact absurd c710 (by decide) | exact absurd (by decide) c710
            refine lv_aload_n hx hb dX10_readNext_71 rfl (lv_at hl 1 rfl) ?_
            obtain ⟨w711, vw711, tw711⟩ := hX.2 _ (List.mem_of_getElem? (l := LIT) (i := 18) rfl)
            have vw711 : vk_R RX10 200 "wheel" w711 s := vw711
            have tw711 : STA A w711 5 (fun j9 => ([119, 104, 101, 101, 108] : List Int32).getD j9 0) s s.heap := tw711
            refine va_ldcS hx hb hown vw711 dX10_readNext_72 ?_
            refine ro_V (As := [.ref w711]) (rest := []) S (m_X10_is l D k a st sl   w711 5 (fun j9 => ([119, 104, 101, 101, 108] : List Int32).getD j9 0) _  hB (by decide) ) lkX10_150 ok_X10_is ⟨rfl, rfl, Nat.le_of_ble_eq_true rfl, Nat.le_of_ble_eq_true rfl⟩ (px_V (ci := 10) (q0 := 0) nice_NSW hK hN rfl mw_0 hP (hD.weaken (fun _ _ _ _ => trivial)) (show NSW w711 5 (fun j9 => ([119, 104, 101, 101, 108] : List Int32).getD j9 0) A s s.heap from ⟨hX, tw711⟩) hS (px_free hD hS hA)) rfl hl.1 rfl (Nat.le_of_ble_eq_true rfl) ⟨Nat.zero_le _, Nat.zero_le _⟩ dX10_readNext_74 (fun r712 er712 => ?_)
            rcases er712 with ⟨rfl, g9⟩ | ⟨rfl, g9⟩
            · skip
              have g713 := g9
              have k714 := g713
              exact absurd k714 k564
            · skip
              have g715 := g9
              have k716 := g715
              refine lv_if_eq (tgt := 96) hx hb dX10_readNext_77 (by decide) (fun c717 => ?_) (fun c717 => ?_)
              rotate_left
              · first | exact absurd c717 (by decide) | exact absurd (by decide) c717
              refine lv_aload_n hx hb dX10_readNext_96 rfl (lv_at hl 1 rfl) ?_
              obtain ⟨w718, vw718, tw718⟩ := hX.2 _ (List.mem_of_getElem? (l := LIT) (i := 19) rfl)
              have vw718 : vk_R RX10 202 "cart" w718 s := vw718
              have tw718 : STA A w718 4 (fun j9 => ([99, 97, 114, 116] : List Int32).getD j9 0) s s.heap := tw718
              refine va_ldcS hx hb hown vw718 dX10_readNext_97 ?_
              refine ro_V (As := [.ref w718]) (rest := []) S (m_X10_is l D k a st sl   w718 4 (fun j9 => ([99, 97, 114, 116] : List Int32).getD j9 0) _  hB (by decide) ) lkX10_150 ok_X10_is ⟨rfl, rfl, Nat.le_of_ble_eq_true rfl, Nat.le_of_ble_eq_true rfl⟩ (px_V (ci := 10) (q0 := 0) nice_NSW hK hN rfl mw_0 hP (hD.weaken (fun _ _ _ _ => trivial)) (show NSW w718 4 (fun j9 => ([99, 97, 114, 116] : List Int32).getD j9 0) A s s.heap from ⟨hX, tw718⟩) hS (px_free hD hS hA)) rfl hl.1 rfl (Nat.le_of_ble_eq_true rfl) ⟨Nat.zero_le _, Nat.zero_le _⟩ dX10_readNext_99 (fun r719 er719 => ?_)
              rcases er719 with ⟨rfl, g9⟩ | ⟨rfl, g9⟩
              · skip
                have g720 := g9
                have k721 := g720
                exact absurd k721 k696
              · skip
                have g722 := g9
                have k723 := g722
                refine lv_if_eq (tgt := 115) hx hb dX10_readNext_102 (by decide) (fun c724 => ?_) (fun c724 => ?_)
                rotate_left
                · first | exact absurd c724 (by decide) | exact absurd (by decide) c724
                refine lv_aload_n hx hb dX10_readNext_115 rfl (lv_at hl 1 rfl) ?_
                obtain ⟨w725, vw725, tw725⟩ := hX.2 _ (List.mem_of_getElem? (l := LIT) (i := 20) rfl)
                have vw725 : vk_R RX10 204 "errand" w725 s := vw725
                have tw725 : STA A w725 6 (fun j9 => ([101, 114, 114, 97, 110, 100] : List Int32).getD j9 0) s s.heap := tw725
                refine va_ldcS hx hb hown vw725 dX10_readNext_116 ?_
                refine ro_V (As := [.ref w725]) (rest := []) S (m_X10_is l D k a st sl   w725 6 (fun j9 => ([101, 114, 114, 97, 110, 100] : List Int32).getD j9 0) _  hB (by decide) ) lkX10_150 ok_X10_is ⟨rfl, rfl, Nat.le_of_ble_eq_true rfl, Nat.le_of_ble_eq_true rfl⟩ (px_V (ci := 10) (q0 := 0) nice_NSW hK hN rfl mw_0 hP (hD.weaken (fun _ _ _ _ => trivial)) (show NSW w725 6 (fun j9 => ([101, 114, 114, 97, 110, 100] : List Int32).getD j9 0) A s s.heap from ⟨hX, tw725⟩) hS (px_free hD hS hA)) rfl hl.1 rfl (Nat.le_of_ble_eq_true rfl) ⟨Nat.zero_le _, Nat.zero_le _⟩ dX10_readNext_118 (fun r726 er726 => ?_)
                rcases er726 with ⟨rfl, g9⟩ | ⟨rfl, g9⟩
                · skip
                  have g727 := g9
                  have k728 := g727
                  refine lv_if_eq (tgt := 140) hx hb dX10_readNext_121 (by decide) (fun c729 => ?_) (fun c729 => ?_)
                  · first | exact absurd c729 (by decide) | exact absurd (by decide) c729
                  refine lv_aload_n hx hb dX10_readNext_124 rfl (lv_at hl 1 rfl) ?_
                  refine va_get (D := D) (ci := 10) (v := .ref (a 6)) (C := RX10) (T := TX10) (N := 38) hx hb hT in_X10 hown hK hP 0 mw_0 rfl 14 (by decide) (hT _ t1276) (fun _ h9 => h9) rfl dX10_readNext_125 ?_
                  refine lv_iconst (v := 5) hx hb dX10_readNext_128 (by decide) ?_
                  refine va_iald hx hb hK hP 6 0 mw_6 rfl (by unfold vp_in; decide) dX10_readNext_129 ?_
                  refine k_top (y := (st 6 5)) rfl ?_
                  have h730 : Iv 0 6 (st 6 5) := (tok_at (rm_6 hB).1 5 0 6 (by decide) (by decide) (by decide))
                  refine lv_bipush (v := 6) hx hb dX10_readNext_130 (by decide) ?_
                  refine lv_icmp_ne (tgt := 140) hx hb dX10_readNext_132 (by decide) (fun c731 => ?_) (fun c731 => ?_)
                  · skip
                    have h732 : Iv 0 5 (st 6 5) := ne_hi h730 (show ¬ (st 6 5) = 6 from c731) (by decide) (by decide)
                    refine lv_aload_n hx hb dX10_readNext_140 rfl (lv_at hl 1 rfl) ?_
                    refine ro_V (As := []) (rest := []) S (m_X10_good l D k a st sl   _  hB  ) lkX10_136 ok_X10_good ⟨rfl, rfl, Nat.le_of_ble_eq_true rfl, Nat.le_of_ble_eq_true rfl⟩ (pw_V (ci := 10) (q0 := 0) hK hN rfl mw_0 hP (hD.weaken (fun _ _ _ _ => trivial))) rfl hl.1 rfl (Nat.le_of_ble_eq_true rfl) ⟨Nat.zero_le _, Nat.zero_le _⟩ dX10_readNext_141 (fun r733 er733 => ?_)
                    rcases er733 with ⟨rfl, g9⟩ | ⟨rfl, g9⟩
                    · skip
                      have g734 := g9
                      have k735 := g734
                      refine lv_if_ne (tgt := 148) hx hb dX10_readNext_144 (by decide) (fun c736 => ?_) (fun c736 => ?_)
                      rotate_left
                      · first | exact absurd c736 (by decide) | exact absurd (by decide) c736
                      refine lv_aload_n hx hb dX10_readNext_148 rfl (lv_at hl 1 rfl) ?_
                      obtain ⟨w737, vw737, tw737⟩ := hX.2 _ (List.mem_of_getElem? (l := LIT) (i := 17) rfl)
                      have vw737 : vk_R RX10 198 "road" w737 s := vw737
                      have tw737 : STA A w737 4 (fun j9 => ([114, 111, 97, 100] : List Int32).getD j9 0) s s.heap := tw737
                      refine va_ldcS hx hb hown vw737 dX10_readNext_149 ?_
                      refine ca_i hP hD hS hA (fun hDc => run_V (mc := 0) (ms := 0) (As := [.ref w737]) (rest := []) S (m_X10_takes l D k a st sl   w737 4 (fun j9 => ([114, 111, 97, 100] : List Int32).getD j9 0) _  hB (by decide) ) lkX10_157 ok_X10_takes ⟨rfl, rfl, Nat.le_of_ble_eq_true rfl, Nat.le_of_ble_eq_true rfl⟩ (px_V (ci := 10) (q0 := 0) nice_NSW hK hN rfl mw_0 hP hDc (show NSW w737 4 (fun j9 => ([114, 111, 97, 100] : List Int32).getD j9 0) A s s.heap from ⟨hX, tw737⟩) hS (px_free hD hS hA)) rfl hl.1 rfl (Nat.le_of_ble_eq_true rfl) ⟨Nat.zero_le _, Nat.zero_le _⟩ dX10_readNext_151) (fun r739 s738 H9 locs9 hs738 hP9 hD9 hS9 => ?_)
                      clear hP hD hS
                      have hS := hS9
                      have hP := hP9
                      have hD := hD9
                      clear hP9 hD9 hS9
                      obtain ⟨hBs738, gs738, qs738_0, qs738_1, qs738_2, qs738_3, qs738_4, qs738_5, qs738_6, qs738_7, qs738_8, qs738_9, qs738_10, qs738_11, qs738_12, fs738⟩ := hs738
                      have hFs738 : FR [0, 6] st s738 := fr_ca fr_rf gs738 (sub_1 (List.mem_of_getElem? (i := 0) rfl) sub_0)
                      rcases fs738 with ⟨rfl, g9⟩ | ⟨rfl, g9⟩
                      · skip
                        have g740 := g9
                        have k741 := g740
                        exact absurd k741.1 k347
                      · skip
                        have g742 := g9
                        have k743 := g742
                        refine lv_if_eq (tgt := 164) hx hb dX10_readNext_154 (by decide) (fun c744 => ?_) (fun c744 => ?_)
                        rotate_left
                        · first | exact absurd c744 (by decide) | exact absurd (by decide) c744
                        refine lv_aload_n hx hb dX10_readNext_164 rfl (lv_at hl 1 rfl) ?_
                        obtain ⟨w745, vw745, tw745⟩ := hX.2 _ (List.mem_of_getElem? (l := LIT) (i := 18) rfl)
                        have vw745 : vk_R RX10 200 "wheel" w745 s := vw745
                        have tw745 : STA A w745 5 (fun j9 => ([119, 104, 101, 101, 108] : List Int32).getD j9 0) s s.heap := tw745
                        refine va_ldcS hx hb hown vw745 dX10_readNext_165 ?_
                        refine ca_i hP hD hS hA (fun hDc => run_V (mc := 0) (ms := 0) (As := [.ref w745]) (rest := []) S (m_X10_takes l D k a s738 sl   w745 5 (fun j9 => ([119, 104, 101, 101, 108] : List Int32).getD j9 0) _  hBs738 (by decide) ) lkX10_157 ok_X10_takes ⟨rfl, rfl, Nat.le_of_ble_eq_true rfl, Nat.le_of_ble_eq_true rfl⟩ (px_V (ci := 10) (q0 := 0) nice_NSW hK hN rfl mw_0 hP hDc (show NSW w745 5 (fun j9 => ([119, 104, 101, 101, 108] : List Int32).getD j9 0) A s s.heap from ⟨hX, tw745⟩) hS (px_free hD hS hA)) rfl hl.1 rfl (Nat.le_of_ble_eq_true rfl) ⟨Nat.zero_le _, Nat.zero_le _⟩ dX10_readNext_167) (fun r747 s746 H9 locs9 hs746 hP9 hD9 hS9 => ?_)
                        clear hP hD hS
                        have hS := hS9
                        have hP := hP9
                        have hD := hD9
                        clear hP9 hD9 hS9
                        obtain ⟨hBs746, gs746, qs746_0, qs746_1, qs746_2, qs746_3, qs746_4, qs746_5, qs746_6, qs746_7, qs746_8, qs746_9, qs746_10, qs746_11, qs746_12, fs746⟩ := hs746
                        have hFs746 : FR [0, 6] st s746 := fr_ca hFs738 gs746 (sub_1 (List.mem_of_getElem? (i := 0) rfl) sub_0)
                        rcases fs746 with ⟨rfl, g9⟩ | ⟨rfl, g9⟩
                        · skip
                          have g748 := g9
                          have k749 := g748
                          exact absurd k749.1 (isw_fr0 k743.2 (gs738 4 (nm_1 (by decide) nm_0)) k564)
                        · skip
                          have g750 := g9
                          have k751 := g750
                          refine lv_if_eq (tgt := 180) hx hb dX10_readNext_170 (by decide) (fun c752 => ?_) (fun c752 => ?_)
                          rotate_left
                          · first | exact absurd c752 (by decide) | exact absurd (by decide) c752
                          refine lv_aload_n hx hb dX10_readNext_180 rfl (lv_at hl 1 rfl) ?_
                          obtain ⟨w753, vw753, tw753⟩ := hX.2 _ (List.mem_of_getElem? (l := LIT) (i := 19) rfl)
                          have vw753 : vk_R RX10 202 "cart" w753 s := vw753
                          have tw753 : STA A w753 4 (fun j9 => ([99, 97, 114, 116] : List Int32).getD j9 0) s s.heap := tw753
                          refine va_ldcS hx hb hown vw753 dX10_readNext_181 ?_
                          refine ca_i hP hD hS hA (fun hDc => run_V (mc := 0) (ms := 0) (As := [.ref w753]) (rest := []) S (m_X10_takes l D k a s746 sl   w753 4 (fun j9 => ([99, 97, 114, 116] : List Int32).getD j9 0) _  hBs746 (by decide) ) lkX10_157 ok_X10_takes ⟨rfl, rfl, Nat.le_of_ble_eq_true rfl, Nat.le_of_ble_eq_true rfl⟩ (px_V (ci := 10) (q0 := 0) nice_NSW hK hN rfl mw_0 hP hDc (show NSW w753 4 (fun j9 => ([99, 97, 114, 116] : List Int32).getD j9 0) A s s.heap from ⟨hX, tw753⟩) hS (px_free hD hS hA)) rfl hl.1 rfl (Nat.le_of_ble_eq_true rfl) ⟨Nat.zero_le _, Nat.zero_le _⟩ dX10_readNext_183) (fun r755 s754 H9 locs9 hs754 hP9 hD9 hS9 => ?_)
                          clear hP hD hS
                          have hS := hS9
                          have hP := hP9
                          have hD := hD9
                          clear hP9 hD9 hS9
                          obtain ⟨hBs754, gs754, qs754_0, qs754_1, qs754_2, qs754_3, qs754_4, qs754_5, qs754_6, qs754_7, qs754_8, qs754_9, qs754_10, qs754_11, qs754_12, fs754⟩ := hs754
                          have hFs754 : FR [0, 6] st s754 := fr_ca hFs746 gs754 (sub_1 (List.mem_of_getElem? (i := 0) rfl) sub_0)
                          rcases fs754 with ⟨rfl, g9⟩ | ⟨rfl, g9⟩
                          · skip
                            have g756 := g9
                            have k757 := g756
                            exact absurd k757.1 (isw_fr0 k751.2 (gs746 4 (nm_1 (by decide) nm_0)) (isw_fr0 k743.2 (gs738 4 (nm_1 (by decide) nm_0)) k696))
                          · skip
                            have g758 := g9
                            have k759 := g758
                            refine lv_if_eq (tgt := 196) hx hb dX10_readNext_186 (by decide) (fun c760 => ?_) (fun c760 => ?_)
                            rotate_left
                            · first | exact absurd c760 (by decide) | exact absurd (by decide) c760
                            refine lv_aload_n hx hb dX10_readNext_196 rfl (lv_at hl 1 rfl) ?_
                            refine ca_v hP hD hS hA (fun hDc => run_V (mc := 0) (ms := 0) (As := []) (rest := []) S (m_X10_advance l D k a s754 sl   _  hBs754  ) lkX10_154 ok_X10_advance ⟨rfl, rfl, Nat.le_of_ble_eq_true rfl, Nat.le_of_ble_eq_true rfl⟩ (pw_V (ci := 10) (q0 := 0) hK hN rfl mw_0 hP hDc) rfl hl.1 rfl (Nat.le_of_ble_eq_true rfl) ⟨Nat.zero_le _, Nat.zero_le _⟩ dX10_readNext_197) (fun s761 H9 locs9 hs761 hP9 hD9 hS9 => ?_)
                            clear hP hD hS
                            have hS := hS9
                            have hP := hP9
                            have hD := hD9
                            clear hP9 hD9 hS9
                            obtain ⟨hBs761, gs761, qs761_0, qs761_1, qs761_2, qs761_3, qs761_4, qs761_5, qs761_6, qs761_7, qs761_8, qs761_9, qs761_10, qs761_11, qs761_12, fs761⟩ := hs761
                            have hFs761 : FR [0, 6] st s761 := fr_ca hFs754 gs761 (sub_1 (List.mem_of_getElem? (i := 0) rfl) sub_0)
                            have k763 := fs761
                            refine lv_aload_n hx hb dX10_readNext_200 rfl (lv_at hl 1 rfl) ?_
                            refine ca_v hP hD hS hA (fun hDc => run_V (mc := 0) (ms := 0) (As := []) (rest := []) S (m_X10_readErrand l D k a s761 sl   _  hBs761  (eq_l (Eq.trans (congrFun (gs761 6 (nm_1 (by decide) nm_0)) 5) (Eq.trans (congrFun (gs754 6 (nm_1 (by decide) nm_0)) 5) (Eq.trans (congrFun (gs746 6 (nm_1 (by decide) nm_0)) 5) (congrFun (gs738 6 (nm_1 (by decide) nm_0)) 5)))) h732)) lkX10_215 ok_X10_readErrand ⟨rfl, rfl, Nat.le_of_ble_eq_true rfl, Nat.le_of_ble_eq_true rfl⟩ (px_V (ci := 10) (q0 := 0) nice_NS hK hN rfl mw_0 hP hDc hX hS (px_free hD hS hA)) rfl hl.1 rfl (Nat.le_of_ble_eq_true rfl) ⟨Nat.zero_le _, Nat.zero_le _⟩ dX10_readNext_201) (fun s764 H9 locs9 hs764 hP9 hD9 hS9 => ?_)
                            clear hP hD hS
                            have hS := hS9
                            have hP := hP9
                            have hD := hD9
                            clear hP9 hD9 hS9
                            obtain ⟨hBs764, gs764, qs764_0, qs764_1, qs764_2, qs764_3, qs764_4, qs764_5, qs764_6, qs764_7, qs764_8, qs764_9, qs764_10, fs764⟩ := hs764
                            have hFs764 : FR [0, 6] st s764 := fr_ca hFs761 gs764 (sub_1 (List.mem_of_getElem? (i := 0) rfl) (sub_1 (List.mem_of_getElem? (i := 1) rfl) sub_0))
                            have k766 := fs764
                            rw [hQ]
                            exact W.vret hx hb hr (fun t ht hW => ⟨⟨s764, rfl, ⟨hBs764, hFs764, (Eq.trans qs764_0 (Eq.trans qs761_0 (Eq.trans qs754_0 (Eq.trans qs746_0 qs738_0)))), (Eq.trans qs764_1 (Eq.trans qs761_1 (Eq.trans qs754_1 (Eq.trans qs746_1 qs738_1)))), (Eq.trans qs764_2 (Eq.trans qs761_2 (Eq.trans qs754_2 (Eq.trans qs746_2 qs738_2)))), (Eq.trans qs764_3 (Eq.trans qs761_5 (Eq.trans qs754_5 (Eq.trans qs746_5 qs738_5)))), (Eq.trans qs764_4 (Eq.trans qs761_6 (Eq.trans qs754_6 (Eq.trans qs746_6 qs738_6)))), (Eq.trans qs764_5 (Eq.trans qs761_7 (Eq.trans qs754_7 (Eq.trans qs746_7 qs738_7)))), (Eq.trans qs764_6 (Eq.trans qs761_8 (Eq.trans qs754_8 (Eq.trans qs746_8 qs738_8)))), (Eq.trans qs764_7 (Eq.trans qs761_9 (Eq.trans qs754_9 (Eq.trans qs746_9 qs738_9)))), (Eq.trans qs764_8 (Eq.trans qs761_10 (Eq.trans qs754_10 (Eq.trans qs746_10 qs738_10)))), (Eq.trans qs764_9 (Eq.trans qs761_11 (Eq.trans qs754_11 (Eq.trans qs746_11 qs738_11)))), (Eq.trans qs764_10 (Eq.trans qs761_12 (Eq.trans qs754_12 (Eq.trans qs746_12 qs738_12)))), ⟨(fun _ => k735), (Int.le_trans (show (st 0 8).toInt ≤ (s738 0 8).toInt from by rw [k743.2]; exact Int.le_refl _) (Int.le_trans (show (s738 0 8).toInt ≤ (s746 0 8).toInt from by rw [k751.2]; exact Int.le_refl _) (Int.le_trans (show (s746 0 8).toInt ≤ (s754 0 8).toInt from by rw [k759.2]; exact Int.le_refl _) (Int.le_trans k763.1 k766.2))))⟩⟩, by rw [ht]; exact hP, va_K.moved hW.alike (hK.sub (tys' := []) [] rfl), by rw [hAe]; exact hD⟩, by rw [hAe]; exact hS.F ht⟩) hS.2.2 dX10_readNext_204
                    · skip
                      have g767 := g9
                      have k768 := g767
                      refine lv_if_ne (tgt := 148) hx hb dX10_readNext_144 (by decide) (fun c769 => ?_) (fun c769 => ?_)
                      · first | exact absurd c769 (by decide) | exact absurd (by decide) c769
                      rw [hQ]
                      exact W.vret hx hb hr (fun t ht hW => ⟨⟨st, rfl, ⟨hB, fr_rf, rfl, rfl, rfl, rfl, rfl, rfl, rfl, rfl, rfl, rfl, rfl, ⟨(fun z9 => absurd z9 k768), (Int.le_refl _)⟩⟩, by rw [ht]; exact hP, va_K.moved hW.alike (hK.sub (tys' := []) [] rfl), by rw [hAe]; exact hD⟩, by rw [hAe]; exact hS.F ht⟩) hS.2.2 dX10_readNext_147
                  · skip
                    have h770 : Iv 6 6 (st 6 5) := eq_l c731 (iv_c (by decide) : Iv 6 6 6)
                    refine lv_aload_n hx hb dX10_readNext_135 rfl (lv_at hl 1 rfl) ?_
                    refine lv_iconst (v := 3) hx hb dX10_readNext_136 (by decide) ?_
                    refine ca_v hP hD hS hA (fun hDc => run_V (mc := 0) (ms := 0) (As := [.int 3]) (rest := []) S (m_X10_errs l D k a st sl  3 _  hB (iv_mono (c := 1) (d := 3) (iv_c (by decide) : Iv 3 3 3) (by decide) (by decide)) ) lkX10_160 ok_X10_errs ⟨rfl, rfl, Nat.le_of_ble_eq_true rfl, Nat.le_of_ble_eq_true rfl⟩ (pw_V (ci := 10) (q0 := 0) hK hN rfl mw_0 hP hDc) rfl hl.1 rfl (Nat.le_of_ble_eq_true rfl) ⟨Nat.zero_le _, Nat.zero_le _⟩ dX10_readNext_137) (fun s771 H9 locs9 hs771 hP9 hD9 hS9 => ?_)
                    clear hP hD hS
                    have hS := hS9
                    have hP := hP9
                    have hD := hD9
                    clear hP9 hD9 hS9
                    obtain ⟨hBs771, gs771, qs771_0, qs771_1, qs771_2, qs771_3, qs771_4, qs771_5, qs771_6, qs771_7, qs771_8, qs771_9, qs771_10, qs771_11, qs771_12, qs771_13, qs771_14, fs771⟩ := hs771
                    have hFs771 : FR [0, 6] st s771 := fr_ca fr_rf gs771 (sub_1 (List.mem_of_getElem? (i := 0) rfl) sub_0)
                    have k773 := fs771
                    refine lv_aload_n hx hb dX10_readNext_140 rfl (lv_at hl 1 rfl) ?_
                    refine ro_V (As := []) (rest := []) S (m_X10_good l D k a s771 sl   _  hBs771  ) lkX10_136 ok_X10_good ⟨rfl, rfl, Nat.le_of_ble_eq_true rfl, Nat.le_of_ble_eq_true rfl⟩ (pw_V (ci := 10) (q0 := 0) hK hN rfl mw_0 hP (hD.weaken (fun _ _ _ _ => trivial))) rfl hl.1 rfl (Nat.le_of_ble_eq_true rfl) ⟨Nat.zero_le _, Nat.zero_le _⟩ dX10_readNext_141 (fun r774 er774 => ?_)
                    rcases er774 with ⟨rfl, g9⟩ | ⟨rfl, g9⟩
                    · skip
                      have g775 := g9
                      have k776 := g775
                      exact absurd k776 k773
                    · skip
                      have g777 := g9
                      have k778 := g777
                      refine lv_if_ne (tgt := 148) hx hb dX10_readNext_144 (by decide) (fun c779 => ?_) (fun c779 => ?_)
                      · first | exact absurd c779 (by decide) | exact absurd (by decide) c779
                      rw [hQ]
                      exact W.vret hx hb hr (fun t ht hW => ⟨⟨s771, rfl, ⟨hBs771, hFs771, qs771_0, qs771_1, qs771_2, qs771_7, qs771_8, qs771_9, qs771_10, qs771_11, qs771_12, qs771_13, qs771_14, ⟨(fun z9 => absurd z9 k778), (show (st 0 8).toInt ≤ (s771 0 8).toInt from by rw [qs771_3]; exact Int.le_refl _)⟩⟩, by rw [ht]; exact hP, va_K.moved hW.alike (hK.sub (tys' := []) [] rfl), by rw [hAe]; exact hD⟩, by rw [hAe]; exact hS.F ht⟩) hS.2.2 dX10_readNext_147
                · skip
                  have g780 := g9
                  have k781 := g780
                  exact absurd k701 k781
        · skip
          have g782 := g9
          have k783 := g782
          refine lv_if_eq (tgt := 40) hx hb dX10_readNext_33 (by decide) (fun c784 => ?_) (fun c784 => ?_)
          rotate_left
          · first | exact absurd c784 (by decide) | exact absurd (by decide) c784
          refine lv_iconst (v := 0) hx hb dX10_readNext_40 (by decide) ?_
          refine lv_istore_n (lv' := [(1, .int 0), (0, .ref (a 0))]) hx hb dX10_readNext_41 rfl hl (by decide) rfl (fun ls hl => ?_)
          refine lv_iload_n hx hb dX10_readNext_42 rfl (lv_at hl 0 rfl) ?_
          refine lv_if_ne (tgt := 51) hx hb dX10_readNext_43 (by decide) (fun c785 => ?_) (fun c785 => ?_)
          · first | exact absurd c785 (by decide) | exact absurd (by decide) c785
          refine lv_aload_n hx hb dX10_readNext_46 rfl (lv_at hl 1 rfl) ?_
          refine lv_iconst (v := 1) hx hb dX10_readNext_47 (by decide) ?_
          refine ca_v hP hD hS hA (fun hDc => run_V (mc := 0) (ms := 0) (As := [.int 1]) (rest := []) S (m_X10_errs l D k a st sl  1 _  hB (iv_mono (c := 1) (d := 3) (iv_c (by decide) : Iv 1 1 1) (by decide) (by decide)) ) lkX10_160 ok_X10_errs ⟨rfl, rfl, Nat.le_of_ble_eq_true rfl, Nat.le_of_ble_eq_true rfl⟩ (pw_V (ci := 10) (q0 := 0) hK hN rfl mw_0 hP hDc) rfl hl.1 rfl (Nat.le_of_ble_eq_true rfl) ⟨Nat.zero_le _, Nat.zero_le _⟩ dX10_readNext_48) (fun s786 H9 locs9 hs786 hP9 hD9 hS9 => ?_)
          clear hP hD hS
          have hS := hS9
          have hP := hP9
          have hD := hD9
          clear hP9 hD9 hS9
          obtain ⟨hBs786, gs786, qs786_0, qs786_1, qs786_2, qs786_3, qs786_4, qs786_5, qs786_6, qs786_7, qs786_8, qs786_9, qs786_10, qs786_11, qs786_12, qs786_13, qs786_14, fs786⟩ := hs786
          have hFs786 : FR [0, 6] st s786 := fr_ca fr_rf gs786 (sub_1 (List.mem_of_getElem? (i := 0) rfl) sub_0)
          have k788 := fs786
          refine lv_aload_n hx hb dX10_readNext_51 rfl (lv_at hl 1 rfl) ?_
          obtain ⟨w789, vw789, tw789⟩ := hX.2 _ (List.mem_of_getElem? (l := LIT) (i := 17) rfl)
          have vw789 : vk_R RX10 198 "road" w789 s := vw789
          have tw789 : STA A w789 4 (fun j9 => ([114, 111, 97, 100] : List Int32).getD j9 0) s s.heap := tw789
          refine va_ldcS hx hb hown vw789 dX10_readNext_52 ?_
          refine ro_V (As := [.ref w789]) (rest := []) S (m_X10_is l D k a s786 sl   w789 4 (fun j9 => ([114, 111, 97, 100] : List Int32).getD j9 0) _  hBs786 (by decide) ) lkX10_150 ok_X10_is ⟨rfl, rfl, Nat.le_of_ble_eq_true rfl, Nat.le_of_ble_eq_true rfl⟩ (px_V (ci := 10) (q0 := 0) nice_NSW hK hN rfl mw_0 hP (hD.weaken (fun _ _ _ _ => trivial)) (show NSW w789 4 (fun j9 => ([114, 111, 97, 100] : List Int32).getD j9 0) A s s.heap from ⟨hX, tw789⟩) hS (px_free hD hS hA)) rfl hl.1 rfl (Nat.le_of_ble_eq_true rfl) ⟨Nat.zero_le _, Nat.zero_le _⟩ dX10_readNext_54 (fun r790 er790 => ?_)
          rcases er790 with ⟨rfl, g9⟩ | ⟨rfl, g9⟩
          · skip
            have g791 := g9
            have k792 := g791
            exact absurd k792.1.1 k788
          · skip
            have g793 := g9
            have k794 := g793
            refine lv_if_eq (tgt := 71) hx hb dX10_readNext_57 (by decide) (fun c795 => ?_) (fun c795 => ?_)
            rotate_left
            · first | exact absurd c795 (by decide) | exact absurd (by decide) c795
            refine lv_aload_n hx hb dX10_readNext_71 rfl (lv_at hl 1 rfl) ?_
            obtain ⟨w796, vw796, tw796⟩ := hX.2 _ (List.mem_of_getElem? (l := LIT) (i := 18) rfl)
            have vw796 : vk_R RX10 200 "wheel" w796 s := vw796
            have tw796 : STA A w796 5 (fun j9 => ([119, 104, 101, 101, 108] : List Int32).getD j9 0) s s.heap := tw796
            refine va_ldcS hx hb hown vw796 dX10_readNext_72 ?_
            refine ro_V (As := [.ref w796]) (rest := []) S (m_X10_is l D k a s786 sl   w796 5 (fun j9 => ([119, 104, 101, 101, 108] : List Int32).getD j9 0) _  hBs786 (by decide) ) lkX10_150 ok_X10_is ⟨rfl, rfl, Nat.le_of_ble_eq_true rfl, Nat.le_of_ble_eq_true rfl⟩ (px_V (ci := 10) (q0 := 0) nice_NSW hK hN rfl mw_0 hP (hD.weaken (fun _ _ _ _ => trivial)) (show NSW w796 5 (fun j9 => ([119, 104, 101, 101, 108] : List Int32).getD j9 0) A s s.heap from ⟨hX, tw796⟩) hS (px_free hD hS hA)) rfl hl.1 rfl (Nat.le_of_ble_eq_true rfl) ⟨Nat.zero_le _, Nat.zero_le _⟩ dX10_readNext_74 (fun r797 er797 => ?_)
            rcases er797 with ⟨rfl, g9⟩ | ⟨rfl, g9⟩
            · skip
              have g798 := g9
              have k799 := g798
              exact absurd k799.1.1 k788
            · skip
              have g800 := g9
              have k801 := g800
              refine lv_if_eq (tgt := 96) hx hb dX10_readNext_77 (by decide) (fun c802 => ?_) (fun c802 => ?_)
              rotate_left
              · first | exact absurd c802 (by decide) | exact absurd (by decide) c802
              refine lv_aload_n hx hb dX10_readNext_96 rfl (lv_at hl 1 rfl) ?_
              obtain ⟨w803, vw803, tw803⟩ := hX.2 _ (List.mem_of_getElem? (l := LIT) (i := 19) rfl)
              have vw803 : vk_R RX10 202 "cart" w803 s := vw803
              have tw803 : STA A w803 4 (fun j9 => ([99, 97, 114, 116] : List Int32).getD j9 0) s s.heap := tw803
              refine va_ldcS hx hb hown vw803 dX10_readNext_97 ?_
              refine ro_V (As := [.ref w803]) (rest := []) S (m_X10_is l D k a s786 sl   w803 4 (fun j9 => ([99, 97, 114, 116] : List Int32).getD j9 0) _  hBs786 (by decide) ) lkX10_150 ok_X10_is ⟨rfl, rfl, Nat.le_of_ble_eq_true rfl, Nat.le_of_ble_eq_true rfl⟩ (px_V (ci := 10) (q0 := 0) nice_NSW hK hN rfl mw_0 hP (hD.weaken (fun _ _ _ _ => trivial)) (show NSW w803 4 (fun j9 => ([99, 97, 114, 116] : List Int32).getD j9 0) A s s.heap from ⟨hX, tw803⟩) hS (px_free hD hS hA)) rfl hl.1 rfl (Nat.le_of_ble_eq_true rfl) ⟨Nat.zero_le _, Nat.zero_le _⟩ dX10_readNext_99 (fun r804 er804 => ?_)
              rcases er804 with ⟨rfl, g9⟩ | ⟨rfl, g9⟩
              · skip
                have g805 := g9
                have k806 := g805
                exact absurd k806.1.1 k788
              · skip
                have g807 := g9
                have k808 := g807
                refine lv_if_eq (tgt := 115) hx hb dX10_readNext_102 (by decide) (fun c809 => ?_) (fun c809 => ?_)
                rotate_left
                · first | exact absurd c809 (by decide) | exact absurd (by decide) c809
                refine lv_aload_n hx hb dX10_readNext_115 rfl (lv_at hl 1 rfl) ?_
                obtain ⟨w810, vw810, tw810⟩ := hX.2 _ (List.mem_of_getElem? (l := LIT) (i := 20) rfl)
                have vw810 : vk_R RX10 204 "errand" w810 s := vw810
                have tw810 : STA A w810 6 (fun j9 => ([101, 114, 114, 97, 110, 100] : List Int32).getD j9 0) s s.heap := tw810
                refine va_ldcS hx hb hown vw810 dX10_readNext_116 ?_
                refine ro_V (As := [.ref w810]) (rest := []) S (m_X10_is l D k a s786 sl   w810 6 (fun j9 => ([101, 114, 114, 97, 110, 100] : List Int32).getD j9 0) _  hBs786 (by decide) ) lkX10_150 ok_X10_is ⟨rfl, rfl, Nat.le_of_ble_eq_true rfl, Nat.le_of_ble_eq_true rfl⟩ (px_V (ci := 10) (q0 := 0) nice_NSW hK hN rfl mw_0 hP (hD.weaken (fun _ _ _ _ => trivial)) (show NSW w810 6 (fun j9 => ([101, 114, 114, 97, 110, 100] : List Int32).getD j9 0) A s s.heap from ⟨hX, tw810⟩) hS (px_free hD hS hA)) rfl hl.1 rfl (Nat.le_of_ble_eq_true rfl) ⟨Nat.zero_le _, Nat.zero_le _⟩ dX10_readNext_118 (fun r811 er811 => ?_)
                rcases er811 with ⟨rfl, g9⟩ | ⟨rfl, g9⟩
                · skip
                  have g812 := g9
                  have k813 := g812
                  exact absurd k813.1.1 k788
                · skip
                  have g814 := g9
                  have k815 := g814
                  refine lv_if_eq (tgt := 140) hx hb dX10_readNext_121 (by decide) (fun c816 => ?_) (fun c816 => ?_)
                  rotate_left
                  · first | exact absurd c816 (by decide) | exact absurd (by decide) c816
                  refine lv_aload_n hx hb dX10_readNext_140 rfl (lv_at hl 1 rfl) ?_
                  refine ro_V (As := []) (rest := []) S (m_X10_good l D k a s786 sl   _  hBs786  ) lkX10_136 ok_X10_good ⟨rfl, rfl, Nat.le_of_ble_eq_true rfl, Nat.le_of_ble_eq_true rfl⟩ (pw_V (ci := 10) (q0 := 0) hK hN rfl mw_0 hP (hD.weaken (fun _ _ _ _ => trivial))) rfl hl.1 rfl (Nat.le_of_ble_eq_true rfl) ⟨Nat.zero_le _, Nat.zero_le _⟩ dX10_readNext_141 (fun r817 er817 => ?_)
                  rcases er817 with ⟨rfl, g9⟩ | ⟨rfl, g9⟩
                  · skip
                    have g818 := g9
                    have k819 := g818
                    exact absurd k819 k788
                  · skip
                    have g820 := g9
                    have k821 := g820
                    refine lv_if_ne (tgt := 148) hx hb dX10_readNext_144 (by decide) (fun c822 => ?_) (fun c822 => ?_)
                    · first | exact absurd c822 (by decide) | exact absurd (by decide) c822
                    rw [hQ]
                    exact W.vret hx hb hr (fun t ht hW => ⟨⟨s786, rfl, ⟨hBs786, hFs786, qs786_0, qs786_1, qs786_2, qs786_7, qs786_8, qs786_9, qs786_10, qs786_11, qs786_12, qs786_13, qs786_14, ⟨(fun z9 => absurd z9 k821), (show (st 0 8).toInt ≤ (s786 0 8).toInt from by rw [qs786_3]; exact Int.le_refl _)⟩⟩, by rw [ht]; exact hP, va_K.moved hW.alike (hK.sub (tys' := []) [] rfl), by rw [hAe]; exact hD⟩, by rw [hAe]; exact hS.F ht⟩) hS.2.2 dX10_readNext_147
