set_option maxHeartbeats 4000000 in
set_option maxRecDepth 100000 in
theorem m_X10_readRoad (l : Launch) (D : va_G) (k : Nat → ClassId) (a : Nat → Nat) (st : CT) (sl : CL) (sz : Nat) (hB : MB st)  (hj : Iv 0 7 (st 6 2)) : Met l yX10_readRoad (.code yX10_readRoad cX10_readRoad 2 none :: TB) (rmw 9 0 0) (va_Pc [.ref (a 0)] (PX D k sz (MWS k a st sl) NS)) (QV D (S := CT) (fun u => MB u ∧ FR [0, 6] st u ∧ u 0 0 = st 0 0 ∧ u 0 5 = st 0 5 ∧ u 0 7 = st 0 7 ∧ u 0 20 = st 0 20 ∧ u 0 21 = st 0 21 ∧ u 0 22 = st 0 22 ∧ u 0 26 = st 0 26 ∧ u 0 27 = st 0 27 ∧ u 0 29 = st 0 29 ∧ u 0 31 = st 0 31 ∧ u 0 33 = st 0 33 ∧ ((u 0 12 = 0 → st 0 12 = 0) ∧ (st 0 8).toInt ≤ (u 0 8).toInt)) (fun u => MWS k a u sl) (fun _ => []) (MWS k a st sl) sz) 0 0 (va_A (MWS k a st sl) sz) := by
  refine Met.ofW (cc := cX10_readRoad) (maxL := 2) (ret := none) (by decide) rfl ?_
  intro p e s m args below meth c s₁ B hml hv
  obtain ⟨rfl, hsz, hP, hK, hD0, hN, hX⟩ := hv
  have hx := B.exec
  have hb := B.bytes
  have hr := B.returns
  have hT : ∀ w9 ∈ TB, w9.before ([.ref (a 0)] : List Value).toArray s = true := fun w9 h => atoms_spec (ws := .code yX10_readRoad cX10_readRoad 2 none :: TB) B.pre w9 (List.mem_cons_of_mem _ h)
  have hown : s.vm.findClass RX10 = some m.cls := findClass_of_methodNamed B.named
  have S : CallFix p m c cX10_readRoad 2 s _ TB RX10 := ⟨hx, hb, hml, hown, hT⟩
  subst hsz
  have hD := hD0.self (sz := s.heap.size)
  generalize hAe : va_A (MWS k a st sl) s.heap.size = A at hD hX ⊢
  have hA : ∀ q : Nat, s.heap.size ≤ q → A q := fun q h => by rw [← hAe]; exact Or.inr h
  have hS : va_S A s.heap s.heap [] := va_S.rf
  have hl := lv_entry ([.ref (a 0)]) (n := 2) (Nat.le_of_ble_eq_true rfl)
  rw [lg_entry_eq]
  generalize (lg_sl ([.ref (a 0)]) ++ List.replicate (2 - (lg_sl ([.ref (a 0)])).length) Slot.unset).toArray = ls at hl ⊢
  have hl : lv_has ls 2 [(0, .ref (a 0))] := hl
  refine nameQ (fun Q hQ => ?_)
  refine lv_bipush (v := 8) hx hb dX10_readRoad_0 (by decide) ?_
  refine lv_iconst (v := 3) hx hb dX10_readRoad_2 (by decide) ?_
  refine lv_aload_n hx hb dX10_readRoad_3 rfl (lv_at hl 0 rfl) ?_
  refine va_get (D := D) (ci := 10) (v := .ref (a 6)) (C := RX10) (T := TX10) (N := 38) hx hb hT in_X10 hown hK hP 0 mw_0 rfl 14 (by decide) (hT _ t1276) (fun _ h9 => h9) rfl dX10_readRoad_4 ?_
  refine lv_iconst (v := 2) hx hb dX10_readRoad_7 (by decide) ?_
  refine va_iald hx hb hK hP 6 0 mw_6 rfl (by unfold vp_in; decide) dX10_readRoad_8 ?_
  refine k_top (y := (st 6 2)) rfl ?_
  refine lv_imul hx hb dX10_readRoad_9 ?_
  refine lv_topi (fun z1 ez1 => ?_)
  have h2 : Iv 0 21 z1 := iv_mull ez1 hj (k := 3) (by decide) (by decide) (by decide) (by decide) (by decide) (by decide)
  refine lv_iadd hx hb dX10_readRoad_10 ?_
  refine lv_topi (fun z3 ez3 => ?_)
  have h4 : Iv 8 29 z3 := iv_add ez3 (iv_c (by decide) : Iv 8 8 8) h2 (by decide) (by decide) (by decide) (by decide)
  refine lv_istore_n (lv' := [(1, .int z3), (0, .ref (a 0))]) hx hb dX10_readRoad_11 rfl hl (by decide) rfl (fun ls hl => ?_)
  refine lv_aload_n hx hb dX10_readRoad_12 rfl (lv_at hl 1 rfl) ?_
  refine va_get (D := D) (ci := 10) (v := .ref (a 6)) (C := RX10) (T := TX10) (N := 38) hx hb hT in_X10 hown hK hP 0 mw_0 rfl 14 (by decide) (hT _ t1276) (fun _ h9 => h9) rfl dX10_readRoad_13 ?_
  refine lv_iload_n hx hb dX10_readRoad_16 rfl (lv_at hl 0 rfl) ?_
  refine lv_aload_n hx hb dX10_readRoad_17 rfl (lv_at hl 1 rfl) ?_
  refine ca_i hP hD hS hA (fun hDc => run_V (mc := 0) (ms := 0) (As := []) (rest := [.int z3, .ref (a 6)]) S (m_X10_freshPlace l D k a st sl   _  hB  ) lkX10_171 ok_X10_freshPlace ⟨rfl, rfl, Nat.le_of_ble_eq_true rfl, Nat.le_of_ble_eq_true rfl⟩ (pw_V (ci := 10) (q0 := 0) hK hN rfl mw_0 hP hDc) rfl hl.1 rfl (Nat.le_of_ble_eq_true rfl) ⟨Nat.zero_le _, Nat.zero_le _⟩ dX10_readRoad_18) (fun r6 s5 H9 locs9 hs5 hP9 hD9 hS9 => ?_)
  clear hP hD hS
  have hS := hS9
  have hP := hP9
  have hD := hD9
  clear hP9 hD9 hS9
  obtain ⟨hBs5, gs5, qs5_0, qs5_1, qs5_2, qs5_3, qs5_4, qs5_5, qs5_6, qs5_7, qs5_8, qs5_9, qs5_10, fs5⟩ := hs5
  have hFs5 : FR [0, 6] st s5 := fr_ca fr_rf gs5 (sub_1 (List.mem_of_getElem? (i := 0) rfl) sub_0)
  have h7 : Iv 0 5 r6 := fs5.1
  have k8 := fs5.2
  refine c_ist hx hb hK hP hD hS mw_6 ms_6 (iv_in h4 (by decide) (by decide)) dX10_readRoad_21 (fun s9 H9 locs9 es9 hP9 hD9 hS9 => ?_)
  clear hP hD hS
  have hS := hS9
  have hP := hP9
  have hD := hD9
  clear hP9 hD9 hS9
  have hBs9 : MB s9 := by rw [es9]; exact mb_sw hBs5 (fok_bd (hBs5 6) (bd_e (k := 0) hj ⟨by decide, by decide⟩ (by have _c16 : (8 : Int32).toInt = 8 := rfl; have _c6 : (3 : Int32).toInt = 3 := rfl; have _ez1 := ti_mull ez1 hj (k := 3) (by decide) (by decide) (by decide) (by decide); have _ez3 := ti_add ez3 (iv_c (by decide) : Iv 8 8 8) h2 (by decide) (by decide); have z9 : (0 : Int32).toInt = 0 := rfl; omega)) h7)
  have hFs9 : FR [0, 6] st s9 := fr_sw hFs5 (List.mem_of_getElem? (i := 1) rfl) es9
  refine lv_aload_n hx hb dX10_readRoad_22 rfl (lv_at hl 1 rfl) ?_
  obtain ⟨w10, vw10, tw10⟩ := hX.2 _ (List.mem_of_getElem? (l := LIT) (i := 21) rfl)
  have vw10 : vk_R RX10 174 "to" w10 s := vw10
  have tw10 : STA A w10 2 (fun j9 => ([116, 111] : List Int32).getD j9 0) s s.heap := tw10
  refine va_ldcS hx hb hown vw10 dX10_readRoad_23 ?_
  refine ca_v hP hD hS hA (fun hDc => run_V (mc := 0) (ms := 0) (As := [.ref w10]) (rest := []) S (m_X10_needs l D k a s9 sl   w10 2 (fun j9 => ([116, 111] : List Int32).getD j9 0) _  hBs9 (by decide) ) lkX10_164 ok_X10_needs ⟨rfl, rfl, Nat.le_of_ble_eq_true rfl, Nat.le_of_ble_eq_true rfl⟩ (px_V (ci := 10) (q0 := 0) nice_NSW hK hN rfl mw_0 hP hDc (show NSW w10 2 (fun j9 => ([116, 111] : List Int32).getD j9 0) A s s.heap from ⟨hX, tw10⟩) hS (px_free hD hS hA)) rfl hl.1 rfl (Nat.le_of_ble_eq_true rfl) ⟨Nat.zero_le _, Nat.zero_le _⟩ dX10_readRoad_25) (fun s11 H9 locs9 hs11 hP9 hD9 hS9 => ?_)
  clear hP hD hS
  have hS := hS9
  have hP := hP9
  have hD := hD9
  clear hP9 hD9 hS9
  obtain ⟨hBs11, gs11, qs11_0, qs11_1, qs11_2, qs11_3, qs11_4, qs11_5, qs11_6, qs11_7, qs11_8, qs11_9, qs11_10, fs11⟩ := hs11
  have hFs11 : FR [0, 6] st s11 := fr_ca hFs9 gs11 (sub_1 (List.mem_of_getElem? (i := 0) rfl) sub_0)
  have k13 := fs11
  refine lv_aload_n hx hb dX10_readRoad_28 rfl (lv_at hl 1 rfl) ?_
  refine ro_V (As := []) (rest := []) S (m_X10_good l D k a s11 sl   _  hBs11  ) lkX10_136 ok_X10_good ⟨rfl, rfl, Nat.le_of_ble_eq_true rfl, Nat.le_of_ble_eq_true rfl⟩ (pw_V (ci := 10) (q0 := 0) hK hN rfl mw_0 hP (hD.weaken (fun _ _ _ _ => trivial))) rfl hl.1 rfl (Nat.le_of_ble_eq_true rfl) ⟨Nat.zero_le _, Nat.zero_le _⟩ dX10_readRoad_29 (fun r14 er14 => ?_)
  rcases er14 with ⟨rfl, g9⟩ | ⟨rfl, g9⟩
  · skip
    have g15 := g9
    have k16 := g15
    have k17 := k13.1 k16
    have k18 : s9 0 12 = 0 := k17
    rw [(congrFun (sw_at es9 (by decide)) 12)] at k18
    have k19 := k8.1 k18
    have k20 : st 0 12 = 0 := k19
    refine lv_if_eq (tgt := 61) hx hb dX10_readRoad_32 (by decide) (fun c21 => ?_) (fun c21 => ?_)
    · first | exact absurd c21 (by decide) | exact absurd (by decide) c21
    refine lv_aload_n hx hb dX10_readRoad_35 rfl (lv_at hl 1 rfl) ?_
    refine va_get (D := D) (ci := 10) (v := .int (s11 0 10)) (C := RX10) (T := TX10) (N := 38) hx hb hT in_X10 hown hK hP 0 mw_0 rfl 10 (by decide) (hT _ t1272) (fun _ h9 => h9) rfl dX10_readRoad_36 ?_
    refine lv_iconst (v := 2) hx hb dX10_readRoad_39 (by decide) ?_
    refine lv_icmp_ne (tgt := 61) hx hb dX10_readRoad_40 (by decide) (fun c22 => ?_) (fun c22 => ?_)
    · skip
      refine lv_aload_n hx hb dX10_readRoad_61 rfl (lv_at hl 1 rfl) ?_
      refine va_get (D := D) (ci := 10) (v := .ref (a 6)) (C := RX10) (T := TX10) (N := 38) hx hb hT in_X10 hown hK hP 0 mw_0 rfl 14 (by decide) (hT _ t1276) (fun _ h9 => h9) rfl dX10_readRoad_62 ?_
      refine lv_iload_n hx hb dX10_readRoad_65 rfl (lv_at hl 0 rfl) ?_
      refine lv_iconst (v := 1) hx hb dX10_readRoad_66 (by decide) ?_
      refine lv_iadd hx hb dX10_readRoad_67 ?_
      refine lv_topi (fun z23 ez23 => ?_)
      have h24 : Iv 9 30 z23 := iv_add ez23 h4 (iv_c (by decide) : Iv 1 1 1) (by decide) (by decide) (by decide) (by decide)
      refine lv_aload_n hx hb dX10_readRoad_68 rfl (lv_at hl 1 rfl) ?_
      refine ca_i hP hD hS hA (fun hDc => run_V (mc := 0) (ms := 0) (As := []) (rest := [.int z23, .ref (a 6)]) S (m_X10_freshPlace l D k a s11 sl   _  hBs11  ) lkX10_171 ok_X10_freshPlace ⟨rfl, rfl, Nat.le_of_ble_eq_true rfl, Nat.le_of_ble_eq_true rfl⟩ (pw_V (ci := 10) (q0 := 0) hK hN rfl mw_0 hP hDc) rfl hl.1 rfl (Nat.le_of_ble_eq_true rfl) ⟨Nat.zero_le _, Nat.zero_le _⟩ dX10_readRoad_69) (fun r26 s25 H9 locs9 hs25 hP9 hD9 hS9 => ?_)
      clear hP hD hS
      have hS := hS9
      have hP := hP9
      have hD := hD9
      clear hP9 hD9 hS9
      obtain ⟨hBs25, gs25, qs25_0, qs25_1, qs25_2, qs25_3, qs25_4, qs25_5, qs25_6, qs25_7, qs25_8, qs25_9, qs25_10, fs25⟩ := hs25
      have hFs25 : FR [0, 6] st s25 := fr_ca hFs11 gs25 (sub_1 (List.mem_of_getElem? (i := 0) rfl) sub_0)
      have h27 : Iv 0 5 r26 := fs25.1
      have k28 := fs25.2
      refine c_ist hx hb hK hP hD hS mw_6 ms_6 (iv_in h24 (by decide) (by decide)) dX10_readRoad_72 (fun s29 H9 locs9 es29 hP9 hD9 hS9 => ?_)
      clear hP hD hS
      have hS := hS9
      have hP := hP9
      have hD := hD9
      clear hP9 hD9 hS9
      have hBs29 : MB s29 := by rw [es29]; exact mb_sw hBs25 (fok_bd (hBs25 6) (bd_e (k := 1) hj ⟨by decide, by decide⟩ (by have _c16 : (8 : Int32).toInt = 8 := rfl; have _c6 : (3 : Int32).toInt = 3 := rfl; have _ez1 := ti_mull ez1 hj (k := 3) (by decide) (by decide) (by decide) (by decide); have _ez3 := ti_add ez3 (iv_c (by decide) : Iv 8 8 8) h2 (by decide) (by decide); have _c2 : (1 : Int32).toInt = 1 := rfl; have _ez23 := ti_add ez23 h4 (iv_c (by decide) : Iv 1 1 1) (by decide) (by decide); have z9 : (1 : Int32).toInt = 1 := rfl; omega)) h27)
      have hFs29 : FR [0, 6] st s29 := fr_sw hFs25 (List.mem_of_getElem? (i := 1) rfl) es29
      refine lv_aload_n hx hb dX10_readRoad_73 rfl (lv_at hl 1 rfl) ?_
      refine va_get (D := D) (ci := 10) (v := .ref (a 6)) (C := RX10) (T := TX10) (N := 38) hx hb hT in_X10 hown hK hP 0 mw_0 rfl 14 (by decide) (hT _ t1276) (fun _ h9 => h9) rfl dX10_readRoad_74 ?_
      refine lv_iload_n hx hb dX10_readRoad_77 rfl (lv_at hl 0 rfl) ?_
      refine lv_iconst (v := 2) hx hb dX10_readRoad_78 (by decide) ?_
      refine lv_iadd hx hb dX10_readRoad_79 ?_
      refine lv_topi (fun z30 ez30 => ?_)
      have h31 : Iv 10 31 z30 := iv_add ez30 h4 (iv_c (by decide) : Iv 2 2 2) (by decide) (by decide) (by decide) (by decide)
      refine lv_aload_n hx hb dX10_readRoad_80 rfl (lv_at hl 1 rfl) ?_
      obtain ⟨w32, vw32, tw32⟩ := hX.2 _ (List.mem_of_getElem? (l := LIT) (i := 22) rfl)
      have vw32 : vk_R RX10 176 "miles" w32 s := vw32
      have tw32 : STA A w32 5 (fun j9 => ([109, 105, 108, 101, 115] : List Int32).getD j9 0) s s.heap := tw32
      refine va_ldcS hx hb hown vw32 dX10_readRoad_81 ?_
      refine lv_iconst (v := 1) hx hb dX10_readRoad_83 (by decide) ?_
      refine lv_bipush (v := 20) hx hb dX10_readRoad_84 (by decide) ?_
      refine ca_i hP hD hS hA (fun hDc => run_V (mc := 0) (ms := 0) (As := [.ref w32, .int 1, .int 20]) (rest := [.int z30, .ref (a 6)]) S (m_X10_told l D k a s29 sl  1 20 w32 5 (fun j9 => ([109, 105, 108, 101, 115] : List Int32).getD j9 0) _  hBs29 (by decide) ) lkX10_177 ok_X10_told ⟨rfl, rfl, Nat.le_of_ble_eq_true rfl, Nat.le_of_ble_eq_true rfl⟩ (px_V (ci := 10) (q0 := 0) nice_NSW hK hN rfl mw_0 hP hDc (show NSW w32 5 (fun j9 => ([109, 105, 108, 101, 115] : List Int32).getD j9 0) A s s.heap from ⟨hX, tw32⟩) hS (px_free hD hS hA)) rfl hl.1 rfl (Nat.le_of_ble_eq_true rfl) ⟨Nat.zero_le _, Nat.zero_le _⟩ dX10_readRoad_86) (fun r34 s33 H9 locs9 hs33 hP9 hD9 hS9 => ?_)
      clear hP hD hS
      have hS := hS9
      have hP := hP9
      have hD := hD9
      clear hP9 hD9 hS9
      obtain ⟨hBs33, gs33, qs33_0, qs33_1, qs33_2, qs33_3, qs33_4, qs33_5, qs33_6, qs33_7, qs33_8, qs33_9, qs33_10, fs33⟩ := hs33
      have hFs33 : FR [0, 6] st s33 := fr_ca hFs29 gs33 (sub_1 (List.mem_of_getElem? (i := 0) rfl) sub_0)
      have k35 := fs33
      have k36 : Iv 0 20 r34 := (by rcases k35.2.2 with q9 | q9; (rw [q9]; exact ⟨by decide, by decide⟩); (obtain ⟨y1, y2⟩ := id ((iv_c (by decide) : Iv 1 1 1)); obtain ⟨y3, y4⟩ := id ((iv_c (by decide) : Iv 20 20 20)); exact ⟨by omega, by omega⟩))
      refine c_ist hx hb hK hP hD hS mw_6 ms_6 (iv_in h31 (by decide) (by decide)) dX10_readRoad_89 (fun s37 H9 locs9 es37 hP9 hD9 hS9 => ?_)
      clear hP hD hS
      have hS := hS9
      have hP := hP9
      have hD := hD9
      clear hP9 hD9 hS9
      have hBs37 : MB s37 := by rw [es37]; exact mb_sw hBs33 (fok_bd (hBs33 6) (bd_m hj (by have _c16 : (8 : Int32).toInt = 8 := rfl; have _c6 : (3 : Int32).toInt = 3 := rfl; have _ez1 := ti_mull ez1 hj (k := 3) (by decide) (by decide) (by decide) (by decide); have _ez3 := ti_add ez3 (iv_c (by decide) : Iv 8 8 8) h2 (by decide) (by decide); have _c4 : (2 : Int32).toInt = 2 := rfl; have _ez30 := ti_add ez30 h4 (iv_c (by decide) : Iv 2 2 2) (by decide) (by decide); omega)) k36)
      have hFs37 : FR [0, 6] st s37 := fr_sw hFs33 (List.mem_of_getElem? (i := 1) rfl) es37
      refine lv_aload_n hx hb dX10_readRoad_90 rfl (lv_at hl 1 rfl) ?_
      refine va_get (D := D) (ci := 10) (v := .ref (a 6)) (C := RX10) (T := TX10) (N := 38) hx hb hT in_X10 hown hK hP 0 mw_0 rfl 14 (by decide) (hT _ t1276) (fun _ h9 => h9) rfl dX10_readRoad_91 ?_
      refine lv_iconst (v := 2) hx hb dX10_readRoad_94 (by decide) ?_
      refine lv_dup2_11 hx hb dX10_readRoad_95 rfl rfl ?_
      refine va_iald hx hb hK hP 6 0 mw_6 rfl (by unfold vp_in; decide) dX10_readRoad_96 ?_
      refine k_top (y := (s37 6 2)) rfl ?_
      refine k_top (y := (st 6 2)) (Eq.trans (Eq.trans (congrFun (sw_it es37) 2) (upd_no (cl_ne h31 (by decide) (by decide)))) (Eq.trans (congrFun (gs33 6 (nm_1 (by decide) nm_0)) 2) (Eq.trans (Eq.trans (congrFun (sw_it es29) 2) (upd_no (cl_ne h24 (by decide) (by decide)))) (Eq.trans (congrFun (gs25 6 (nm_1 (by decide) nm_0)) 2) (Eq.trans (congrFun (gs11 6 (nm_1 (by decide) nm_0)) 2) (Eq.trans (Eq.trans (congrFun (sw_it es9) 2) (upd_no (cl_ne h4 (by decide) (by decide)))) (congrFun (gs5 6 (nm_1 (by decide) nm_0)) 2))))))) ?_
      refine lv_iconst (v := 1) hx hb dX10_readRoad_97 (by decide) ?_
      refine lv_iadd hx hb dX10_readRoad_98 ?_
      refine lv_topi (fun z38 ez38 => ?_)
      have h39 : Iv 1 8 z38 := iv_add ez38 hj (iv_c (by decide) : Iv 1 1 1) (by decide) (by decide) (by decide) (by decide)
      refine c_ist hx hb hK hP hD hS mw_6 ms_6 (by unfold vp_in; decide) dX10_readRoad_99 (fun s40 H9 locs9 es40 hP9 hD9 hS9 => ?_)
      clear hP hD hS
      have hS := hS9
      have hP := hP9
      have hD := hD9
      clear hP9 hD9 hS9
      have hBs40 : MB s40 := by rw [es40]; exact mb_sw hBs37 (fok_bd (i := 2) (hBs37 6) ⟨by decide, by decide, by decide, by decide⟩ (iv_mono (c := 0) (d := 8) h39 (by decide) (by decide)))
      have hFs40 : FR [0, 6] st s40 := fr_sw hFs37 (List.mem_of_getElem? (i := 1) rfl) es40
      rw [hQ]
      exact W.vret hx hb hr (fun t ht hW => ⟨⟨s40, rfl, ⟨hBs40, hFs40, (Eq.trans (congrFun (sw_at es40 (by decide)) 0) (Eq.trans (congrFun (sw_at es37 (by decide)) 0) (Eq.trans qs33_0 (Eq.trans (congrFun (sw_at es29 (by decide)) 0) (Eq.trans qs25_0 (Eq.trans qs11_0 (Eq.trans (congrFun (sw_at es9 (by decide)) 0) qs5_0))))))), (Eq.trans (congrFun (sw_at es40 (by decide)) 5) (Eq.trans (congrFun (sw_at es37 (by decide)) 5) (Eq.trans qs33_1 (Eq.trans (congrFun (sw_at es29 (by decide)) 5) (Eq.trans qs25_1 (Eq.trans qs11_1 (Eq.trans (congrFun (sw_at es9 (by decide)) 5) qs5_1))))))), (Eq.trans (congrFun (sw_at es40 (by decide)) 7) (Eq.trans (congrFun (sw_at es37 (by decide)) 7) (Eq.trans qs33_2 (Eq.trans (congrFun (sw_at es29 (by decide)) 7) (Eq.trans qs25_2 (Eq.trans qs11_2 (Eq.trans (congrFun (sw_at es9 (by decide)) 7) qs5_2))))))), (Eq.trans (congrFun (sw_at es40 (by decide)) 20) (Eq.trans (congrFun (sw_at es37 (by decide)) 20) (Eq.trans qs33_3 (Eq.trans (congrFun (sw_at es29 (by decide)) 20) (Eq.trans qs25_3 (Eq.trans qs11_3 (Eq.trans (congrFun (sw_at es9 (by decide)) 20) qs5_3))))))), (Eq.trans (congrFun (sw_at es40 (by decide)) 21) (Eq.trans (congrFun (sw_at es37 (by decide)) 21) (Eq.trans qs33_4 (Eq.trans (congrFun (sw_at es29 (by decide)) 21) (Eq.trans qs25_4 (Eq.trans qs11_4 (Eq.trans (congrFun (sw_at es9 (by decide)) 21) qs5_4))))))), (Eq.trans (congrFun (sw_at es40 (by decide)) 22) (Eq.trans (congrFun (sw_at es37 (by decide)) 22) (Eq.trans qs33_5 (Eq.trans (congrFun (sw_at es29 (by decide)) 22) (Eq.trans qs25_5 (Eq.trans qs11_5 (Eq.trans (congrFun (sw_at es9 (by decide)) 22) qs5_5))))))), (Eq.trans (congrFun (sw_at es40 (by decide)) 26) (Eq.trans (congrFun (sw_at es37 (by decide)) 26) (Eq.trans qs33_6 (Eq.trans (congrFun (sw_at es29 (by decide)) 26) (Eq.trans qs25_6 (Eq.trans qs11_6 (Eq.trans (congrFun (sw_at es9 (by decide)) 26) qs5_6))))))), (Eq.trans (congrFun (sw_at es40 (by decide)) 27) (Eq.trans (congrFun (sw_at es37 (by decide)) 27) (Eq.trans qs33_7 (Eq.trans (congrFun (sw_at es29 (by decide)) 27) (Eq.trans qs25_7 (Eq.trans qs11_7 (Eq.trans (congrFun (sw_at es9 (by decide)) 27) qs5_7))))))), (Eq.trans (congrFun (sw_at es40 (by decide)) 29) (Eq.trans (congrFun (sw_at es37 (by decide)) 29) (Eq.trans qs33_8 (Eq.trans (congrFun (sw_at es29 (by decide)) 29) (Eq.trans qs25_8 (Eq.trans qs11_8 (Eq.trans (congrFun (sw_at es9 (by decide)) 29) qs5_8))))))), (Eq.trans (congrFun (sw_at es40 (by decide)) 31) (Eq.trans (congrFun (sw_at es37 (by decide)) 31) (Eq.trans qs33_9 (Eq.trans (congrFun (sw_at es29 (by decide)) 31) (Eq.trans qs25_9 (Eq.trans qs11_9 (Eq.trans (congrFun (sw_at es9 (by decide)) 31) qs5_9))))))), (Eq.trans (congrFun (sw_at es40 (by decide)) 33) (Eq.trans (congrFun (sw_at es37 (by decide)) 33) (Eq.trans qs33_10 (Eq.trans (congrFun (sw_at es29 (by decide)) 33) (Eq.trans qs25_10 (Eq.trans qs11_10 (Eq.trans (congrFun (sw_at es9 (by decide)) 33) qs5_10))))))), ⟨(fun _ => k20), (Int.le_trans k8.2 (Int.le_trans (show (s5 0 8).toInt ≤ (s9 0 8).toInt from by rw [(congrFun (sw_at es9 (by decide)) 8)]; exact Int.le_refl _) (Int.le_trans k13.2 (Int.le_trans k28.2 (Int.le_trans (show (s25 0 8).toInt ≤ (s29 0 8).toInt from by rw [(congrFun (sw_at es29 (by decide)) 8)]; exact Int.le_refl _) (Int.le_trans k35.2.1 (Int.le_trans (show (s33 0 8).toInt ≤ (s37 0 8).toInt from by rw [(congrFun (sw_at es37 (by decide)) 8)]; exact Int.le_refl _) (show (s37 0 8).toInt ≤ (s40 0 8).toInt from by rw [(congrFun (sw_at es40 (by decide)) 8)]; exact Int.le_refl _))))))))⟩⟩, by rw [ht]; exact hP, va_K.moved hW.alike (hK.sub (tys' := []) [] rfl), by rw [hAe]; exact hD⟩, by rw [hAe]; exact hS.F ht⟩) hS.2.2 dX10_readRoad_100
    · skip
      have h41 : Iv 2 2 (s11 0 10) := eq_l c22 (iv_c (by decide) : Iv 2 2 2)
      refine lv_aload_n hx hb dX10_readRoad_43 rfl (lv_at hl 1 rfl) ?_
      refine va_get (D := D) (ci := 10) (v := .int (s11 0 11)) (C := RX10) (T := TX10) (N := 38) hx hb hT in_X10 hown hK hP 0 mw_0 rfl 11 (by decide) (hT _ t1273) (fun _ h9 => h9) rfl dX10_readRoad_44 ?_
      have h42 : Iv 0 99999 (s11 0 11) := (rm_0_11 hBs11)
      refine lv_aload_n hx hb dX10_readRoad_47 rfl (lv_at hl 1 rfl) ?_
      refine va_get (D := D) (ci := 10) (v := .ref (a 6)) (C := RX10) (T := TX10) (N := 38) hx hb hT in_X10 hown hK hP 0 mw_0 rfl 14 (by decide) (hT _ t1276) (fun _ h9 => h9) rfl dX10_readRoad_48 ?_
      refine lv_iload_n hx hb dX10_readRoad_51 rfl (lv_at hl 0 rfl) ?_
      refine va_iald hx hb hK hP 6 0 mw_6 rfl (iv_in h4 (by decide) (by decide)) dX10_readRoad_52 ?_
      refine lv_topi (fun z43 ez43 => ?_)
      refine lv_icmp_ne (tgt := 61) hx hb dX10_readRoad_53 (by decide) (fun c44 => ?_) (fun c44 => ?_)
      · skip
        refine lv_aload_n hx hb dX10_readRoad_61 rfl (lv_at hl 1 rfl) ?_
        refine va_get (D := D) (ci := 10) (v := .ref (a 6)) (C := RX10) (T := TX10) (N := 38) hx hb hT in_X10 hown hK hP 0 mw_0 rfl 14 (by decide) (hT _ t1276) (fun _ h9 => h9) rfl dX10_readRoad_62 ?_
        refine lv_iload_n hx hb dX10_readRoad_65 rfl (lv_at hl 0 rfl) ?_
        refine lv_iconst (v := 1) hx hb dX10_readRoad_66 (by decide) ?_
        refine lv_iadd hx hb dX10_readRoad_67 ?_
        refine lv_topi (fun z45 ez45 => ?_)
        have h46 : Iv 9 30 z45 := iv_add ez45 h4 (iv_c (by decide) : Iv 1 1 1) (by decide) (by decide) (by decide) (by decide)
        refine lv_aload_n hx hb dX10_readRoad_68 rfl (lv_at hl 1 rfl) ?_
        refine ca_i hP hD hS hA (fun hDc => run_V (mc := 0) (ms := 0) (As := []) (rest := [.int z45, .ref (a 6)]) S (m_X10_freshPlace l D k a s11 sl   _  hBs11  ) lkX10_171 ok_X10_freshPlace ⟨rfl, rfl, Nat.le_of_ble_eq_true rfl, Nat.le_of_ble_eq_true rfl⟩ (pw_V (ci := 10) (q0 := 0) hK hN rfl mw_0 hP hDc) rfl hl.1 rfl (Nat.le_of_ble_eq_true rfl) ⟨Nat.zero_le _, Nat.zero_le _⟩ dX10_readRoad_69) (fun r48 s47 H9 locs9 hs47 hP9 hD9 hS9 => ?_)
        clear hP hD hS
        have hS := hS9
        have hP := hP9
        have hD := hD9
        clear hP9 hD9 hS9
        obtain ⟨hBs47, gs47, qs47_0, qs47_1, qs47_2, qs47_3, qs47_4, qs47_5, qs47_6, qs47_7, qs47_8, qs47_9, qs47_10, fs47⟩ := hs47
        have hFs47 : FR [0, 6] st s47 := fr_ca hFs11 gs47 (sub_1 (List.mem_of_getElem? (i := 0) rfl) sub_0)
        have h49 : Iv 0 5 r48 := fs47.1
        have k50 := fs47.2
        refine c_ist hx hb hK hP hD hS mw_6 ms_6 (iv_in h46 (by decide) (by decide)) dX10_readRoad_72 (fun s51 H9 locs9 es51 hP9 hD9 hS9 => ?_)
        clear hP hD hS
        have hS := hS9
        have hP := hP9
        have hD := hD9
        clear hP9 hD9 hS9
        have hBs51 : MB s51 := by rw [es51]; exact mb_sw hBs47 (fok_bd (hBs47 6) (bd_e (k := 1) hj ⟨by decide, by decide⟩ (by have _c16 : (8 : Int32).toInt = 8 := rfl; have _c6 : (3 : Int32).toInt = 3 := rfl; have _ez1 := ti_mull ez1 hj (k := 3) (by decide) (by decide) (by decide) (by decide); have _ez3 := ti_add ez3 (iv_c (by decide) : Iv 8 8 8) h2 (by decide) (by decide); have _c2 : (1 : Int32).toInt = 1 := rfl; have _ez45 := ti_add ez45 h4 (iv_c (by decide) : Iv 1 1 1) (by decide) (by decide); have z9 : (1 : Int32).toInt = 1 := rfl; omega)) h49)
        have hFs51 : FR [0, 6] st s51 := fr_sw hFs47 (List.mem_of_getElem? (i := 1) rfl) es51
        refine lv_aload_n hx hb dX10_readRoad_73 rfl (lv_at hl 1 rfl) ?_
        refine va_get (D := D) (ci := 10) (v := .ref (a 6)) (C := RX10) (T := TX10) (N := 38) hx hb hT in_X10 hown hK hP 0 mw_0 rfl 14 (by decide) (hT _ t1276) (fun _ h9 => h9) rfl dX10_readRoad_74 ?_
        refine lv_iload_n hx hb dX10_readRoad_77 rfl (lv_at hl 0 rfl) ?_
        refine lv_iconst (v := 2) hx hb dX10_readRoad_78 (by decide) ?_
        refine lv_iadd hx hb dX10_readRoad_79 ?_
        refine lv_topi (fun z52 ez52 => ?_)
        have h53 : Iv 10 31 z52 := iv_add ez52 h4 (iv_c (by decide) : Iv 2 2 2) (by decide) (by decide) (by decide) (by decide)
        refine lv_aload_n hx hb dX10_readRoad_80 rfl (lv_at hl 1 rfl) ?_
        obtain ⟨w54, vw54, tw54⟩ := hX.2 _ (List.mem_of_getElem? (l := LIT) (i := 22) rfl)
        have vw54 : vk_R RX10 176 "miles" w54 s := vw54
        have tw54 : STA A w54 5 (fun j9 => ([109, 105, 108, 101, 115] : List Int32).getD j9 0) s s.heap := tw54
        refine va_ldcS hx hb hown vw54 dX10_readRoad_81 ?_
        refine lv_iconst (v := 1) hx hb dX10_readRoad_83 (by decide) ?_
        refine lv_bipush (v := 20) hx hb dX10_readRoad_84 (by decide) ?_
        refine ca_i hP hD hS hA (fun hDc => run_V (mc := 0) (ms := 0) (As := [.ref w54, .int 1, .int 20]) (rest := [.int z52, .ref (a 6)]) S (m_X10_told l D k a s51 sl  1 20 w54 5 (fun j9 => ([109, 105, 108, 101, 115] : List Int32).getD j9 0) _  hBs51 (by decide) ) lkX10_177 ok_X10_told ⟨rfl, rfl, Nat.le_of_ble_eq_true rfl, Nat.le_of_ble_eq_true rfl⟩ (px_V (ci := 10) (q0 := 0) nice_NSW hK hN rfl mw_0 hP hDc (show NSW w54 5 (fun j9 => ([109, 105, 108, 101, 115] : List Int32).getD j9 0) A s s.heap from ⟨hX, tw54⟩) hS (px_free hD hS hA)) rfl hl.1 rfl (Nat.le_of_ble_eq_true rfl) ⟨Nat.zero_le _, Nat.zero_le _⟩ dX10_readRoad_86) (fun r56 s55 H9 locs9 hs55 hP9 hD9 hS9 => ?_)
        clear hP hD hS
        have hS := hS9
        have hP := hP9
        have hD := hD9
        clear hP9 hD9 hS9
        obtain ⟨hBs55, gs55, qs55_0, qs55_1, qs55_2, qs55_3, qs55_4, qs55_5, qs55_6, qs55_7, qs55_8, qs55_9, qs55_10, fs55⟩ := hs55
        have hFs55 : FR [0, 6] st s55 := fr_ca hFs51 gs55 (sub_1 (List.mem_of_getElem? (i := 0) rfl) sub_0)
        have k57 := fs55
        have k58 : Iv 0 20 r56 := (by rcases k57.2.2 with q9 | q9; (rw [q9]; exact ⟨by decide, by decide⟩); (obtain ⟨y1, y2⟩ := id ((iv_c (by decide) : Iv 1 1 1)); obtain ⟨y3, y4⟩ := id ((iv_c (by decide) : Iv 20 20 20)); exact ⟨by omega, by omega⟩))
        refine c_ist hx hb hK hP hD hS mw_6 ms_6 (iv_in h53 (by decide) (by decide)) dX10_readRoad_89 (fun s59 H9 locs9 es59 hP9 hD9 hS9 => ?_)
        clear hP hD hS
        have hS := hS9
        have hP := hP9
        have hD := hD9
        clear hP9 hD9 hS9
        have hBs59 : MB s59 := by rw [es59]; exact mb_sw hBs55 (fok_bd (hBs55 6) (bd_m hj (by have _c16 : (8 : Int32).toInt = 8 := rfl; have _c6 : (3 : Int32).toInt = 3 := rfl; have _ez1 := ti_mull ez1 hj (k := 3) (by decide) (by decide) (by decide) (by decide); have _ez3 := ti_add ez3 (iv_c (by decide) : Iv 8 8 8) h2 (by decide) (by decide); have _c4 : (2 : Int32).toInt = 2 := rfl; have _ez52 := ti_add ez52 h4 (iv_c (by decide) : Iv 2 2 2) (by decide) (by decide); omega)) k58)
        have hFs59 : FR [0, 6] st s59 := fr_sw hFs55 (List.mem_of_getElem? (i := 1) rfl) es59
        refine lv_aload_n hx hb dX10_readRoad_90 rfl (lv_at hl 1 rfl) ?_
        refine va_get (D := D) (ci := 10) (v := .ref (a 6)) (C := RX10) (T := TX10) (N := 38) hx hb hT in_X10 hown hK hP 0 mw_0 rfl 14 (by decide) (hT _ t1276) (fun _ h9 => h9) rfl dX10_readRoad_91 ?_
        refine lv_iconst (v := 2) hx hb dX10_readRoad_94 (by decide) ?_
        refine lv_dup2_11 hx hb dX10_readRoad_95 rfl rfl ?_
        refine va_iald hx hb hK hP 6 0 mw_6 rfl (by unfold vp_in; decide) dX10_readRoad_96 ?_
        refine k_top (y := (s59 6 2)) rfl ?_
        refine k_top (y := (st 6 2)) (Eq.trans (Eq.trans (congrFun (sw_it es59) 2) (upd_no (cl_ne h53 (by decide) (by decide)))) (Eq.trans (congrFun (gs55 6 (nm_1 (by decide) nm_0)) 2) (Eq.trans (Eq.trans (congrFun (sw_it es51) 2) (upd_no (cl_ne h46 (by decide) (by decide)))) (Eq.trans (congrFun (gs47 6 (nm_1 (by decide) nm_0)) 2) (Eq.trans (congrFun (gs11 6 (nm_1 (by decide) nm_0)) 2) (Eq.trans (Eq.trans (congrFun (sw_it es9) 2) (upd_no (cl_ne h4 (by decide) (by decide)))) (congrFun (gs5 6 (nm_1 (by decide) nm_0)) 2))))))) ?_
        refine lv_iconst (v := 1) hx hb dX10_readRoad_97 (by decide) ?_
        refine lv_iadd hx hb dX10_readRoad_98 ?_
        refine lv_topi (fun z60 ez60 => ?_)
        have h61 : Iv 1 8 z60 := iv_add ez60 hj (iv_c (by decide) : Iv 1 1 1) (by decide) (by decide) (by decide) (by decide)
        refine c_ist hx hb hK hP hD hS mw_6 ms_6 (by unfold vp_in; decide) dX10_readRoad_99 (fun s62 H9 locs9 es62 hP9 hD9 hS9 => ?_)
        clear hP hD hS
        have hS := hS9
        have hP := hP9
        have hD := hD9
        clear hP9 hD9 hS9
        have hBs62 : MB s62 := by rw [es62]; exact mb_sw hBs59 (fok_bd (i := 2) (hBs59 6) ⟨by decide, by decide, by decide, by decide⟩ (iv_mono (c := 0) (d := 8) h61 (by decide) (by decide)))
        have hFs62 : FR [0, 6] st s62 := fr_sw hFs59 (List.mem_of_getElem? (i := 1) rfl) es62
        rw [hQ]
        exact W.vret hx hb hr (fun t ht hW => ⟨⟨s62, rfl, ⟨hBs62, hFs62, (Eq.trans (congrFun (sw_at es62 (by decide)) 0) (Eq.trans (congrFun (sw_at es59 (by decide)) 0) (Eq.trans qs55_0 (Eq.trans (congrFun (sw_at es51 (by decide)) 0) (Eq.trans qs47_0 (Eq.trans qs11_0 (Eq.trans (congrFun (sw_at es9 (by decide)) 0) qs5_0))))))), (Eq.trans (congrFun (sw_at es62 (by decide)) 5) (Eq.trans (congrFun (sw_at es59 (by decide)) 5) (Eq.trans qs55_1 (Eq.trans (congrFun (sw_at es51 (by decide)) 5) (Eq.trans qs47_1 (Eq.trans qs11_1 (Eq.trans (congrFun (sw_at es9 (by decide)) 5) qs5_1))))))), (Eq.trans (congrFun (sw_at es62 (by decide)) 7) (Eq.trans (congrFun (sw_at es59 (by decide)) 7) (Eq.trans qs55_2 (Eq.trans (congrFun (sw_at es51 (by decide)) 7) (Eq.trans qs47_2 (Eq.trans qs11_2 (Eq.trans (congrFun (sw_at es9 (by decide)) 7) qs5_2))))))), (Eq.trans (congrFun (sw_at es62 (by decide)) 20) (Eq.trans (congrFun (sw_at es59 (by decide)) 20) (Eq.trans qs55_3 (Eq.trans (congrFun (sw_at es51 (by decide)) 20) (Eq.trans qs47_3 (Eq.trans qs11_3 (Eq.trans (congrFun (sw_at es9 (by decide)) 20) qs5_3))))))), (Eq.trans (congrFun (sw_at es62 (by decide)) 21) (Eq.trans (congrFun (sw_at es59 (by decide)) 21) (Eq.trans qs55_4 (Eq.trans (congrFun (sw_at es51 (by decide)) 21) (Eq.trans qs47_4 (Eq.trans qs11_4 (Eq.trans (congrFun (sw_at es9 (by decide)) 21) qs5_4))))))), (Eq.trans (congrFun (sw_at es62 (by decide)) 22) (Eq.trans (congrFun (sw_at es59 (by decide)) 22) (Eq.trans qs55_5 (Eq.trans (congrFun (sw_at es51 (by decide)) 22) (Eq.trans qs47_5 (Eq.trans qs11_5 (Eq.trans (congrFun (sw_at es9 (by decide)) 22) qs5_5))))))), (Eq.trans (congrFun (sw_at es62 (by decide)) 26) (Eq.trans (congrFun (sw_at es59 (by decide)) 26) (Eq.trans qs55_6 (Eq.trans (congrFun (sw_at es51 (by decide)) 26) (Eq.trans qs47_6 (Eq.trans qs11_6 (Eq.trans (congrFun (sw_at es9 (by decide)) 26) qs5_6))))))), (Eq.trans (congrFun (sw_at es62 (by decide)) 27) (Eq.trans (congrFun (sw_at es59 (by decide)) 27) (Eq.trans qs55_7 (Eq.trans (congrFun (sw_at es51 (by decide)) 27) (Eq.trans qs47_7 (Eq.trans qs11_7 (Eq.trans (congrFun (sw_at es9 (by decide)) 27) qs5_7))))))), (Eq.trans (congrFun (sw_at es62 (by decide)) 29) (Eq.trans (congrFun (sw_at es59 (by decide)) 29) (Eq.trans qs55_8 (Eq.trans (congrFun (sw_at es51 (by decide)) 29) (Eq.trans qs47_8 (Eq.trans qs11_8 (Eq.trans (congrFun (sw_at es9 (by decide)) 29) qs5_8))))))), (Eq.trans (congrFun (sw_at es62 (by decide)) 31) (Eq.trans (congrFun (sw_at es59 (by decide)) 31) (Eq.trans qs55_9 (Eq.trans (congrFun (sw_at es51 (by decide)) 31) (Eq.trans qs47_9 (Eq.trans qs11_9 (Eq.trans (congrFun (sw_at es9 (by decide)) 31) qs5_9))))))), (Eq.trans (congrFun (sw_at es62 (by decide)) 33) (Eq.trans (congrFun (sw_at es59 (by decide)) 33) (Eq.trans qs55_10 (Eq.trans (congrFun (sw_at es51 (by decide)) 33) (Eq.trans qs47_10 (Eq.trans qs11_10 (Eq.trans (congrFun (sw_at es9 (by decide)) 33) qs5_10))))))), ⟨(fun _ => k20), (Int.le_trans k8.2 (Int.le_trans (show (s5 0 8).toInt ≤ (s9 0 8).toInt from by rw [(congrFun (sw_at es9 (by decide)) 8)]; exact Int.le_refl _) (Int.le_trans k13.2 (Int.le_trans k50.2 (Int.le_trans (show (s47 0 8).toInt ≤ (s51 0 8).toInt from by rw [(congrFun (sw_at es51 (by decide)) 8)]; exact Int.le_refl _) (Int.le_trans k57.2.1 (Int.le_trans (show (s55 0 8).toInt ≤ (s59 0 8).toInt from by rw [(congrFun (sw_at es59 (by decide)) 8)]; exact Int.le_refl _) (show (s59 0 8).toInt ≤ (s62 0 8).toInt from by rw [(congrFun (sw_at es62 (by decide)) 8)]; exact Int.le_refl _))))))))⟩⟩, by rw [ht]; exact hP, va_K.moved hW.alike (hK.sub (tys' := []) [] rfl), by rw [hAe]; exact hD⟩, by rw [hAe]; exact hS.F ht⟩) hS.2.2 dX10_readRoad_100
      · skip
        have h63 : Iv 0 99999 z43 := eq_l c44.symm h42
        refine lv_aload_n hx hb dX10_readRoad_56 rfl (lv_at hl 1 rfl) ?_
        refine lv_iconst (v := 2) hx hb dX10_readRoad_57 (by decide) ?_
        refine ca_v hP hD hS hA (fun hDc => run_V (mc := 0) (ms := 0) (As := [.int 2]) (rest := []) S (m_X10_errs l D k a s11 sl  2 _  hBs11 (iv_mono (c := 1) (d := 3) (iv_c (by decide) : Iv 2 2 2) (by decide) (by decide)) ) lkX10_160 ok_X10_errs ⟨rfl, rfl, Nat.le_of_ble_eq_true rfl, Nat.le_of_ble_eq_true rfl⟩ (pw_V (ci := 10) (q0 := 0) hK hN rfl mw_0 hP hDc) rfl hl.1 rfl (Nat.le_of_ble_eq_true rfl) ⟨Nat.zero_le _, Nat.zero_le _⟩ dX10_readRoad_58) (fun s64 H9 locs9 hs64 hP9 hD9 hS9 => ?_)
        clear hP hD hS
        have hS := hS9
        have hP := hP9
        have hD := hD9
        clear hP9 hD9 hS9
        obtain ⟨hBs64, gs64, qs64_0, qs64_1, qs64_2, qs64_3, qs64_4, qs64_5, qs64_6, qs64_7, qs64_8, qs64_9, qs64_10, qs64_11, qs64_12, qs64_13, qs64_14, fs64⟩ := hs64
        have hFs64 : FR [0, 6] st s64 := fr_ca hFs11 gs64 (sub_1 (List.mem_of_getElem? (i := 0) rfl) sub_0)
        have k66 := fs64
        refine lv_aload_n hx hb dX10_readRoad_61 rfl (lv_at hl 1 rfl) ?_
        refine va_get (D := D) (ci := 10) (v := .ref (a 6)) (C := RX10) (T := TX10) (N := 38) hx hb hT in_X10 hown hK hP 0 mw_0 rfl 14 (by decide) (hT _ t1276) (fun _ h9 => h9) rfl dX10_readRoad_62 ?_
        refine lv_iload_n hx hb dX10_readRoad_65 rfl (lv_at hl 0 rfl) ?_
        refine lv_iconst (v := 1) hx hb dX10_readRoad_66 (by decide) ?_
        refine lv_iadd hx hb dX10_readRoad_67 ?_
        refine lv_topi (fun z67 ez67 => ?_)
        have h68 : Iv 9 30 z67 := iv_add ez67 h4 (iv_c (by decide) : Iv 1 1 1) (by decide) (by decide) (by decide) (by decide)
        refine lv_aload_n hx hb dX10_readRoad_68 rfl (lv_at hl 1 rfl) ?_
        refine ca_i hP hD hS hA (fun hDc => run_V (mc := 0) (ms := 0) (As := []) (rest := [.int z67, .ref (a 6)]) S (m_X10_freshPlace l D k a s64 sl   _  hBs64  ) lkX10_171 ok_X10_freshPlace ⟨rfl, rfl, Nat.le_of_ble_eq_true rfl, Nat.le_of_ble_eq_true rfl⟩ (pw_V (ci := 10) (q0 := 0) hK hN rfl mw_0 hP hDc) rfl hl.1 rfl (Nat.le_of_ble_eq_true rfl) ⟨Nat.zero_le _, Nat.zero_le _⟩ dX10_readRoad_69) (fun r70 s69 H9 locs9 hs69 hP9 hD9 hS9 => ?_)
        clear hP hD hS
        have hS := hS9
        have hP := hP9
        have hD := hD9
        clear hP9 hD9 hS9
        obtain ⟨hBs69, gs69, qs69_0, qs69_1, qs69_2, qs69_3, qs69_4, qs69_5, qs69_6, qs69_7, qs69_8, qs69_9, qs69_10, fs69⟩ := hs69
        have hFs69 : FR [0, 6] st s69 := fr_ca hFs64 gs69 (sub_1 (List.mem_of_getElem? (i := 0) rfl) sub_0)
        have h71 : Iv 0 5 r70 := fs69.1
        have k72 := fs69.2
        refine c_ist hx hb hK hP hD hS mw_6 ms_6 (iv_in h68 (by decide) (by decide)) dX10_readRoad_72 (fun s73 H9 locs9 es73 hP9 hD9 hS9 => ?_)
        clear hP hD hS
        have hS := hS9
        have hP := hP9
        have hD := hD9
        clear hP9 hD9 hS9
        have hBs73 : MB s73 := by rw [es73]; exact mb_sw hBs69 (fok_bd (hBs69 6) (bd_e (k := 1) hj ⟨by decide, by decide⟩ (by have _c16 : (8 : Int32).toInt = 8 := rfl; have _c6 : (3 : Int32).toInt = 3 := rfl; have _ez1 := ti_mull ez1 hj (k := 3) (by decide) (by decide) (by decide) (by decide); have _ez3 := ti_add ez3 (iv_c (by decide) : Iv 8 8 8) h2 (by decide) (by decide); have _c2 : (1 : Int32).toInt = 1 := rfl; have _ez67 := ti_add ez67 h4 (iv_c (by decide) : Iv 1 1 1) (by decide) (by decide); have z9 : (1 : Int32).toInt = 1 := rfl; omega)) h71)
        have hFs73 : FR [0, 6] st s73 := fr_sw hFs69 (List.mem_of_getElem? (i := 1) rfl) es73
        refine lv_aload_n hx hb dX10_readRoad_73 rfl (lv_at hl 1 rfl) ?_
        refine va_get (D := D) (ci := 10) (v := .ref (a 6)) (C := RX10) (T := TX10) (N := 38) hx hb hT in_X10 hown hK hP 0 mw_0 rfl 14 (by decide) (hT _ t1276) (fun _ h9 => h9) rfl dX10_readRoad_74 ?_
        refine lv_iload_n hx hb dX10_readRoad_77 rfl (lv_at hl 0 rfl) ?_
        refine lv_iconst (v := 2) hx hb dX10_readRoad_78 (by decide) ?_
        refine lv_iadd hx hb dX10_readRoad_79 ?_
        refine lv_topi (fun z74 ez74 => ?_)
        have h75 : Iv 10 31 z74 := iv_add ez74 h4 (iv_c (by decide) : Iv 2 2 2) (by decide) (by decide) (by decide) (by decide)
        refine lv_aload_n hx hb dX10_readRoad_80 rfl (lv_at hl 1 rfl) ?_
        obtain ⟨w76, vw76, tw76⟩ := hX.2 _ (List.mem_of_getElem? (l := LIT) (i := 22) rfl)
        have vw76 : vk_R RX10 176 "miles" w76 s := vw76
        have tw76 : STA A w76 5 (fun j9 => ([109, 105, 108, 101, 115] : List Int32).getD j9 0) s s.heap := tw76
        refine va_ldcS hx hb hown vw76 dX10_readRoad_81 ?_
        refine lv_iconst (v := 1) hx hb dX10_readRoad_83 (by decide) ?_
        refine lv_bipush (v := 20) hx hb dX10_readRoad_84 (by decide) ?_
        refine ca_i hP hD hS hA (fun hDc => run_V (mc := 0) (ms := 0) (As := [.ref w76, .int 1, .int 20]) (rest := [.int z74, .ref (a 6)]) S (m_X10_told l D k a s73 sl  1 20 w76 5 (fun j9 => ([109, 105, 108, 101, 115] : List Int32).getD j9 0) _  hBs73 (by decide) ) lkX10_177 ok_X10_told ⟨rfl, rfl, Nat.le_of_ble_eq_true rfl, Nat.le_of_ble_eq_true rfl⟩ (px_V (ci := 10) (q0 := 0) nice_NSW hK hN rfl mw_0 hP hDc (show NSW w76 5 (fun j9 => ([109, 105, 108, 101, 115] : List Int32).getD j9 0) A s s.heap from ⟨hX, tw76⟩) hS (px_free hD hS hA)) rfl hl.1 rfl (Nat.le_of_ble_eq_true rfl) ⟨Nat.zero_le _, Nat.zero_le _⟩ dX10_readRoad_86) (fun r78 s77 H9 locs9 hs77 hP9 hD9 hS9 => ?_)
        clear hP hD hS
        have hS := hS9
        have hP := hP9
        have hD := hD9
        clear hP9 hD9 hS9
        obtain ⟨hBs77, gs77, qs77_0, qs77_1, qs77_2, qs77_3, qs77_4, qs77_5, qs77_6, qs77_7, qs77_8, qs77_9, qs77_10, fs77⟩ := hs77
        have hFs77 : FR [0, 6] st s77 := fr_ca hFs73 gs77 (sub_1 (List.mem_of_getElem? (i := 0) rfl) sub_0)
        have k79 := fs77
        have k80 : Iv 0 20 r78 := (by rcases k79.2.2 with q9 | q9; (rw [q9]; exact ⟨by decide, by decide⟩); (obtain ⟨y1, y2⟩ := id ((iv_c (by decide) : Iv 1 1 1)); obtain ⟨y3, y4⟩ := id ((iv_c (by decide) : Iv 20 20 20)); exact ⟨by omega, by omega⟩))
        refine c_ist hx hb hK hP hD hS mw_6 ms_6 (iv_in h75 (by decide) (by decide)) dX10_readRoad_89 (fun s81 H9 locs9 es81 hP9 hD9 hS9 => ?_)
        clear hP hD hS
        have hS := hS9
        have hP := hP9
        have hD := hD9
        clear hP9 hD9 hS9
        have hBs81 : MB s81 := by rw [es81]; exact mb_sw hBs77 (fok_bd (hBs77 6) (bd_m hj (by have _c16 : (8 : Int32).toInt = 8 := rfl; have _c6 : (3 : Int32).toInt = 3 := rfl; have _ez1 := ti_mull ez1 hj (k := 3) (by decide) (by decide) (by decide) (by decide); have _ez3 := ti_add ez3 (iv_c (by decide) : Iv 8 8 8) h2 (by decide) (by decide); have _c4 : (2 : Int32).toInt = 2 := rfl; have _ez74 := ti_add ez74 h4 (iv_c (by decide) : Iv 2 2 2) (by decide) (by decide); omega)) k80)
        have hFs81 : FR [0, 6] st s81 := fr_sw hFs77 (List.mem_of_getElem? (i := 1) rfl) es81
        refine lv_aload_n hx hb dX10_readRoad_90 rfl (lv_at hl 1 rfl) ?_
        refine va_get (D := D) (ci := 10) (v := .ref (a 6)) (C := RX10) (T := TX10) (N := 38) hx hb hT in_X10 hown hK hP 0 mw_0 rfl 14 (by decide) (hT _ t1276) (fun _ h9 => h9) rfl dX10_readRoad_91 ?_
        refine lv_iconst (v := 2) hx hb dX10_readRoad_94 (by decide) ?_
        refine lv_dup2_11 hx hb dX10_readRoad_95 rfl rfl ?_
        refine va_iald hx hb hK hP 6 0 mw_6 rfl (by unfold vp_in; decide) dX10_readRoad_96 ?_
        refine k_top (y := (s81 6 2)) rfl ?_
        refine k_top (y := (st 6 2)) (Eq.trans (Eq.trans (congrFun (sw_it es81) 2) (upd_no (cl_ne h75 (by decide) (by decide)))) (Eq.trans (congrFun (gs77 6 (nm_1 (by decide) nm_0)) 2) (Eq.trans (Eq.trans (congrFun (sw_it es73) 2) (upd_no (cl_ne h68 (by decide) (by decide)))) (Eq.trans (congrFun (gs69 6 (nm_1 (by decide) nm_0)) 2) (Eq.trans (congrFun (gs64 6 (nm_1 (by decide) nm_0)) 2) (Eq.trans (congrFun (gs11 6 (nm_1 (by decide) nm_0)) 2) (Eq.trans (Eq.trans (congrFun (sw_it es9) 2) (upd_no (cl_ne h4 (by decide) (by decide)))) (congrFun (gs5 6 (nm_1 (by decide) nm_0)) 2)))))))) ?_
        refine lv_iconst (v := 1) hx hb dX10_readRoad_97 (by decide) ?_
        refine lv_iadd hx hb dX10_readRoad_98 ?_
        refine lv_topi (fun z82 ez82 => ?_)
        have h83 : Iv 1 8 z82 := iv_add ez82 hj (iv_c (by decide) : Iv 1 1 1) (by decide) (by decide) (by decide) (by decide)
        refine c_ist hx hb hK hP hD hS mw_6 ms_6 (by unfold vp_in; decide) dX10_readRoad_99 (fun s84 H9 locs9 es84 hP9 hD9 hS9 => ?_)
        clear hP hD hS
        have hS := hS9
        have hP := hP9
        have hD := hD9
        clear hP9 hD9 hS9
        have hBs84 : MB s84 := by rw [es84]; exact mb_sw hBs81 (fok_bd (i := 2) (hBs81 6) ⟨by decide, by decide, by decide, by decide⟩ (iv_mono (c := 0) (d := 8) h83 (by decide) (by decide)))
        have hFs84 : FR [0, 6] st s84 := fr_sw hFs81 (List.mem_of_getElem? (i := 1) rfl) es84
        rw [hQ]
        exact W.vret hx hb hr (fun t ht hW => ⟨⟨s84, rfl, ⟨hBs84, hFs84, (Eq.trans (congrFun (sw_at es84 (by decide)) 0) (Eq.trans (congrFun (sw_at es81 (by decide)) 0) (Eq.trans qs77_0 (Eq.trans (congrFun (sw_at es73 (by decide)) 0) (Eq.trans qs69_0 (Eq.trans qs64_0 (Eq.trans qs11_0 (Eq.trans (congrFun (sw_at es9 (by decide)) 0) qs5_0)))))))), (Eq.trans (congrFun (sw_at es84 (by decide)) 5) (Eq.trans (congrFun (sw_at es81 (by decide)) 5) (Eq.trans qs77_1 (Eq.trans (congrFun (sw_at es73 (by decide)) 5) (Eq.trans qs69_1 (Eq.trans qs64_1 (Eq.trans qs11_1 (Eq.trans (congrFun (sw_at es9 (by decide)) 5) qs5_1)))))))), (Eq.trans (congrFun (sw_at es84 (by decide)) 7) (Eq.trans (congrFun (sw_at es81 (by decide)) 7) (Eq.trans qs77_2 (Eq.trans (congrFun (sw_at es73 (by decide)) 7) (Eq.trans qs69_2 (Eq.trans qs64_2 (Eq.trans qs11_2 (Eq.trans (congrFun (sw_at es9 (by decide)) 7) qs5_2)))))))), (Eq.trans (congrFun (sw_at es84 (by decide)) 20) (Eq.trans (congrFun (sw_at es81 (by decide)) 20) (Eq.trans qs77_3 (Eq.trans (congrFun (sw_at es73 (by decide)) 20) (Eq.trans qs69_3 (Eq.trans qs64_7 (Eq.trans qs11_3 (Eq.trans (congrFun (sw_at es9 (by decide)) 20) qs5_3)))))))), (Eq.trans (congrFun (sw_at es84 (by decide)) 21) (Eq.trans (congrFun (sw_at es81 (by decide)) 21) (Eq.trans qs77_4 (Eq.trans (congrFun (sw_at es73 (by decide)) 21) (Eq.trans qs69_4 (Eq.trans qs64_8 (Eq.trans qs11_4 (Eq.trans (congrFun (sw_at es9 (by decide)) 21) qs5_4)))))))), (Eq.trans (congrFun (sw_at es84 (by decide)) 22) (Eq.trans (congrFun (sw_at es81 (by decide)) 22) (Eq.trans qs77_5 (Eq.trans (congrFun (sw_at es73 (by decide)) 22) (Eq.trans qs69_5 (Eq.trans qs64_9 (Eq.trans qs11_5 (Eq.trans (congrFun (sw_at es9 (by decide)) 22) qs5_5)))))))), (Eq.trans (congrFun (sw_at es84 (by decide)) 26) (Eq.trans (congrFun (sw_at es81 (by decide)) 26) (Eq.trans qs77_6 (Eq.trans (congrFun (sw_at es73 (by decide)) 26) (Eq.trans qs69_6 (Eq.trans qs64_10 (Eq.trans qs11_6 (Eq.trans (congrFun (sw_at es9 (by decide)) 26) qs5_6)))))))), (Eq.trans (congrFun (sw_at es84 (by decide)) 27) (Eq.trans (congrFun (sw_at es81 (by decide)) 27) (Eq.trans qs77_7 (Eq.trans (congrFun (sw_at es73 (by decide)) 27) (Eq.trans qs69_7 (Eq.trans qs64_11 (Eq.trans qs11_7 (Eq.trans (congrFun (sw_at es9 (by decide)) 27) qs5_7)))))))), (Eq.trans (congrFun (sw_at es84 (by decide)) 29) (Eq.trans (congrFun (sw_at es81 (by decide)) 29) (Eq.trans qs77_8 (Eq.trans (congrFun (sw_at es73 (by decide)) 29) (Eq.trans qs69_8 (Eq.trans qs64_12 (Eq.trans qs11_8 (Eq.trans (congrFun (sw_at es9 (by decide)) 29) qs5_8)))))))), (Eq.trans (congrFun (sw_at es84 (by decide)) 31) (Eq.trans (congrFun (sw_at es81 (by decide)) 31) (Eq.trans qs77_9 (Eq.trans (congrFun (sw_at es73 (by decide)) 31) (Eq.trans qs69_9 (Eq.trans qs64_13 (Eq.trans qs11_9 (Eq.trans (congrFun (sw_at es9 (by decide)) 31) qs5_9)))))))), (Eq.trans (congrFun (sw_at es84 (by decide)) 33) (Eq.trans (congrFun (sw_at es81 (by decide)) 33) (Eq.trans qs77_10 (Eq.trans (congrFun (sw_at es73 (by decide)) 33) (Eq.trans qs69_10 (Eq.trans qs64_14 (Eq.trans qs11_10 (Eq.trans (congrFun (sw_at es9 (by decide)) 33) qs5_10)))))))), ⟨(fun _ => k20), (Int.le_trans k8.2 (Int.le_trans (show (s5 0 8).toInt ≤ (s9 0 8).toInt from by rw [(congrFun (sw_at es9 (by decide)) 8)]; exact Int.le_refl _) (Int.le_trans k13.2 (Int.le_trans (show (s11 0 8).toInt ≤ (s64 0 8).toInt from by rw [qs64_3]; exact Int.le_refl _) (Int.le_trans k72.2 (Int.le_trans (show (s69 0 8).toInt ≤ (s73 0 8).toInt from by rw [(congrFun (sw_at es73 (by decide)) 8)]; exact Int.le_refl _) (Int.le_trans k79.2.1 (Int.le_trans (show (s77 0 8).toInt ≤ (s81 0 8).toInt from by rw [(congrFun (sw_at es81 (by decide)) 8)]; exact Int.le_refl _) (show (s81 0 8).toInt ≤ (s84 0 8).toInt from by rw [(congrFun (sw_at es84 (by decide)) 8)]; exact Int.le_refl _)))))))))⟩⟩, by rw [ht]; exact hP, va_K.moved hW.alike (hK.sub (tys' := []) [] rfl), by rw [hAe]; exact hD⟩, by rw [hAe]; exact hS.F ht⟩) hS.2.2 dX10_readRoad_100
  · skip
    have g85 := g9
    have k86 := g85
    refine lv_if_eq (tgt := 61) hx hb dX10_readRoad_32 (by decide) (fun c87 => ?_) (fun c87 => ?_)
    rotate_left
    · first | exact absurd c87 (by decide) | exact absurd (by decide) c87
    refine lv_aload_n hx hb dX10_readRoad_61 rfl (lv_at hl 1 rfl) ?_
    refine va_get (D := D) (ci := 10) (v := .ref (a 6)) (C := RX10) (T := TX10) (N := 38) hx hb hT in_X10 hown hK hP 0 mw_0 rfl 14 (by decide) (hT _ t1276) (fun _ h9 => h9) rfl dX10_readRoad_62 ?_
    refine lv_iload_n hx hb dX10_readRoad_65 rfl (lv_at hl 0 rfl) ?_
    refine lv_iconst (v := 1) hx hb dX10_readRoad_66 (by decide) ?_
    refine lv_iadd hx hb dX10_readRoad_67 ?_
    refine lv_topi (fun z88 ez88 => ?_)
    have h89 : Iv 9 30 z88 := iv_add ez88 h4 (iv_c (by decide) : Iv 1 1 1) (by decide) (by decide) (by decide) (by decide)
    refine lv_aload_n hx hb dX10_readRoad_68 rfl (lv_at hl 1 rfl) ?_
    refine ca_i hP hD hS hA (fun hDc => run_V (mc := 0) (ms := 0) (As := []) (rest := [.int z88, .ref (a 6)]) S (m_X10_freshPlace l D k a s11 sl   _  hBs11  ) lkX10_171 ok_X10_freshPlace ⟨rfl, rfl, Nat.le_of_ble_eq_true rfl, Nat.le_of_ble_eq_true rfl⟩ (pw_V (ci := 10) (q0 := 0) hK hN rfl mw_0 hP hDc) rfl hl.1 rfl (Nat.le_of_ble_eq_true rfl) ⟨Nat.zero_le _, Nat.zero_le _⟩ dX10_readRoad_69) (fun r91 s90 H9 locs9 hs90 hP9 hD9 hS9 => ?_)
    clear hP hD hS
    have hS := hS9
    have hP := hP9
    have hD := hD9
    clear hP9 hD9 hS9
    obtain ⟨hBs90, gs90, qs90_0, qs90_1, qs90_2, qs90_3, qs90_4, qs90_5, qs90_6, qs90_7, qs90_8, qs90_9, qs90_10, fs90⟩ := hs90
    have hFs90 : FR [0, 6] st s90 := fr_ca hFs11 gs90 (sub_1 (List.mem_of_getElem? (i := 0) rfl) sub_0)
    have h92 : Iv 0 5 r91 := fs90.1
    have k93 := fs90.2
    refine c_ist hx hb hK hP hD hS mw_6 ms_6 (iv_in h89 (by decide) (by decide)) dX10_readRoad_72 (fun s94 H9 locs9 es94 hP9 hD9 hS9 => ?_)
    clear hP hD hS
    have hS := hS9
    have hP := hP9
    have hD := hD9
    clear hP9 hD9 hS9
    have hBs94 : MB s94 := by rw [es94]; exact mb_sw hBs90 (fok_bd (hBs90 6) (bd_e (k := 1) hj ⟨by decide, by decide⟩ (by have _c16 : (8 : Int32).toInt = 8 := rfl; have _c6 : (3 : Int32).toInt = 3 := rfl; have _ez1 := ti_mull ez1 hj (k := 3) (by decide) (by decide) (by decide) (by decide); have _ez3 := ti_add ez3 (iv_c (by decide) : Iv 8 8 8) h2 (by decide) (by decide); have _c2 : (1 : Int32).toInt = 1 := rfl; have _ez88 := ti_add ez88 h4 (iv_c (by decide) : Iv 1 1 1) (by decide) (by decide); have z9 : (1 : Int32).toInt = 1 := rfl; omega)) h92)
    have hFs94 : FR [0, 6] st s94 := fr_sw hFs90 (List.mem_of_getElem? (i := 1) rfl) es94
    refine lv_aload_n hx hb dX10_readRoad_73 rfl (lv_at hl 1 rfl) ?_
    refine va_get (D := D) (ci := 10) (v := .ref (a 6)) (C := RX10) (T := TX10) (N := 38) hx hb hT in_X10 hown hK hP 0 mw_0 rfl 14 (by decide) (hT _ t1276) (fun _ h9 => h9) rfl dX10_readRoad_74 ?_
    refine lv_iload_n hx hb dX10_readRoad_77 rfl (lv_at hl 0 rfl) ?_
    refine lv_iconst (v := 2) hx hb dX10_readRoad_78 (by decide) ?_
    refine lv_iadd hx hb dX10_readRoad_79 ?_
    refine lv_topi (fun z95 ez95 => ?_)
    have h96 : Iv 10 31 z95 := iv_add ez95 h4 (iv_c (by decide) : Iv 2 2 2) (by decide) (by decide) (by decide) (by decide)
    refine lv_aload_n hx hb dX10_readRoad_80 rfl (lv_at hl 1 rfl) ?_
    obtain ⟨w97, vw97, tw97⟩ := hX.2 _ (List.mem_of_getElem? (l := LIT) (i := 22) rfl)
    have vw97 : vk_R RX10 176 "miles" w97 s := vw97
    have tw97 : STA A w97 5 (fun j9 => ([109, 105, 108, 101, 115] : List Int32).getD j9 0) s s.heap := tw97
    refine va_ldcS hx hb hown vw97 dX10_readRoad_81 ?_
    refine lv_iconst (v := 1) hx hb dX10_readRoad_83 (by decide) ?_
    refine lv_bipush (v := 20) hx hb dX10_readRoad_84 (by decide) ?_
    refine ca_i hP hD hS hA (fun hDc => run_V (mc := 0) (ms := 0) (As := [.ref w97, .int 1, .int 20]) (rest := [.int z95, .ref (a 6)]) S (m_X10_told l D k a s94 sl  1 20 w97 5 (fun j9 => ([109, 105, 108, 101, 115] : List Int32).getD j9 0) _  hBs94 (by decide) ) lkX10_177 ok_X10_told ⟨rfl, rfl, Nat.le_of_ble_eq_true rfl, Nat.le_of_ble_eq_true rfl⟩ (px_V (ci := 10) (q0 := 0) nice_NSW hK hN rfl mw_0 hP hDc (show NSW w97 5 (fun j9 => ([109, 105, 108, 101, 115] : List Int32).getD j9 0) A s s.heap from ⟨hX, tw97⟩) hS (px_free hD hS hA)) rfl hl.1 rfl (Nat.le_of_ble_eq_true rfl) ⟨Nat.zero_le _, Nat.zero_le _⟩ dX10_readRoad_86) (fun r99 s98 H9 locs9 hs98 hP9 hD9 hS9 => ?_)
    clear hP hD hS
    have hS := hS9
    have hP := hP9
    have hD := hD9
    clear hP9 hD9 hS9
    obtain ⟨hBs98, gs98, qs98_0, qs98_1, qs98_2, qs98_3, qs98_4, qs98_5, qs98_6, qs98_7, qs98_8, qs98_9, qs98_10, fs98⟩ := hs98
    have hFs98 : FR [0, 6] st s98 := fr_ca hFs94 gs98 (sub_1 (List.mem_of_getElem? (i := 0) rfl) sub_0)
    have k100 := fs98
    have k101 : Iv 0 20 r99 := (by rcases k100.2.2 with q9 | q9; (rw [q9]; exact ⟨by decide, by decide⟩); (obtain ⟨y1, y2⟩ := id ((iv_c (by decide) : Iv 1 1 1)); obtain ⟨y3, y4⟩ := id ((iv_c (by decide) : Iv 20 20 20)); exact ⟨by omega, by omega⟩))
    refine c_ist hx hb hK hP hD hS mw_6 ms_6 (iv_in h96 (by decide) (by decide)) dX10_readRoad_89 (fun s102 H9 locs9 es102 hP9 hD9 hS9 => ?_)
    clear hP hD hS
    have hS := hS9
    have hP := hP9
    have hD := hD9
    clear hP9 hD9 hS9
    have hBs102 : MB s102 := by rw [es102]; exact mb_sw hBs98 (fok_bd (hBs98 6) (bd_m hj (by have _c16 : (8 : Int32).toInt = 8 := rfl; have _c6 : (3 : Int32).toInt = 3 := rfl; have _ez1 := ti_mull ez1 hj (k := 3) (by decide) (by decide) (by decide) (by decide); have _ez3 := ti_add ez3 (iv_c (by decide) : Iv 8 8 8) h2 (by decide) (by decide); have _c4 : (2 : Int32).toInt = 2 := rfl; have _ez95 := ti_add ez95 h4 (iv_c (by decide) : Iv 2 2 2) (by decide) (by decide); omega)) k101)
    have hFs102 : FR [0, 6] st s102 := fr_sw hFs98 (List.mem_of_getElem? (i := 1) rfl) es102
    refine lv_aload_n hx hb dX10_readRoad_90 rfl (lv_at hl 1 rfl) ?_
    refine va_get (D := D) (ci := 10) (v := .ref (a 6)) (C := RX10) (T := TX10) (N := 38) hx hb hT in_X10 hown hK hP 0 mw_0 rfl 14 (by decide) (hT _ t1276) (fun _ h9 => h9) rfl dX10_readRoad_91 ?_
    refine lv_iconst (v := 2) hx hb dX10_readRoad_94 (by decide) ?_
    refine lv_dup2_11 hx hb dX10_readRoad_95 rfl rfl ?_
    refine va_iald hx hb hK hP 6 0 mw_6 rfl (by unfold vp_in; decide) dX10_readRoad_96 ?_
    refine k_top (y := (s102 6 2)) rfl ?_
    refine k_top (y := (st 6 2)) (Eq.trans (Eq.trans (congrFun (sw_it es102) 2) (upd_no (cl_ne h96 (by decide) (by decide)))) (Eq.trans (congrFun (gs98 6 (nm_1 (by decide) nm_0)) 2) (Eq.trans (Eq.trans (congrFun (sw_it es94) 2) (upd_no (cl_ne h89 (by decide) (by decide)))) (Eq.trans (congrFun (gs90 6 (nm_1 (by decide) nm_0)) 2) (Eq.trans (congrFun (gs11 6 (nm_1 (by decide) nm_0)) 2) (Eq.trans (Eq.trans (congrFun (sw_it es9) 2) (upd_no (cl_ne h4 (by decide) (by decide)))) (congrFun (gs5 6 (nm_1 (by decide) nm_0)) 2))))))) ?_
    refine lv_iconst (v := 1) hx hb dX10_readRoad_97 (by decide) ?_
    refine lv_iadd hx hb dX10_readRoad_98 ?_
    refine lv_topi (fun z103 ez103 => ?_)
    have h104 : Iv 1 8 z103 := iv_add ez103 hj (iv_c (by decide) : Iv 1 1 1) (by decide) (by decide) (by decide) (by decide)
    refine c_ist hx hb hK hP hD hS mw_6 ms_6 (by unfold vp_in; decide) dX10_readRoad_99 (fun s105 H9 locs9 es105 hP9 hD9 hS9 => ?_)
    clear hP hD hS
    have hS := hS9
    have hP := hP9
    have hD := hD9
    clear hP9 hD9 hS9
    have hBs105 : MB s105 := by rw [es105]; exact mb_sw hBs102 (fok_bd (i := 2) (hBs102 6) ⟨by decide, by decide, by decide, by decide⟩ (iv_mono (c := 0) (d := 8) h104 (by decide) (by decide)))
    have hFs105 : FR [0, 6] st s105 := fr_sw hFs102 (List.mem_of_getElem? (i := 1) rfl) es105
    rw [hQ]
    exact W.vret hx hb hr (fun t ht hW => ⟨⟨s105, rfl, ⟨hBs105, hFs105, (Eq.trans (congrFun (sw_at es105 (by decide)) 0) (Eq.trans (congrFun (sw_at es102 (by decide)) 0) (Eq.trans qs98_0 (Eq.trans (congrFun (sw_at es94 (by decide)) 0) (Eq.trans qs90_0 (Eq.trans qs11_0 (Eq.trans (congrFun (sw_at es9 (by decide)) 0) qs5_0))))))), (Eq.trans (congrFun (sw_at es105 (by decide)) 5) (Eq.trans (congrFun (sw_at es102 (by decide)) 5) (Eq.trans qs98_1 (Eq.trans (congrFun (sw_at es94 (by decide)) 5) (Eq.trans qs90_1 (Eq.trans qs11_1 (Eq.trans (congrFun (sw_at es9 (by decide)) 5) qs5_1))))))), (Eq.trans (congrFun (sw_at es105 (by decide)) 7) (Eq.trans (congrFun (sw_at es102 (by decide)) 7) (Eq.trans qs98_2 (Eq.trans (congrFun (sw_at es94 (by decide)) 7) (Eq.trans qs90_2 (Eq.trans qs11_2 (Eq.trans (congrFun (sw_at es9 (by decide)) 7) qs5_2))))))), (Eq.trans (congrFun (sw_at es105 (by decide)) 20) (Eq.trans (congrFun (sw_at es102 (by decide)) 20) (Eq.trans qs98_3 (Eq.trans (congrFun (sw_at es94 (by decide)) 20) (Eq.trans qs90_3 (Eq.trans qs11_3 (Eq.trans (congrFun (sw_at es9 (by decide)) 20) qs5_3))))))), (Eq.trans (congrFun (sw_at es105 (by decide)) 21) (Eq.trans (congrFun (sw_at es102 (by decide)) 21) (Eq.trans qs98_4 (Eq.trans (congrFun (sw_at es94 (by decide)) 21) (Eq.trans qs90_4 (Eq.trans qs11_4 (Eq.trans (congrFun (sw_at es9 (by decide)) 21) qs5_4))))))), (Eq.trans (congrFun (sw_at es105 (by decide)) 22) (Eq.trans (congrFun (sw_at es102 (by decide)) 22) (Eq.trans qs98_5 (Eq.trans (congrFun (sw_at es94 (by decide)) 22) (Eq.trans qs90_5 (Eq.trans qs11_5 (Eq.trans (congrFun (sw_at es9 (by decide)) 22) qs5_5))))))), (Eq.trans (congrFun (sw_at es105 (by decide)) 26) (Eq.trans (congrFun (sw_at es102 (by decide)) 26) (Eq.trans qs98_6 (Eq.trans (congrFun (sw_at es94 (by decide)) 26) (Eq.trans qs90_6 (Eq.trans qs11_6 (Eq.trans (congrFun (sw_at es9 (by decide)) 26) qs5_6))))))), (Eq.trans (congrFun (sw_at es105 (by decide)) 27) (Eq.trans (congrFun (sw_at es102 (by decide)) 27) (Eq.trans qs98_7 (Eq.trans (congrFun (sw_at es94 (by decide)) 27) (Eq.trans qs90_7 (Eq.trans qs11_7 (Eq.trans (congrFun (sw_at es9 (by decide)) 27) qs5_7))))))), (Eq.trans (congrFun (sw_at es105 (by decide)) 29) (Eq.trans (congrFun (sw_at es102 (by decide)) 29) (Eq.trans qs98_8 (Eq.trans (congrFun (sw_at es94 (by decide)) 29) (Eq.trans qs90_8 (Eq.trans qs11_8 (Eq.trans (congrFun (sw_at es9 (by decide)) 29) qs5_8))))))), (Eq.trans (congrFun (sw_at es105 (by decide)) 31) (Eq.trans (congrFun (sw_at es102 (by decide)) 31) (Eq.trans qs98_9 (Eq.trans (congrFun (sw_at es94 (by decide)) 31) (Eq.trans qs90_9 (Eq.trans qs11_9 (Eq.trans (congrFun (sw_at es9 (by decide)) 31) qs5_9))))))), (Eq.trans (congrFun (sw_at es105 (by decide)) 33) (Eq.trans (congrFun (sw_at es102 (by decide)) 33) (Eq.trans qs98_10 (Eq.trans (congrFun (sw_at es94 (by decide)) 33) (Eq.trans qs90_10 (Eq.trans qs11_10 (Eq.trans (congrFun (sw_at es9 (by decide)) 33) qs5_10))))))), ⟨(fun z9 => by have y0 : (s98 0 12) = 0 := (Eq.trans (Eq.symm (Eq.trans (congrFun (sw_at es105 (by decide)) 12) (congrFun (sw_at es102 (by decide)) 12))) z9); have k106 := k100.1 y0; have k107 : s94 0 12 = 0 := k106; rw [(congrFun (sw_at es94 (by decide)) 12)] at k107; have k108 := k93.1 k107; have k109 : s11 0 12 = 0 := k108; exact absurd k109 k86), (Int.le_trans k8.2 (Int.le_trans (show (s5 0 8).toInt ≤ (s9 0 8).toInt from by rw [(congrFun (sw_at es9 (by decide)) 8)]; exact Int.le_refl _) (Int.le_trans k13.2 (Int.le_trans k93.2 (Int.le_trans (show (s90 0 8).toInt ≤ (s94 0 8).toInt from by rw [(congrFun (sw_at es94 (by decide)) 8)]; exact Int.le_refl _) (Int.le_trans k100.2.1 (Int.le_trans (show (s98 0 8).toInt ≤ (s102 0 8).toInt from by rw [(congrFun (sw_at es102 (by decide)) 8)]; exact Int.le_refl _) (show (s102 0 8).toInt ≤ (s105 0 8).toInt from by rw [(congrFun (sw_at es105 (by decide)) 8)]; exact Int.le_refl _))))))))⟩⟩, by rw [ht]; exact hP, va_K.moved hW.alike (hK.sub (tys' := []) [] rfl), by rw [hAe]; exact hD⟩, by rw [hAe]; exact hS.F ht⟩) hS.2.2 dX10_readRoad_100
