theorem ac_d {x : Int32} (h : AC x) (q : x.toInt ≤ 199) : Iv 100 129 x := by
  rcases h with h | ⟨h, -⟩ | h
  · exact h
  · have := h.1; omega
  · have := h.1; omega
theorem ac_s {x : Int32} (h : AC x) (q : 200 ≤ x.toInt) (q2 : x.toInt ≤ 299) : Iv 200 279 x ∧ (x.toInt - 200) % 10 ≤ 7 := by
  rcases h with h | h | h
  · have := h.2; omega
  · exact h
  · have := h.1; omega
theorem ac_g {x : Int32} (h : AC x) (q : 300 ≤ x.toInt) : Iv 300 307 x := by
  rcases h with h | ⟨h, -⟩ | h
  · have := h.2; omega
  · have := h.2; omega
  · exact h
theorem ac_at {f : Nat → Int32} {i z : Int32} (h : WOK f) (hi : Iv 0 39 i) (hl : i.toInt < (f 7).toInt) (e : z.toInt = 128 + i.toInt) : AC (f z.toNatClampNeg) := by
  have c := cl_int hi (by decide)
  have c2 : z.toNatClampNeg = 128 + i.toNatClampNeg := cl_of (by rw [e]; omega)
  rw [c2]
  exact h.2 _ (by omega)
set_option maxHeartbeats 4000000 in
set_option maxRecDepth 100000 in
theorem m_X10_act0 (l : Launch) (D : va_G) (k : Nat → ClassId) (a : Nat → Nat) (st : CT) (sl : CL) (p0 : Int32) (sz : Nat) (hB : MB st)  (hw : WOK (st 1)) (ha : AC p0) : Met l yX10_act0 (.code yX10_act0 cX10_act0 2 none :: TB) (rmw 6 0 0) (va_Pc [.ref (a 0), .int p0] (PW D k sz (MWS k a st sl))) (QV D (S := CT) (fun u => MB u ∧ FR [8, 9, 7, 10, 11] st u ∧ (True)) (fun u => MWS k a u sl) (fun _ => []) (MWS k a st sl) sz) 0 0 (va_A (MWS k a st sl) sz) := by
  refine Met.ofW (cc := cX10_act0) (maxL := 2) (ret := none) (by decide) rfl ?_
  intro p e s m args below meth c s₁ B hml hv
  obtain ⟨rfl, hsz, hP, hK, hD0, hN⟩ := hv
  have hx := B.exec
  have hb := B.bytes
  have hr := B.returns
  have hT : ∀ w9 ∈ TB, w9.before ([.ref (a 0), .int p0] : List Value).toArray s = true := fun w9 h => atoms_spec (ws := .code yX10_act0 cX10_act0 2 none :: TB) B.pre w9 (List.mem_cons_of_mem _ h)
  have hown : s.vm.findClass RX10 = some m.cls := findClass_of_methodNamed B.named
  have S : CallFix p m c cX10_act0 2 s _ TB RX10 := ⟨hx, hb, hml, hown, hT⟩
  subst hsz
  have hD := hD0.self (sz := s.heap.size)
  generalize hAe : va_A (MWS k a st sl) s.heap.size = A at hD ⊢
  have hA : ∀ q : Nat, s.heap.size ≤ q → A q := fun q h => by rw [← hAe]; exact Or.inr h
  have hS : va_S A s.heap s.heap [] := va_S.rf
  have hl := lv_entry ([.ref (a 0), .int p0]) (n := 2) (Nat.le_of_ble_eq_true rfl)
  rw [lg_entry_eq]
  generalize (lg_sl ([.ref (a 0), .int p0]) ++ List.replicate (2 - (lg_sl ([.ref (a 0), .int p0])).length) Slot.unset).toArray = ls at hl ⊢
  have hl : lv_has ls 2 [(0, .ref (a 0)), (1, .int p0)] := hl
  refine nameQ (fun Q hQ => ?_)
  refine lv_iload_n hx hb dX10_act0_0 rfl (lv_at hl 1 rfl) ?_
  refine lv_sipush (v := 200) hx hb dX10_act0_1 (by decide) ?_
  refine lv_icmp_ge (tgt := 31) hx hb dX10_act0_4 (by decide) (fun c1 => ?_) (fun c1 => ?_)
  · skip
    have n2 : (200 : Int32).toInt ≤ p0.toInt := (i_le c1)
    have h3 : Iv 200 2147483647 p0 := le_r (iv_c (by decide) : Iv 200 200 200) n2 (iv_full p0) (by decide)
    refine lv_iload_n hx hb dX10_act0_31 rfl (lv_at hl 1 rfl) ?_
    refine lv_sipush (v := 300) hx hb dX10_act0_32 (by decide) ?_
    refine lv_icmp_ge (tgt := 61) hx hb dX10_act0_35 (by decide) (fun c4 => ?_) (fun c4 => ?_)
    · skip
      have n5 : (300 : Int32).toInt ≤ p0.toInt := (i_le c4)
      have h6 : Iv 300 2147483647 p0 := le_r (iv_c (by decide) : Iv 300 300 300) n5 h3 (by decide)
      have h7 : Iv 300 307 p0 := ac_g ha (h6).1
      refine lv_aload_n hx hb dX10_act0_61 rfl (lv_at hl 0 rfl) ?_
      refine lv_iload_n hx hb dX10_act0_62 rfl (lv_at hl 1 rfl) ?_
      refine lv_sipush (v := 300) hx hb dX10_act0_63 (by decide) ?_
      refine lv_isub hx hb dX10_act0_66 ?_
      refine lv_topi (fun z8 ez8 => ?_)
      have h9 : Iv 0 7 z8 := iv_sub ez8 h7 (iv_c (by decide) : Iv 300 300 300) (by decide) (by decide) (by decide) (by decide)
      refine ca_v hP hD hS hA (fun hDc => run_V (mc := 0) (ms := 0) (As := [.int z8]) (rest := []) S (m_X10_forget l D k a st sl  z8 _  hB h9 ) lkX10_240 ok_X10_forget ⟨rfl, rfl, Nat.le_of_ble_eq_true rfl, Nat.le_of_ble_eq_true rfl⟩ (pw_V (ci := 10) (q0 := 0) hK hN rfl mw_0 hP hDc) rfl hl.1 rfl (Nat.le_of_ble_eq_true rfl) ⟨Nat.zero_le _, Nat.zero_le _⟩ dX10_act0_67) (fun s10 H9 locs9 hs10 hP9 hD9 hS9 => ?_)
      clear hP hD hS
      have hS := hS9
      have hP := hP9
      have hD := hD9
      clear hP9 hD9 hS9
      obtain ⟨hBs10, gs10, fs10⟩ := hs10
      have hFs10 : FR [8, 9, 7, 10, 11] st s10 := fr_ca fr_rf gs10 (sub_1 (List.mem_of_getElem? (i := 0) rfl) sub_0)
      rw [hQ]
      exact W.vret hx hb hr (fun t ht hW => ⟨⟨s10, rfl, ⟨hBs10, hFs10, trivial⟩, by rw [ht]; exact hP, va_K.moved hW.alike (hK.sub (tys' := []) [] rfl), by rw [hAe]; exact hD⟩, by rw [hAe]; exact hS.F ht⟩) hS.2.2 dX10_act0_70
    · skip
      have n12 : p0.toInt < (300 : Int32).toInt := (i_nle c4)
      have h13 : Iv 200 299 p0 := lt_l h3 n12 (iv_c (by decide) : Iv 300 300 300) (by decide)
      have k14 := ac_s ha (h13).1 (h13).2
      have h15 : Iv 200 279 p0 := k14.1
      refine lv_aload_n hx hb dX10_act0_38 rfl (lv_at hl 0 rfl) ?_
      refine lv_iload_n hx hb dX10_act0_39 rfl (lv_at hl 1 rfl) ?_
      refine lv_sipush (v := 200) hx hb dX10_act0_40 (by decide) ?_
      refine lv_isub hx hb dX10_act0_43 ?_
      refine lv_topi (fun z16 ez16 => ?_)
      have h17 : Iv 0 79 z16 := iv_sub ez16 h15 (iv_c (by decide) : Iv 200 200 200) (by decide) (by decide) (by decide) (by decide)
      refine lv_bipush (v := 10) hx hb dX10_act0_44 (by decide) ?_
      refine lv_idiv hx hb dX10_act0_46 (iv_nz (iv_c (by decide) : Iv 10 10 10) (by decide)) ?_
      refine lv_topi (fun z18 ez18 => ?_)
      have h19 : Iv 0 7 z18 := iv_div ez18 h17 (y := 10) (k := 10) (by decide) (by decide) (by decide) (by decide)
      refine lv_iload_n hx hb dX10_act0_47 rfl (lv_at hl 1 rfl) ?_
      refine lv_sipush (v := 200) hx hb dX10_act0_48 (by decide) ?_
      refine lv_isub hx hb dX10_act0_51 ?_
      refine k_top (y := z16) ez16.symm ?_
      refine lv_bipush (v := 10) hx hb dX10_act0_52 (by decide) ?_
      refine lv_irem hx hb dX10_act0_54 (iv_nz (iv_c (by decide) : Iv 10 10 10) (by decide)) ?_
      refine lv_topi (fun z20 ez20 => ?_)
      have h21 : Iv 0 9 z20 := iv_rem ez20 h17 (y := 10) (k := 10) (by decide) (by decide) (by decide) (by decide)
      have h22 : Iv 0 7 z20 := (by have q9 := k14.2; obtain ⟨y1, y2⟩ := id (h21); have _c400 : (200 : Int32).toInt = 200 := rfl; have _ez16 := ti_sub ez16 h15 (iv_c (by decide) : Iv 200 200 200) (by decide) (by decide); have _c20 : (10 : Int32).toInt = 10 := rfl; have _ez20 := ti_rem ez20 (y := 10) (k := 10) (by decide) (by decide) (Int.le_trans (by decide) (h17).1); exact ⟨by omega, by omega⟩)
      refine ca_v hP hD hS hA (fun hDc => run_V (mc := 0) (ms := 0) (As := [.int z18, .int z20]) (rest := []) S (m_X10_swapSeats l D k a st sl  z18 z20 _  hB h19 h22 ) lkX10_236 ok_X10_swapSeats ⟨rfl, rfl, Nat.le_of_ble_eq_true rfl, Nat.le_of_ble_eq_true rfl⟩ (pw_V (ci := 10) (q0 := 0) hK hN rfl mw_0 hP hDc) rfl hl.1 rfl (Nat.le_of_ble_eq_true rfl) ⟨Nat.zero_le _, Nat.zero_le _⟩ dX10_act0_55) (fun s23 H9 locs9 hs23 hP9 hD9 hS9 => ?_)
      clear hP hD hS
      have hS := hS9
      have hP := hP9
      have hD := hD9
      clear hP9 hD9 hS9
      obtain ⟨hBs23, gs23, fs23⟩ := hs23
      have hFs23 : FR [8, 9, 7, 10, 11] st s23 := fr_ca fr_rf gs23 (sub_1 (List.mem_of_getElem? (i := 1) rfl) sub_0)
      refine lv_goto (tgt := 70) hx hb dX10_act0_58 (by decide) ?_
      rw [hQ]
      exact W.vret hx hb hr (fun t ht hW => ⟨⟨s23, rfl, ⟨hBs23, hFs23, trivial⟩, by rw [ht]; exact hP, va_K.moved hW.alike (hK.sub (tys' := []) [] rfl), by rw [hAe]; exact hD⟩, by rw [hAe]; exact hS.F ht⟩) hS.2.2 dX10_act0_70
  · skip
    have n25 : p0.toInt < (200 : Int32).toInt := (i_nle c1)
    have h26 : Iv (-2147483648) 199 p0 := lt_l (iv_full p0) n25 (iv_c (by decide) : Iv 200 200 200) (by decide)
    have h27 : Iv 100 129 p0 := ac_d ha (h26).2
    refine lv_aload_n hx hb dX10_act0_7 rfl (lv_at hl 0 rfl) ?_
    refine lv_iload_n hx hb dX10_act0_8 rfl (lv_at hl 1 rfl) ?_
    refine lv_bipush (v := 100) hx hb dX10_act0_9 (by decide) ?_
    refine lv_isub hx hb dX10_act0_11 ?_
    refine lv_topi (fun z28 ez28 => ?_)
    have h29 : Iv 0 29 z28 := iv_sub ez28 h27 (iv_c (by decide) : Iv 100 100 100) (by decide) (by decide) (by decide) (by decide)
    refine lv_bipush (v := 10) hx hb dX10_act0_12 (by decide) ?_
    refine lv_idiv hx hb dX10_act0_14 (iv_nz (iv_c (by decide) : Iv 10 10 10) (by decide)) ?_
    refine lv_topi (fun z30 ez30 => ?_)
    have h31 : Iv 0 2 z30 := iv_div ez30 h29 (y := 10) (k := 10) (by decide) (by decide) (by decide) (by decide)
    refine lv_iload_n hx hb dX10_act0_15 rfl (lv_at hl 1 rfl) ?_
    refine lv_bipush (v := 100) hx hb dX10_act0_16 (by decide) ?_
    refine lv_isub hx hb dX10_act0_18 ?_
    refine k_top (y := z28) ez28.symm ?_
    refine lv_bipush (v := 10) hx hb dX10_act0_19 (by decide) ?_
    refine lv_irem hx hb dX10_act0_21 (iv_nz (iv_c (by decide) : Iv 10 10 10) (by decide)) ?_
    refine lv_topi (fun z32 ez32 => ?_)
    have h33 : Iv 0 9 z32 := iv_rem ez32 h29 (y := 10) (k := 10) (by decide) (by decide) (by decide) (by decide)
    refine lv_iconst (v := 1) hx hb dX10_act0_22 (by decide) ?_
    refine lv_isub hx hb dX10_act0_23 ?_
    refine lv_topi (fun z34 ez34 => ?_)
    have h35 : Iv (-1) 8 z34 := iv_sub ez34 h33 (iv_c (by decide) : Iv 1 1 1) (by decide) (by decide) (by decide) (by decide)
    refine ca_i hP hD hS hA (fun hDc => run_V (mc := 0) (ms := 0) (As := [.int z30, .int z34]) (rest := []) S (m_X10_driveBy l D k a st sl  z30 z34 _  hB h31 hw) lkX10_233 ok_X10_driveBy ⟨rfl, rfl, Nat.le_of_ble_eq_true rfl, Nat.le_of_ble_eq_true rfl⟩ (pw_V (ci := 10) (q0 := 0) hK hN rfl mw_0 hP hDc) rfl hl.1 rfl (Nat.le_of_ble_eq_true rfl) ⟨Nat.zero_le _, Nat.zero_le _⟩ dX10_act0_24) (fun r37 s36 H9 locs9 hs36 hP9 hD9 hS9 => ?_)
    clear hP hD hS
    have hS := hS9
    have hP := hP9
    have hD := hD9
    clear hP9 hD9 hS9
    obtain ⟨hBs36, gs36, fs36⟩ := hs36
    have hFs36 : FR [8, 9, 7, 10, 11] st s36 := fr_ca fr_rf gs36 (sub_1 (List.mem_of_getElem? (i := 0) rfl) (sub_1 (List.mem_of_getElem? (i := 2) rfl) (sub_1 (List.mem_of_getElem? (i := 3) rfl) (sub_1 (List.mem_of_getElem? (i := 4) rfl) sub_0))))
    have h38 : Iv (-1) 7 r37 := fs36.1
    refine lv_pop hx hb dX10_act0_27 rfl ?_
    refine lv_goto (tgt := 70) hx hb dX10_act0_28 (by decide) ?_
    rw [hQ]
    exact W.vret hx hb hr (fun t ht hW => ⟨⟨s36, rfl, ⟨hBs36, hFs36, trivial⟩, by rw [ht]; exact hP, va_K.moved hW.alike (hK.sub (tys' := []) [] rfl), by rw [hAe]; exact hD⟩, by rw [hAe]; exact hS.F ht⟩) hS.2.2 dX10_act0_70
set_option maxHeartbeats 4000000 in
set_option maxRecDepth 100000 in
theorem m_X10_asItIs (l : Launch) (D : va_G) (k : Nat → ClassId) (a : Nat → Nat) (st : CT) (sl : CL) (sz : Nat) (hB : MB st)  (hw : WOK (st 1)) : Met l yX10_asItIs (.code yX10_asItIs cX10_asItIs 3 none :: TB) (rmw 7 0 0) (va_Pc [.ref (a 0)] (PW D k sz (MWS k a st sl))) (QV D (S := CT) (fun u => MB u ∧ FR [7, 9, 8, 10, 11] st u ∧ (True)) (fun u => MWS k a u sl) (fun _ => []) (MWS k a st sl) sz) 0 0 (va_A (MWS k a st sl) sz) := by
  refine Met.ofW (cc := cX10_asItIs) (maxL := 3) (ret := none) (by decide) rfl ?_
  intro p e s m args below meth c s₁ B hml hv
  obtain ⟨rfl, hsz, hP, hK, hD0, hN⟩ := hv
  have hx := B.exec
  have hb := B.bytes
  have hr := B.returns
  have hT : ∀ w9 ∈ TB, w9.before ([.ref (a 0)] : List Value).toArray s = true := fun w9 h => atoms_spec (ws := .code yX10_asItIs cX10_asItIs 3 none :: TB) B.pre w9 (List.mem_cons_of_mem _ h)
  have hown : s.vm.findClass RX10 = some m.cls := findClass_of_methodNamed B.named
  have S : CallFix p m c cX10_asItIs 3 s _ TB RX10 := ⟨hx, hb, hml, hown, hT⟩
  subst hsz
  have hD := hD0.self (sz := s.heap.size)
  generalize hAe : va_A (MWS k a st sl) s.heap.size = A at hD ⊢
  have hA : ∀ q : Nat, s.heap.size ≤ q → A q := fun q h => by rw [← hAe]; exact Or.inr h
  have hS : va_S A s.heap s.heap [] := va_S.rf
  have hl := lv_entry ([.ref (a 0)]) (n := 3) (Nat.le_of_ble_eq_true rfl)
  rw [lg_entry_eq]
  generalize (lg_sl ([.ref (a 0)]) ++ List.replicate (3 - (lg_sl ([.ref (a 0)])).length) Slot.unset).toArray = ls at hl ⊢
  have hl : lv_has ls 3 [(0, .ref (a 0))] := hl
  refine nameQ (fun Q hQ => ?_)
  refine lv_iconst (v := 0) hx hb dX10_asItIs_0 (by decide) ?_
  refine lv_istore_n (lv' := [(1, .int 0), (0, .ref (a 0))]) hx hb dX10_asItIs_1 rfl hl (by decide) rfl (fun ls hl => ?_)
  have lp2 : ∀ (n9_2 : Nat) (v1_2 : Int32) (t2 : CT) (H9 : Heap) (locs9 : List Loc) (ls : Array Slot), Iv 0 8 v1_2 → MB t2 → FR [7, 9, 8] st t2 → va_P D vwCl (MWS k a t2 sl) H9 → va_D A (MWS k a t2 sl) → va_S A s.heap H9 locs9 → lv_has ls 3 [(1, .int v1_2), (0, .ref (a 0))] → (8 : Int) - v1_2.toInt < (n9_2 : Int) → W p l e (rmw 7 0 0) s m ([.ref (a 0)] : List Value).toArray below meth c H9 locs9 0 0 Q (F0 m 2 ls []) := by
    clear hl hP hD hS
    intro n9_2
    induction n9_2 with
    | zero =>
      intro v1_2 t2 H9 locs9 ls iv1_2 hBt2 gt2 hP hD hS hl hm2
      exact (fu_0 iv1_2 hm2).elim
    | succ n9_2 ih2 =>
      intro v1_2 t2 H9 locs9 ls iv1_2 hBt2 gt2 hP hD hS hl hm2
      have hFt2 : FR [7, 9, 8, 10, 11] st t2 := fr_ca fr_rf gt2 (sub_1 (List.mem_of_getElem? (i := 0) rfl) (sub_1 (List.mem_of_getElem? (i := 1) rfl) (sub_1 (List.mem_of_getElem? (i := 2) rfl) sub_0)))
      refine lv_iload_n hx hb dX10_asItIs_2 rfl (lv_at hl 0 rfl) ?_
      refine lv_bipush (v := 8) hx hb dX10_asItIs_3 (by decide) ?_
      refine lv_icmp_ge (tgt := 80) hx hb dX10_asItIs_5 (by decide) (fun c1497 => ?_) (fun c1497 => ?_)
      · skip
        have n1498 : (8 : Int32).toInt ≤ v1_2.toInt := (i_le c1497)
        have h1499 : Iv 8 8 v1_2 := le_r (iv_c (by decide) : Iv 8 8 8) n1498 iv1_2 (by decide)
        refine lv_iconst (v := 0) hx hb dX10_asItIs_80 (by decide) ?_
        refine lv_istore_n (lv' := [(1, .int 0), (0, .ref (a 0))]) hx hb dX10_asItIs_81 rfl hl (by decide) rfl (fun ls hl => ?_)
        have lp82 : ∀ (n9_82 : Nat) (v1_82 : Int32) (t82 : CT) (H9 : Heap) (locs9 : List Loc) (ls : Array Slot), Iv 0 3 v1_82 → MB t82 → FR [10, 11, 9] t2 t82 → va_P D vwCl (MWS k a t82 sl) H9 → va_D A (MWS k a t82 sl) → va_S A s.heap H9 locs9 → lv_has ls 3 [(1, .int v1_82), (0, .ref (a 0))] → (3 : Int) - v1_82.toInt < (n9_82 : Int) → W p l e (rmw 7 0 0) s m ([.ref (a 0)] : List Value).toArray below meth c H9 locs9 0 0 Q (F0 m 82 ls []) := by
          clear hl hP hD hS
          intro n9_82
          induction n9_82 with
          | zero =>
            intro v1_82 t82 H9 locs9 ls iv1_82 hBt82 gt82 hP hD hS hl hm82
            exact (fu_0 iv1_82 hm82).elim
          | succ n9_82 ih82 =>
            intro v1_82 t82 H9 locs9 ls iv1_82 hBt82 gt82 hP hD hS hl hm82
            have hFt82 : FR [7, 9, 8, 10, 11] st t82 := fr_ca hFt2 gt82 (sub_1 (List.mem_of_getElem? (i := 3) rfl) (sub_1 (List.mem_of_getElem? (i := 4) rfl) (sub_1 (List.mem_of_getElem? (i := 1) rfl) sub_0)))
            refine lv_iload_n hx hb dX10_asItIs_82 rfl (lv_at hl 0 rfl) ?_
            refine lv_aload_n hx hb dX10_asItIs_83 rfl (lv_at hl 1 rfl) ?_
            refine va_get (D := D) (ci := 10) (v := .ref (a 1)) (C := RX10) (T := TX10) (N := 38) hx hb hT in_X10 hown hK hP 0 mw_0 rfl 1 (by decide) (hT _ t1263) (fun _ h9 => h9) rfl dX10_asItIs_84 ?_
            refine lv_iconst (v := 4) hx hb dX10_asItIs_87 (by decide) ?_
            refine va_iald hx hb hK hP 1 0 mw_1 rfl (by unfold vp_in; decide) dX10_asItIs_88 ?_
            refine k_top (y := (t82 1 4)) rfl ?_
            refine k_top (y := (st 1 4)) (congrFun (hFt82 1 (nm_1 (by decide) (nm_1 (by decide) (nm_1 (by decide) (nm_1 (by decide) (nm_1 (by decide) nm_0)))))) 4) ?_
            have h2256 : Iv 0 3 (st 1 4) := (tok_at (hw).1 4 0 3 (by decide) (by decide) (by decide))
            refine lv_icmp_ge (tgt := 164) hx hb dX10_asItIs_89 (by decide) (fun c2257 => ?_) (fun c2257 => ?_)
            · skip
              have n2258 : (st 1 4).toInt ≤ v1_82.toInt := (i_le c2257)
              refine lv_iconst (v := 0) hx hb dX10_asItIs_164 (by decide) ?_
              refine lv_istore_n (lv' := [(1, .int 0), (0, .ref (a 0))]) hx hb dX10_asItIs_165 rfl hl (by decide) rfl (fun ls hl => ?_)
              have lp166 : ∀ (n9_166 : Nat) (v1_166 : Int32) (t166 : CT) (H9 : Heap) (locs9 : List Loc) (ls : Array Slot), Iv 0 40 v1_166 → MB t166 → FR [8, 9, 7, 10, 11] t82 t166 → va_P D vwCl (MWS k a t166 sl) H9 → va_D A (MWS k a t166 sl) → va_S A s.heap H9 locs9 → lv_has ls 3 [(1, .int v1_166), (0, .ref (a 0))] → (40 : Int) - v1_166.toInt < (n9_166 : Int) → W p l e (rmw 7 0 0) s m ([.ref (a 0)] : List Value).toArray below meth c H9 locs9 0 0 Q (F0 m 166 ls []) := by
                clear hl hP hD hS
                intro n9_166
                induction n9_166 with
                | zero =>
                  intro v1_166 t166 H9 locs9 ls iv1_166 hBt166 gt166 hP hD hS hl hm166
                  exact (fu_0 iv1_166 hm166).elim
                | succ n9_166 ih166 =>
                  intro v1_166 t166 H9 locs9 ls iv1_166 hBt166 gt166 hP hD hS hl hm166
                  have hFt166 : FR [7, 9, 8, 10, 11] st t166 := fr_ca hFt82 gt166 (sub_1 (List.mem_of_getElem? (i := 2) rfl) (sub_1 (List.mem_of_getElem? (i := 1) rfl) (sub_1 (List.mem_of_getElem? (i := 0) rfl) (sub_1 (List.mem_of_getElem? (i := 3) rfl) (sub_1 (List.mem_of_getElem? (i := 4) rfl) sub_0)))))
                  refine lv_iload_n hx hb dX10_asItIs_166 rfl (lv_at hl 0 rfl) ?_
                  refine lv_aload_n hx hb dX10_asItIs_167 rfl (lv_at hl 1 rfl) ?_
                  refine va_get (D := D) (ci := 10) (v := .ref (a 1)) (C := RX10) (T := TX10) (N := 38) hx hb hT in_X10 hown hK hP 0 mw_0 rfl 1 (by decide) (hT _ t1263) (fun _ h9 => h9) rfl dX10_asItIs_168 ?_
                  refine lv_bipush (v := 7) hx hb dX10_asItIs_171 (by decide) ?_
                  refine va_iald hx hb hK hP 1 0 mw_1 rfl (by unfold vp_in; decide) dX10_asItIs_173 ?_
                  refine k_top (y := (t166 1 7)) rfl ?_
                  refine k_top (y := (st 1 7)) (congrFun (hFt166 1 (nm_1 (by decide) (nm_1 (by decide) (nm_1 (by decide) (nm_1 (by decide) (nm_1 (by decide) nm_0)))))) 7) ?_
                  have h2480 : Iv 0 40 (st 1 7) := (tok_at (hw).1 7 0 40 (by decide) (by decide) (by decide))
                  refine lv_icmp_ge (tgt := 197) hx hb dX10_asItIs_174 (by decide) (fun c2481 => ?_) (fun c2481 => ?_)
                  · skip
                    have n2482 : (st 1 7).toInt ≤ v1_166.toInt := (i_le c2481)
                    rw [hQ]
                    exact W.vret hx hb hr (fun t ht hW => ⟨⟨t166, rfl, ⟨hBt166, hFt166, trivial⟩, by rw [ht]; exact hP, va_K.moved hW.alike (hK.sub (tys' := []) [] rfl), by rw [hAe]; exact hD⟩, by rw [hAe]; exact hS.F ht⟩) hS.2.2 dX10_asItIs_197
                  · skip
                    have n2483 : v1_166.toInt < (st 1 7).toInt := (i_nle c2481)
                    have h2484 : Iv 0 39 v1_166 := lt_l iv1_166 n2483 h2480 (by decide)
                    have h2485 : Iv 1 40 (st 1 7) := lt_r iv1_166 n2483 h2480 (by decide)
                    refine lv_aload_n hx hb dX10_asItIs_177 rfl (lv_at hl 1 rfl) ?_
                    refine lv_aload_n hx hb dX10_asItIs_178 rfl (lv_at hl 1 rfl) ?_
                    refine va_get (D := D) (ci := 10) (v := .ref (a 1)) (C := RX10) (T := TX10) (N := 38) hx hb hT in_X10 hown hK hP 0 mw_0 rfl 1 (by decide) (hT _ t1263) (fun _ h9 => h9) rfl dX10_asItIs_179 ?_
                    refine lv_sipush (v := 128) hx hb dX10_asItIs_182 (by decide) ?_
                    refine lv_iload_n hx hb dX10_asItIs_185 rfl (lv_at hl 0 rfl) ?_
                    refine lv_iadd hx hb dX10_asItIs_186 ?_
                    refine lv_topi (fun z2486 ez2486 => ?_)
                    have h2487 : Iv 128 167 z2486 := iv_add ez2486 (iv_c (by decide) : Iv 128 128 128) h2484 (by decide) (by decide) (by decide) (by decide)
                    refine va_iald hx hb hK hP 1 0 mw_1 rfl (iv_in h2487 (by decide) (by decide)) dX10_asItIs_187 ?_
                    refine lv_topi (fun z2488 ez2488 => ?_)
                    refine ca_v hP hD hS hA (fun hDc => run_V (mc := 0) (ms := 0) (As := [.int z2488]) (rest := []) S (m_X10_act0 l D k a t166 sl  z2488 _  hBt166  (wok_of (hFt166 1 (nm_1 (by decide) (nm_1 (by decide) (nm_1 (by decide) (nm_1 (by decide) (nm_1 (by decide) nm_0)))))) hw) (by rw [ez2488, (hFt166 1 (nm_1 (by decide) (nm_1 (by decide) (nm_1 (by decide) (nm_1 (by decide) (nm_1 (by decide) nm_0))))))]; exact ac_at hw h2484 n2483 (by have _c256 : (128 : Int32).toInt = 128 := rfl; have _ez2486 := ti_add ez2486 (iv_c (by decide) : Iv 128 128 128) h2484 (by decide) (by decide); omega))) lkX10_230 ok_X10_act0 ⟨rfl, rfl, Nat.le_of_ble_eq_true rfl, Nat.le_of_ble_eq_true rfl⟩ (pw_V (ci := 10) (q0 := 0) hK hN rfl mw_0 hP hDc) rfl hl.1 rfl (Nat.le_of_ble_eq_true rfl) ⟨Nat.zero_le _, Nat.zero_le _⟩ dX10_asItIs_188) (fun s2489 H9 locs9 hs2489 hP9 hD9 hS9 => ?_)
                    clear hP hD hS
                    have hS := hS9
                    have hP := hP9
                    have hD := hD9
                    clear hP9 hD9 hS9
                    obtain ⟨hBs2489, gs2489, fs2489⟩ := hs2489
                    have hFs2489 : FR [7, 9, 8, 10, 11] st s2489 := fr_ca hFt166 gs2489 (sub_1 (List.mem_of_getElem? (i := 2) rfl) (sub_1 (List.mem_of_getElem? (i := 1) rfl) (sub_1 (List.mem_of_getElem? (i := 0) rfl) (sub_1 (List.mem_of_getElem? (i := 3) rfl) (sub_1 (List.mem_of_getElem? (i := 4) rfl) sub_0)))))
                    obtain ⟨z2491, ez2491⟩ : ∃ z9 : Int32, z9 = v1_166 + Int32.ofInt 1 := ⟨_, rfl⟩
                    have h2492 : Iv 1 40 z2491 := iv_inc ez2491 h2484 (by decide) (by decide) (by decide) (by decide) (by decide) (by decide)
                    refine lv_iinc (v := z2491) (lv' := [(1, .int z2491), (0, .ref (a 0))]) hx hb dX10_asItIs_191 hl (k := 0) rfl ez2491.symm (by decide) rfl (fun ls hl => ?_)
                    refine lv_goto (tgt := 166) hx hb dX10_asItIs_194 (by decide) ?_
                    exact ih166 z2491 s2489 _ _ _ (iv_mono (c := 0) (d := 40) h2492 (by decide) (by decide)) hBs2489 (fr_ca gt166 gs2489 (sub_1 (List.mem_of_getElem? (i := 0) rfl) (sub_1 (List.mem_of_getElem? (i := 1) rfl) (sub_1 (List.mem_of_getElem? (i := 2) rfl) (sub_1 (List.mem_of_getElem? (i := 3) rfl) (sub_1 (List.mem_of_getElem? (i := 4) rfl) sub_0)))))) hP hD hS (lv_sub hl [0, 1] rfl) (fu_s (lo := 0) (ti_inc ez2491 h2484 (by decide) (by decide) (by decide) (by decide)) (by decide) hm166)
              exact lp166 41 0 t82 _ _ _ (iv_mono (c := 0) (d := 40) (iv_c (by decide) : Iv 0 0 0) (by decide) (by decide)) hBt82 fr_rf hP hD hS (lv_sub hl [0, 1] rfl) (fu_i (iv_mono (c := 0) (d := 40) (iv_c (by decide) : Iv 0 0 0) (by decide) (by decide)) (by decide))
            · skip
              have n2493 : v1_82.toInt < (st 1 4).toInt := (i_nle c2257)
              have h2494 : Iv 0 2 v1_82 := lt_l iv1_82 n2493 h2256 (by decide)
              have h2495 : Iv 1 3 (st 1 4) := lt_r iv1_82 n2493 h2256 (by decide)
              refine lv_aload_n hx hb dX10_asItIs_92 rfl (lv_at hl 1 rfl) ?_
              refine va_get (D := D) (ci := 10) (v := .ref (a 10)) (C := RX10) (T := TX10) (N := 38) hx hb hT in_X10 hown hK hP 0 mw_0 rfl 18 (by decide) (hT _ t1280) (fun _ h9 => h9) rfl dX10_asItIs_93 ?_
              refine lv_iload_n hx hb dX10_asItIs_96 rfl (lv_at hl 0 rfl) ?_
              refine lv_aload_n hx hb dX10_asItIs_97 rfl (lv_at hl 1 rfl) ?_
              refine va_get (D := D) (ci := 10) (v := .ref (a 1)) (C := RX10) (T := TX10) (N := 38) hx hb hT in_X10 hown hK hP 0 mw_0 rfl 1 (by decide) (hT _ t1263) (fun _ h9 => h9) rfl dX10_asItIs_98 ?_
              refine lv_bipush (v := 104) hx hb dX10_asItIs_101 (by decide) ?_
              refine lv_iconst (v := 2) hx hb dX10_asItIs_103 (by decide) ?_
              refine lv_iload_n hx hb dX10_asItIs_104 rfl (lv_at hl 0 rfl) ?_
              refine lv_imul hx hb dX10_asItIs_105 ?_
              refine lv_topi (fun z2496 ez2496 => ?_)
              have h2497 : Iv 0 4 z2496 := iv_mull ez2496 h2494 (k := 2) (by decide) (by decide) (by decide) (by decide) (by decide) (by decide)
              refine lv_iadd hx hb dX10_asItIs_106 ?_
              refine lv_topi (fun z2498 ez2498 => ?_)
              have h2499 : Iv 104 108 z2498 := iv_add ez2498 (iv_c (by decide) : Iv 104 104 104) h2497 (by decide) (by decide) (by decide) (by decide)
              refine va_iald hx hb hK hP 1 0 mw_1 rfl (iv_in h2499 (by decide) (by decide)) dX10_asItIs_107 ?_
              refine lv_topi (fun z2500 ez2500 => ?_)
              refine c_ist hx hb hK hP hD hS mw_10 ms_10 (iv_in h2494 (by decide) (by decide)) dX10_asItIs_108 (fun s2501 H9 locs9 es2501 hP9 hD9 hS9 => ?_)
              clear hP hD hS
              have hS := hS9
              have hP := hP9
              have hD := hD9
              clear hP9 hD9 hS9
              have hBs2501 : MB s2501 := by rw [es2501]; exact mb_sw hBt82 trivial
              have hFs2501 : FR [7, 9, 8, 10, 11] st s2501 := fr_sw hFt82 (List.mem_of_getElem? (i := 3) rfl) es2501
              refine lv_aload_n hx hb dX10_asItIs_109 rfl (lv_at hl 1 rfl) ?_
              refine va_get (D := D) (ci := 10) (v := .ref (a 11)) (C := RX10) (T := TX10) (N := 38) hx hb hT in_X10 hown hK hP 0 mw_0 rfl 19 (by decide) (hT _ t1281) (fun _ h9 => h9) rfl dX10_asItIs_110 ?_
              refine lv_iload_n hx hb dX10_asItIs_113 rfl (lv_at hl 0 rfl) ?_
              refine lv_iconst (v := 0) hx hb dX10_asItIs_114 (by decide) ?_
              refine c_ist hx hb hK hP hD hS mw_11 ms_11 (iv_in h2494 (by decide) (by decide)) dX10_asItIs_115 (fun s2502 H9 locs9 es2502 hP9 hD9 hS9 => ?_)
              clear hP hD hS
              have hS := hS9
              have hP := hP9
              have hD := hD9
              clear hP9 hD9 hS9
              have hBs2502 : MB s2502 := by rw [es2502]; exact mb_sw hBs2501 trivial
              have hFs2502 : FR [7, 9, 8, 10, 11] st s2502 := fr_sw hFs2501 (List.mem_of_getElem? (i := 4) rfl) es2502
              refine lv_iconst (v := 0) hx hb dX10_asItIs_116 (by decide) ?_
              refine lv_istore_n (lv' := [(2, .int 0), (1, .int v1_82), (0, .ref (a 0))]) hx hb dX10_asItIs_117 rfl hl (by decide) rfl (fun ls hl => ?_)
              have lp118 : ∀ (n9_118 : Nat) (v2_118 : Int32) (t118 : CT) (H9 : Heap) (locs9 : List Loc) (ls : Array Slot), Iv 0 8 v2_118 → MB t118 → FR [9] s2502 t118 → va_P D vwCl (MWS k a t118 sl) H9 → va_D A (MWS k a t118 sl) → va_S A s.heap H9 locs9 → lv_has ls 3 [(2, .int v2_118), (1, .int v1_82), (0, .ref (a 0))] → (8 : Int) - v2_118.toInt < (n9_118 : Int) → W p l e (rmw 7 0 0) s m ([.ref (a 0)] : List Value).toArray below meth c H9 locs9 0 0 Q (F0 m 118 ls []) := by
                clear hl hP hD hS
                intro n9_118
                induction n9_118 with
                | zero =>
                  intro v2_118 t118 H9 locs9 ls iv2_118 hBt118 gt118 hP hD hS hl hm118
                  exact (fu_0 iv2_118 hm118).elim
                | succ n9_118 ih118 =>
                  intro v2_118 t118 H9 locs9 ls iv2_118 hBt118 gt118 hP hD hS hl hm118
                  have hFt118 : FR [7, 9, 8, 10, 11] st t118 := fr_ca hFs2502 gt118 (sub_1 (List.mem_of_getElem? (i := 1) rfl) sub_0)
                  refine lv_iload_n hx hb dX10_asItIs_118 rfl (lv_at hl 0 rfl) ?_
                  refine lv_bipush (v := 8) hx hb dX10_asItIs_119 (by decide) ?_
                  refine lv_icmp_ge (tgt := 158) hx hb dX10_asItIs_121 (by decide) (fun c2658 => ?_) (fun c2658 => ?_)
                  · skip
                    have n2659 : (8 : Int32).toInt ≤ v2_118.toInt := (i_le c2658)
                    have h2660 : Iv 8 8 v2_118 := le_r (iv_c (by decide) : Iv 8 8 8) n2659 iv2_118 (by decide)
                    obtain ⟨z2661, ez2661⟩ : ∃ z9 : Int32, z9 = v1_82 + Int32.ofInt 1 := ⟨_, rfl⟩
                    have h2662 : Iv 1 3 z2661 := iv_inc ez2661 h2494 (by decide) (by decide) (by decide) (by decide) (by decide) (by decide)
                    refine lv_iinc (v := z2661) (lv' := [(1, .int z2661), (2, .int v2_118), (0, .ref (a 0))]) hx hb dX10_asItIs_158 hl (k := 1) rfl ez2661.symm (by decide) rfl (fun ls hl => ?_)
                    refine lv_goto (tgt := 82) hx hb dX10_asItIs_161 (by decide) ?_
                    exact ih82 z2661 t118 _ _ _ (iv_mono (c := 0) (d := 3) h2662 (by decide) (by decide)) hBt118 (fr_ca (fr_sw (fr_sw gt82 (List.mem_of_getElem? (i := 0) rfl) es2501) (List.mem_of_getElem? (i := 1) rfl) es2502) gt118 (sub_1 (List.mem_of_getElem? (i := 2) rfl) sub_0)) hP hD hS (lv_sub hl [0, 2] rfl) (fu_s (lo := 0) (ti_inc ez2661 h2494 (by decide) (by decide) (by decide) (by decide)) (by decide) hm82)
                  · skip
                    have n2663 : v2_118.toInt < (8 : Int32).toInt := (i_nle c2658)
                    have h2664 : Iv 0 7 v2_118 := lt_l iv2_118 n2663 (iv_c (by decide) : Iv 8 8 8) (by decide)
                    refine lv_aload_n hx hb dX10_asItIs_124 rfl (lv_at hl 2 rfl) ?_
                    refine va_get (D := D) (ci := 10) (v := .ref (a 1)) (C := RX10) (T := TX10) (N := 38) hx hb hT in_X10 hown hK hP 0 mw_0 rfl 1 (by decide) (hT _ t1263) (fun _ h9 => h9) rfl dX10_asItIs_125 ?_
                    refine lv_bipush (v := 104) hx hb dX10_asItIs_128 (by decide) ?_
                    refine lv_iconst (v := 2) hx hb dX10_asItIs_130 (by decide) ?_
                    refine lv_iload_n hx hb dX10_asItIs_131 rfl (lv_at hl 1 rfl) ?_
                    refine lv_imul hx hb dX10_asItIs_132 ?_
                    refine k_top (y := z2496) ez2496.symm ?_
                    refine lv_iadd hx hb dX10_asItIs_133 ?_
                    refine k_top (y := z2498) ez2498.symm ?_
                    refine lv_iconst (v := 1) hx hb dX10_asItIs_134 (by decide) ?_
                    refine lv_iadd hx hb dX10_asItIs_135 ?_
                    refine lv_topi (fun z2665 ez2665 => ?_)
                    have h2666 : Iv 105 109 z2665 := iv_add ez2665 h2499 (iv_c (by decide) : Iv 1 1 1) (by decide) (by decide) (by decide) (by decide)
                    refine va_iald hx hb hK hP 1 0 mw_1 rfl (iv_in h2666 (by decide) (by decide)) dX10_asItIs_136 ?_
                    refine lv_topi (fun z2667 ez2667 => ?_)
                    refine lv_iload_n hx hb dX10_asItIs_137 rfl (lv_at hl 0 rfl) ?_
                    refine ro_S (As := [.int z2667, .int v2_118]) (rest := []) S (m_X10_bit l D k a t118 sl  z2667 v2_118 _  hBt118  ) lkX10_193 ok_X10_bit ⟨rfl, rfl, Nat.le_of_ble_eq_true rfl, Nat.le_of_ble_eq_true rfl⟩ (pw_S hK hN hP (hD.weaken (fun _ _ _ _ => trivial))) rfl hl.1 rfl (Nat.le_of_ble_eq_true rfl) ⟨Nat.zero_le _, Nat.zero_le _⟩ dX10_asItIs_138 (fun r2668 er2668 => ?_)
                    have h2669 : Iv 0 1 r2668 := er2668.1
                    have k2670 := er2668.2
                    refine lv_iconst (v := 1) hx hb dX10_asItIs_141 (by decide) ?_
                    refine lv_icmp_ne (tgt := 152) hx hb dX10_asItIs_142 (by decide) (fun c2671 => ?_) (fun c2671 => ?_)
                    · skip
                      have h2672 : Iv 0 0 r2668 := ne_hi h2669 (show ¬ r2668 = 1 from c2671) (by decide) (by decide)
                      obtain ⟨z2673, ez2673⟩ : ∃ z9 : Int32, z9 = v2_118 + Int32.ofInt 1 := ⟨_, rfl⟩
                      have h2674 : Iv 1 8 z2673 := iv_inc ez2673 h2664 (by decide) (by decide) (by decide) (by decide) (by decide) (by decide)
                      refine lv_iinc (v := z2673) (lv' := [(2, .int z2673), (1, .int v1_82), (0, .ref (a 0))]) hx hb dX10_asItIs_152 hl (k := 0) rfl ez2673.symm (by decide) rfl (fun ls hl => ?_)
                      refine lv_goto (tgt := 118) hx hb dX10_asItIs_155 (by decide) ?_
                      exact ih118 z2673 t118 _ _ _ (iv_mono (c := 0) (d := 8) h2674 (by decide) (by decide)) hBt118 gt118 hP hD hS (lv_sub hl [0, 1, 2] rfl) (fu_s (lo := 0) (ti_inc ez2673 h2664 (by decide) (by decide) (by decide) (by decide)) (by decide) hm118)
                    · skip
                      have h2675 : Iv 1 1 r2668 := eq_l c2671 (iv_c (by decide) : Iv 1 1 1)
                      refine lv_aload_n hx hb dX10_asItIs_145 rfl (lv_at hl 2 rfl) ?_
                      refine va_get (D := D) (ci := 10) (v := .ref (a 9)) (C := RX10) (T := TX10) (N := 38) hx hb hT in_X10 hown hK hP 0 mw_0 rfl 17 (by decide) (hT _ t1279) (fun _ h9 => h9) rfl dX10_asItIs_146 ?_
                      refine lv_iload_n hx hb dX10_asItIs_149 rfl (lv_at hl 0 rfl) ?_
                      refine lv_iload_n hx hb dX10_asItIs_150 rfl (lv_at hl 1 rfl) ?_
                      refine c_ist hx hb hK hP hD hS mw_9 ms_9 (iv_in h2664 (by decide) (by decide)) dX10_asItIs_151 (fun s2676 H9 locs9 es2676 hP9 hD9 hS9 => ?_)
                      clear hP hD hS
                      have hS := hS9
                      have hP := hP9
                      have hD := hD9
                      clear hP9 hD9 hS9
                      have hBs2676 : MB s2676 := by rw [es2676]; exact mb_sw hBt118 trivial
                      have hFs2676 : FR [7, 9, 8, 10, 11] st s2676 := fr_sw hFt118 (List.mem_of_getElem? (i := 1) rfl) es2676
                      obtain ⟨z2677, ez2677⟩ : ∃ z9 : Int32, z9 = v2_118 + Int32.ofInt 1 := ⟨_, rfl⟩
                      have h2678 : Iv 1 8 z2677 := iv_inc ez2677 h2664 (by decide) (by decide) (by decide) (by decide) (by decide) (by decide)
                      refine lv_iinc (v := z2677) (lv' := [(2, .int z2677), (1, .int v1_82), (0, .ref (a 0))]) hx hb dX10_asItIs_152 hl (k := 0) rfl ez2677.symm (by decide) rfl (fun ls hl => ?_)
                      refine lv_goto (tgt := 118) hx hb dX10_asItIs_155 (by decide) ?_
                      exact ih118 z2677 s2676 _ _ _ (iv_mono (c := 0) (d := 8) h2678 (by decide) (by decide)) hBs2676 (fr_sw gt118 (List.mem_of_getElem? (i := 0) rfl) es2676) hP hD hS (lv_sub hl [0, 1, 2] rfl) (fu_s (lo := 0) (ti_inc ez2677 h2664 (by decide) (by decide) (by decide) (by decide)) (by decide) hm118)
              exact lp118 9 0 s2502 _ _ _ (iv_mono (c := 0) (d := 8) (iv_c (by decide) : Iv 0 0 0) (by decide) (by decide)) hBs2502 fr_rf hP hD hS (lv_sub hl [0, 1, 2] rfl) (fu_i (iv_mono (c := 0) (d := 8) (iv_c (by decide) : Iv 0 0 0) (by decide) (by decide)) (by decide))
        exact lp82 4 0 t2 _ _ _ (iv_mono (c := 0) (d := 3) (iv_c (by decide) : Iv 0 0 0) (by decide) (by decide)) hBt2 fr_rf hP hD hS (lv_sub hl [0, 1] rfl) (fu_i (iv_mono (c := 0) (d := 3) (iv_c (by decide) : Iv 0 0 0) (by decide) (by decide)) (by decide))
      · skip
        have n2679 : v1_2.toInt < (8 : Int32).toInt := (i_nle c1497)
        have h2680 : Iv 0 7 v1_2 := lt_l iv1_2 n2679 (iv_c (by decide) : Iv 8 8 8) (by decide)
        refine lv_aload_n hx hb dX10_asItIs_8 rfl (lv_at hl 1 rfl) ?_
        refine va_get (D := D) (ci := 10) (v := .ref (a 7)) (C := RX10) (T := TX10) (N := 38) hx hb hT in_X10 hown hK hP 0 mw_0 rfl 15 (by decide) (hT _ t1277) (fun _ h9 => h9) rfl dX10_asItIs_9 ?_
        refine lv_iload_n hx hb dX10_asItIs_12 rfl (lv_at hl 0 rfl) ?_
        refine lv_aload_n hx hb dX10_asItIs_13 rfl (lv_at hl 1 rfl) ?_
        refine va_get (D := D) (ci := 10) (v := .ref (a 1)) (C := RX10) (T := TX10) (N := 38) hx hb hT in_X10 hown hK hP 0 mw_0 rfl 1 (by decide) (hT _ t1263) (fun _ h9 => h9) rfl dX10_asItIs_14 ?_
        refine lv_bipush (v := 32) hx hb dX10_asItIs_17 (by decide) ?_
        refine lv_bipush (v := 9) hx hb dX10_asItIs_19 (by decide) ?_
        refine lv_iload_n hx hb dX10_asItIs_21 rfl (lv_at hl 0 rfl) ?_
        refine lv_imul hx hb dX10_asItIs_22 ?_
        refine lv_topi (fun z2681 ez2681 => ?_)
        have h2682 : Iv 0 63 z2681 := iv_mull ez2681 h2680 (k := 9) (by decide) (by decide) (by decide) (by decide) (by decide) (by decide)
        refine lv_iadd hx hb dX10_asItIs_23 ?_
        refine lv_topi (fun z2683 ez2683 => ?_)
        have h2684 : Iv 32 95 z2683 := iv_add ez2683 (iv_c (by decide) : Iv 32 32 32) h2682 (by decide) (by decide) (by decide) (by decide)
        refine va_iald hx hb hK hP 1 0 mw_1 rfl (iv_in h2684 (by decide) (by decide)) dX10_asItIs_24 ?_
        refine lv_topi (fun z2685 ez2685 => ?_)
        refine c_ist hx hb hK hP hD hS mw_7 ms_7 (iv_in h2680 (by decide) (by decide)) dX10_asItIs_25 (fun s2686 H9 locs9 es2686 hP9 hD9 hS9 => ?_)
        clear hP hD hS
        have hS := hS9
        have hP := hP9
        have hD := hD9
        clear hP9 hD9 hS9
        have hBs2686 : MB s2686 := by rw [es2686]; exact mb_sw hBt2 trivial
        have hFs2686 : FR [7, 9, 8, 10, 11] st s2686 := fr_sw hFt2 (List.mem_of_getElem? (i := 0) rfl) es2686
        refine lv_aload_n hx hb dX10_asItIs_26 rfl (lv_at hl 1 rfl) ?_
        refine va_get (D := D) (ci := 10) (v := .ref (a 9)) (C := RX10) (T := TX10) (N := 38) hx hb hT in_X10 hown hK hP 0 mw_0 rfl 17 (by decide) (hT _ t1279) (fun _ h9 => h9) rfl dX10_asItIs_27 ?_
        refine lv_iload_n hx hb dX10_asItIs_30 rfl (lv_at hl 0 rfl) ?_
        refine lv_iconst (v := (-1)) hx hb dX10_asItIs_31 (by decide) ?_
        refine c_ist hx hb hK hP hD hS mw_9 ms_9 (iv_in h2680 (by decide) (by decide)) dX10_asItIs_32 (fun s2687 H9 locs9 es2687 hP9 hD9 hS9 => ?_)
        clear hP hD hS
        have hS := hS9
        have hP := hP9
        have hD := hD9
        clear hP9 hD9 hS9
        have hBs2687 : MB s2687 := by rw [es2687]; exact mb_sw hBs2686 trivial
        have hFs2687 : FR [7, 9, 8, 10, 11] st s2687 := fr_sw hFs2686 (List.mem_of_getElem? (i := 1) rfl) es2687
        refine lv_iconst (v := 0) hx hb dX10_asItIs_33 (by decide) ?_
        refine lv_istore_n (lv' := [(2, .int 0), (1, .int v1_2), (0, .ref (a 0))]) hx hb dX10_asItIs_34 rfl hl (by decide) rfl (fun ls hl => ?_)
        have lp35 : ∀ (n9_35 : Nat) (v2_35 : Int32) (t35 : CT) (H9 : Heap) (locs9 : List Loc) (ls : Array Slot), Iv 0 8 v2_35 → MB t35 → FR [8] s2687 t35 → va_P D vwCl (MWS k a t35 sl) H9 → va_D A (MWS k a t35 sl) → va_S A s.heap H9 locs9 → lv_has ls 3 [(2, .int v2_35), (1, .int v1_2), (0, .ref (a 0))] → (8 : Int) - v2_35.toInt < (n9_35 : Int) → W p l e (rmw 7 0 0) s m ([.ref (a 0)] : List Value).toArray below meth c H9 locs9 0 0 Q (F0 m 35 ls []) := by
          clear hl hP hD hS
          intro n9_35
          induction n9_35 with
          | zero =>
            intro v2_35 t35 H9 locs9 ls iv2_35 hBt35 gt35 hP hD hS hl hm35
            exact (fu_0 iv2_35 hm35).elim
          | succ n9_35 ih35 =>
            intro v2_35 t35 H9 locs9 ls iv2_35 hBt35 gt35 hP hD hS hl hm35
            have hFt35 : FR [7, 9, 8, 10, 11] st t35 := fr_ca hFs2687 gt35 (sub_1 (List.mem_of_getElem? (i := 2) rfl) sub_0)
            refine lv_iload_n hx hb dX10_asItIs_35 rfl (lv_at hl 0 rfl) ?_
            refine lv_bipush (v := 8) hx hb dX10_asItIs_36 (by decide) ?_
            refine lv_icmp_ge (tgt := 74) hx hb dX10_asItIs_38 (by decide) (fun c2825 => ?_) (fun c2825 => ?_)
            · skip
              have n2826 : (8 : Int32).toInt ≤ v2_35.toInt := (i_le c2825)
              have h2827 : Iv 8 8 v2_35 := le_r (iv_c (by decide) : Iv 8 8 8) n2826 iv2_35 (by decide)
              obtain ⟨z2828, ez2828⟩ : ∃ z9 : Int32, z9 = v1_2 + Int32.ofInt 1 := ⟨_, rfl⟩
              have h2829 : Iv 1 8 z2828 := iv_inc ez2828 h2680 (by decide) (by decide) (by decide) (by decide) (by decide) (by decide)
              refine lv_iinc (v := z2828) (lv' := [(1, .int z2828), (2, .int v2_35), (0, .ref (a 0))]) hx hb dX10_asItIs_74 hl (k := 1) rfl ez2828.symm (by decide) rfl (fun ls hl => ?_)
              refine lv_goto (tgt := 2) hx hb dX10_asItIs_77 (by decide) ?_
              exact ih2 z2828 t35 _ _ _ (iv_mono (c := 0) (d := 8) h2829 (by decide) (by decide)) hBt35 (fr_ca (fr_sw (fr_sw gt2 (List.mem_of_getElem? (i := 0) rfl) es2686) (List.mem_of_getElem? (i := 1) rfl) es2687) gt35 (sub_1 (List.mem_of_getElem? (i := 2) rfl) sub_0)) hP hD hS (lv_sub hl [0, 2] rfl) (fu_s (lo := 0) (ti_inc ez2828 h2680 (by decide) (by decide) (by decide) (by decide)) (by decide) hm2)
            · skip
              have n2830 : v2_35.toInt < (8 : Int32).toInt := (i_nle c2825)
              have h2831 : Iv 0 7 v2_35 := lt_l iv2_35 n2830 (iv_c (by decide) : Iv 8 8 8) (by decide)
              refine lv_aload_n hx hb dX10_asItIs_41 rfl (lv_at hl 2 rfl) ?_
              refine va_get (D := D) (ci := 10) (v := .ref (a 8)) (C := RX10) (T := TX10) (N := 38) hx hb hT in_X10 hown hK hP 0 mw_0 rfl 16 (by decide) (hT _ t1278) (fun _ h9 => h9) rfl dX10_asItIs_42 ?_
              refine lv_bipush (v := 8) hx hb dX10_asItIs_45 (by decide) ?_
              refine lv_iload_n hx hb dX10_asItIs_47 rfl (lv_at hl 1 rfl) ?_
              refine lv_imul hx hb dX10_asItIs_48 ?_
              refine lv_topi (fun z2832 ez2832 => ?_)
              have h2833 : Iv 0 56 z2832 := iv_mull ez2832 h2680 (k := 8) (by decide) (by decide) (by decide) (by decide) (by decide) (by decide)
              refine lv_iload_n hx hb dX10_asItIs_49 rfl (lv_at hl 0 rfl) ?_
              refine lv_iadd hx hb dX10_asItIs_50 ?_
              refine lv_topi (fun z2834 ez2834 => ?_)
              have h2835 : Iv 0 63 z2834 := iv_add ez2834 h2833 h2831 (by decide) (by decide) (by decide) (by decide)
              refine lv_aload_n hx hb dX10_asItIs_51 rfl (lv_at hl 2 rfl) ?_
              refine va_get (D := D) (ci := 10) (v := .ref (a 1)) (C := RX10) (T := TX10) (N := 38) hx hb hT in_X10 hown hK hP 0 mw_0 rfl 1 (by decide) (hT _ t1263) (fun _ h9 => h9) rfl dX10_asItIs_52 ?_
              refine lv_bipush (v := 32) hx hb dX10_asItIs_55 (by decide) ?_
              refine lv_bipush (v := 9) hx hb dX10_asItIs_57 (by decide) ?_
              refine lv_iload_n hx hb dX10_asItIs_59 rfl (lv_at hl 1 rfl) ?_
              refine lv_imul hx hb dX10_asItIs_60 ?_
              refine k_top (y := z2681) ez2681.symm ?_
              refine lv_iadd hx hb dX10_asItIs_61 ?_
              refine k_top (y := z2683) ez2683.symm ?_
              refine lv_iconst (v := 1) hx hb dX10_asItIs_62 (by decide) ?_
              refine lv_iadd hx hb dX10_asItIs_63 ?_
              refine lv_topi (fun z2836 ez2836 => ?_)
              have h2837 : Iv 33 96 z2836 := iv_add ez2836 h2684 (iv_c (by decide) : Iv 1 1 1) (by decide) (by decide) (by decide) (by decide)
              refine lv_iload_n hx hb dX10_asItIs_64 rfl (lv_at hl 0 rfl) ?_
              refine lv_iadd hx hb dX10_asItIs_65 ?_
              refine lv_topi (fun z2838 ez2838 => ?_)
              have h2839 : Iv 33 103 z2838 := iv_add ez2838 h2837 h2831 (by decide) (by decide) (by decide) (by decide)
              refine va_iald hx hb hK hP 1 0 mw_1 rfl (iv_in h2839 (by decide) (by decide)) dX10_asItIs_66 ?_
              refine lv_topi (fun z2840 ez2840 => ?_)
              refine c_ist hx hb hK hP hD hS mw_8 ms_8 (iv_in h2835 (by decide) (by decide)) dX10_asItIs_67 (fun s2841 H9 locs9 es2841 hP9 hD9 hS9 => ?_)
              clear hP hD hS
              have hS := hS9
              have hP := hP9
              have hD := hD9
              clear hP9 hD9 hS9
              have hBs2841 : MB s2841 := by rw [es2841]; exact mb_sw hBt35 trivial
              have hFs2841 : FR [7, 9, 8, 10, 11] st s2841 := fr_sw hFt35 (List.mem_of_getElem? (i := 2) rfl) es2841
              obtain ⟨z2842, ez2842⟩ : ∃ z9 : Int32, z9 = v2_35 + Int32.ofInt 1 := ⟨_, rfl⟩
              have h2843 : Iv 1 8 z2842 := iv_inc ez2842 h2831 (by decide) (by decide) (by decide) (by decide) (by decide) (by decide)
              refine lv_iinc (v := z2842) (lv' := [(2, .int z2842), (1, .int v1_2), (0, .ref (a 0))]) hx hb dX10_asItIs_68 hl (k := 0) rfl ez2842.symm (by decide) rfl (fun ls hl => ?_)
              refine lv_goto (tgt := 35) hx hb dX10_asItIs_71 (by decide) ?_
              exact ih35 z2842 s2841 _ _ _ (iv_mono (c := 0) (d := 8) h2843 (by decide) (by decide)) hBs2841 (fr_sw gt35 (List.mem_of_getElem? (i := 0) rfl) es2841) hP hD hS (lv_sub hl [0, 1, 2] rfl) (fu_s (lo := 0) (ti_inc ez2842 h2831 (by decide) (by decide) (by decide) (by decide)) (by decide) hm35)
        exact lp35 9 0 s2687 _ _ _ (iv_mono (c := 0) (d := 8) (iv_c (by decide) : Iv 0 0 0) (by decide) (by decide)) hBs2687 fr_rf hP hD hS (lv_sub hl [0, 1, 2] rfl) (fu_i (iv_mono (c := 0) (d := 8) (iv_c (by decide) : Iv 0 0 0) (by decide) (by decide)) (by decide))
  exact lp2 9 0 st _ _ _ (iv_mono (c := 0) (d := 8) (iv_c (by decide) : Iv 0 0 0) (by decide) (by decide)) hB fr_rf hP hD hS (lv_sub hl [0, 1] rfl) (fu_i (iv_mono (c := 0) (d := 8) (iv_c (by decide) : Iv 0 0 0) (by decide) (by decide)) (by decide))
