set_option maxHeartbeats 4000000 in
set_option maxRecDepth 100000 in
theorem m_X10_way (l : Launch) (D : va_G) (k : Nat → ClassId) (a : Nat → Nat) (st : CT) (sl : CL) (p0 : Int32) (p1 : Int32) (sz : Nat) (hB : MB st)  (hw : WOK (st 1)) : Met l yX10_way (.code yX10_way cX10_way 4 (some .int) :: TB) (rmw 8 0 0) (va_Pc [.ref (a 0), .int p0, .int p1] (PW D k sz (MWS k a st sl))) (QI D (S := CT) (fun r u => MB u ∧ FR [7, 9, 8, 10, 11, 0, 12, 13, 14] st u ∧ u 0 0 = st 0 0 ∧ u 0 5 = st 0 5 ∧ u 0 7 = st 0 7 ∧ u 0 8 = st 0 8 ∧ u 0 9 = st 0 9 ∧ u 0 10 = st 0 10 ∧ u 0 11 = st 0 11 ∧ u 0 12 = st 0 12 ∧ u 0 13 = st 0 13 ∧ u 0 20 = st 0 20 ∧ u 0 21 = st 0 21 ∧ u 0 22 = st 0 22 ∧ u 0 29 = st 0 29 ∧ u 0 31 = st 0 31 ∧ u 0 33 = st 0 33 ∧ ((True))) (fun u => MWS k a u sl) (fun _ => []) (MWS k a st sl) sz) 0 0 (va_A (MWS k a st sl) sz) := by
  refine Met.ofW (cc := cX10_way) (maxL := 4) (ret := (some .int)) (by decide) rfl ?_
  intro p e s m args below meth c s₁ B hml hv
  obtain ⟨rfl, hsz, hP, hK, hD0, hN⟩ := hv
  have hx := B.exec
  have hb := B.bytes
  have hr := B.returns
  have hT : ∀ w9 ∈ TB, w9.before ([.ref (a 0), .int p0, .int p1] : List Value).toArray s = true := fun w9 h => atoms_spec (ws := .code yX10_way cX10_way 4 (some .int) :: TB) B.pre w9 (List.mem_cons_of_mem _ h)
  have hown : s.vm.findClass RX10 = some m.cls := findClass_of_methodNamed B.named
  have S : CallFix p m c cX10_way 4 s _ TB RX10 := ⟨hx, hb, hml, hown, hT⟩
  subst hsz
  have hD := hD0.self (sz := s.heap.size)
  generalize hAe : va_A (MWS k a st sl) s.heap.size = A at hD ⊢
  have hA : ∀ q : Nat, s.heap.size ≤ q → A q := fun q h => by rw [← hAe]; exact Or.inr h
  have hS : va_S A s.heap s.heap [] := va_S.rf
  have hl := lv_entry ([.ref (a 0), .int p0, .int p1]) (n := 4) (Nat.le_of_ble_eq_true rfl)
  rw [lg_entry_eq]
  generalize (lg_sl ([.ref (a 0), .int p0, .int p1]) ++ List.replicate (4 - (lg_sl ([.ref (a 0), .int p0, .int p1])).length) Slot.unset).toArray = ls at hl ⊢
  have hl : lv_has ls 4 [(0, .ref (a 0)), (1, .int p0), (2, .int p1)] := hl
  refine nameQ (fun Q hQ => ?_)
  refine lv_aload_n hx hb dX10_way_0 rfl (lv_at hl 0 rfl) ?_
  refine lv_iload_n hx hb dX10_way_1 rfl (lv_at hl 1 rfl) ?_
  refine ro_V (As := [.int p0]) (rest := []) S (m_X10_isCart l D k a st sl  p0 _  hB  hw) lkX10_279 ok_X10_isCart ⟨rfl, rfl, Nat.le_of_ble_eq_true rfl, Nat.le_of_ble_eq_true rfl⟩ (pw_V (ci := 10) (q0 := 0) hK hN rfl mw_0 hP (hD.weaken (fun _ _ _ _ => trivial))) rfl hl.1 rfl (Nat.le_of_ble_eq_true rfl) ⟨Nat.zero_le _, Nat.zero_le _⟩ dX10_way_2 (fun r1 er1 => ?_)
  rcases er1 with ⟨rfl, g9⟩ | ⟨rfl, g9⟩
  · skip
    have g2 := g9
    have h3 : Iv 0 2 p0 := g2.1
    refine lv_if_eq (tgt := 17) hx hb dX10_way_5 (by decide) (fun c4 => ?_) (fun c4 => ?_)
    · first | exact absurd c4 (by decide) | exact absurd (by decide) c4
    refine lv_aload_n hx hb dX10_way_8 rfl (lv_at hl 0 rfl) ?_
    refine lv_iload_n hx hb dX10_way_9 rfl (lv_at hl 2 rfl) ?_
    refine lv_i2l hx hb dX10_way_10 rfl ?_
    refine ro_V (As := [.long (p1.toInt64)]) (rest := []) S (m_X10_isPlace l D k a st sl  (p1.toInt64) _  hB  hw) lkX10_282 ok_X10_isPlace ⟨rfl, rfl, Nat.le_of_ble_eq_true rfl, Nat.le_of_ble_eq_true rfl⟩ (pw_V (ci := 10) (q0 := 0) hK hN rfl mw_0 hP (hD.weaken (fun _ _ _ _ => trivial))) rfl hl.1 rfl (Nat.le_of_ble_eq_true rfl) ⟨Nat.zero_le _, Nat.zero_le _⟩ dX10_way_11 (fun r5 er5 => ?_)
    rcases er5 with ⟨rfl, g9⟩ | ⟨rfl, g9⟩
    · skip
      have g6 := g9
      have h7 : (0 : Int) ≤ (p1.toInt64).toInt ∧ (p1.toInt64).toInt ≤ (5 : Int) := ⟨(g6).1, (g6).2⟩
      have h8 : Iv 0 5 p1 := iv_lv h7
      refine lv_if_ne (tgt := 20) hx hb dX10_way_14 (by decide) (fun c9 => ?_) (fun c9 => ?_)
      rotate_left
      · first | exact absurd c9 (by decide) | exact absurd (by decide) c9
      refine lv_aload_n hx hb dX10_way_20 rfl (lv_at hl 0 rfl) ?_
      refine ca_v hP hD hS hA (fun hDc => run_V (mc := 0) (ms := 0) (As := []) (rest := []) S (m_X10_asItIs l D k a st sl   _  hB  hw) lkX10_273 ok_X10_asItIs ⟨rfl, rfl, Nat.le_of_ble_eq_true rfl, Nat.le_of_ble_eq_true rfl⟩ (pw_V (ci := 10) (q0 := 0) hK hN rfl mw_0 hP hDc) rfl hl.1 rfl (Nat.le_of_ble_eq_true rfl) ⟨Nat.zero_le _, Nat.zero_le _⟩ dX10_way_21) (fun s10 H9 locs9 hs10 hP9 hD9 hS9 => ?_)
      clear hP hD hS
      have hS := hS9
      have hP := hP9
      have hD := hD9
      clear hP9 hD9 hS9
      obtain ⟨hBs10, gs10, fs10⟩ := hs10
      have hFs10 : FR [7, 9, 8, 10, 11, 0, 12, 13, 14] st s10 := fr_ca fr_rf gs10 (sub_1 (List.mem_of_getElem? (i := 0) rfl) (sub_1 (List.mem_of_getElem? (i := 1) rfl) (sub_1 (List.mem_of_getElem? (i := 2) rfl) (sub_1 (List.mem_of_getElem? (i := 3) rfl) (sub_1 (List.mem_of_getElem? (i := 4) rfl) sub_0)))))
      refine lv_aload_n hx hb dX10_way_24 rfl (lv_at hl 0 rfl) ?_
      refine lv_iload_n hx hb dX10_way_25 rfl (lv_at hl 1 rfl) ?_
      refine lv_iload_n hx hb dX10_way_26 rfl (lv_at hl 2 rfl) ?_
      refine ca_i hP hD hS hA (fun hDc => run_V (mc := 0) (ms := 0) (As := [.int p0, .int p1]) (rest := []) S (m_X10_wayOf l D k a s10 sl  p0 p1 _  hBs10 h3 (wok_of (hFs10 1 (nm_1 (by decide) (nm_1 (by decide) (nm_1 (by decide) (nm_1 (by decide) (nm_1 (by decide) (nm_1 (by decide) (nm_1 (by decide) (nm_1 (by decide) (nm_1 (by decide) nm_0)))))))))) hw)) lkX10_338 ok_X10_wayOf ⟨rfl, rfl, Nat.le_of_ble_eq_true rfl, Nat.le_of_ble_eq_true rfl⟩ (pw_V (ci := 10) (q0 := 0) hK hN rfl mw_0 hP hDc) rfl hl.1 rfl (Nat.le_of_ble_eq_true rfl) ⟨Nat.zero_le _, Nat.zero_le _⟩ dX10_way_27) (fun r13 s12 H9 locs9 hs12 hP9 hD9 hS9 => ?_)
      clear hP hD hS
      have hS := hS9
      have hP := hP9
      have hD := hD9
      clear hP9 hD9 hS9
      obtain ⟨hBs12, gs12, qs12_0, qs12_1, qs12_2, qs12_3, qs12_4, qs12_5, qs12_6, qs12_7, qs12_8, qs12_9, qs12_10, qs12_11, qs12_12, qs12_13, qs12_14, fs12⟩ := hs12
      have hFs12 : FR [7, 9, 8, 10, 11, 0, 12, 13, 14] st s12 := fr_ca hFs10 gs12 (sub_1 (List.mem_of_getElem? (i := 4) rfl) (sub_1 (List.mem_of_getElem? (i := 5) rfl) (sub_1 (List.mem_of_getElem? (i := 6) rfl) (sub_1 (List.mem_of_getElem? (i := 7) rfl) (sub_1 (List.mem_of_getElem? (i := 0) rfl) (sub_1 (List.mem_of_getElem? (i := 2) rfl) (sub_1 (List.mem_of_getElem? (i := 3) rfl) (sub_1 (List.mem_of_getElem? (i := 8) rfl) sub_0))))))))
      refine lv_istore_n (lv' := [(3, .int r13), (0, .ref (a 0)), (1, .int p0), (2, .int p1)]) hx hb dX10_way_30 rfl hl (by decide) rfl (fun ls hl => ?_)
      refine lv_iload_n hx hb dX10_way_31 rfl (lv_at hl 0 rfl) ?_
      refine lv_ldcw (v := 1000000000) hx hb hown (hT _ t1702) dX10_way_32 ?_
      refine lv_icmp_ne (tgt := 42) hx hb dX10_way_35 (by decide) (fun c14 => ?_) (fun c14 => ?_)
      · skip
        refine lv_iload_n hx hb dX10_way_42 rfl (lv_at hl 0 rfl) ?_
        rw [hQ]
        exact W.iret (v := r13) hx hb hr (fun t ht hW => ⟨⟨r13, s12, rfl, ⟨hBs12, hFs12, (Eq.trans qs12_0 (congrFun (gs10 0 (nm_1 (by decide) (nm_1 (by decide) (nm_1 (by decide) (nm_1 (by decide) (nm_1 (by decide) nm_0)))))) 0)), (Eq.trans qs12_1 (congrFun (gs10 0 (nm_1 (by decide) (nm_1 (by decide) (nm_1 (by decide) (nm_1 (by decide) (nm_1 (by decide) nm_0)))))) 5)), (Eq.trans qs12_2 (congrFun (gs10 0 (nm_1 (by decide) (nm_1 (by decide) (nm_1 (by decide) (nm_1 (by decide) (nm_1 (by decide) nm_0)))))) 7)), (Eq.trans qs12_3 (congrFun (gs10 0 (nm_1 (by decide) (nm_1 (by decide) (nm_1 (by decide) (nm_1 (by decide) (nm_1 (by decide) nm_0)))))) 8)), (Eq.trans qs12_4 (congrFun (gs10 0 (nm_1 (by decide) (nm_1 (by decide) (nm_1 (by decide) (nm_1 (by decide) (nm_1 (by decide) nm_0)))))) 9)), (Eq.trans qs12_5 (congrFun (gs10 0 (nm_1 (by decide) (nm_1 (by decide) (nm_1 (by decide) (nm_1 (by decide) (nm_1 (by decide) nm_0)))))) 10)), (Eq.trans qs12_6 (congrFun (gs10 0 (nm_1 (by decide) (nm_1 (by decide) (nm_1 (by decide) (nm_1 (by decide) (nm_1 (by decide) nm_0)))))) 11)), (Eq.trans qs12_7 (congrFun (gs10 0 (nm_1 (by decide) (nm_1 (by decide) (nm_1 (by decide) (nm_1 (by decide) (nm_1 (by decide) nm_0)))))) 12)), (Eq.trans qs12_8 (congrFun (gs10 0 (nm_1 (by decide) (nm_1 (by decide) (nm_1 (by decide) (nm_1 (by decide) (nm_1 (by decide) nm_0)))))) 13)), (Eq.trans qs12_9 (congrFun (gs10 0 (nm_1 (by decide) (nm_1 (by decide) (nm_1 (by decide) (nm_1 (by decide) (nm_1 (by decide) nm_0)))))) 20)), (Eq.trans qs12_10 (congrFun (gs10 0 (nm_1 (by decide) (nm_1 (by decide) (nm_1 (by decide) (nm_1 (by decide) (nm_1 (by decide) nm_0)))))) 21)), (Eq.trans qs12_11 (congrFun (gs10 0 (nm_1 (by decide) (nm_1 (by decide) (nm_1 (by decide) (nm_1 (by decide) (nm_1 (by decide) nm_0)))))) 22)), (Eq.trans qs12_12 (congrFun (gs10 0 (nm_1 (by decide) (nm_1 (by decide) (nm_1 (by decide) (nm_1 (by decide) (nm_1 (by decide) nm_0)))))) 29)), (Eq.trans qs12_13 (congrFun (gs10 0 (nm_1 (by decide) (nm_1 (by decide) (nm_1 (by decide) (nm_1 (by decide) (nm_1 (by decide) nm_0)))))) 31)), (Eq.trans qs12_14 (congrFun (gs10 0 (nm_1 (by decide) (nm_1 (by decide) (nm_1 (by decide) (nm_1 (by decide) (nm_1 (by decide) nm_0)))))) 33)), trivial⟩, by rw [ht]; exact hP, va_K.moved hW.alike (hK.sub (tys' := []) [] rfl), by rw [hAe]; exact hD⟩, by rw [hAe]; exact hS.F ht⟩) hS.2.2 dX10_way_43
      · skip
        have h15 : Iv 1000000000 1000000000 r13 := eq_l c14 (iv_c (by decide) : Iv 1000000000 1000000000 1000000000)
        refine lv_iconst (v := (-1)) hx hb dX10_way_38 (by decide) ?_
        refine lv_goto (tgt := 43) hx hb dX10_way_39 (by decide) ?_
        rw [hQ]
        exact W.iret (v := (-1)) hx hb hr (fun t ht hW => ⟨⟨(-1), s12, rfl, ⟨hBs12, hFs12, (Eq.trans qs12_0 (congrFun (gs10 0 (nm_1 (by decide) (nm_1 (by decide) (nm_1 (by decide) (nm_1 (by decide) (nm_1 (by decide) nm_0)))))) 0)), (Eq.trans qs12_1 (congrFun (gs10 0 (nm_1 (by decide) (nm_1 (by decide) (nm_1 (by decide) (nm_1 (by decide) (nm_1 (by decide) nm_0)))))) 5)), (Eq.trans qs12_2 (congrFun (gs10 0 (nm_1 (by decide) (nm_1 (by decide) (nm_1 (by decide) (nm_1 (by decide) (nm_1 (by decide) nm_0)))))) 7)), (Eq.trans qs12_3 (congrFun (gs10 0 (nm_1 (by decide) (nm_1 (by decide) (nm_1 (by decide) (nm_1 (by decide) (nm_1 (by decide) nm_0)))))) 8)), (Eq.trans qs12_4 (congrFun (gs10 0 (nm_1 (by decide) (nm_1 (by decide) (nm_1 (by decide) (nm_1 (by decide) (nm_1 (by decide) nm_0)))))) 9)), (Eq.trans qs12_5 (congrFun (gs10 0 (nm_1 (by decide) (nm_1 (by decide) (nm_1 (by decide) (nm_1 (by decide) (nm_1 (by decide) nm_0)))))) 10)), (Eq.trans qs12_6 (congrFun (gs10 0 (nm_1 (by decide) (nm_1 (by decide) (nm_1 (by decide) (nm_1 (by decide) (nm_1 (by decide) nm_0)))))) 11)), (Eq.trans qs12_7 (congrFun (gs10 0 (nm_1 (by decide) (nm_1 (by decide) (nm_1 (by decide) (nm_1 (by decide) (nm_1 (by decide) nm_0)))))) 12)), (Eq.trans qs12_8 (congrFun (gs10 0 (nm_1 (by decide) (nm_1 (by decide) (nm_1 (by decide) (nm_1 (by decide) (nm_1 (by decide) nm_0)))))) 13)), (Eq.trans qs12_9 (congrFun (gs10 0 (nm_1 (by decide) (nm_1 (by decide) (nm_1 (by decide) (nm_1 (by decide) (nm_1 (by decide) nm_0)))))) 20)), (Eq.trans qs12_10 (congrFun (gs10 0 (nm_1 (by decide) (nm_1 (by decide) (nm_1 (by decide) (nm_1 (by decide) (nm_1 (by decide) nm_0)))))) 21)), (Eq.trans qs12_11 (congrFun (gs10 0 (nm_1 (by decide) (nm_1 (by decide) (nm_1 (by decide) (nm_1 (by decide) (nm_1 (by decide) nm_0)))))) 22)), (Eq.trans qs12_12 (congrFun (gs10 0 (nm_1 (by decide) (nm_1 (by decide) (nm_1 (by decide) (nm_1 (by decide) (nm_1 (by decide) nm_0)))))) 29)), (Eq.trans qs12_13 (congrFun (gs10 0 (nm_1 (by decide) (nm_1 (by decide) (nm_1 (by decide) (nm_1 (by decide) (nm_1 (by decide) nm_0)))))) 31)), (Eq.trans qs12_14 (congrFun (gs10 0 (nm_1 (by decide) (nm_1 (by decide) (nm_1 (by decide) (nm_1 (by decide) (nm_1 (by decide) nm_0)))))) 33)), trivial⟩, by rw [ht]; exact hP, va_K.moved hW.alike (hK.sub (tys' := []) [] rfl), by rw [hAe]; exact hD⟩, by rw [hAe]; exact hS.F ht⟩) hS.2.2 dX10_way_43
    · skip
      have g16 := g9
      refine lv_if_ne (tgt := 20) hx hb dX10_way_14 (by decide) (fun c17 => ?_) (fun c17 => ?_)
      · first | exact absurd c17 (by decide) | exact absurd (by decide) c17
      refine lv_bipush (v := (-2)) hx hb dX10_way_17 (by decide) ?_
      rw [hQ]
      exact W.iret (v := (-2)) hx hb hr (fun t ht hW => ⟨⟨(-2), st, rfl, ⟨hB, fr_rf, rfl, rfl, rfl, rfl, rfl, rfl, rfl, rfl, rfl, rfl, rfl, rfl, rfl, rfl, rfl, trivial⟩, by rw [ht]; exact hP, va_K.moved hW.alike (hK.sub (tys' := []) [] rfl), by rw [hAe]; exact hD⟩, by rw [hAe]; exact hS.F ht⟩) hS.2.2 dX10_way_19
  · skip
    have g18 := g9
    refine lv_if_eq (tgt := 17) hx hb dX10_way_5 (by decide) (fun c19 => ?_) (fun c19 => ?_)
    rotate_left
    · first | exact absurd c19 (by decide) | exact absurd (by decide) c19
    refine lv_bipush (v := (-2)) hx hb dX10_way_17 (by decide) ?_
    rw [hQ]
    exact W.iret (v := (-2)) hx hb hr (fun t ht hW => ⟨⟨(-2), st, rfl, ⟨hB, fr_rf, rfl, rfl, rfl, rfl, rfl, rfl, rfl, rfl, rfl, rfl, rfl, rfl, rfl, rfl, rfl, trivial⟩, by rw [ht]; exact hP, va_K.moved hW.alike (hK.sub (tys' := []) [] rfl), by rw [hAe]; exact hD⟩, by rw [hAe]; exact hS.F ht⟩) hS.2.2 dX10_way_19
set_option maxHeartbeats 4000000 in
set_option maxRecDepth 100000 in
theorem m_X10_wants (l : Launch) (D : va_G) (k : Nat → ClassId) (a : Nat → Nat) (st : CT) (sl : CL) (p0 : Int32) (p1 : Int32) (p2 : Int32) (sz : Nat) (hB : MB st)  (hw : WOK (st 1)) : Met l yX10_wants (.code yX10_wants cX10_wants 4 (some .int) :: TB) (rmw 8 0 0) (va_Pc [.ref (a 0), .int p0, .int p1, .int p2] (PW D k sz (MWS k a st sl))) (QI D (S := CT) (fun r u => MB u ∧ FR [7, 9, 8, 10, 11, 0, 12, 13, 14] st u ∧ u 0 0 = st 0 0 ∧ u 0 5 = st 0 5 ∧ u 0 7 = st 0 7 ∧ u 0 8 = st 0 8 ∧ u 0 9 = st 0 9 ∧ u 0 10 = st 0 10 ∧ u 0 11 = st 0 11 ∧ u 0 12 = st 0 12 ∧ u 0 13 = st 0 13 ∧ u 0 20 = st 0 20 ∧ u 0 21 = st 0 21 ∧ u 0 22 = st 0 22 ∧ u 0 29 = st 0 29 ∧ u 0 31 = st 0 31 ∧ u 0 33 = st 0 33 ∧ ((True))) (fun u => MWS k a u sl) (fun _ => []) (MWS k a st sl) sz) 0 0 (va_A (MWS k a st sl) sz) := by
  refine Met.ofW (cc := cX10_wants) (maxL := 4) (ret := (some .int)) (by decide) rfl ?_
  intro p e s m args below meth c s₁ B hml hv
  obtain ⟨rfl, hsz, hP, hK, hD0, hN⟩ := hv
  have hx := B.exec
  have hb := B.bytes
  have hr := B.returns
  have hT : ∀ w9 ∈ TB, w9.before ([.ref (a 0), .int p0, .int p1, .int p2] : List Value).toArray s = true := fun w9 h => atoms_spec (ws := .code yX10_wants cX10_wants 4 (some .int) :: TB) B.pre w9 (List.mem_cons_of_mem _ h)
  have hown : s.vm.findClass RX10 = some m.cls := findClass_of_methodNamed B.named
  have S : CallFix p m c cX10_wants 4 s _ TB RX10 := ⟨hx, hb, hml, hown, hT⟩
  subst hsz
  have hD := hD0.self (sz := s.heap.size)
  generalize hAe : va_A (MWS k a st sl) s.heap.size = A at hD ⊢
  have hA : ∀ q : Nat, s.heap.size ≤ q → A q := fun q h => by rw [← hAe]; exact Or.inr h
  have hS : va_S A s.heap s.heap [] := va_S.rf
  have hl := lv_entry ([.ref (a 0), .int p0, .int p1, .int p2]) (n := 4) (Nat.le_of_ble_eq_true rfl)
  rw [lg_entry_eq]
  generalize (lg_sl ([.ref (a 0), .int p0, .int p1, .int p2]) ++ List.replicate (4 - (lg_sl ([.ref (a 0), .int p0, .int p1, .int p2])).length) Slot.unset).toArray = ls at hl ⊢
  have hl : lv_has ls 4 [(0, .ref (a 0)), (1, .int p0), (2, .int p1), (3, .int p2)] := hl
  refine nameQ (fun Q hQ => ?_)
  refine lv_aload_n hx hb dX10_wants_0 rfl (lv_at hl 0 rfl) ?_
  refine lv_iload_n hx hb dX10_wants_1 rfl (lv_at hl 1 rfl) ?_
  refine ro_V (As := [.int p0]) (rest := []) S (m_X10_isCart l D k a st sl  p0 _  hB  hw) lkX10_279 ok_X10_isCart ⟨rfl, rfl, Nat.le_of_ble_eq_true rfl, Nat.le_of_ble_eq_true rfl⟩ (pw_V (ci := 10) (q0 := 0) hK hN rfl mw_0 hP (hD.weaken (fun _ _ _ _ => trivial))) rfl hl.1 rfl (Nat.le_of_ble_eq_true rfl) ⟨Nat.zero_le _, Nat.zero_le _⟩ dX10_wants_2 (fun r1 er1 => ?_)
  rcases er1 with ⟨rfl, g9⟩ | ⟨rfl, g9⟩
  · skip
    have g2 := g9
    have h3 : Iv 0 2 p0 := g2.1
    refine lv_if_eq (tgt := 17) hx hb dX10_wants_5 (by decide) (fun c4 => ?_) (fun c4 => ?_)
    · first | exact absurd c4 (by decide) | exact absurd (by decide) c4
    refine lv_aload_n hx hb dX10_wants_8 rfl (lv_at hl 0 rfl) ?_
    refine lv_iload_n hx hb dX10_wants_9 rfl (lv_at hl 2 rfl) ?_
    refine lv_i2l hx hb dX10_wants_10 rfl ?_
    refine ro_V (As := [.long (p1.toInt64)]) (rest := []) S (m_X10_isPlace l D k a st sl  (p1.toInt64) _  hB  hw) lkX10_282 ok_X10_isPlace ⟨rfl, rfl, Nat.le_of_ble_eq_true rfl, Nat.le_of_ble_eq_true rfl⟩ (pw_V (ci := 10) (q0 := 0) hK hN rfl mw_0 hP (hD.weaken (fun _ _ _ _ => trivial))) rfl hl.1 rfl (Nat.le_of_ble_eq_true rfl) ⟨Nat.zero_le _, Nat.zero_le _⟩ dX10_wants_11 (fun r5 er5 => ?_)
    rcases er5 with ⟨rfl, g9⟩ | ⟨rfl, g9⟩
    · skip
      have g6 := g9
      have h7 : (0 : Int) ≤ (p1.toInt64).toInt ∧ (p1.toInt64).toInt ≤ (5 : Int) := ⟨(g6).1, (g6).2⟩
      have h8 : Iv 0 5 p1 := iv_lv h7
      refine lv_if_ne (tgt := 20) hx hb dX10_wants_14 (by decide) (fun c9 => ?_) (fun c9 => ?_)
      rotate_left
      · first | exact absurd c9 (by decide) | exact absurd (by decide) c9
      refine lv_aload_n hx hb dX10_wants_20 rfl (lv_at hl 0 rfl) ?_
      refine ca_v hP hD hS hA (fun hDc => run_V (mc := 0) (ms := 0) (As := []) (rest := []) S (m_X10_asItIs l D k a st sl   _  hB  hw) lkX10_273 ok_X10_asItIs ⟨rfl, rfl, Nat.le_of_ble_eq_true rfl, Nat.le_of_ble_eq_true rfl⟩ (pw_V (ci := 10) (q0 := 0) hK hN rfl mw_0 hP hDc) rfl hl.1 rfl (Nat.le_of_ble_eq_true rfl) ⟨Nat.zero_le _, Nat.zero_le _⟩ dX10_wants_21) (fun s10 H9 locs9 hs10 hP9 hD9 hS9 => ?_)
      clear hP hD hS
      have hS := hS9
      have hP := hP9
      have hD := hD9
      clear hP9 hD9 hS9
      obtain ⟨hBs10, gs10, fs10⟩ := hs10
      have hFs10 : FR [7, 9, 8, 10, 11, 0, 12, 13, 14] st s10 := fr_ca fr_rf gs10 (sub_1 (List.mem_of_getElem? (i := 0) rfl) (sub_1 (List.mem_of_getElem? (i := 1) rfl) (sub_1 (List.mem_of_getElem? (i := 2) rfl) (sub_1 (List.mem_of_getElem? (i := 3) rfl) (sub_1 (List.mem_of_getElem? (i := 4) rfl) sub_0)))))
      refine lv_aload_n hx hb dX10_wants_24 rfl (lv_at hl 0 rfl) ?_
      refine lv_iload_n hx hb dX10_wants_25 rfl (lv_at hl 1 rfl) ?_
      refine lv_iload_n hx hb dX10_wants_26 rfl (lv_at hl 2 rfl) ?_
      refine ca_i hP hD hS hA (fun hDc => run_V (mc := 0) (ms := 0) (As := [.int p0, .int p1]) (rest := []) S (m_X10_wayOf l D k a s10 sl  p0 p1 _  hBs10 h3 (wok_of (hFs10 1 (nm_1 (by decide) (nm_1 (by decide) (nm_1 (by decide) (nm_1 (by decide) (nm_1 (by decide) (nm_1 (by decide) (nm_1 (by decide) (nm_1 (by decide) (nm_1 (by decide) nm_0)))))))))) hw)) lkX10_338 ok_X10_wayOf ⟨rfl, rfl, Nat.le_of_ble_eq_true rfl, Nat.le_of_ble_eq_true rfl⟩ (pw_V (ci := 10) (q0 := 0) hK hN rfl mw_0 hP hDc) rfl hl.1 rfl (Nat.le_of_ble_eq_true rfl) ⟨Nat.zero_le _, Nat.zero_le _⟩ dX10_wants_27) (fun r13 s12 H9 locs9 hs12 hP9 hD9 hS9 => ?_)
      clear hP hD hS
      have hS := hS9
      have hP := hP9
      have hD := hD9
      clear hP9 hD9 hS9
      obtain ⟨hBs12, gs12, qs12_0, qs12_1, qs12_2, qs12_3, qs12_4, qs12_5, qs12_6, qs12_7, qs12_8, qs12_9, qs12_10, qs12_11, qs12_12, qs12_13, qs12_14, fs12⟩ := hs12
      have hFs12 : FR [7, 9, 8, 10, 11, 0, 12, 13, 14] st s12 := fr_ca hFs10 gs12 (sub_1 (List.mem_of_getElem? (i := 4) rfl) (sub_1 (List.mem_of_getElem? (i := 5) rfl) (sub_1 (List.mem_of_getElem? (i := 6) rfl) (sub_1 (List.mem_of_getElem? (i := 7) rfl) (sub_1 (List.mem_of_getElem? (i := 0) rfl) (sub_1 (List.mem_of_getElem? (i := 2) rfl) (sub_1 (List.mem_of_getElem? (i := 3) rfl) (sub_1 (List.mem_of_getElem? (i := 8) rfl) sub_0))))))))
      refine lv_pop hx hb dX10_wants_30 rfl ?_
      refine lv_iload_n hx hb dX10_wants_31 rfl (lv_at hl 3 rfl) ?_
      refine lv_i2l hx hb dX10_wants_32 rfl ?_
      refine lv_lconst (v := 0) hx hb dX10_wants_33 (by decide) ?_
      refine lv_aload_n hx hb dX10_wants_34 rfl (lv_at hl 0 rfl) ?_
      refine va_get (D := D) (ci := 10) (v := .int (s12 0 26)) (C := RX10) (T := TX10) (N := 38) hx hb hT in_X10 hown hK hP 0 mw_0 rfl 26 (by decide) (hT _ t1288) (fun _ h9 => h9) rfl dX10_wants_35 ?_
      have h14 : Iv (-1) 4 (s12 0 26) := (rm_0_26 hBs12)
      refine lv_iconst (v := 1) hx hb dX10_wants_38 (by decide) ?_
      refine lv_isub hx hb dX10_wants_39 ?_
      refine lv_topi (fun z15 ez15 => ?_)
      have h16 : Iv (-2) 3 z15 := iv_sub ez15 h14 (iv_c (by decide) : Iv 1 1 1) (by decide) (by decide) (by decide) (by decide)
      refine lv_i2l hx hb dX10_wants_40 rfl ?_
      refine ro_S (As := [.long (p2.toInt64), .long 0, .long (z15.toInt64)]) (rest := []) S (m_X10_in l D k a s12 sl  (p2.toInt64) 0 (z15.toInt64) _  hBs12  ) lkX10_85 ok_X10_in ⟨rfl, rfl, Nat.le_of_ble_eq_true rfl, Nat.le_of_ble_eq_true rfl⟩ (pw_S hK hN hP (hD.weaken (fun _ _ _ _ => trivial))) rfl hl.1 rfl (Nat.le_of_ble_eq_true rfl) ⟨Nat.zero_le _, Nat.zero_le _⟩ dX10_wants_41 (fun r17 er17 => ?_)
      rcases er17 with ⟨rfl, g9⟩ | ⟨rfl, g9⟩
      · skip
        have g18 := g9
        have k19 := g18
        have h20 : (0 : Int) ≤ (p2.toInt64).toInt ∧ (p2.toInt64).toInt ≤ (3 : Int) := ⟨((show (0 : Int) ≤ (p2.toInt64).toInt ∧ (p2.toInt64).toInt ≤ (3 : Int) from ⟨Int.le_trans ((⟨by decide, by decide⟩ : (0 : Int) ≤ (0 : Int64).toInt ∧ (0 : Int64).toInt ≤ (0 : Int))).1 k19.1, Int.le_trans k19.2 ((lv_iv h16)).2⟩)).1, ((show (0 : Int) ≤ (p2.toInt64).toInt ∧ (p2.toInt64).toInt ≤ (3 : Int) from ⟨Int.le_trans ((⟨by decide, by decide⟩ : (0 : Int) ≤ (0 : Int64).toInt ∧ (0 : Int64).toInt ≤ (0 : Int))).1 k19.1, Int.le_trans k19.2 ((lv_iv h16)).2⟩)).2⟩
        have h21 : Iv 0 3 p2 := iv_lv h20
        refine lv_if_eq (tgt := 56) hx hb dX10_wants_44 (by decide) (fun c22 => ?_) (fun c22 => ?_)
        · first | exact absurd c22 (by decide) | exact absurd (by decide) c22
        refine lv_aload_n hx hb dX10_wants_47 rfl (lv_at hl 0 rfl) ?_
        refine va_get (D := D) (ci := 10) (v := .ref (a 14)) (C := RX10) (T := TX10) (N := 38) hx hb hT in_X10 hown hK hP 0 mw_0 rfl 25 (by decide) (hT _ t1287) (fun _ h9 => h9) rfl dX10_wants_48 ?_
        refine lv_iload_n hx hb dX10_wants_51 rfl (lv_at hl 3 rfl) ?_
        refine va_iald hx hb hK hP 14 0 mw_14 rfl (iv_in h21 (by decide) (by decide)) dX10_wants_52 ?_
        refine lv_topi (fun z23 ez23 => ?_)
        refine lv_goto (tgt := 57) hx hb dX10_wants_53 (by decide) ?_
        rw [hQ]
        exact W.iret (v := z23) hx hb hr (fun t ht hW => ⟨⟨z23, s12, rfl, ⟨hBs12, hFs12, (Eq.trans qs12_0 (congrFun (gs10 0 (nm_1 (by decide) (nm_1 (by decide) (nm_1 (by decide) (nm_1 (by decide) (nm_1 (by decide) nm_0)))))) 0)), (Eq.trans qs12_1 (congrFun (gs10 0 (nm_1 (by decide) (nm_1 (by decide) (nm_1 (by decide) (nm_1 (by decide) (nm_1 (by decide) nm_0)))))) 5)), (Eq.trans qs12_2 (congrFun (gs10 0 (nm_1 (by decide) (nm_1 (by decide) (nm_1 (by decide) (nm_1 (by decide) (nm_1 (by decide) nm_0)))))) 7)), (Eq.trans qs12_3 (congrFun (gs10 0 (nm_1 (by decide) (nm_1 (by decide) (nm_1 (by decide) (nm_1 (by decide) (nm_1 (by decide) nm_0)))))) 8)), (Eq.trans qs12_4 (congrFun (gs10 0 (nm_1 (by decide) (nm_1 (by decide) (nm_1 (by decide) (nm_1 (by decide) (nm_1 (by decide) nm_0)))))) 9)), (Eq.trans qs12_5 (congrFun (gs10 0 (nm_1 (by decide) (nm_1 (by decide) (nm_1 (by decide) (nm_1 (by decide) (nm_1 (by decide) nm_0)))))) 10)), (Eq.trans qs12_6 (congrFun (gs10 0 (nm_1 (by decide) (nm_1 (by decide) (nm_1 (by decide) (nm_1 (by decide) (nm_1 (by decide) nm_0)))))) 11)), (Eq.trans qs12_7 (congrFun (gs10 0 (nm_1 (by decide) (nm_1 (by decide) (nm_1 (by decide) (nm_1 (by decide) (nm_1 (by decide) nm_0)))))) 12)), (Eq.trans qs12_8 (congrFun (gs10 0 (nm_1 (by decide) (nm_1 (by decide) (nm_1 (by decide) (nm_1 (by decide) (nm_1 (by decide) nm_0)))))) 13)), (Eq.trans qs12_9 (congrFun (gs10 0 (nm_1 (by decide) (nm_1 (by decide) (nm_1 (by decide) (nm_1 (by decide) (nm_1 (by decide) nm_0)))))) 20)), (Eq.trans qs12_10 (congrFun (gs10 0 (nm_1 (by decide) (nm_1 (by decide) (nm_1 (by decide) (nm_1 (by decide) (nm_1 (by decide) nm_0)))))) 21)), (Eq.trans qs12_11 (congrFun (gs10 0 (nm_1 (by decide) (nm_1 (by decide) (nm_1 (by decide) (nm_1 (by decide) (nm_1 (by decide) nm_0)))))) 22)), (Eq.trans qs12_12 (congrFun (gs10 0 (nm_1 (by decide) (nm_1 (by decide) (nm_1 (by decide) (nm_1 (by decide) (nm_1 (by decide) nm_0)))))) 29)), (Eq.trans qs12_13 (congrFun (gs10 0 (nm_1 (by decide) (nm_1 (by decide) (nm_1 (by decide) (nm_1 (by decide) (nm_1 (by decide) nm_0)))))) 31)), (Eq.trans qs12_14 (congrFun (gs10 0 (nm_1 (by decide) (nm_1 (by decide) (nm_1 (by decide) (nm_1 (by decide) (nm_1 (by decide) nm_0)))))) 33)), trivial⟩, by rw [ht]; exact hP, va_K.moved hW.alike (hK.sub (tys' := []) [] rfl), by rw [hAe]; exact hD⟩, by rw [hAe]; exact hS.F ht⟩) hS.2.2 dX10_wants_57
      · skip
        have g24 := g9
        have k25 := g24
        refine lv_if_eq (tgt := 56) hx hb dX10_wants_44 (by decide) (fun c26 => ?_) (fun c26 => ?_)
        rotate_left
        · first | exact absurd c26 (by decide) | exact absurd (by decide) c26
        refine lv_iconst (v := (-1)) hx hb dX10_wants_56 (by decide) ?_
        rw [hQ]
        exact W.iret (v := (-1)) hx hb hr (fun t ht hW => ⟨⟨(-1), s12, rfl, ⟨hBs12, hFs12, (Eq.trans qs12_0 (congrFun (gs10 0 (nm_1 (by decide) (nm_1 (by decide) (nm_1 (by decide) (nm_1 (by decide) (nm_1 (by decide) nm_0)))))) 0)), (Eq.trans qs12_1 (congrFun (gs10 0 (nm_1 (by decide) (nm_1 (by decide) (nm_1 (by decide) (nm_1 (by decide) (nm_1 (by decide) nm_0)))))) 5)), (Eq.trans qs12_2 (congrFun (gs10 0 (nm_1 (by decide) (nm_1 (by decide) (nm_1 (by decide) (nm_1 (by decide) (nm_1 (by decide) nm_0)))))) 7)), (Eq.trans qs12_3 (congrFun (gs10 0 (nm_1 (by decide) (nm_1 (by decide) (nm_1 (by decide) (nm_1 (by decide) (nm_1 (by decide) nm_0)))))) 8)), (Eq.trans qs12_4 (congrFun (gs10 0 (nm_1 (by decide) (nm_1 (by decide) (nm_1 (by decide) (nm_1 (by decide) (nm_1 (by decide) nm_0)))))) 9)), (Eq.trans qs12_5 (congrFun (gs10 0 (nm_1 (by decide) (nm_1 (by decide) (nm_1 (by decide) (nm_1 (by decide) (nm_1 (by decide) nm_0)))))) 10)), (Eq.trans qs12_6 (congrFun (gs10 0 (nm_1 (by decide) (nm_1 (by decide) (nm_1 (by decide) (nm_1 (by decide) (nm_1 (by decide) nm_0)))))) 11)), (Eq.trans qs12_7 (congrFun (gs10 0 (nm_1 (by decide) (nm_1 (by decide) (nm_1 (by decide) (nm_1 (by decide) (nm_1 (by decide) nm_0)))))) 12)), (Eq.trans qs12_8 (congrFun (gs10 0 (nm_1 (by decide) (nm_1 (by decide) (nm_1 (by decide) (nm_1 (by decide) (nm_1 (by decide) nm_0)))))) 13)), (Eq.trans qs12_9 (congrFun (gs10 0 (nm_1 (by decide) (nm_1 (by decide) (nm_1 (by decide) (nm_1 (by decide) (nm_1 (by decide) nm_0)))))) 20)), (Eq.trans qs12_10 (congrFun (gs10 0 (nm_1 (by decide) (nm_1 (by decide) (nm_1 (by decide) (nm_1 (by decide) (nm_1 (by decide) nm_0)))))) 21)), (Eq.trans qs12_11 (congrFun (gs10 0 (nm_1 (by decide) (nm_1 (by decide) (nm_1 (by decide) (nm_1 (by decide) (nm_1 (by decide) nm_0)))))) 22)), (Eq.trans qs12_12 (congrFun (gs10 0 (nm_1 (by decide) (nm_1 (by decide) (nm_1 (by decide) (nm_1 (by decide) (nm_1 (by decide) nm_0)))))) 29)), (Eq.trans qs12_13 (congrFun (gs10 0 (nm_1 (by decide) (nm_1 (by decide) (nm_1 (by decide) (nm_1 (by decide) (nm_1 (by decide) nm_0)))))) 31)), (Eq.trans qs12_14 (congrFun (gs10 0 (nm_1 (by decide) (nm_1 (by decide) (nm_1 (by decide) (nm_1 (by decide) (nm_1 (by decide) nm_0)))))) 33)), trivial⟩, by rw [ht]; exact hP, va_K.moved hW.alike (hK.sub (tys' := []) [] rfl), by rw [hAe]; exact hD⟩, by rw [hAe]; exact hS.F ht⟩) hS.2.2 dX10_wants_57
    · skip
      have g27 := g9
      refine lv_if_ne (tgt := 20) hx hb dX10_wants_14 (by decide) (fun c28 => ?_) (fun c28 => ?_)
      · first | exact absurd c28 (by decide) | exact absurd (by decide) c28
      refine lv_bipush (v := (-2)) hx hb dX10_wants_17 (by decide) ?_
      rw [hQ]
      exact W.iret (v := (-2)) hx hb hr (fun t ht hW => ⟨⟨(-2), st, rfl, ⟨hB, fr_rf, rfl, rfl, rfl, rfl, rfl, rfl, rfl, rfl, rfl, rfl, rfl, rfl, rfl, rfl, rfl, trivial⟩, by rw [ht]; exact hP, va_K.moved hW.alike (hK.sub (tys' := []) [] rfl), by rw [hAe]; exact hD⟩, by rw [hAe]; exact hS.F ht⟩) hS.2.2 dX10_wants_19
  · skip
    have g29 := g9
    refine lv_if_eq (tgt := 17) hx hb dX10_wants_5 (by decide) (fun c30 => ?_) (fun c30 => ?_)
    rotate_left
    · first | exact absurd c30 (by decide) | exact absurd (by decide) c30
    refine lv_bipush (v := (-2)) hx hb dX10_wants_17 (by decide) ?_
    rw [hQ]
    exact W.iret (v := (-2)) hx hb hr (fun t ht hW => ⟨⟨(-2), st, rfl, ⟨hB, fr_rf, rfl, rfl, rfl, rfl, rfl, rfl, rfl, rfl, rfl, rfl, rfl, rfl, rfl, rfl, rfl, trivial⟩, by rw [ht]; exact hP, va_K.moved hW.alike (hK.sub (tys' := []) [] rfl), by rw [hAe]; exact hD⟩, by rw [hAe]; exact hS.F ht⟩) hS.2.2 dX10_wants_19
set_option maxHeartbeats 4000000 in
set_option maxRecDepth 100000 in
theorem m_X10_reach (l : Launch) (D : va_G) (k : Nat → ClassId) (a : Nat → Nat) (st : CT) (sl : CL) (p0 : Int32) (sz : Nat) (hB : MB st)  (hw : WOK (st 1)) : Met l yX10_reach (.code yX10_reach cX10_reach 2 (some .int) :: TB) (rmw 8 0 0) (va_Pc [.ref (a 0), .int p0] (PW D k sz (MWS k a st sl))) (QI D (S := CT) (fun r u => MB u ∧ FR [7, 9, 8, 10, 11, 0, 12, 13, 14] st u ∧ u 0 0 = st 0 0 ∧ u 0 5 = st 0 5 ∧ u 0 7 = st 0 7 ∧ u 0 8 = st 0 8 ∧ u 0 9 = st 0 9 ∧ u 0 10 = st 0 10 ∧ u 0 11 = st 0 11 ∧ u 0 12 = st 0 12 ∧ u 0 13 = st 0 13 ∧ u 0 20 = st 0 20 ∧ u 0 21 = st 0 21 ∧ u 0 22 = st 0 22 ∧ u 0 29 = st 0 29 ∧ u 0 31 = st 0 31 ∧ u 0 33 = st 0 33 ∧ ((True))) (fun u => MWS k a u sl) (fun _ => []) (MWS k a st sl) sz) 0 0 (va_A (MWS k a st sl) sz) := by
  refine Met.ofW (cc := cX10_reach) (maxL := 2) (ret := (some .int)) (by decide) rfl ?_
  intro p e s m args below meth c s₁ B hml hv
  obtain ⟨rfl, hsz, hP, hK, hD0, hN⟩ := hv
  have hx := B.exec
  have hb := B.bytes
  have hr := B.returns
  have hT : ∀ w9 ∈ TB, w9.before ([.ref (a 0), .int p0] : List Value).toArray s = true := fun w9 h => atoms_spec (ws := .code yX10_reach cX10_reach 2 (some .int) :: TB) B.pre w9 (List.mem_cons_of_mem _ h)
  have hown : s.vm.findClass RX10 = some m.cls := findClass_of_methodNamed B.named
  have S : CallFix p m c cX10_reach 2 s _ TB RX10 := ⟨hx, hb, hml, hown, hT⟩
  subst hsz
  have hD := hD0.self (sz := s.heap.size)
  generalize hAe : va_A (MWS k a st sl) s.heap.size = A at hD ⊢
  have hA : ∀ q : Nat, s.heap.size ≤ q → A q := fun q h => by rw [← hAe]; exact Or.inr h
  have hS : va_S A s.heap s.heap [] := va_S.rf
  have hl := lv_entry ([.ref (a 0), .int p0]) (n := 2) (Nat.le_of_ble_eq_true rfl)
  rw [lg_entry_eq]
  generalize (lg_sl ([.ref (a 0), .int p0]) ++ List.replicate (2 - (lg_sl ([.ref (a 0), .int p0])).length) Slot.unset).toArray = ls at hl ⊢
  have hl : lv_has ls 2 [(0, .ref (a 0)), (1, .int p0)] := hl
  refine nameQ (fun Q hQ => ?_)
  refine lv_aload_n hx hb dX10_reach_0 rfl (lv_at hl 0 rfl) ?_
  refine lv_iload_n hx hb dX10_reach_1 rfl (lv_at hl 1 rfl) ?_
  refine ro_V (As := [.int p0]) (rest := []) S (m_X10_isCart l D k a st sl  p0 _  hB  hw) lkX10_279 ok_X10_isCart ⟨rfl, rfl, Nat.le_of_ble_eq_true rfl, Nat.le_of_ble_eq_true rfl⟩ (pw_V (ci := 10) (q0 := 0) hK hN rfl mw_0 hP (hD.weaken (fun _ _ _ _ => trivial))) rfl hl.1 rfl (Nat.le_of_ble_eq_true rfl) ⟨Nat.zero_le _, Nat.zero_le _⟩ dX10_reach_2 (fun r1 er1 => ?_)
  rcases er1 with ⟨rfl, g9⟩ | ⟨rfl, g9⟩
  · skip
    have g2 := g9
    have h3 : Iv 0 2 p0 := g2.1
    refine lv_if_ne (tgt := 11) hx hb dX10_reach_5 (by decide) (fun c4 => ?_) (fun c4 => ?_)
    rotate_left
    · first | exact absurd c4 (by decide) | exact absurd (by decide) c4
    refine lv_aload_n hx hb dX10_reach_11 rfl (lv_at hl 0 rfl) ?_
    refine ca_v hP hD hS hA (fun hDc => run_V (mc := 0) (ms := 0) (As := []) (rest := []) S (m_X10_asItIs l D k a st sl   _  hB  hw) lkX10_273 ok_X10_asItIs ⟨rfl, rfl, Nat.le_of_ble_eq_true rfl, Nat.le_of_ble_eq_true rfl⟩ (pw_V (ci := 10) (q0 := 0) hK hN rfl mw_0 hP hDc) rfl hl.1 rfl (Nat.le_of_ble_eq_true rfl) ⟨Nat.zero_le _, Nat.zero_le _⟩ dX10_reach_12) (fun s5 H9 locs9 hs5 hP9 hD9 hS9 => ?_)
    clear hP hD hS
    have hS := hS9
    have hP := hP9
    have hD := hD9
    clear hP9 hD9 hS9
    obtain ⟨hBs5, gs5, fs5⟩ := hs5
    have hFs5 : FR [7, 9, 8, 10, 11, 0, 12, 13, 14] st s5 := fr_ca fr_rf gs5 (sub_1 (List.mem_of_getElem? (i := 0) rfl) (sub_1 (List.mem_of_getElem? (i := 1) rfl) (sub_1 (List.mem_of_getElem? (i := 2) rfl) (sub_1 (List.mem_of_getElem? (i := 3) rfl) (sub_1 (List.mem_of_getElem? (i := 4) rfl) sub_0)))))
    refine lv_aload_n hx hb dX10_reach_15 rfl (lv_at hl 0 rfl) ?_
    refine lv_iload_n hx hb dX10_reach_16 rfl (lv_at hl 1 rfl) ?_
    refine lv_iconst (v := (-1)) hx hb dX10_reach_17 (by decide) ?_
    refine ca_i hP hD hS hA (fun hDc => run_V (mc := 0) (ms := 0) (As := [.int p0, .int (-1)]) (rest := []) S (m_X10_wayOf l D k a s5 sl  p0 (-1) _  hBs5 h3 (wok_of (hFs5 1 (nm_1 (by decide) (nm_1 (by decide) (nm_1 (by decide) (nm_1 (by decide) (nm_1 (by decide) (nm_1 (by decide) (nm_1 (by decide) (nm_1 (by decide) (nm_1 (by decide) nm_0)))))))))) hw)) lkX10_338 ok_X10_wayOf ⟨rfl, rfl, Nat.le_of_ble_eq_true rfl, Nat.le_of_ble_eq_true rfl⟩ (pw_V (ci := 10) (q0 := 0) hK hN rfl mw_0 hP hDc) rfl hl.1 rfl (Nat.le_of_ble_eq_true rfl) ⟨Nat.zero_le _, Nat.zero_le _⟩ dX10_reach_18) (fun r8 s7 H9 locs9 hs7 hP9 hD9 hS9 => ?_)
    clear hP hD hS
    have hS := hS9
    have hP := hP9
    have hD := hD9
    clear hP9 hD9 hS9
    obtain ⟨hBs7, gs7, qs7_0, qs7_1, qs7_2, qs7_3, qs7_4, qs7_5, qs7_6, qs7_7, qs7_8, qs7_9, qs7_10, qs7_11, qs7_12, qs7_13, qs7_14, fs7⟩ := hs7
    have hFs7 : FR [7, 9, 8, 10, 11, 0, 12, 13, 14] st s7 := fr_ca hFs5 gs7 (sub_1 (List.mem_of_getElem? (i := 4) rfl) (sub_1 (List.mem_of_getElem? (i := 5) rfl) (sub_1 (List.mem_of_getElem? (i := 6) rfl) (sub_1 (List.mem_of_getElem? (i := 7) rfl) (sub_1 (List.mem_of_getElem? (i := 0) rfl) (sub_1 (List.mem_of_getElem? (i := 2) rfl) (sub_1 (List.mem_of_getElem? (i := 3) rfl) (sub_1 (List.mem_of_getElem? (i := 8) rfl) sub_0))))))))
    refine lv_pop hx hb dX10_reach_21 rfl ?_
    refine lv_aload_n hx hb dX10_reach_22 rfl (lv_at hl 0 rfl) ?_
    refine va_get (D := D) (ci := 10) (v := .int (s7 0 27)) (C := RX10) (T := TX10) (N := 38) hx hb hT in_X10 hown hK hP 0 mw_0 rfl 27 (by decide) (hT _ t1289) (fun _ h9 => h9) rfl dX10_reach_23 ?_
    rw [hQ]
    exact W.iret (v := (s7 0 27)) hx hb hr (fun t ht hW => ⟨⟨(s7 0 27), s7, rfl, ⟨hBs7, hFs7, (Eq.trans qs7_0 (congrFun (gs5 0 (nm_1 (by decide) (nm_1 (by decide) (nm_1 (by decide) (nm_1 (by decide) (nm_1 (by decide) nm_0)))))) 0)), (Eq.trans qs7_1 (congrFun (gs5 0 (nm_1 (by decide) (nm_1 (by decide) (nm_1 (by decide) (nm_1 (by decide) (nm_1 (by decide) nm_0)))))) 5)), (Eq.trans qs7_2 (congrFun (gs5 0 (nm_1 (by decide) (nm_1 (by decide) (nm_1 (by decide) (nm_1 (by decide) (nm_1 (by decide) nm_0)))))) 7)), (Eq.trans qs7_3 (congrFun (gs5 0 (nm_1 (by decide) (nm_1 (by decide) (nm_1 (by decide) (nm_1 (by decide) (nm_1 (by decide) nm_0)))))) 8)), (Eq.trans qs7_4 (congrFun (gs5 0 (nm_1 (by decide) (nm_1 (by decide) (nm_1 (by decide) (nm_1 (by decide) (nm_1 (by decide) nm_0)))))) 9)), (Eq.trans qs7_5 (congrFun (gs5 0 (nm_1 (by decide) (nm_1 (by decide) (nm_1 (by decide) (nm_1 (by decide) (nm_1 (by decide) nm_0)))))) 10)), (Eq.trans qs7_6 (congrFun (gs5 0 (nm_1 (by decide) (nm_1 (by decide) (nm_1 (by decide) (nm_1 (by decide) (nm_1 (by decide) nm_0)))))) 11)), (Eq.trans qs7_7 (congrFun (gs5 0 (nm_1 (by decide) (nm_1 (by decide) (nm_1 (by decide) (nm_1 (by decide) (nm_1 (by decide) nm_0)))))) 12)), (Eq.trans qs7_8 (congrFun (gs5 0 (nm_1 (by decide) (nm_1 (by decide) (nm_1 (by decide) (nm_1 (by decide) (nm_1 (by decide) nm_0)))))) 13)), (Eq.trans qs7_9 (congrFun (gs5 0 (nm_1 (by decide) (nm_1 (by decide) (nm_1 (by decide) (nm_1 (by decide) (nm_1 (by decide) nm_0)))))) 20)), (Eq.trans qs7_10 (congrFun (gs5 0 (nm_1 (by decide) (nm_1 (by decide) (nm_1 (by decide) (nm_1 (by decide) (nm_1 (by decide) nm_0)))))) 21)), (Eq.trans qs7_11 (congrFun (gs5 0 (nm_1 (by decide) (nm_1 (by decide) (nm_1 (by decide) (nm_1 (by decide) (nm_1 (by decide) nm_0)))))) 22)), (Eq.trans qs7_12 (congrFun (gs5 0 (nm_1 (by decide) (nm_1 (by decide) (nm_1 (by decide) (nm_1 (by decide) (nm_1 (by decide) nm_0)))))) 29)), (Eq.trans qs7_13 (congrFun (gs5 0 (nm_1 (by decide) (nm_1 (by decide) (nm_1 (by decide) (nm_1 (by decide) (nm_1 (by decide) nm_0)))))) 31)), (Eq.trans qs7_14 (congrFun (gs5 0 (nm_1 (by decide) (nm_1 (by decide) (nm_1 (by decide) (nm_1 (by decide) (nm_1 (by decide) nm_0)))))) 33)), trivial⟩, by rw [ht]; exact hP, va_K.moved hW.alike (hK.sub (tys' := []) [] rfl), by rw [hAe]; exact hD⟩, by rw [hAe]; exact hS.F ht⟩) hS.2.2 dX10_reach_26
  · skip
    have g9 := g9
    refine lv_if_ne (tgt := 11) hx hb dX10_reach_5 (by decide) (fun c10 => ?_) (fun c10 => ?_)
    · first | exact absurd c10 (by decide) | exact absurd (by decide) c10
    refine lv_bipush (v := (-2)) hx hb dX10_reach_8 (by decide) ?_
    rw [hQ]
    exact W.iret (v := (-2)) hx hb hr (fun t ht hW => ⟨⟨(-2), st, rfl, ⟨hB, fr_rf, rfl, rfl, rfl, rfl, rfl, rfl, rfl, rfl, rfl, rfl, rfl, rfl, rfl, rfl, rfl, trivial⟩, by rw [ht]; exact hP, va_K.moved hW.alike (hK.sub (tys' := []) [] rfl), by rw [hAe]; exact hD⟩, by rw [hAe]; exact hS.F ht⟩) hS.2.2 dX10_reach_10
