set_option maxHeartbeats 4000000 in
set_option maxRecDepth 100000 in
theorem m_X10_road (l : Launch) (D : va_G) (k : Nat → ClassId) (a : Nat → Nat) (st : CT) (sl : CL) (p0 : Int32) (p1 : Int32) (sz : Nat) (hB : MB st)  (hw : WOK (st 1)) : Met l yX10_road (.code yX10_road cX10_road 3 (some .int) :: TB) (rmk 3) (va_Pc [.ref (a 0), .int p0, .int p1] (PW D k sz (MWS k a st sl))) (vp_Si (fun r => (True))) 0 0 (fun _ => False) := by
  refine Met.ofW (cc := cX10_road) (maxL := 3) (ret := (some .int)) (by decide) rfl ?_
  intro p e s m args below meth c s₁ B hml hv
  obtain ⟨rfl, hsz, hP, hK, hD0, hN⟩ := hv
  have hx := B.exec
  have hb := B.bytes
  have hr := B.returns
  have hT : ∀ w9 ∈ TB, w9.before ([.ref (a 0), .int p0, .int p1] : List Value).toArray s = true := fun w9 h => atoms_spec (ws := .code yX10_road cX10_road 3 (some .int) :: TB) B.pre w9 (List.mem_cons_of_mem _ h)
  have hown : s.vm.findClass RX10 = some m.cls := findClass_of_methodNamed B.named
  have S : CallFix p m c cX10_road 3 s _ TB RX10 := ⟨hx, hb, hml, hown, hT⟩
  subst hsz
  have hl := lv_entry ([.ref (a 0), .int p0, .int p1]) (n := 3) (Nat.le_of_ble_eq_true rfl)
  rw [lg_entry_eq]
  generalize (lg_sl ([.ref (a 0), .int p0, .int p1]) ++ List.replicate (3 - (lg_sl ([.ref (a 0), .int p0, .int p1])).length) Slot.unset).toArray = ls at hl ⊢
  have hl : lv_has ls 3 [(0, .ref (a 0)), (1, .int p0), (2, .int p1)] := hl
  refine nameQ (fun Q hQ => ?_)
  refine lv_aload_n hx hb dX10_road_0 rfl (lv_at hl 0 rfl) ?_
  refine lv_iload_n hx hb dX10_road_1 rfl (lv_at hl 1 rfl) ?_
  refine lv_i2l hx hb dX10_road_2 rfl ?_
  refine ro_V (As := [.long (p0.toInt64)]) (rest := []) S (m_X10_isRoad l D k a st sl  (p0.toInt64) _  hB  hw) lkX10_265 ok_X10_isRoad ⟨rfl, rfl, Nat.le_of_ble_eq_true rfl, Nat.le_of_ble_eq_true rfl⟩ (pw_V (ci := 10) (q0 := 0) hK hN rfl mw_0 hP hD0) rfl hl.1 rfl (Nat.le_of_ble_eq_true rfl) ⟨Nat.zero_le _, Nat.zero_le _⟩ dX10_road_3 (fun r1 er1 => ?_)
  rcases er1 with ⟨rfl, g9⟩ | ⟨rfl, g9⟩
  · skip
    have g2 := g9
    have h3 : (0 : Int) ≤ (p0.toInt64).toInt ∧ (p0.toInt64).toInt ≤ (7 : Int) := ⟨(g2).1, (g2).2⟩
    have h4 : Iv 0 7 p0 := iv_lv h3
    refine lv_if_eq (tgt := 30) hx hb dX10_road_6 (by decide) (fun c5 => ?_) (fun c5 => ?_)
    · first | exact absurd c5 (by decide) | exact absurd (by decide) c5
    refine lv_iload_n hx hb dX10_road_9 rfl (lv_at hl 2 rfl) ?_
    refine lv_i2l hx hb dX10_road_10 rfl ?_
    refine lv_lconst (v := 0) hx hb dX10_road_11 (by decide) ?_
    refine lv_ldc2 (v := 2) hx hb hown (hT _ t1381) dX10_road_12 ?_
    refine ro_S (As := [.long (p1.toInt64), .long 0, .long 2]) (rest := []) S (m_X10_in l D k a st sl  (p1.toInt64) 0 2 _  hB  ) lkX10_85 ok_X10_in ⟨rfl, rfl, Nat.le_of_ble_eq_true rfl, Nat.le_of_ble_eq_true rfl⟩ (pw_S hK hN hP hD0) rfl hl.1 rfl (Nat.le_of_ble_eq_true rfl) ⟨Nat.zero_le _, Nat.zero_le _⟩ dX10_road_15 (fun r6 er6 => ?_)
    rcases er6 with ⟨rfl, g9⟩ | ⟨rfl, g9⟩
    · skip
      have g7 := g9
      have k8 := g7
      have h9 : (0 : Int) ≤ (p1.toInt64).toInt ∧ (p1.toInt64).toInt ≤ (2 : Int) := ⟨((show (0 : Int) ≤ (p1.toInt64).toInt ∧ (p1.toInt64).toInt ≤ (2 : Int) from ⟨Int.le_trans ((⟨by decide, by decide⟩ : (0 : Int) ≤ (0 : Int64).toInt ∧ (0 : Int64).toInt ≤ (0 : Int))).1 k8.1, Int.le_trans k8.2 ((⟨by decide, by decide⟩ : (2 : Int) ≤ (2 : Int64).toInt ∧ (2 : Int64).toInt ≤ (2 : Int))).2⟩)).1, ((show (0 : Int) ≤ (p1.toInt64).toInt ∧ (p1.toInt64).toInt ≤ (2 : Int) from ⟨Int.le_trans ((⟨by decide, by decide⟩ : (0 : Int) ≤ (0 : Int64).toInt ∧ (0 : Int64).toInt ≤ (0 : Int))).1 k8.1, Int.le_trans k8.2 ((⟨by decide, by decide⟩ : (2 : Int) ≤ (2 : Int64).toInt ∧ (2 : Int64).toInt ≤ (2 : Int))).2⟩)).2⟩
      have h10 : Iv 0 2 p1 := iv_lv h9
      refine lv_if_eq (tgt := 30) hx hb dX10_road_18 (by decide) (fun c11 => ?_) (fun c11 => ?_)
      · first | exact absurd c11 (by decide) | exact absurd (by decide) c11
      refine lv_aload_n hx hb dX10_road_21 rfl (lv_at hl 0 rfl) ?_
      refine lv_iload_n hx hb dX10_road_22 rfl (lv_at hl 1 rfl) ?_
      refine lv_iload_n hx hb dX10_road_23 rfl (lv_at hl 2 rfl) ?_
      refine ro_V (As := [.int p0, .int p1]) (rest := []) S (m_X10_end l D k a st sl  p0 p1 _  hB h4 h10 hw) lkX10_89 ok_X10_end ⟨rfl, rfl, Nat.le_of_ble_eq_true rfl, Nat.le_of_ble_eq_true rfl⟩ (pw_V (ci := 10) (q0 := 0) hK hN rfl mw_0 hP hD0) rfl hl.1 rfl (Nat.le_of_ble_eq_true rfl) ⟨Nat.zero_le _, Nat.zero_le _⟩ dX10_road_24 (fun r12 er12 => ?_)
      have k13 := er12
      refine lv_goto (tgt := 32) hx hb dX10_road_27 (by decide) ?_
      rw [hQ]
      exact W.iret (v := r12) hx hb hr (fun t ht hW => ⟨r12, rfl, trivial, ht⟩) (fun _ h9 => by cases h9) dX10_road_32
    · skip
      have g14 := g9
      have k15 := g14
      refine lv_if_eq (tgt := 30) hx hb dX10_road_18 (by decide) (fun c16 => ?_) (fun c16 => ?_)
      rotate_left
      · first | exact absurd c16 (by decide) | exact absurd (by decide) c16
      refine lv_bipush (v := (-2)) hx hb dX10_road_30 (by decide) ?_
      rw [hQ]
      exact W.iret (v := (-2)) hx hb hr (fun t ht hW => ⟨(-2), rfl, trivial, ht⟩) (fun _ h9 => by cases h9) dX10_road_32
  · skip
    have g17 := g9
    refine lv_if_eq (tgt := 30) hx hb dX10_road_6 (by decide) (fun c18 => ?_) (fun c18 => ?_)
    rotate_left
    · first | exact absurd c18 (by decide) | exact absurd (by decide) c18
    refine lv_bipush (v := (-2)) hx hb dX10_road_30 (by decide) ?_
    rw [hQ]
    exact W.iret (v := (-2)) hx hb hr (fun t ht hW => ⟨(-2), rfl, trivial, ht⟩) (fun _ h9 => by cases h9) dX10_road_32
set_option maxHeartbeats 4000000 in
set_option maxRecDepth 100000 in
theorem m_X10_likes (l : Launch) (D : va_G) (k : Nat → ClassId) (a : Nat → Nat) (st : CT) (sl : CL) (p0 : Int32) (p1 : Int32) (sz : Nat) (hB : MB st)  (hw : WOK (st 1)) : Met l yX10_likes (.code yX10_likes cX10_likes 3 (some .int) :: TB) (rmw 8 0 0) (va_Pc [.ref (a 0), .int p0, .int p1] (PW D k sz (MWS k a st sl))) (QI D (S := CT) (fun r u => MB u ∧ FR [7, 9, 8, 10, 11] st u ∧ ((True))) (fun u => MWS k a u sl) (fun _ => []) (MWS k a st sl) sz) 0 0 (va_A (MWS k a st sl) sz) := by
  refine Met.ofW (cc := cX10_likes) (maxL := 3) (ret := (some .int)) (by decide) rfl ?_
  intro p e s m args below meth c s₁ B hml hv
  obtain ⟨rfl, hsz, hP, hK, hD0, hN⟩ := hv
  have hx := B.exec
  have hb := B.bytes
  have hr := B.returns
  have hT : ∀ w9 ∈ TB, w9.before ([.ref (a 0), .int p0, .int p1] : List Value).toArray s = true := fun w9 h => atoms_spec (ws := .code yX10_likes cX10_likes 3 (some .int) :: TB) B.pre w9 (List.mem_cons_of_mem _ h)
  have hown : s.vm.findClass RX10 = some m.cls := findClass_of_methodNamed B.named
  have S : CallFix p m c cX10_likes 3 s _ TB RX10 := ⟨hx, hb, hml, hown, hT⟩
  subst hsz
  have hD := hD0.self (sz := s.heap.size)
  generalize hAe : va_A (MWS k a st sl) s.heap.size = A at hD ⊢
  have hA : ∀ q : Nat, s.heap.size ≤ q → A q := fun q h => by rw [← hAe]; exact Or.inr h
  have hS : va_S A s.heap s.heap [] := va_S.rf
  have hl := lv_entry ([.ref (a 0), .int p0, .int p1]) (n := 3) (Nat.le_of_ble_eq_true rfl)
  rw [lg_entry_eq]
  generalize (lg_sl ([.ref (a 0), .int p0, .int p1]) ++ List.replicate (3 - (lg_sl ([.ref (a 0), .int p0, .int p1])).length) Slot.unset).toArray = ls at hl ⊢
  have hl : lv_has ls 3 [(0, .ref (a 0)), (1, .int p0), (2, .int p1)] := hl
  refine nameQ (fun Q hQ => ?_)
  refine lv_aload_n hx hb dX10_likes_0 rfl (lv_at hl 0 rfl) ?_
  refine lv_iload_n hx hb dX10_likes_1 rfl (lv_at hl 1 rfl) ?_
  refine ro_V (As := [.int p0]) (rest := []) S (m_X10_isWheel l D k a st sl  p0 _  hB  hw) lkX10_269 ok_X10_isWheel ⟨rfl, rfl, Nat.le_of_ble_eq_true rfl, Nat.le_of_ble_eq_true rfl⟩ (pw_V (ci := 10) (q0 := 0) hK hN rfl mw_0 hP (hD.weaken (fun _ _ _ _ => trivial))) rfl hl.1 rfl (Nat.le_of_ble_eq_true rfl) ⟨Nat.zero_le _, Nat.zero_le _⟩ dX10_likes_2 (fun r1 er1 => ?_)
  rcases er1 with ⟨rfl, g9⟩ | ⟨rfl, g9⟩
  · skip
    have g2 := g9
    have h3 : Iv 0 7 p0 := g2.1
    have k4 := g2.2
    refine lv_if_eq (tgt := 17) hx hb dX10_likes_5 (by decide) (fun c5 => ?_) (fun c5 => ?_)
    · first | exact absurd c5 (by decide) | exact absurd (by decide) c5
    refine lv_aload_n hx hb dX10_likes_8 rfl (lv_at hl 0 rfl) ?_
    refine lv_iload_n hx hb dX10_likes_9 rfl (lv_at hl 2 rfl) ?_
    refine lv_i2l hx hb dX10_likes_10 rfl ?_
    refine ro_V (As := [.long (p1.toInt64)]) (rest := []) S (m_X10_isRoad l D k a st sl  (p1.toInt64) _  hB  hw) lkX10_265 ok_X10_isRoad ⟨rfl, rfl, Nat.le_of_ble_eq_true rfl, Nat.le_of_ble_eq_true rfl⟩ (pw_V (ci := 10) (q0 := 0) hK hN rfl mw_0 hP (hD.weaken (fun _ _ _ _ => trivial))) rfl hl.1 rfl (Nat.le_of_ble_eq_true rfl) ⟨Nat.zero_le _, Nat.zero_le _⟩ dX10_likes_11 (fun r6 er6 => ?_)
    rcases er6 with ⟨rfl, g9⟩ | ⟨rfl, g9⟩
    · skip
      have g7 := g9
      have h8 : (0 : Int) ≤ (p1.toInt64).toInt ∧ (p1.toInt64).toInt ≤ (7 : Int) := ⟨(g7).1, (g7).2⟩
      have h9 : Iv 0 7 p1 := iv_lv h8
      refine lv_if_ne (tgt := 20) hx hb dX10_likes_14 (by decide) (fun c10 => ?_) (fun c10 => ?_)
      rotate_left
      · first | exact absurd c10 (by decide) | exact absurd (by decide) c10
      refine lv_aload_n hx hb dX10_likes_20 rfl (lv_at hl 0 rfl) ?_
      refine ca_v hP hD hS hA (fun hDc => run_V (mc := 0) (ms := 0) (As := []) (rest := []) S (m_X10_asItIs l D k a st sl   _  hB  hw) lkX10_273 ok_X10_asItIs ⟨rfl, rfl, Nat.le_of_ble_eq_true rfl, Nat.le_of_ble_eq_true rfl⟩ (pw_V (ci := 10) (q0 := 0) hK hN rfl mw_0 hP hDc) rfl hl.1 rfl (Nat.le_of_ble_eq_true rfl) ⟨Nat.zero_le _, Nat.zero_le _⟩ dX10_likes_21) (fun s11 H9 locs9 hs11 hP9 hD9 hS9 => ?_)
      clear hP hD hS
      have hS := hS9
      have hP := hP9
      have hD := hD9
      clear hP9 hD9 hS9
      obtain ⟨hBs11, gs11, fs11⟩ := hs11
      have hFs11 : FR [7, 9, 8, 10, 11] st s11 := fr_ca fr_rf gs11 (sub_1 (List.mem_of_getElem? (i := 0) rfl) (sub_1 (List.mem_of_getElem? (i := 1) rfl) (sub_1 (List.mem_of_getElem? (i := 2) rfl) (sub_1 (List.mem_of_getElem? (i := 3) rfl) (sub_1 (List.mem_of_getElem? (i := 4) rfl) sub_0)))))
      refine lv_aload_n hx hb dX10_likes_24 rfl (lv_at hl 0 rfl) ?_
      refine va_get (D := D) (ci := 10) (v := .ref (a 8)) (C := RX10) (T := TX10) (N := 38) hx hb hT in_X10 hown hK hP 0 mw_0 rfl 16 (by decide) (hT _ t1278) (fun _ h9 => h9) rfl dX10_likes_25 ?_
      refine lv_bipush (v := 8) hx hb dX10_likes_28 (by decide) ?_
      refine lv_iload_n hx hb dX10_likes_30 rfl (lv_at hl 1 rfl) ?_
      refine lv_imul hx hb dX10_likes_31 ?_
      refine lv_topi (fun z13 ez13 => ?_)
      have h14 : Iv 0 56 z13 := iv_mull ez13 h3 (k := 8) (by decide) (by decide) (by decide) (by decide) (by decide) (by decide)
      refine lv_iload_n hx hb dX10_likes_32 rfl (lv_at hl 2 rfl) ?_
      refine lv_iadd hx hb dX10_likes_33 ?_
      refine lv_topi (fun z15 ez15 => ?_)
      have h16 : Iv 0 63 z15 := iv_add ez15 h14 h9 (by decide) (by decide) (by decide) (by decide)
      refine va_iald hx hb hK hP 8 0 mw_8 rfl (iv_in h16 (by decide) (by decide)) dX10_likes_34 ?_
      refine lv_topi (fun z17 ez17 => ?_)
      rw [hQ]
      exact W.iret (v := z17) hx hb hr (fun t ht hW => ⟨⟨z17, s11, rfl, ⟨hBs11, hFs11, trivial⟩, by rw [ht]; exact hP, va_K.moved hW.alike (hK.sub (tys' := []) [] rfl), by rw [hAe]; exact hD⟩, by rw [hAe]; exact hS.F ht⟩) hS.2.2 dX10_likes_35
    · skip
      have g18 := g9
      refine lv_if_ne (tgt := 20) hx hb dX10_likes_14 (by decide) (fun c19 => ?_) (fun c19 => ?_)
      · first | exact absurd c19 (by decide) | exact absurd (by decide) c19
      refine lv_bipush (v := (-2)) hx hb dX10_likes_17 (by decide) ?_
      rw [hQ]
      exact W.iret (v := (-2)) hx hb hr (fun t ht hW => ⟨⟨(-2), st, rfl, ⟨hB, fr_rf, trivial⟩, by rw [ht]; exact hP, va_K.moved hW.alike (hK.sub (tys' := []) [] rfl), by rw [hAe]; exact hD⟩, by rw [hAe]; exact hS.F ht⟩) hS.2.2 dX10_likes_19
  · skip
    have g20 := g9
    refine lv_if_eq (tgt := 17) hx hb dX10_likes_5 (by decide) (fun c21 => ?_) (fun c21 => ?_)
    rotate_left
    · first | exact absurd c21 (by decide) | exact absurd (by decide) c21
    refine lv_bipush (v := (-2)) hx hb dX10_likes_17 (by decide) ?_
    rw [hQ]
    exact W.iret (v := (-2)) hx hb hr (fun t ht hW => ⟨⟨(-2), st, rfl, ⟨hB, fr_rf, trivial⟩, by rw [ht]; exact hP, va_K.moved hW.alike (hK.sub (tys' := []) [] rfl), by rw [hAe]; exact hD⟩, by rw [hAe]; exact hS.F ht⟩) hS.2.2 dX10_likes_19
set_option maxHeartbeats 4000000 in
set_option maxRecDepth 100000 in
theorem m_X10_wheel (l : Launch) (D : va_G) (k : Nat → ClassId) (a : Nat → Nat) (st : CT) (sl : CL) (p0 : Int32) (p1 : Int32) (sz : Nat) (hB : MB st)  (hw : WOK (st 1)) : Met l yX10_wheel (.code yX10_wheel cX10_wheel 3 (some .int) :: TB) (rmw 8 0 0) (va_Pc [.ref (a 0), .int p0, .int p1] (PW D k sz (MWS k a st sl))) (QI D (S := CT) (fun r u => MB u ∧ FR [7, 9, 8, 10, 11] st u ∧ ((True))) (fun u => MWS k a u sl) (fun _ => []) (MWS k a st sl) sz) 0 0 (va_A (MWS k a st sl) sz) := by
  refine Met.ofW (cc := cX10_wheel) (maxL := 3) (ret := (some .int)) (by decide) rfl ?_
  intro p e s m args below meth c s₁ B hml hv
  obtain ⟨rfl, hsz, hP, hK, hD0, hN⟩ := hv
  have hx := B.exec
  have hb := B.bytes
  have hr := B.returns
  have hT : ∀ w9 ∈ TB, w9.before ([.ref (a 0), .int p0, .int p1] : List Value).toArray s = true := fun w9 h => atoms_spec (ws := .code yX10_wheel cX10_wheel 3 (some .int) :: TB) B.pre w9 (List.mem_cons_of_mem _ h)
  have hown : s.vm.findClass RX10 = some m.cls := findClass_of_methodNamed B.named
  have S : CallFix p m c cX10_wheel 3 s _ TB RX10 := ⟨hx, hb, hml, hown, hT⟩
  subst hsz
  have hD := hD0.self (sz := s.heap.size)
  generalize hAe : va_A (MWS k a st sl) s.heap.size = A at hD ⊢
  have hA : ∀ q : Nat, s.heap.size ≤ q → A q := fun q h => by rw [← hAe]; exact Or.inr h
  have hS : va_S A s.heap s.heap [] := va_S.rf
  have hl := lv_entry ([.ref (a 0), .int p0, .int p1]) (n := 3) (Nat.le_of_ble_eq_true rfl)
  rw [lg_entry_eq]
  generalize (lg_sl ([.ref (a 0), .int p0, .int p1]) ++ List.replicate (3 - (lg_sl ([.ref (a 0), .int p0, .int p1])).length) Slot.unset).toArray = ls at hl ⊢
  have hl : lv_has ls 3 [(0, .ref (a 0)), (1, .int p0), (2, .int p1)] := hl
  refine nameQ (fun Q hQ => ?_)
  refine lv_aload_n hx hb dX10_wheel_0 rfl (lv_at hl 0 rfl) ?_
  refine lv_iload_n hx hb dX10_wheel_1 rfl (lv_at hl 1 rfl) ?_
  refine ro_V (As := [.int p0]) (rest := []) S (m_X10_isWheel l D k a st sl  p0 _  hB  hw) lkX10_269 ok_X10_isWheel ⟨rfl, rfl, Nat.le_of_ble_eq_true rfl, Nat.le_of_ble_eq_true rfl⟩ (pw_V (ci := 10) (q0 := 0) hK hN rfl mw_0 hP (hD.weaken (fun _ _ _ _ => trivial))) rfl hl.1 rfl (Nat.le_of_ble_eq_true rfl) ⟨Nat.zero_le _, Nat.zero_le _⟩ dX10_wheel_2 (fun r1 er1 => ?_)
  rcases er1 with ⟨rfl, g9⟩ | ⟨rfl, g9⟩
  · skip
    have g2 := g9
    have h3 : Iv 0 7 p0 := g2.1
    have k4 := g2.2
    refine lv_if_eq (tgt := 20) hx hb dX10_wheel_5 (by decide) (fun c5 => ?_) (fun c5 => ?_)
    · first | exact absurd c5 (by decide) | exact absurd (by decide) c5
    refine lv_iload_n hx hb dX10_wheel_8 rfl (lv_at hl 2 rfl) ?_
    refine lv_i2l hx hb dX10_wheel_9 rfl ?_
    refine lv_lconst (v := 0) hx hb dX10_wheel_10 (by decide) ?_
    refine lv_ldc2 (v := 2) hx hb hown (hT _ t1381) dX10_wheel_11 ?_
    refine ro_S (As := [.long (p1.toInt64), .long 0, .long 2]) (rest := []) S (m_X10_in l D k a st sl  (p1.toInt64) 0 2 _  hB  ) lkX10_85 ok_X10_in ⟨rfl, rfl, Nat.le_of_ble_eq_true rfl, Nat.le_of_ble_eq_true rfl⟩ (pw_S hK hN hP (hD.weaken (fun _ _ _ _ => trivial))) rfl hl.1 rfl (Nat.le_of_ble_eq_true rfl) ⟨Nat.zero_le _, Nat.zero_le _⟩ dX10_wheel_14 (fun r6 er6 => ?_)
    rcases er6 with ⟨rfl, g9⟩ | ⟨rfl, g9⟩
    · skip
      have g7 := g9
      have k8 := g7
      have h9 : (0 : Int) ≤ (p1.toInt64).toInt ∧ (p1.toInt64).toInt ≤ (2 : Int) := ⟨((show (0 : Int) ≤ (p1.toInt64).toInt ∧ (p1.toInt64).toInt ≤ (2 : Int) from ⟨Int.le_trans ((⟨by decide, by decide⟩ : (0 : Int) ≤ (0 : Int64).toInt ∧ (0 : Int64).toInt ≤ (0 : Int))).1 k8.1, Int.le_trans k8.2 ((⟨by decide, by decide⟩ : (2 : Int) ≤ (2 : Int64).toInt ∧ (2 : Int64).toInt ≤ (2 : Int))).2⟩)).1, ((show (0 : Int) ≤ (p1.toInt64).toInt ∧ (p1.toInt64).toInt ≤ (2 : Int) from ⟨Int.le_trans ((⟨by decide, by decide⟩ : (0 : Int) ≤ (0 : Int64).toInt ∧ (0 : Int64).toInt ≤ (0 : Int))).1 k8.1, Int.le_trans k8.2 ((⟨by decide, by decide⟩ : (2 : Int) ≤ (2 : Int64).toInt ∧ (2 : Int64).toInt ≤ (2 : Int))).2⟩)).2⟩
      have h10 : Iv 0 2 p1 := iv_lv h9
      refine lv_if_ne (tgt := 23) hx hb dX10_wheel_17 (by decide) (fun c11 => ?_) (fun c11 => ?_)
      rotate_left
      · first | exact absurd c11 (by decide) | exact absurd (by decide) c11
      refine lv_aload_n hx hb dX10_wheel_23 rfl (lv_at hl 0 rfl) ?_
      refine ca_v hP hD hS hA (fun hDc => run_V (mc := 0) (ms := 0) (As := []) (rest := []) S (m_X10_asItIs l D k a st sl   _  hB  hw) lkX10_273 ok_X10_asItIs ⟨rfl, rfl, Nat.le_of_ble_eq_true rfl, Nat.le_of_ble_eq_true rfl⟩ (pw_V (ci := 10) (q0 := 0) hK hN rfl mw_0 hP hDc) rfl hl.1 rfl (Nat.le_of_ble_eq_true rfl) ⟨Nat.zero_le _, Nat.zero_le _⟩ dX10_wheel_24) (fun s12 H9 locs9 hs12 hP9 hD9 hS9 => ?_)
      clear hP hD hS
      have hS := hS9
      have hP := hP9
      have hD := hD9
      clear hP9 hD9 hS9
      obtain ⟨hBs12, gs12, fs12⟩ := hs12
      have hFs12 : FR [7, 9, 8, 10, 11] st s12 := fr_ca fr_rf gs12 (sub_1 (List.mem_of_getElem? (i := 0) rfl) (sub_1 (List.mem_of_getElem? (i := 1) rfl) (sub_1 (List.mem_of_getElem? (i := 2) rfl) (sub_1 (List.mem_of_getElem? (i := 3) rfl) (sub_1 (List.mem_of_getElem? (i := 4) rfl) sub_0)))))
      refine lv_iload_n hx hb dX10_wheel_27 rfl (lv_at hl 2 rfl) ?_
      refine lv_if_ne (tgt := 40) hx hb dX10_wheel_28 (by decide) (fun c14 => ?_) (fun c14 => ?_)
      · skip
        have h15 : Iv 1 2 p1 := ne_lo h10 (show ¬ p1 = 0 from c14) (by decide) (by decide)
        refine lv_iload_n hx hb dX10_wheel_40 rfl (lv_at hl 2 rfl) ?_
        refine lv_iconst (v := 1) hx hb dX10_wheel_41 (by decide) ?_
        refine lv_icmp_ne (tgt := 54) hx hb dX10_wheel_42 (by decide) (fun c16 => ?_) (fun c16 => ?_)
        · skip
          have h17 : Iv 2 2 p1 := ne_lo h15 (show ¬ p1 = 1 from c16) (by decide) (by decide)
          refine lv_aload_n hx hb dX10_wheel_54 rfl (lv_at hl 0 rfl) ?_
          refine lv_iload_n hx hb dX10_wheel_55 rfl (lv_at hl 1 rfl) ?_
          refine ro_V (As := [.int p0]) (rest := []) S (m_X10_likedOf l D k a s12 sl  p0 _  hBs12 h3 ) lkX10_276 ok_X10_likedOf ⟨rfl, rfl, Nat.le_of_ble_eq_true rfl, Nat.le_of_ble_eq_true rfl⟩ (pw_V (ci := 10) (q0 := 0) hK hN rfl mw_0 hP (hD.weaken (fun _ _ _ _ => trivial))) rfl hl.1 rfl (Nat.le_of_ble_eq_true rfl) ⟨Nat.zero_le _, Nat.zero_le _⟩ dX10_wheel_56 (fun r18 er18 => ?_)
          rw [hQ]
          exact W.iret (v := r18) hx hb hr (fun t ht hW => ⟨⟨r18, s12, rfl, ⟨hBs12, hFs12, trivial⟩, by rw [ht]; exact hP, va_K.moved hW.alike (hK.sub (tys' := []) [] rfl), by rw [hAe]; exact hD⟩, by rw [hAe]; exact hS.F ht⟩) hS.2.2 dX10_wheel_59
        · skip
          have h19 : Iv 1 1 p1 := eq_l c16 (iv_c (by decide) : Iv 1 1 1)
          refine lv_aload_n hx hb dX10_wheel_45 rfl (lv_at hl 0 rfl) ?_
          refine va_get (D := D) (ci := 10) (v := .ref (a 9)) (C := RX10) (T := TX10) (N := 38) hx hb hT in_X10 hown hK hP 0 mw_0 rfl 17 (by decide) (hT _ t1279) (fun _ h9 => h9) rfl dX10_wheel_46 ?_
          refine lv_iload_n hx hb dX10_wheel_49 rfl (lv_at hl 1 rfl) ?_
          refine va_iald hx hb hK hP 9 0 mw_9 rfl (iv_in h3 (by decide) (by decide)) dX10_wheel_50 ?_
          refine lv_topi (fun z20 ez20 => ?_)
          refine lv_goto (tgt := 59) hx hb dX10_wheel_51 (by decide) ?_
          rw [hQ]
          exact W.iret (v := z20) hx hb hr (fun t ht hW => ⟨⟨z20, s12, rfl, ⟨hBs12, hFs12, trivial⟩, by rw [ht]; exact hP, va_K.moved hW.alike (hK.sub (tys' := []) [] rfl), by rw [hAe]; exact hD⟩, by rw [hAe]; exact hS.F ht⟩) hS.2.2 dX10_wheel_59
      · skip
        have h21 : Iv 0 0 p1 := eq_l c14 (iv_c (by decide) : Iv 0 0 0)
        refine lv_aload_n hx hb dX10_wheel_31 rfl (lv_at hl 0 rfl) ?_
        refine va_get (D := D) (ci := 10) (v := .ref (a 7)) (C := RX10) (T := TX10) (N := 38) hx hb hT in_X10 hown hK hP 0 mw_0 rfl 15 (by decide) (hT _ t1277) (fun _ h9 => h9) rfl dX10_wheel_32 ?_
        refine lv_iload_n hx hb dX10_wheel_35 rfl (lv_at hl 1 rfl) ?_
        refine va_iald hx hb hK hP 7 0 mw_7 rfl (iv_in h3 (by decide) (by decide)) dX10_wheel_36 ?_
        refine lv_topi (fun z22 ez22 => ?_)
        refine lv_goto (tgt := 59) hx hb dX10_wheel_37 (by decide) ?_
        rw [hQ]
        exact W.iret (v := z22) hx hb hr (fun t ht hW => ⟨⟨z22, s12, rfl, ⟨hBs12, hFs12, trivial⟩, by rw [ht]; exact hP, va_K.moved hW.alike (hK.sub (tys' := []) [] rfl), by rw [hAe]; exact hD⟩, by rw [hAe]; exact hS.F ht⟩) hS.2.2 dX10_wheel_59
    · skip
      have g23 := g9
      have k24 := g23
      refine lv_if_ne (tgt := 23) hx hb dX10_wheel_17 (by decide) (fun c25 => ?_) (fun c25 => ?_)
      · first | exact absurd c25 (by decide) | exact absurd (by decide) c25
      refine lv_bipush (v := (-2)) hx hb dX10_wheel_20 (by decide) ?_
      rw [hQ]
      exact W.iret (v := (-2)) hx hb hr (fun t ht hW => ⟨⟨(-2), st, rfl, ⟨hB, fr_rf, trivial⟩, by rw [ht]; exact hP, va_K.moved hW.alike (hK.sub (tys' := []) [] rfl), by rw [hAe]; exact hD⟩, by rw [hAe]; exact hS.F ht⟩) hS.2.2 dX10_wheel_22
  · skip
    have g26 := g9
    refine lv_if_eq (tgt := 20) hx hb dX10_wheel_5 (by decide) (fun c27 => ?_) (fun c27 => ?_)
    rotate_left
    · first | exact absurd c27 (by decide) | exact absurd (by decide) c27
    refine lv_bipush (v := (-2)) hx hb dX10_wheel_20 (by decide) ?_
    rw [hQ]
    exact W.iret (v := (-2)) hx hb hr (fun t ht hW => ⟨⟨(-2), st, rfl, ⟨hB, fr_rf, trivial⟩, by rw [ht]; exact hP, va_K.moved hW.alike (hK.sub (tys' := []) [] rfl), by rw [hAe]; exact hD⟩, by rw [hAe]; exact hS.F ht⟩) hS.2.2 dX10_wheel_22
set_option maxHeartbeats 4000000 in
set_option maxRecDepth 100000 in
theorem m_X10_cart (l : Launch) (D : va_G) (k : Nat → ClassId) (a : Nat → Nat) (st : CT) (sl : CL) (p0 : Int32) (p1 : Int32) (sz : Nat) (hB : MB st)  (hw : WOK (st 1)) : Met l yX10_cart (.code yX10_cart cX10_cart 3 (some .int) :: TB) (rmw 8 0 0) (va_Pc [.ref (a 0), .int p0, .int p1] (PW D k sz (MWS k a st sl))) (QI D (S := CT) (fun r u => MB u ∧ FR [7, 9, 8, 10, 11] st u ∧ ((True))) (fun u => MWS k a u sl) (fun _ => []) (MWS k a st sl) sz) 0 0 (va_A (MWS k a st sl) sz) := by
  refine Met.ofW (cc := cX10_cart) (maxL := 3) (ret := (some .int)) (by decide) rfl ?_
  intro p e s m args below meth c s₁ B hml hv
  obtain ⟨rfl, hsz, hP, hK, hD0, hN⟩ := hv
  have hx := B.exec
  have hb := B.bytes
  have hr := B.returns
  have hT : ∀ w9 ∈ TB, w9.before ([.ref (a 0), .int p0, .int p1] : List Value).toArray s = true := fun w9 h => atoms_spec (ws := .code yX10_cart cX10_cart 3 (some .int) :: TB) B.pre w9 (List.mem_cons_of_mem _ h)
  have hown : s.vm.findClass RX10 = some m.cls := findClass_of_methodNamed B.named
  have S : CallFix p m c cX10_cart 3 s _ TB RX10 := ⟨hx, hb, hml, hown, hT⟩
  subst hsz
  have hD := hD0.self (sz := s.heap.size)
  generalize hAe : va_A (MWS k a st sl) s.heap.size = A at hD ⊢
  have hA : ∀ q : Nat, s.heap.size ≤ q → A q := fun q h => by rw [← hAe]; exact Or.inr h
  have hS : va_S A s.heap s.heap [] := va_S.rf
  have hl := lv_entry ([.ref (a 0), .int p0, .int p1]) (n := 3) (Nat.le_of_ble_eq_true rfl)
  rw [lg_entry_eq]
  generalize (lg_sl ([.ref (a 0), .int p0, .int p1]) ++ List.replicate (3 - (lg_sl ([.ref (a 0), .int p0, .int p1])).length) Slot.unset).toArray = ls at hl ⊢
  have hl : lv_has ls 3 [(0, .ref (a 0)), (1, .int p0), (2, .int p1)] := hl
  refine nameQ (fun Q hQ => ?_)
  refine lv_aload_n hx hb dX10_cart_0 rfl (lv_at hl 0 rfl) ?_
  refine lv_iload_n hx hb dX10_cart_1 rfl (lv_at hl 1 rfl) ?_
  refine ro_V (As := [.int p0]) (rest := []) S (m_X10_isCart l D k a st sl  p0 _  hB  hw) lkX10_279 ok_X10_isCart ⟨rfl, rfl, Nat.le_of_ble_eq_true rfl, Nat.le_of_ble_eq_true rfl⟩ (pw_V (ci := 10) (q0 := 0) hK hN rfl mw_0 hP (hD.weaken (fun _ _ _ _ => trivial))) rfl hl.1 rfl (Nat.le_of_ble_eq_true rfl) ⟨Nat.zero_le _, Nat.zero_le _⟩ dX10_cart_2 (fun r1 er1 => ?_)
  rcases er1 with ⟨rfl, g9⟩ | ⟨rfl, g9⟩
  · skip
    have g2 := g9
    have h3 : Iv 0 2 p0 := g2.1
    refine lv_if_eq (tgt := 20) hx hb dX10_cart_5 (by decide) (fun c4 => ?_) (fun c4 => ?_)
    · first | exact absurd c4 (by decide) | exact absurd (by decide) c4
    refine lv_iload_n hx hb dX10_cart_8 rfl (lv_at hl 2 rfl) ?_
    refine lv_i2l hx hb dX10_cart_9 rfl ?_
    refine lv_lconst (v := 0) hx hb dX10_cart_10 (by decide) ?_
    refine lv_ldc2 (v := 2) hx hb hown (hT _ t1381) dX10_cart_11 ?_
    refine ro_S (As := [.long (p1.toInt64), .long 0, .long 2]) (rest := []) S (m_X10_in l D k a st sl  (p1.toInt64) 0 2 _  hB  ) lkX10_85 ok_X10_in ⟨rfl, rfl, Nat.le_of_ble_eq_true rfl, Nat.le_of_ble_eq_true rfl⟩ (pw_S hK hN hP (hD.weaken (fun _ _ _ _ => trivial))) rfl hl.1 rfl (Nat.le_of_ble_eq_true rfl) ⟨Nat.zero_le _, Nat.zero_le _⟩ dX10_cart_14 (fun r5 er5 => ?_)
    rcases er5 with ⟨rfl, g9⟩ | ⟨rfl, g9⟩
    · skip
      have g6 := g9
      have k7 := g6
      have h8 : (0 : Int) ≤ (p1.toInt64).toInt ∧ (p1.toInt64).toInt ≤ (2 : Int) := ⟨((show (0 : Int) ≤ (p1.toInt64).toInt ∧ (p1.toInt64).toInt ≤ (2 : Int) from ⟨Int.le_trans ((⟨by decide, by decide⟩ : (0 : Int) ≤ (0 : Int64).toInt ∧ (0 : Int64).toInt ≤ (0 : Int))).1 k7.1, Int.le_trans k7.2 ((⟨by decide, by decide⟩ : (2 : Int) ≤ (2 : Int64).toInt ∧ (2 : Int64).toInt ≤ (2 : Int))).2⟩)).1, ((show (0 : Int) ≤ (p1.toInt64).toInt ∧ (p1.toInt64).toInt ≤ (2 : Int) from ⟨Int.le_trans ((⟨by decide, by decide⟩ : (0 : Int) ≤ (0 : Int64).toInt ∧ (0 : Int64).toInt ≤ (0 : Int))).1 k7.1, Int.le_trans k7.2 ((⟨by decide, by decide⟩ : (2 : Int) ≤ (2 : Int64).toInt ∧ (2 : Int64).toInt ≤ (2 : Int))).2⟩)).2⟩
      have h9 : Iv 0 2 p1 := iv_lv h8
      refine lv_if_ne (tgt := 23) hx hb dX10_cart_17 (by decide) (fun c10 => ?_) (fun c10 => ?_)
      rotate_left
      · first | exact absurd c10 (by decide) | exact absurd (by decide) c10
      refine lv_aload_n hx hb dX10_cart_23 rfl (lv_at hl 0 rfl) ?_
      refine ca_v hP hD hS hA (fun hDc => run_V (mc := 0) (ms := 0) (As := []) (rest := []) S (m_X10_asItIs l D k a st sl   _  hB  hw) lkX10_273 ok_X10_asItIs ⟨rfl, rfl, Nat.le_of_ble_eq_true rfl, Nat.le_of_ble_eq_true rfl⟩ (pw_V (ci := 10) (q0 := 0) hK hN rfl mw_0 hP hDc) rfl hl.1 rfl (Nat.le_of_ble_eq_true rfl) ⟨Nat.zero_le _, Nat.zero_le _⟩ dX10_cart_24) (fun s11 H9 locs9 hs11 hP9 hD9 hS9 => ?_)
      clear hP hD hS
      have hS := hS9
      have hP := hP9
      have hD := hD9
      clear hP9 hD9 hS9
      obtain ⟨hBs11, gs11, fs11⟩ := hs11
      have hFs11 : FR [7, 9, 8, 10, 11] st s11 := fr_ca fr_rf gs11 (sub_1 (List.mem_of_getElem? (i := 0) rfl) (sub_1 (List.mem_of_getElem? (i := 1) rfl) (sub_1 (List.mem_of_getElem? (i := 2) rfl) (sub_1 (List.mem_of_getElem? (i := 3) rfl) (sub_1 (List.mem_of_getElem? (i := 4) rfl) sub_0)))))
      refine lv_iload_n hx hb dX10_cart_27 rfl (lv_at hl 2 rfl) ?_
      refine lv_if_ne (tgt := 40) hx hb dX10_cart_28 (by decide) (fun c13 => ?_) (fun c13 => ?_)
      · skip
        have h14 : Iv 1 2 p1 := ne_lo h9 (show ¬ p1 = 0 from c13) (by decide) (by decide)
        refine lv_iload_n hx hb dX10_cart_40 rfl (lv_at hl 2 rfl) ?_
        refine lv_iconst (v := 1) hx hb dX10_cart_41 (by decide) ?_
        refine lv_icmp_ne (tgt := 53) hx hb dX10_cart_42 (by decide) (fun c15 => ?_) (fun c15 => ?_)
        · skip
          have h16 : Iv 2 2 p1 := ne_lo h14 (show ¬ p1 = 1 from c15) (by decide) (by decide)
          refine lv_aload_n hx hb dX10_cart_53 rfl (lv_at hl 0 rfl) ?_
          refine va_get (D := D) (ci := 10) (v := .ref (a 11)) (C := RX10) (T := TX10) (N := 38) hx hb hT in_X10 hown hK hP 0 mw_0 rfl 19 (by decide) (hT _ t1281) (fun _ h9 => h9) rfl dX10_cart_54 ?_
          refine lv_iload_n hx hb dX10_cart_57 rfl (lv_at hl 1 rfl) ?_
          refine va_iald hx hb hK hP 11 0 mw_11 rfl (iv_in h3 (by decide) (by decide)) dX10_cart_58 ?_
          refine lv_topi (fun z17 ez17 => ?_)
          rw [hQ]
          exact W.iret (v := z17) hx hb hr (fun t ht hW => ⟨⟨z17, s11, rfl, ⟨hBs11, hFs11, trivial⟩, by rw [ht]; exact hP, va_K.moved hW.alike (hK.sub (tys' := []) [] rfl), by rw [hAe]; exact hD⟩, by rw [hAe]; exact hS.F ht⟩) hS.2.2 dX10_cart_59
        · skip
          have h18 : Iv 1 1 p1 := eq_l c15 (iv_c (by decide) : Iv 1 1 1)
          refine lv_aload_n hx hb dX10_cart_45 rfl (lv_at hl 0 rfl) ?_
          refine lv_iload_n hx hb dX10_cart_46 rfl (lv_at hl 1 rfl) ?_
          refine ro_V (As := [.int p0]) (rest := []) S (m_X10_wheelsOf l D k a s11 sl  p0 _  hBs11  (wok_of (hFs11 1 (nm_1 (by decide) (nm_1 (by decide) (nm_1 (by decide) (nm_1 (by decide) (nm_1 (by decide) nm_0)))))) hw)) lkX10_246 ok_X10_wheelsOf ⟨rfl, rfl, Nat.le_of_ble_eq_true rfl, Nat.le_of_ble_eq_true rfl⟩ (pw_V (ci := 10) (q0 := 0) hK hN rfl mw_0 hP (hD.weaken (fun _ _ _ _ => trivial))) rfl hl.1 rfl (Nat.le_of_ble_eq_true rfl) ⟨Nat.zero_le _, Nat.zero_le _⟩ dX10_cart_47 (fun r19 er19 => ?_)
          have h20 : Iv 0 255 r19 := er19.1
          have k21 := er19.2
          refine lv_goto (tgt := 59) hx hb dX10_cart_50 (by decide) ?_
          rw [hQ]
          exact W.iret (v := r19) hx hb hr (fun t ht hW => ⟨⟨r19, s11, rfl, ⟨hBs11, hFs11, trivial⟩, by rw [ht]; exact hP, va_K.moved hW.alike (hK.sub (tys' := []) [] rfl), by rw [hAe]; exact hD⟩, by rw [hAe]; exact hS.F ht⟩) hS.2.2 dX10_cart_59
      · skip
        have h22 : Iv 0 0 p1 := eq_l c13 (iv_c (by decide) : Iv 0 0 0)
        refine lv_aload_n hx hb dX10_cart_31 rfl (lv_at hl 0 rfl) ?_
        refine va_get (D := D) (ci := 10) (v := .ref (a 10)) (C := RX10) (T := TX10) (N := 38) hx hb hT in_X10 hown hK hP 0 mw_0 rfl 18 (by decide) (hT _ t1280) (fun _ h9 => h9) rfl dX10_cart_32 ?_
        refine lv_iload_n hx hb dX10_cart_35 rfl (lv_at hl 1 rfl) ?_
        refine va_iald hx hb hK hP 10 0 mw_10 rfl (iv_in h3 (by decide) (by decide)) dX10_cart_36 ?_
        refine lv_topi (fun z23 ez23 => ?_)
        refine lv_goto (tgt := 59) hx hb dX10_cart_37 (by decide) ?_
        rw [hQ]
        exact W.iret (v := z23) hx hb hr (fun t ht hW => ⟨⟨z23, s11, rfl, ⟨hBs11, hFs11, trivial⟩, by rw [ht]; exact hP, va_K.moved hW.alike (hK.sub (tys' := []) [] rfl), by rw [hAe]; exact hD⟩, by rw [hAe]; exact hS.F ht⟩) hS.2.2 dX10_cart_59
    · skip
      have g24 := g9
      have k25 := g24
      refine lv_if_ne (tgt := 23) hx hb dX10_cart_17 (by decide) (fun c26 => ?_) (fun c26 => ?_)
      · first | exact absurd c26 (by decide) | exact absurd (by decide) c26
      refine lv_bipush (v := (-2)) hx hb dX10_cart_20 (by decide) ?_
      rw [hQ]
      exact W.iret (v := (-2)) hx hb hr (fun t ht hW => ⟨⟨(-2), st, rfl, ⟨hB, fr_rf, trivial⟩, by rw [ht]; exact hP, va_K.moved hW.alike (hK.sub (tys' := []) [] rfl), by rw [hAe]; exact hD⟩, by rw [hAe]; exact hS.F ht⟩) hS.2.2 dX10_cart_22
  · skip
    have g27 := g9
    refine lv_if_eq (tgt := 20) hx hb dX10_cart_5 (by decide) (fun c28 => ?_) (fun c28 => ?_)
    rotate_left
    · first | exact absurd c28 (by decide) | exact absurd (by decide) c28
    refine lv_bipush (v := (-2)) hx hb dX10_cart_20 (by decide) ?_
    rw [hQ]
    exact W.iret (v := (-2)) hx hb hr (fun t ht hW => ⟨⟨(-2), st, rfl, ⟨hB, fr_rf, trivial⟩, by rw [ht]; exact hP, va_K.moved hW.alike (hK.sub (tys' := []) [] rfl), by rw [hAe]; exact hD⟩, by rw [hAe]; exact hS.F ht⟩) hS.2.2 dX10_cart_22
set_option maxHeartbeats 4000000 in
set_option maxRecDepth 100000 in
theorem m_X10_errand (l : Launch) (D : va_G) (k : Nat → ClassId) (a : Nat → Nat) (st : CT) (sl : CL) (p0 : Int32) (p1 : Int32) (sz : Nat) (hB : MB st)  (hw : WOK (st 1)) : Met l yX10_errand (.code yX10_errand cX10_errand 3 (some .int) :: TB) (rmk 2) (va_Pc [.ref (a 0), .int p0, .int p1] (PW D k sz (MWS k a st sl))) (vp_Si (fun r => (True))) 0 0 (fun _ => False) := by
  refine Met.ofW (cc := cX10_errand) (maxL := 3) (ret := (some .int)) (by decide) rfl ?_
  intro p e s m args below meth c s₁ B hml hv
  obtain ⟨rfl, hsz, hP, hK, hD0, hN⟩ := hv
  have hx := B.exec
  have hb := B.bytes
  have hr := B.returns
  have hT : ∀ w9 ∈ TB, w9.before ([.ref (a 0), .int p0, .int p1] : List Value).toArray s = true := fun w9 h => atoms_spec (ws := .code yX10_errand cX10_errand 3 (some .int) :: TB) B.pre w9 (List.mem_cons_of_mem _ h)
  have hown : s.vm.findClass RX10 = some m.cls := findClass_of_methodNamed B.named
  have S : CallFix p m c cX10_errand 3 s _ TB RX10 := ⟨hx, hb, hml, hown, hT⟩
  subst hsz
  have hl := lv_entry ([.ref (a 0), .int p0, .int p1]) (n := 3) (Nat.le_of_ble_eq_true rfl)
  rw [lg_entry_eq]
  generalize (lg_sl ([.ref (a 0), .int p0, .int p1]) ++ List.replicate (3 - (lg_sl ([.ref (a 0), .int p0, .int p1])).length) Slot.unset).toArray = ls at hl ⊢
  have hl : lv_has ls 3 [(0, .ref (a 0)), (1, .int p0), (2, .int p1)] := hl
  refine nameQ (fun Q hQ => ?_)
  refine lv_iload_n hx hb dX10_errand_0 rfl (lv_at hl 1 rfl) ?_
  refine lv_i2l hx hb dX10_errand_1 rfl ?_
  refine lv_lconst (v := 0) hx hb dX10_errand_2 (by decide) ?_
  refine lv_aload_n hx hb dX10_errand_3 rfl (lv_at hl 0 rfl) ?_
  refine va_get (D := D) (ci := 10) (v := .ref (a 1)) (C := RX10) (T := TX10) (N := 38) hx hb hT in_X10 hown hK hP 0 mw_0 rfl 1 (by decide) (hT _ t1263) (fun _ h9 => h9) rfl dX10_errand_4 ?_
  refine lv_iconst (v := 5) hx hb dX10_errand_7 (by decide) ?_
  refine va_iald hx hb hK hP 1 0 mw_1 rfl (by unfold vp_in; decide) dX10_errand_8 ?_
  refine k_top (y := (st 1 5)) rfl ?_
  have h1 : Iv 0 6 (st 1 5) := (tok_at (hw).1 5 0 6 (by decide) (by decide) (by decide))
  refine lv_iconst (v := 1) hx hb dX10_errand_9 (by decide) ?_
  refine lv_isub hx hb dX10_errand_10 ?_
  refine lv_topi (fun z2 ez2 => ?_)
  have h3 : Iv (-1) 5 z2 := iv_sub ez2 h1 (iv_c (by decide) : Iv 1 1 1) (by decide) (by decide) (by decide) (by decide)
  refine lv_i2l hx hb dX10_errand_11 rfl ?_
  refine ro_S (As := [.long (p0.toInt64), .long 0, .long (z2.toInt64)]) (rest := []) S (m_X10_in l D k a st sl  (p0.toInt64) 0 (z2.toInt64) _  hB  ) lkX10_85 ok_X10_in ⟨rfl, rfl, Nat.le_of_ble_eq_true rfl, Nat.le_of_ble_eq_true rfl⟩ (pw_S hK hN hP hD0) rfl hl.1 rfl (Nat.le_of_ble_eq_true rfl) ⟨Nat.zero_le _, Nat.zero_le _⟩ dX10_errand_12 (fun r4 er4 => ?_)
  rcases er4 with ⟨rfl, g9⟩ | ⟨rfl, g9⟩
  · skip
    have g5 := g9
    have k6 := g5
    have h7 : (0 : Int) ≤ (p0.toInt64).toInt ∧ (p0.toInt64).toInt ≤ (5 : Int) := ⟨((show (0 : Int) ≤ (p0.toInt64).toInt ∧ (p0.toInt64).toInt ≤ (5 : Int) from ⟨Int.le_trans ((⟨by decide, by decide⟩ : (0 : Int) ≤ (0 : Int64).toInt ∧ (0 : Int64).toInt ≤ (0 : Int))).1 k6.1, Int.le_trans k6.2 ((lv_iv h3)).2⟩)).1, ((show (0 : Int) ≤ (p0.toInt64).toInt ∧ (p0.toInt64).toInt ≤ (5 : Int) from ⟨Int.le_trans ((⟨by decide, by decide⟩ : (0 : Int) ≤ (0 : Int64).toInt ∧ (0 : Int64).toInt ≤ (0 : Int))).1 k6.1, Int.le_trans k6.2 ((lv_iv h3)).2⟩)).2⟩
    have h8 : Iv 0 5 p0 := iv_lv h7
    refine lv_if_eq (tgt := 46) hx hb dX10_errand_15 (by decide) (fun c9 => ?_) (fun c9 => ?_)
    · first | exact absurd c9 (by decide) | exact absurd (by decide) c9
    refine lv_iload_n hx hb dX10_errand_18 rfl (lv_at hl 2 rfl) ?_
    refine lv_i2l hx hb dX10_errand_19 rfl ?_
    refine lv_lconst (v := 0) hx hb dX10_errand_20 (by decide) ?_
    refine lv_ldc2 (v := 2) hx hb hown (hT _ t1381) dX10_errand_21 ?_
    refine ro_S (As := [.long (p1.toInt64), .long 0, .long 2]) (rest := []) S (m_X10_in l D k a st sl  (p1.toInt64) 0 2 _  hB  ) lkX10_85 ok_X10_in ⟨rfl, rfl, Nat.le_of_ble_eq_true rfl, Nat.le_of_ble_eq_true rfl⟩ (pw_S hK hN hP hD0) rfl hl.1 rfl (Nat.le_of_ble_eq_true rfl) ⟨Nat.zero_le _, Nat.zero_le _⟩ dX10_errand_24 (fun r10 er10 => ?_)
    rcases er10 with ⟨rfl, g9⟩ | ⟨rfl, g9⟩
    · skip
      have g11 := g9
      have k12 := g11
      have h13 : (0 : Int) ≤ (p1.toInt64).toInt ∧ (p1.toInt64).toInt ≤ (2 : Int) := ⟨((show (0 : Int) ≤ (p1.toInt64).toInt ∧ (p1.toInt64).toInt ≤ (2 : Int) from ⟨Int.le_trans ((⟨by decide, by decide⟩ : (0 : Int) ≤ (0 : Int64).toInt ∧ (0 : Int64).toInt ≤ (0 : Int))).1 k12.1, Int.le_trans k12.2 ((⟨by decide, by decide⟩ : (2 : Int) ≤ (2 : Int64).toInt ∧ (2 : Int64).toInt ≤ (2 : Int))).2⟩)).1, ((show (0 : Int) ≤ (p1.toInt64).toInt ∧ (p1.toInt64).toInt ≤ (2 : Int) from ⟨Int.le_trans ((⟨by decide, by decide⟩ : (0 : Int) ≤ (0 : Int64).toInt ∧ (0 : Int64).toInt ≤ (0 : Int))).1 k12.1, Int.le_trans k12.2 ((⟨by decide, by decide⟩ : (2 : Int) ≤ (2 : Int64).toInt ∧ (2 : Int64).toInt ≤ (2 : Int))).2⟩)).2⟩
      have h14 : Iv 0 2 p1 := iv_lv h13
      refine lv_if_eq (tgt := 46) hx hb dX10_errand_27 (by decide) (fun c15 => ?_) (fun c15 => ?_)
      · first | exact absurd c15 (by decide) | exact absurd (by decide) c15
      refine lv_aload_n hx hb dX10_errand_30 rfl (lv_at hl 0 rfl) ?_
      refine va_get (D := D) (ci := 10) (v := .ref (a 1)) (C := RX10) (T := TX10) (N := 38) hx hb hT in_X10 hown hK hP 0 mw_0 rfl 1 (by decide) (hT _ t1263) (fun _ h9 => h9) rfl dX10_errand_31 ?_
      refine lv_bipush (v := 110) hx hb dX10_errand_34 (by decide) ?_
      refine lv_iconst (v := 3) hx hb dX10_errand_36 (by decide) ?_
      refine lv_iload_n hx hb dX10_errand_37 rfl (lv_at hl 1 rfl) ?_
      refine lv_imul hx hb dX10_errand_38 ?_
      refine lv_topi (fun z16 ez16 => ?_)
      have h17 : Iv 0 15 z16 := iv_mull ez16 h8 (k := 3) (by decide) (by decide) (by decide) (by decide) (by decide) (by decide)
      refine lv_iadd hx hb dX10_errand_39 ?_
      refine lv_topi (fun z18 ez18 => ?_)
      have h19 : Iv 110 125 z18 := iv_add ez18 (iv_c (by decide) : Iv 110 110 110) h17 (by decide) (by decide) (by decide) (by decide)
      refine lv_iload_n hx hb dX10_errand_40 rfl (lv_at hl 2 rfl) ?_
      refine lv_iadd hx hb dX10_errand_41 ?_
      refine lv_topi (fun z20 ez20 => ?_)
      have h21 : Iv 110 127 z20 := iv_add ez20 h19 h14 (by decide) (by decide) (by decide) (by decide)
      refine va_iald hx hb hK hP 1 0 mw_1 rfl (iv_in h21 (by decide) (by decide)) dX10_errand_42 ?_
      refine lv_topi (fun z22 ez22 => ?_)
      refine lv_goto (tgt := 48) hx hb dX10_errand_43 (by decide) ?_
      rw [hQ]
      exact W.iret (v := z22) hx hb hr (fun t ht hW => ⟨z22, rfl, trivial, ht⟩) (fun _ h9 => by cases h9) dX10_errand_48
    · skip
      have g23 := g9
      have k24 := g23
      refine lv_if_eq (tgt := 46) hx hb dX10_errand_27 (by decide) (fun c25 => ?_) (fun c25 => ?_)
      rotate_left
      · first | exact absurd c25 (by decide) | exact absurd (by decide) c25
      refine lv_bipush (v := (-2)) hx hb dX10_errand_46 (by decide) ?_
      rw [hQ]
      exact W.iret (v := (-2)) hx hb hr (fun t ht hW => ⟨(-2), rfl, trivial, ht⟩) (fun _ h9 => by cases h9) dX10_errand_48
  · skip
    have g26 := g9
    have k27 := g26
    refine lv_if_eq (tgt := 46) hx hb dX10_errand_15 (by decide) (fun c28 => ?_) (fun c28 => ?_)
    rotate_left
    · first | exact absurd c28 (by decide) | exact absurd (by decide) c28
    refine lv_bipush (v := (-2)) hx hb dX10_errand_46 (by decide) ?_
    rw [hQ]
    exact W.iret (v := (-2)) hx hb hr (fun t ht hW => ⟨(-2), rfl, trivial, ht⟩) (fun _ h9 => by cases h9) dX10_errand_48
set_option maxHeartbeats 4000000 in
set_option maxRecDepth 100000 in
theorem m_X10_roads (l : Launch) (D : va_G) (k : Nat → ClassId) (a : Nat → Nat) (st : CT) (sl : CL) (p0 : Int32) (sz : Nat) (hB : MB st)  (hw : WOK (st 1)) : Met l yX10_roads (.code yX10_roads cX10_roads 2 (some .int) :: TB) (rmk 4) (va_Pc [.ref (a 0), .int p0] (PW D k sz (MWS k a st sl))) (vp_Si (fun r => Iv (-2) 255 r ∧ (True))) 0 0 (fun _ => False) := by
  refine Met.ofW (cc := cX10_roads) (maxL := 2) (ret := (some .int)) (by decide) rfl ?_
  intro p e s m args below meth c s₁ B hml hv
  obtain ⟨rfl, hsz, hP, hK, hD0, hN⟩ := hv
  have hx := B.exec
  have hb := B.bytes
  have hr := B.returns
  have hT : ∀ w9 ∈ TB, w9.before ([.ref (a 0), .int p0] : List Value).toArray s = true := fun w9 h => atoms_spec (ws := .code yX10_roads cX10_roads 2 (some .int) :: TB) B.pre w9 (List.mem_cons_of_mem _ h)
  have hown : s.vm.findClass RX10 = some m.cls := findClass_of_methodNamed B.named
  have S : CallFix p m c cX10_roads 2 s _ TB RX10 := ⟨hx, hb, hml, hown, hT⟩
  subst hsz
  have hl := lv_entry ([.ref (a 0), .int p0]) (n := 2) (Nat.le_of_ble_eq_true rfl)
  rw [lg_entry_eq]
  generalize (lg_sl ([.ref (a 0), .int p0]) ++ List.replicate (2 - (lg_sl ([.ref (a 0), .int p0])).length) Slot.unset).toArray = ls at hl ⊢
  have hl : lv_has ls 2 [(0, .ref (a 0)), (1, .int p0)] := hl
  refine nameQ (fun Q hQ => ?_)
  refine lv_aload_n hx hb dX10_roads_0 rfl (lv_at hl 0 rfl) ?_
  refine lv_iload_n hx hb dX10_roads_1 rfl (lv_at hl 1 rfl) ?_
  refine lv_i2l hx hb dX10_roads_2 rfl ?_
  refine ro_V (As := [.long (p0.toInt64)]) (rest := []) S (m_X10_isPlace l D k a st sl  (p0.toInt64) _  hB  hw) lkX10_282 ok_X10_isPlace ⟨rfl, rfl, Nat.le_of_ble_eq_true rfl, Nat.le_of_ble_eq_true rfl⟩ (pw_V (ci := 10) (q0 := 0) hK hN rfl mw_0 hP hD0) rfl hl.1 rfl (Nat.le_of_ble_eq_true rfl) ⟨Nat.zero_le _, Nat.zero_le _⟩ dX10_roads_3 (fun r1 er1 => ?_)
  rcases er1 with ⟨rfl, g9⟩ | ⟨rfl, g9⟩
  · skip
    have g2 := g9
    have h3 : (0 : Int) ≤ (p0.toInt64).toInt ∧ (p0.toInt64).toInt ≤ (5 : Int) := ⟨(g2).1, (g2).2⟩
    have h4 : Iv 0 5 p0 := iv_lv h3
    refine lv_if_eq (tgt := 17) hx hb dX10_roads_6 (by decide) (fun c5 => ?_) (fun c5 => ?_)
    · first | exact absurd c5 (by decide) | exact absurd (by decide) c5
    refine lv_aload_n hx hb dX10_roads_9 rfl (lv_at hl 0 rfl) ?_
    refine lv_iload_n hx hb dX10_roads_10 rfl (lv_at hl 1 rfl) ?_
    refine ro_V (As := [.int p0]) (rest := []) S (m_X10_roadsOf l D k a st sl  p0 _  hB  hw) lkX10_285 ok_X10_roadsOf ⟨rfl, rfl, Nat.le_of_ble_eq_true rfl, Nat.le_of_ble_eq_true rfl⟩ (pw_V (ci := 10) (q0 := 0) hK hN rfl mw_0 hP hD0) rfl hl.1 rfl (Nat.le_of_ble_eq_true rfl) ⟨Nat.zero_le _, Nat.zero_le _⟩ dX10_roads_11 (fun r6 er6 => ?_)
    have h7 : Iv 0 255 r6 := er6.1
    have k8 := er6.2
    refine lv_goto (tgt := 19) hx hb dX10_roads_14 (by decide) ?_
    rw [hQ]
    exact W.iret (v := r6) hx hb hr (fun t ht hW => ⟨r6, rfl, ⟨(iv_mono (c := (-2)) (d := 255) h7 (by decide) (by decide)), trivial⟩, ht⟩) (fun _ h9 => by cases h9) dX10_roads_19
  · skip
    have g9 := g9
    refine lv_if_eq (tgt := 17) hx hb dX10_roads_6 (by decide) (fun c10 => ?_) (fun c10 => ?_)
    rotate_left
    · first | exact absurd c10 (by decide) | exact absurd (by decide) c10
    refine lv_bipush (v := (-2)) hx hb dX10_roads_17 (by decide) ?_
    rw [hQ]
    exact W.iret (v := (-2)) hx hb hr (fun t ht hW => ⟨(-2), rfl, ⟨(iv_mono (c := (-2)) (d := 255) (iv_c (by decide) : Iv (-2) (-2) (-2)) (by decide) (by decide)), trivial⟩, ht⟩) (fun _ h9 => by cases h9) dX10_roads_19
set_option maxHeartbeats 4000000 in
set_option maxRecDepth 100000 in
theorem m_X10_pull (l : Launch) (D : va_G) (k : Nat → ClassId) (a : Nat → Nat) (st : CT) (sl : CL) (p0 : Int32) (p1 : Int32) (sz : Nat) (hB : MB st)  (hw : WOK (st 1)) : Met l yX10_pull (.code yX10_pull cX10_pull 3 (some .int) :: TB) (rmw 8 0 0) (va_Pc [.ref (a 0), .int p0, .int p1] (PW D k sz (MWS k a st sl))) (QI D (S := CT) (fun r u => MB u ∧ FR [7, 9, 8, 10, 11] st u ∧ ((True))) (fun u => MWS k a u sl) (fun _ => []) (MWS k a st sl) sz) 0 0 (va_A (MWS k a st sl) sz) := by
  refine Met.ofW (cc := cX10_pull) (maxL := 3) (ret := (some .int)) (by decide) rfl ?_
  intro p e s m args below meth c s₁ B hml hv
  obtain ⟨rfl, hsz, hP, hK, hD0, hN⟩ := hv
  have hx := B.exec
  have hb := B.bytes
  have hr := B.returns
  have hT : ∀ w9 ∈ TB, w9.before ([.ref (a 0), .int p0, .int p1] : List Value).toArray s = true := fun w9 h => atoms_spec (ws := .code yX10_pull cX10_pull 3 (some .int) :: TB) B.pre w9 (List.mem_cons_of_mem _ h)
  have hown : s.vm.findClass RX10 = some m.cls := findClass_of_methodNamed B.named
  have S : CallFix p m c cX10_pull 3 s _ TB RX10 := ⟨hx, hb, hml, hown, hT⟩
  subst hsz
  have hD := hD0.self (sz := s.heap.size)
  generalize hAe : va_A (MWS k a st sl) s.heap.size = A at hD ⊢
  have hA : ∀ q : Nat, s.heap.size ≤ q → A q := fun q h => by rw [← hAe]; exact Or.inr h
  have hS : va_S A s.heap s.heap [] := va_S.rf
  have hl := lv_entry ([.ref (a 0), .int p0, .int p1]) (n := 3) (Nat.le_of_ble_eq_true rfl)
  rw [lg_entry_eq]
  generalize (lg_sl ([.ref (a 0), .int p0, .int p1]) ++ List.replicate (3 - (lg_sl ([.ref (a 0), .int p0, .int p1])).length) Slot.unset).toArray = ls at hl ⊢
  have hl : lv_has ls 3 [(0, .ref (a 0)), (1, .int p0), (2, .int p1)] := hl
  refine nameQ (fun Q hQ => ?_)
  refine lv_aload_n hx hb dX10_pull_0 rfl (lv_at hl 0 rfl) ?_
  refine lv_iload_n hx hb dX10_pull_1 rfl (lv_at hl 1 rfl) ?_
  refine ro_V (As := [.int p0]) (rest := []) S (m_X10_isCart l D k a st sl  p0 _  hB  hw) lkX10_279 ok_X10_isCart ⟨rfl, rfl, Nat.le_of_ble_eq_true rfl, Nat.le_of_ble_eq_true rfl⟩ (pw_V (ci := 10) (q0 := 0) hK hN rfl mw_0 hP (hD.weaken (fun _ _ _ _ => trivial))) rfl hl.1 rfl (Nat.le_of_ble_eq_true rfl) ⟨Nat.zero_le _, Nat.zero_le _⟩ dX10_pull_2 (fun r1 er1 => ?_)
  rcases er1 with ⟨rfl, g9⟩ | ⟨rfl, g9⟩
  · skip
    have g2 := g9
    have h3 : Iv 0 2 p0 := g2.1
    refine lv_if_eq (tgt := 17) hx hb dX10_pull_5 (by decide) (fun c4 => ?_) (fun c4 => ?_)
    · first | exact absurd c4 (by decide) | exact absurd (by decide) c4
    refine lv_aload_n hx hb dX10_pull_8 rfl (lv_at hl 0 rfl) ?_
    refine lv_iload_n hx hb dX10_pull_9 rfl (lv_at hl 2 rfl) ?_
    refine lv_i2l hx hb dX10_pull_10 rfl ?_
    refine ro_V (As := [.long (p1.toInt64)]) (rest := []) S (m_X10_isRoad l D k a st sl  (p1.toInt64) _  hB  hw) lkX10_265 ok_X10_isRoad ⟨rfl, rfl, Nat.le_of_ble_eq_true rfl, Nat.le_of_ble_eq_true rfl⟩ (pw_V (ci := 10) (q0 := 0) hK hN rfl mw_0 hP (hD.weaken (fun _ _ _ _ => trivial))) rfl hl.1 rfl (Nat.le_of_ble_eq_true rfl) ⟨Nat.zero_le _, Nat.zero_le _⟩ dX10_pull_11 (fun r5 er5 => ?_)
    rcases er5 with ⟨rfl, g9⟩ | ⟨rfl, g9⟩
    · skip
      have g6 := g9
      have h7 : (0 : Int) ≤ (p1.toInt64).toInt ∧ (p1.toInt64).toInt ≤ (7 : Int) := ⟨(g6).1, (g6).2⟩
      have h8 : Iv 0 7 p1 := iv_lv h7
      refine lv_if_ne (tgt := 20) hx hb dX10_pull_14 (by decide) (fun c9 => ?_) (fun c9 => ?_)
      rotate_left
      · first | exact absurd c9 (by decide) | exact absurd (by decide) c9
      refine lv_aload_n hx hb dX10_pull_20 rfl (lv_at hl 0 rfl) ?_
      refine ca_v hP hD hS hA (fun hDc => run_V (mc := 0) (ms := 0) (As := []) (rest := []) S (m_X10_asItIs l D k a st sl   _  hB  hw) lkX10_273 ok_X10_asItIs ⟨rfl, rfl, Nat.le_of_ble_eq_true rfl, Nat.le_of_ble_eq_true rfl⟩ (pw_V (ci := 10) (q0 := 0) hK hN rfl mw_0 hP hDc) rfl hl.1 rfl (Nat.le_of_ble_eq_true rfl) ⟨Nat.zero_le _, Nat.zero_le _⟩ dX10_pull_21) (fun s10 H9 locs9 hs10 hP9 hD9 hS9 => ?_)
      clear hP hD hS
      have hS := hS9
      have hP := hP9
      have hD := hD9
      clear hP9 hD9 hS9
      obtain ⟨hBs10, gs10, fs10⟩ := hs10
      have hFs10 : FR [7, 9, 8, 10, 11] st s10 := fr_ca fr_rf gs10 (sub_1 (List.mem_of_getElem? (i := 0) rfl) (sub_1 (List.mem_of_getElem? (i := 1) rfl) (sub_1 (List.mem_of_getElem? (i := 2) rfl) (sub_1 (List.mem_of_getElem? (i := 3) rfl) (sub_1 (List.mem_of_getElem? (i := 4) rfl) sub_0)))))
      refine lv_aload_n hx hb dX10_pull_24 rfl (lv_at hl 0 rfl) ?_
      refine lv_aload_n hx hb dX10_pull_25 rfl (lv_at hl 0 rfl) ?_
      refine lv_iload_n hx hb dX10_pull_26 rfl (lv_at hl 1 rfl) ?_
      refine ro_V (As := [.int p0]) (rest := [.ref (a 0)]) S (m_X10_wheelsOf l D k a s10 sl  p0 _  hBs10  (wok_of (hFs10 1 (nm_1 (by decide) (nm_1 (by decide) (nm_1 (by decide) (nm_1 (by decide) (nm_1 (by decide) nm_0)))))) hw)) lkX10_246 ok_X10_wheelsOf ⟨rfl, rfl, Nat.le_of_ble_eq_true rfl, Nat.le_of_ble_eq_true rfl⟩ (pw_V (ci := 10) (q0 := 0) hK hN rfl mw_0 hP (hD.weaken (fun _ _ _ _ => trivial))) rfl hl.1 rfl (Nat.le_of_ble_eq_true rfl) ⟨Nat.zero_le _, Nat.zero_le _⟩ dX10_pull_27 (fun r12 er12 => ?_)
      have h13 : Iv 0 255 r12 := er12.1
      have k14 := er12.2
      refine lv_iload_n hx hb dX10_pull_30 rfl (lv_at hl 2 rfl) ?_
      refine ro_V (As := [.int r12, .int p1]) (rest := []) S (m_X10_pullOf l D k a s10 sl  r12 p1 _  hBs10 h8 (wok_of (hFs10 1 (nm_1 (by decide) (nm_1 (by decide) (nm_1 (by decide) (nm_1 (by decide) (nm_1 (by decide) nm_0)))))) hw)) lkX10_243 ok_X10_pullOf ⟨rfl, rfl, Nat.le_of_ble_eq_true rfl, Nat.le_of_ble_eq_true rfl⟩ (pw_V (ci := 10) (q0 := 0) hK hN rfl mw_0 hP (hD.weaken (fun _ _ _ _ => trivial))) rfl hl.1 rfl (Nat.le_of_ble_eq_true rfl) ⟨Nat.zero_le _, Nat.zero_le _⟩ dX10_pull_31 (fun r15 er15 => ?_)
      rw [hQ]
      exact W.iret (v := r15) hx hb hr (fun t ht hW => ⟨⟨r15, s10, rfl, ⟨hBs10, hFs10, trivial⟩, by rw [ht]; exact hP, va_K.moved hW.alike (hK.sub (tys' := []) [] rfl), by rw [hAe]; exact hD⟩, by rw [hAe]; exact hS.F ht⟩) hS.2.2 dX10_pull_34
    · skip
      have g16 := g9
      refine lv_if_ne (tgt := 20) hx hb dX10_pull_14 (by decide) (fun c17 => ?_) (fun c17 => ?_)
      · first | exact absurd c17 (by decide) | exact absurd (by decide) c17
      refine lv_bipush (v := (-2)) hx hb dX10_pull_17 (by decide) ?_
      rw [hQ]
      exact W.iret (v := (-2)) hx hb hr (fun t ht hW => ⟨⟨(-2), st, rfl, ⟨hB, fr_rf, trivial⟩, by rw [ht]; exact hP, va_K.moved hW.alike (hK.sub (tys' := []) [] rfl), by rw [hAe]; exact hD⟩, by rw [hAe]; exact hS.F ht⟩) hS.2.2 dX10_pull_19
  · skip
    have g18 := g9
    refine lv_if_eq (tgt := 17) hx hb dX10_pull_5 (by decide) (fun c19 => ?_) (fun c19 => ?_)
    rotate_left
    · first | exact absurd c19 (by decide) | exact absurd (by decide) c19
    refine lv_bipush (v := (-2)) hx hb dX10_pull_17 (by decide) ?_
    rw [hQ]
    exact W.iret (v := (-2)) hx hb hr (fun t ht hW => ⟨⟨(-2), st, rfl, ⟨hB, fr_rf, trivial⟩, by rw [ht]; exact hP, va_K.moved hW.alike (hK.sub (tys' := []) [] rfl), by rw [hAe]; exact hD⟩, by rw [hAe]; exact hS.F ht⟩) hS.2.2 dX10_pull_19
