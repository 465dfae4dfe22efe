set_option maxHeartbeats 4000000 in
set_option maxRecDepth 100000 in
theorem m_X10_lovedOf (l : Launch) (D : va_G) (k : Nat → ClassId) (a : Nat → Nat) (st : CT) (sl : CL) (p0 : Int32) (sz : Nat) (hB : MB st) (hp0 : Iv 0 7 p0) (hw : WOK (st 1)) : Met l yX10_lovedOf (.code yX10_lovedOf cX10_lovedOf 4 (some .int) :: TB) (rmk 1) (va_Pc [.ref (a 0), .int p0] (PW D k sz (MWS k a st sl))) (vp_Si (fun r => (True))) 0 0 (fun _ => False) := by
  refine Met.ofW (cc := cX10_lovedOf) (maxL := 4) (ret := (some .int)) (by decide) rfl ?_
  intro p e s m args below meth c s₁ B hml hv
  obtain ⟨rfl, hsz, hP, hK, hD0, hN⟩ := hv
  have hx := B.exec
  have hb := B.bytes
  have hr := B.returns
  have hT : ∀ w9 ∈ TB, w9.before ([.ref (a 0), .int p0] : List Value).toArray s = true := fun w9 h => atoms_spec (ws := .code yX10_lovedOf cX10_lovedOf 4 (some .int) :: TB) B.pre w9 (List.mem_cons_of_mem _ h)
  have hown : s.vm.findClass RX10 = some m.cls := findClass_of_methodNamed B.named
  have S : CallFix p m c cX10_lovedOf 4 s _ TB RX10 := ⟨hx, hb, hml, hown, hT⟩
  subst hsz
  have hl := lv_entry ([.ref (a 0), .int p0]) (n := 4) (Nat.le_of_ble_eq_true rfl)
  rw [lg_entry_eq]
  generalize (lg_sl ([.ref (a 0), .int p0]) ++ List.replicate (4 - (lg_sl ([.ref (a 0), .int p0])).length) Slot.unset).toArray = ls at hl ⊢
  have hl : lv_has ls 4 [(0, .ref (a 0)), (1, .int p0)] := hl
  refine nameQ (fun Q hQ => ?_)
  refine lv_iconst (v := 0) hx hb dX10_lovedOf_0 (by decide) ?_
  refine lv_istore_n (lv' := [(2, .int 0), (0, .ref (a 0)), (1, .int p0)]) hx hb dX10_lovedOf_1 rfl hl (by decide) rfl (fun ls hl => ?_)
  refine lv_iconst (v := 0) hx hb dX10_lovedOf_2 (by decide) ?_
  refine lv_istore_n (lv' := [(3, .int 0), (2, .int 0), (0, .ref (a 0)), (1, .int p0)]) hx hb dX10_lovedOf_3 rfl hl (by decide) rfl (fun ls hl => ?_)
  have lp4 : ∀ (n9_4 : Nat) (v3_4 : Int32) (v2_4 : Int32) (ls : Array Slot), Iv 0 8 v3_4 → lv_has ls 4 [(3, .int v3_4), (2, .int v2_4), (0, .ref (a 0)), (1, .int p0)] → (8 : Int) - v3_4.toInt < (n9_4 : Int) → W p l e (rmk 1) s m ([.ref (a 0), .int p0] : List Value).toArray below meth c s.heap [] 0 0 Q (F0 m 4 ls []) := by
    clear hl
    intro n9_4
    induction n9_4 with
    | zero =>
      intro v3_4 v2_4 ls iv3_4 hl hm4
      exact (fu_0 iv3_4 hm4).elim
    | succ n9_4 ih4 =>
      intro v3_4 v2_4 ls iv3_4 hl hm4
      refine lv_iload_n hx hb dX10_lovedOf_4 rfl (lv_at hl 0 rfl) ?_
      refine lv_aload_n hx hb dX10_lovedOf_5 rfl (lv_at hl 2 rfl) ?_
      refine va_get (D := D) (ci := 10) (v := .ref (a 1)) (C := RX10) (T := TX10) (N := 38) hx hb hT in_X10 hown hK hP 0 mw_0 rfl 1 (by decide) (hT _ t1263) (fun _ h9 => h9) rfl dX10_lovedOf_6 ?_
      refine lv_iconst (v := 3) hx hb dX10_lovedOf_9 (by decide) ?_
      refine va_iald hx hb hK hP 1 0 mw_1 rfl (by unfold vp_in; decide) dX10_lovedOf_10 ?_
      refine k_top (y := (st 1 3)) rfl ?_
      have h127 : Iv 0 8 (st 1 3) := (tok_at (hw).1 3 0 8 (by decide) (by decide) (by decide))
      refine lv_icmp_ge (tgt := 34) hx hb dX10_lovedOf_11 (by decide) (fun c128 => ?_) (fun c128 => ?_)
      · skip
        have n129 : (st 1 3).toInt ≤ v3_4.toInt := (i_le c128)
        refine lv_iload_n hx hb dX10_lovedOf_34 rfl (lv_at hl 1 rfl) ?_
        rw [hQ]
        exact W.iret (v := v2_4) hx hb hr (fun t ht hW => ⟨v2_4, rfl, trivial, ht⟩) (fun _ h9 => by cases h9) dX10_lovedOf_35
      · skip
        have n130 : v3_4.toInt < (st 1 3).toInt := (i_nle c128)
        have h131 : Iv 0 7 v3_4 := lt_l iv3_4 n130 h127 (by decide)
        have h132 : Iv 1 8 (st 1 3) := lt_r iv3_4 n130 h127 (by decide)
        refine lv_iload_n hx hb dX10_lovedOf_14 rfl (lv_at hl 1 rfl) ?_
        refine lv_aload_n hx hb dX10_lovedOf_15 rfl (lv_at hl 2 rfl) ?_
        refine va_get (D := D) (ci := 10) (v := .ref (a 8)) (C := RX10) (T := TX10) (N := 38) hx hb hT in_X10 hown hK hP 0 mw_0 rfl 16 (by decide) (hT _ t1278) (fun _ h9 => h9) rfl dX10_lovedOf_16 ?_
        refine lv_bipush (v := 8) hx hb dX10_lovedOf_19 (by decide) ?_
        refine lv_iload_n hx hb dX10_lovedOf_21 rfl (lv_at hl 0 rfl) ?_
        refine lv_imul hx hb dX10_lovedOf_22 ?_
        refine lv_topi (fun z133 ez133 => ?_)
        have h134 : Iv 0 56 z133 := iv_mull ez133 h131 (k := 8) (by decide) (by decide) (by decide) (by decide) (by decide) (by decide)
        refine lv_iload_n hx hb dX10_lovedOf_23 rfl (lv_at hl 3 rfl) ?_
        refine lv_iadd hx hb dX10_lovedOf_24 ?_
        refine lv_topi (fun z135 ez135 => ?_)
        have h136 : Iv 0 63 z135 := iv_add ez135 h134 hp0 (by decide) (by decide) (by decide) (by decide)
        refine va_iald hx hb hK hP 8 0 mw_8 rfl (iv_in h136 (by decide) (by decide)) dX10_lovedOf_25 ?_
        refine lv_topi (fun z137 ez137 => ?_)
        refine lv_iadd hx hb dX10_lovedOf_26 ?_
        refine lv_topi (fun z138 ez138 => ?_)
        refine lv_istore_n (lv' := [(2, .int z138), (3, .int v3_4), (0, .ref (a 0)), (1, .int p0)]) hx hb dX10_lovedOf_27 rfl hl (by decide) rfl (fun ls hl => ?_)
        obtain ⟨z139, ez139⟩ : ∃ z9 : Int32, z9 = v3_4 + Int32.ofInt 1 := ⟨_, rfl⟩
        have h140 : Iv 1 8 z139 := iv_inc ez139 h131 (by decide) (by decide) (by decide) (by decide) (by decide) (by decide)
        refine lv_iinc (v := z139) (lv' := [(3, .int z139), (2, .int z138), (0, .ref (a 0)), (1, .int p0)]) hx hb dX10_lovedOf_28 hl (k := 1) rfl ez139.symm (by decide) rfl (fun ls hl => ?_)
        refine lv_goto (tgt := 4) hx hb dX10_lovedOf_31 (by decide) ?_
        exact ih4 z139 z138 _ (iv_mono (c := 0) (d := 8) h140 (by decide) (by decide)) (lv_sub hl [0, 1, 2, 3] rfl) (fu_s (lo := 0) (ti_inc ez139 h131 (by decide) (by decide) (by decide) (by decide)) (by decide) hm4)
  exact lp4 9 0 0 _ (iv_mono (c := 0) (d := 8) (iv_c (by decide) : Iv 0 0 0) (by decide) (by decide)) (lv_sub hl [0, 1, 2, 3] rfl) (fu_i (iv_mono (c := 0) (d := 8) (iv_c (by decide) : Iv 0 0 0) (by decide) (by decide)) (by decide))
set_option maxHeartbeats 4000000 in
set_option maxRecDepth 100000 in
theorem m_X10_loved (l : Launch) (D : va_G) (k : Nat → ClassId) (a : Nat → Nat) (st : CT) (sl : CL) (p0 : Int32) (sz : Nat) (hB : MB st)  (hw : WOK (st 1)) : Met l yX10_loved (.code yX10_loved cX10_loved 2 (some .int) :: TB) (rmw 8 0 0) (va_Pc [.ref (a 0), .int p0] (PW D k sz (MWS k a st sl))) (QI D (S := CT) (fun r u => MB u ∧ FR [7, 9, 8, 10, 11] st u ∧ ((True))) (fun u => MWS k a u sl) (fun _ => []) (MWS k a st sl) sz) 0 0 (va_A (MWS k a st sl) sz) := by
  refine Met.ofW (cc := cX10_loved) (maxL := 2) (ret := (some .int)) (by decide) rfl ?_
  intro p e s m args below meth c s₁ B hml hv
  obtain ⟨rfl, hsz, hP, hK, hD0, hN⟩ := hv
  have hx := B.exec
  have hb := B.bytes
  have hr := B.returns
  have hT : ∀ w9 ∈ TB, w9.before ([.ref (a 0), .int p0] : List Value).toArray s = true := fun w9 h => atoms_spec (ws := .code yX10_loved cX10_loved 2 (some .int) :: TB) B.pre w9 (List.mem_cons_of_mem _ h)
  have hown : s.vm.findClass RX10 = some m.cls := findClass_of_methodNamed B.named
  have S : CallFix p m c cX10_loved 2 s _ TB RX10 := ⟨hx, hb, hml, hown, hT⟩
  subst hsz
  have hD := hD0.self (sz := s.heap.size)
  generalize hAe : va_A (MWS k a st sl) s.heap.size = A at hD ⊢
  have hA : ∀ q : Nat, s.heap.size ≤ q → A q := fun q h => by rw [← hAe]; exact Or.inr h
  have hS : va_S A s.heap s.heap [] := va_S.rf
  have hl := lv_entry ([.ref (a 0), .int p0]) (n := 2) (Nat.le_of_ble_eq_true rfl)
  rw [lg_entry_eq]
  generalize (lg_sl ([.ref (a 0), .int p0]) ++ List.replicate (2 - (lg_sl ([.ref (a 0), .int p0])).length) Slot.unset).toArray = ls at hl ⊢
  have hl : lv_has ls 2 [(0, .ref (a 0)), (1, .int p0)] := hl
  refine nameQ (fun Q hQ => ?_)
  refine lv_aload_n hx hb dX10_loved_0 rfl (lv_at hl 0 rfl) ?_
  refine lv_iload_n hx hb dX10_loved_1 rfl (lv_at hl 1 rfl) ?_
  refine lv_i2l hx hb dX10_loved_2 rfl ?_
  refine ro_V (As := [.long (p0.toInt64)]) (rest := []) S (m_X10_isRoad l D k a st sl  (p0.toInt64) _  hB  hw) lkX10_265 ok_X10_isRoad ⟨rfl, rfl, Nat.le_of_ble_eq_true rfl, Nat.le_of_ble_eq_true rfl⟩ (pw_V (ci := 10) (q0 := 0) hK hN rfl mw_0 hP (hD.weaken (fun _ _ _ _ => trivial))) rfl hl.1 rfl (Nat.le_of_ble_eq_true rfl) ⟨Nat.zero_le _, Nat.zero_le _⟩ dX10_loved_3 (fun r1 er1 => ?_)
  rcases er1 with ⟨rfl, g9⟩ | ⟨rfl, g9⟩
  · skip
    have g2 := g9
    have h3 : (0 : Int) ≤ (p0.toInt64).toInt ∧ (p0.toInt64).toInt ≤ (7 : Int) := ⟨(g2).1, (g2).2⟩
    have h4 : Iv 0 7 p0 := iv_lv h3
    refine lv_if_ne (tgt := 12) hx hb dX10_loved_6 (by decide) (fun c5 => ?_) (fun c5 => ?_)
    rotate_left
    · first | exact absurd c5 (by decide) | exact absurd (by decide) c5
    refine lv_aload_n hx hb dX10_loved_12 rfl (lv_at hl 0 rfl) ?_
    refine ca_v hP hD hS hA (fun hDc => run_V (mc := 0) (ms := 0) (As := []) (rest := []) S (m_X10_asItIs l D k a st sl   _  hB  hw) lkX10_273 ok_X10_asItIs ⟨rfl, rfl, Nat.le_of_ble_eq_true rfl, Nat.le_of_ble_eq_true rfl⟩ (pw_V (ci := 10) (q0 := 0) hK hN rfl mw_0 hP hDc) rfl hl.1 rfl (Nat.le_of_ble_eq_true rfl) ⟨Nat.zero_le _, Nat.zero_le _⟩ dX10_loved_13) (fun s6 H9 locs9 hs6 hP9 hD9 hS9 => ?_)
    clear hP hD hS
    have hS := hS9
    have hP := hP9
    have hD := hD9
    clear hP9 hD9 hS9
    obtain ⟨hBs6, gs6, fs6⟩ := hs6
    have hFs6 : FR [7, 9, 8, 10, 11] st s6 := fr_ca fr_rf gs6 (sub_1 (List.mem_of_getElem? (i := 0) rfl) (sub_1 (List.mem_of_getElem? (i := 1) rfl) (sub_1 (List.mem_of_getElem? (i := 2) rfl) (sub_1 (List.mem_of_getElem? (i := 3) rfl) (sub_1 (List.mem_of_getElem? (i := 4) rfl) sub_0)))))
    refine lv_aload_n hx hb dX10_loved_16 rfl (lv_at hl 0 rfl) ?_
    refine lv_iload_n hx hb dX10_loved_17 rfl (lv_at hl 1 rfl) ?_
    refine ro_V (As := [.int p0]) (rest := []) S (m_X10_lovedOf l D k a s6 sl  p0 _  hBs6 h4 (wok_of (hFs6 1 (nm_1 (by decide) (nm_1 (by decide) (nm_1 (by decide) (nm_1 (by decide) (nm_1 (by decide) nm_0)))))) hw)) lkX10_379 ok_X10_lovedOf ⟨rfl, rfl, Nat.le_of_ble_eq_true rfl, Nat.le_of_ble_eq_true rfl⟩ (pw_V (ci := 10) (q0 := 0) hK hN rfl mw_0 hP (hD.weaken (fun _ _ _ _ => trivial))) rfl hl.1 rfl (Nat.le_of_ble_eq_true rfl) ⟨Nat.zero_le _, Nat.zero_le _⟩ dX10_loved_18 (fun r8 er8 => ?_)
    rw [hQ]
    exact W.iret (v := r8) hx hb hr (fun t ht hW => ⟨⟨r8, s6, rfl, ⟨hBs6, hFs6, trivial⟩, by rw [ht]; exact hP, va_K.moved hW.alike (hK.sub (tys' := []) [] rfl), by rw [hAe]; exact hD⟩, by rw [hAe]; exact hS.F ht⟩) hS.2.2 dX10_loved_21
  · skip
    have g9 := g9
    refine lv_if_ne (tgt := 12) hx hb dX10_loved_6 (by decide) (fun c10 => ?_) (fun c10 => ?_)
    · first | exact absurd c10 (by decide) | exact absurd (by decide) c10
    refine lv_bipush (v := (-2)) hx hb dX10_loved_9 (by decide) ?_
    rw [hQ]
    exact W.iret (v := (-2)) hx hb hr (fun t ht hW => ⟨⟨(-2), st, rfl, ⟨hB, fr_rf, trivial⟩, by rw [ht]; exact hP, va_K.moved hW.alike (hK.sub (tys' := []) [] rfl), by rw [hAe]; exact hD⟩, by rw [hAe]; exact hS.F ht⟩) hS.2.2 dX10_loved_11
set_option maxHeartbeats 4000000 in
set_option maxRecDepth 100000 in
theorem m_X10_dearest (l : Launch) (D : va_G) (k : Nat → ClassId) (a : Nat → Nat) (st : CT) (sl : CL) (sz : Nat) (hB : MB st)  (hw : WOK (st 1)) : Met l yX10_dearest (.code yX10_dearest cX10_dearest 3 (some .int) :: TB) (rmw 8 0 0) (va_Pc [.ref (a 0)] (PW D k sz (MWS k a st sl))) (QI D (S := CT) (fun r u => MB u ∧ FR [7, 9, 8, 10, 11] st u ∧ (Iv (-2) 7 r ∧ (True))) (fun u => MWS k a u sl) (fun _ => []) (MWS k a st sl) sz) 0 0 (va_A (MWS k a st sl) sz) := by
  refine Met.ofW (cc := cX10_dearest) (maxL := 3) (ret := (some .int)) (by decide) rfl ?_
  intro p e s m args below meth c s₁ B hml hv
  obtain ⟨rfl, hsz, hP, hK, hD0, hN⟩ := hv
  have hx := B.exec
  have hb := B.bytes
  have hr := B.returns
  have hT : ∀ w9 ∈ TB, w9.before ([.ref (a 0)] : List Value).toArray s = true := fun w9 h => atoms_spec (ws := .code yX10_dearest cX10_dearest 3 (some .int) :: TB) B.pre w9 (List.mem_cons_of_mem _ h)
  have hown : s.vm.findClass RX10 = some m.cls := findClass_of_methodNamed B.named
  have S : CallFix p m c cX10_dearest 3 s _ TB RX10 := ⟨hx, hb, hml, hown, hT⟩
  subst hsz
  have hD := hD0.self (sz := s.heap.size)
  generalize hAe : va_A (MWS k a st sl) s.heap.size = A at hD ⊢
  have hA : ∀ q : Nat, s.heap.size ≤ q → A q := fun q h => by rw [← hAe]; exact Or.inr h
  have hS : va_S A s.heap s.heap [] := va_S.rf
  have hl := lv_entry ([.ref (a 0)]) (n := 3) (Nat.le_of_ble_eq_true rfl)
  rw [lg_entry_eq]
  generalize (lg_sl ([.ref (a 0)]) ++ List.replicate (3 - (lg_sl ([.ref (a 0)])).length) Slot.unset).toArray = ls at hl ⊢
  have hl : lv_has ls 3 [(0, .ref (a 0))] := hl
  refine nameQ (fun Q hQ => ?_)
  refine lv_aload_n hx hb dX10_dearest_0 rfl (lv_at hl 0 rfl) ?_
  refine ro_V (As := []) (rest := []) S (m_X10_isLand l D k a st sl   _  hB  hw) lkX10_297 ok_X10_isLand ⟨rfl, rfl, Nat.le_of_ble_eq_true rfl, Nat.le_of_ble_eq_true rfl⟩ (pw_V (ci := 10) (q0 := 0) hK hN rfl mw_0 hP (hD.weaken (fun _ _ _ _ => trivial))) rfl hl.1 rfl (Nat.le_of_ble_eq_true rfl) ⟨Nat.zero_le _, Nat.zero_le _⟩ dX10_dearest_1 (fun r1 er1 => ?_)
  rcases er1 with ⟨rfl, g9⟩ | ⟨rfl, g9⟩
  · skip
    have g2 := g9
    refine lv_if_ne (tgt := 10) hx hb dX10_dearest_4 (by decide) (fun c3 => ?_) (fun c3 => ?_)
    rotate_left
    · first | exact absurd c3 (by decide) | exact absurd (by decide) c3
    refine lv_aload_n hx hb dX10_dearest_10 rfl (lv_at hl 0 rfl) ?_
    refine ca_v hP hD hS hA (fun hDc => run_V (mc := 0) (ms := 0) (As := []) (rest := []) S (m_X10_asItIs l D k a st sl   _  hB  hw) lkX10_273 ok_X10_asItIs ⟨rfl, rfl, Nat.le_of_ble_eq_true rfl, Nat.le_of_ble_eq_true rfl⟩ (pw_V (ci := 10) (q0 := 0) hK hN rfl mw_0 hP hDc) rfl hl.1 rfl (Nat.le_of_ble_eq_true rfl) ⟨Nat.zero_le _, Nat.zero_le _⟩ dX10_dearest_11) (fun s4 H9 locs9 hs4 hP9 hD9 hS9 => ?_)
    clear hP hD hS
    have hS := hS9
    have hP := hP9
    have hD := hD9
    clear hP9 hD9 hS9
    obtain ⟨hBs4, gs4, fs4⟩ := hs4
    have hFs4 : FR [7, 9, 8, 10, 11] st s4 := fr_ca fr_rf gs4 (sub_1 (List.mem_of_getElem? (i := 0) rfl) (sub_1 (List.mem_of_getElem? (i := 1) rfl) (sub_1 (List.mem_of_getElem? (i := 2) rfl) (sub_1 (List.mem_of_getElem? (i := 3) rfl) (sub_1 (List.mem_of_getElem? (i := 4) rfl) sub_0)))))
    refine lv_iconst (v := (-1)) hx hb dX10_dearest_14 (by decide) ?_
    refine lv_istore_n (lv' := [(1, .int (-1)), (0, .ref (a 0))]) hx hb dX10_dearest_15 rfl hl (by decide) rfl (fun ls hl => ?_)
    refine lv_iconst (v := 0) hx hb dX10_dearest_16 (by decide) ?_
    refine lv_istore_n (lv' := [(2, .int 0), (1, .int (-1)), (0, .ref (a 0))]) hx hb dX10_dearest_17 rfl hl (by decide) rfl (fun ls hl => ?_)
    have lp18 : ∀ (n9_18 : Nat) (v2_18 : Int32) (v1_18 : Int32) (ls : Array Slot), Iv 0 8 v2_18 → Iv (-1) 7 v1_18 → lv_has ls 3 [(2, .int v2_18), (1, .int v1_18), (0, .ref (a 0))] → (8 : Int) - v2_18.toInt < (n9_18 : Int) → W p l e (rmw 8 0 0) s m ([.ref (a 0)] : List Value).toArray below meth c H9 locs9 0 0 Q (F0 m 18 ls []) := by
      clear hl
      intro n9_18
      induction n9_18 with
      | zero =>
        intro v2_18 v1_18 ls iv2_18 iv1_18 hl hm18
        exact (fu_0 iv2_18 hm18).elim
      | succ n9_18 ih18 =>
        intro v2_18 v1_18 ls iv2_18 iv1_18 hl hm18
        refine lv_iload_n hx hb dX10_dearest_18 rfl (lv_at hl 0 rfl) ?_
        refine lv_aload_n hx hb dX10_dearest_19 rfl (lv_at hl 2 rfl) ?_
        refine va_get (D := D) (ci := 10) (v := .ref (a 1)) (C := RX10) (T := TX10) (N := 38) hx hb hT in_X10 hown hK hP 0 mw_0 rfl 1 (by decide) (hT _ t1263) (fun _ h9 => h9) rfl dX10_dearest_20 ?_
        refine lv_iconst (v := 2) hx hb dX10_dearest_23 (by decide) ?_
        refine va_iald hx hb hK hP 1 0 mw_1 rfl (by unfold vp_in; decide) dX10_dearest_24 ?_
        refine k_top (y := (s4 1 2)) rfl ?_
        refine k_top (y := (st 1 2)) (congrFun (hFs4 1 (nm_1 (by decide) (nm_1 (by decide) (nm_1 (by decide) (nm_1 (by decide) (nm_1 (by decide) nm_0)))))) 2) ?_
        have h191 : Iv 0 8 (st 1 2) := (tok_at (hw).1 2 0 8 (by decide) (by decide) (by decide))
        refine lv_icmp_ge (tgt := 58) hx hb dX10_dearest_25 (by decide) (fun c192 => ?_) (fun c192 => ?_)
        · skip
          have n193 : (st 1 2).toInt ≤ v2_18.toInt := (i_le c192)
          refine lv_iload_n hx hb dX10_dearest_58 rfl (lv_at hl 1 rfl) ?_
          rw [hQ]
          exact W.iret (v := v1_18) hx hb hr (fun t ht hW => ⟨⟨v1_18, s4, rfl, ⟨hBs4, hFs4, ⟨(iv_mono (c := (-2)) (d := 7) iv1_18 (by decide) (by decide)), trivial⟩⟩, by rw [ht]; exact hP, va_K.moved hW.alike (hK.sub (tys' := []) [] rfl), by rw [hAe]; exact hD⟩, by rw [hAe]; exact hS.F ht⟩) hS.2.2 dX10_dearest_59
        · skip
          have n194 : v2_18.toInt < (st 1 2).toInt := (i_nle c192)
          have h195 : Iv 0 7 v2_18 := lt_l iv2_18 n194 h191 (by decide)
          have h196 : Iv 1 8 (st 1 2) := lt_r iv2_18 n194 h191 (by decide)
          refine lv_iload_n hx hb dX10_dearest_28 rfl (lv_at hl 1 rfl) ?_
          refine lv_iconst (v := (-1)) hx hb dX10_dearest_29 (by decide) ?_
          refine lv_icmp_eq (tgt := 46) hx hb dX10_dearest_30 (by decide) (fun c197 => ?_) (fun c197 => ?_)
          · skip
            have h198 : Iv (-1) (-1) v1_18 := eq_l c197 (iv_c (by decide) : Iv (-1) (-1) (-1))
            refine lv_iload_n hx hb dX10_dearest_46 rfl (lv_at hl 0 rfl) ?_
            refine lv_goto (tgt := 51) hx hb dX10_dearest_47 (by decide) ?_
            refine lv_istore_n (lv' := [(1, .int v2_18), (2, .int v2_18), (0, .ref (a 0))]) hx hb dX10_dearest_51 rfl hl (by decide) rfl (fun ls hl => ?_)
            obtain ⟨z199, ez199⟩ : ∃ z9 : Int32, z9 = v2_18 + Int32.ofInt 1 := ⟨_, rfl⟩
            have h200 : Iv 1 8 z199 := iv_inc ez199 h195 (by decide) (by decide) (by decide) (by decide) (by decide) (by decide)
            refine lv_iinc (v := z199) (lv' := [(2, .int z199), (1, .int v2_18), (0, .ref (a 0))]) hx hb dX10_dearest_52 hl (k := 1) rfl ez199.symm (by decide) rfl (fun ls hl => ?_)
            refine lv_goto (tgt := 18) hx hb dX10_dearest_55 (by decide) ?_
            exact ih18 z199 v2_18 _ (iv_mono (c := 0) (d := 8) h200 (by decide) (by decide)) (iv_mono (c := (-1)) (d := 7) h195 (by decide) (by decide)) (lv_sub hl [0, 1, 2] rfl) (fu_s (lo := 0) (ti_inc ez199 h195 (by decide) (by decide) (by decide) (by decide)) (by decide) hm18)
          · skip
            have h201 : Iv 0 7 v1_18 := ne_lo iv1_18 c197 (by decide) (by decide)
            refine lv_aload_n hx hb dX10_dearest_33 rfl (lv_at hl 2 rfl) ?_
            refine lv_iload_n hx hb dX10_dearest_34 rfl (lv_at hl 0 rfl) ?_
            refine ro_V (As := [.int v2_18]) (rest := []) S (m_X10_lovedOf l D k a s4 sl  v2_18 _  hBs4 h195 (wok_of (hFs4 1 (nm_1 (by decide) (nm_1 (by decide) (nm_1 (by decide) (nm_1 (by decide) (nm_1 (by decide) nm_0)))))) hw)) lkX10_379 ok_X10_lovedOf ⟨rfl, rfl, Nat.le_of_ble_eq_true rfl, Nat.le_of_ble_eq_true rfl⟩ (pw_V (ci := 10) (q0 := 0) hK hN rfl mw_0 hP (hD.weaken (fun _ _ _ _ => trivial))) rfl hl.1 rfl (Nat.le_of_ble_eq_true rfl) ⟨Nat.zero_le _, Nat.zero_le _⟩ dX10_dearest_35 (fun r202 er202 => ?_)
            refine lv_aload_n hx hb dX10_dearest_38 rfl (lv_at hl 2 rfl) ?_
            refine lv_iload_n hx hb dX10_dearest_39 rfl (lv_at hl 1 rfl) ?_
            refine ro_V (As := [.int v1_18]) (rest := [.int r202]) S (m_X10_lovedOf l D k a s4 sl  v1_18 _  hBs4 h201 (wok_of (hFs4 1 (nm_1 (by decide) (nm_1 (by decide) (nm_1 (by decide) (nm_1 (by decide) (nm_1 (by decide) nm_0)))))) hw)) lkX10_379 ok_X10_lovedOf ⟨rfl, rfl, Nat.le_of_ble_eq_true rfl, Nat.le_of_ble_eq_true rfl⟩ (pw_V (ci := 10) (q0 := 0) hK hN rfl mw_0 hP (hD.weaken (fun _ _ _ _ => trivial))) rfl hl.1 rfl (Nat.le_of_ble_eq_true rfl) ⟨Nat.zero_le _, Nat.zero_le _⟩ dX10_dearest_40 (fun r203 er203 => ?_)
            refine lv_icmp_le (tgt := 50) hx hb dX10_dearest_43 (by decide) (fun c204 => ?_) (fun c204 => ?_)
            · skip
              have n205 : r202.toInt ≤ r203.toInt := (i_le c204)
              refine lv_iload_n hx hb dX10_dearest_50 rfl (lv_at hl 1 rfl) ?_
              refine lv_istore_n (lv' := [(1, .int v1_18), (2, .int v2_18), (0, .ref (a 0))]) hx hb dX10_dearest_51 rfl hl (by decide) rfl (fun ls hl => ?_)
              obtain ⟨z206, ez206⟩ : ∃ z9 : Int32, z9 = v2_18 + Int32.ofInt 1 := ⟨_, rfl⟩
              have h207 : Iv 1 8 z206 := iv_inc ez206 h195 (by decide) (by decide) (by decide) (by decide) (by decide) (by decide)
              refine lv_iinc (v := z206) (lv' := [(2, .int z206), (1, .int v1_18), (0, .ref (a 0))]) hx hb dX10_dearest_52 hl (k := 1) rfl ez206.symm (by decide) rfl (fun ls hl => ?_)
              refine lv_goto (tgt := 18) hx hb dX10_dearest_55 (by decide) ?_
              exact ih18 z206 v1_18 _ (iv_mono (c := 0) (d := 8) h207 (by decide) (by decide)) (iv_mono (c := (-1)) (d := 7) h201 (by decide) (by decide)) (lv_sub hl [0, 1, 2] rfl) (fu_s (lo := 0) (ti_inc ez206 h195 (by decide) (by decide) (by decide) (by decide)) (by decide) hm18)
            · skip
              have n208 : r203.toInt < r202.toInt := (i_nle c204)
              have h209 : Iv (-2147483648) 2147483646 r203 := lt_l (iv_full r203) n208 (iv_full r202) (by decide)
              have h210 : Iv (-2147483647) 2147483647 r202 := lt_r (iv_full r203) n208 (iv_full r202) (by decide)
              refine lv_iload_n hx hb dX10_dearest_46 rfl (lv_at hl 0 rfl) ?_
              refine lv_goto (tgt := 51) hx hb dX10_dearest_47 (by decide) ?_
              refine lv_istore_n (lv' := [(1, .int v2_18), (2, .int v2_18), (0, .ref (a 0))]) hx hb dX10_dearest_51 rfl hl (by decide) rfl (fun ls hl => ?_)
              obtain ⟨z211, ez211⟩ : ∃ z9 : Int32, z9 = v2_18 + Int32.ofInt 1 := ⟨_, rfl⟩
              have h212 : Iv 1 8 z211 := iv_inc ez211 h195 (by decide) (by decide) (by decide) (by decide) (by decide) (by decide)
              refine lv_iinc (v := z211) (lv' := [(2, .int z211), (1, .int v2_18), (0, .ref (a 0))]) hx hb dX10_dearest_52 hl (k := 1) rfl ez211.symm (by decide) rfl (fun ls hl => ?_)
              refine lv_goto (tgt := 18) hx hb dX10_dearest_55 (by decide) ?_
              exact ih18 z211 v2_18 _ (iv_mono (c := 0) (d := 8) h212 (by decide) (by decide)) (iv_mono (c := (-1)) (d := 7) h195 (by decide) (by decide)) (lv_sub hl [0, 1, 2] rfl) (fu_s (lo := 0) (ti_inc ez211 h195 (by decide) (by decide) (by decide) (by decide)) (by decide) hm18)
    exact lp18 9 0 (-1) _ (iv_mono (c := 0) (d := 8) (iv_c (by decide) : Iv 0 0 0) (by decide) (by decide)) (iv_mono (c := (-1)) (d := 7) (iv_c (by decide) : Iv (-1) (-1) (-1)) (by decide) (by decide)) (lv_sub hl [0, 1, 2] rfl) (fu_i (iv_mono (c := 0) (d := 8) (iv_c (by decide) : Iv 0 0 0) (by decide) (by decide)) (by decide))
  · skip
    have g213 := g9
    refine lv_if_ne (tgt := 10) hx hb dX10_dearest_4 (by decide) (fun c214 => ?_) (fun c214 => ?_)
    · first | exact absurd c214 (by decide) | exact absurd (by decide) c214
    refine lv_bipush (v := (-2)) hx hb dX10_dearest_7 (by decide) ?_
    rw [hQ]
    exact W.iret (v := (-2)) hx hb hr (fun t ht hW => ⟨⟨(-2), st, rfl, ⟨hB, fr_rf, ⟨(iv_mono (c := (-2)) (d := 7) (iv_c (by decide) : Iv (-2) (-2) (-2)) (by decide) (by decide)), trivial⟩⟩, by rw [ht]; exact hP, va_K.moved hW.alike (hK.sub (tys' := []) [] rfl), by rw [hAe]; exact hD⟩, by rw [hAe]; exact hS.F ht⟩) hS.2.2 dX10_dearest_9
set_option maxHeartbeats 4000000 in
set_option maxRecDepth 100000 in
theorem m_X10_agreeOf (l : Launch) (D : va_G) (k : Nat → ClassId) (a : Nat → Nat) (st : CT) (sl : CL) (p0 : Int32) (p1 : Int32) (sz : Nat) (hB : MB st)  (hw : WOK (st 1)) : Met l yX10_agreeOf (.code yX10_agreeOf cX10_agreeOf 5 (some .int) :: TB) (rmk 5) (va_Pc [.ref (a 0), .int p0, .int p1] (PW D k sz (MWS k a st sl))) (vp_Si (fun r => (True))) 0 0 (fun _ => False) := by
  refine Met.ofW (cc := cX10_agreeOf) (maxL := 5) (ret := (some .int)) (by decide) rfl ?_
  intro p e s m args below meth c s₁ B hml hv
  obtain ⟨rfl, hsz, hP, hK, hD0, hN⟩ := hv
  have hx := B.exec
  have hb := B.bytes
  have hr := B.returns
  have hT : ∀ w9 ∈ TB, w9.before ([.ref (a 0), .int p0, .int p1] : List Value).toArray s = true := fun w9 h => atoms_spec (ws := .code yX10_agreeOf cX10_agreeOf 5 (some .int) :: TB) B.pre w9 (List.mem_cons_of_mem _ h)
  have hown : s.vm.findClass RX10 = some m.cls := findClass_of_methodNamed B.named
  have S : CallFix p m c cX10_agreeOf 5 s _ TB RX10 := ⟨hx, hb, hml, hown, hT⟩
  subst hsz
  have hl := lv_entry ([.ref (a 0), .int p0, .int p1]) (n := 5) (Nat.le_of_ble_eq_true rfl)
  rw [lg_entry_eq]
  generalize (lg_sl ([.ref (a 0), .int p0, .int p1]) ++ List.replicate (5 - (lg_sl ([.ref (a 0), .int p0, .int p1])).length) Slot.unset).toArray = ls at hl ⊢
  have hl : lv_has ls 5 [(0, .ref (a 0)), (1, .int p0), (2, .int p1)] := hl
  refine nameQ (fun Q hQ => ?_)
  refine lv_iconst (v := 0) hx hb dX10_agreeOf_0 (by decide) ?_
  refine lv_istore_n (lv' := [(3, .int 0), (0, .ref (a 0)), (1, .int p0), (2, .int p1)]) hx hb dX10_agreeOf_1 rfl hl (by decide) rfl (fun ls hl => ?_)
  refine lv_iconst (v := 0) hx hb dX10_agreeOf_2 (by decide) ?_
  refine lv_istore (lv' := [(4, .int 0), (3, .int 0), (0, .ref (a 0)), (1, .int p0), (2, .int p1)]) hx hb dX10_agreeOf_3 hl (by decide) rfl (fun ls hl => ?_)
  have lp5 : ∀ (n9_5 : Nat) (v4_5 : Int32) (v3_5 : Int32) (ls : Array Slot), Iv 0 6 v4_5 → lv_has ls 5 [(4, .int v4_5), (3, .int v3_5), (0, .ref (a 0)), (1, .int p0), (2, .int p1)] → (6 : Int) - v4_5.toInt < (n9_5 : Int) → W p l e (rmk 5) s m ([.ref (a 0), .int p0, .int p1] : List Value).toArray below meth c s.heap [] 0 0 Q (F0 m 5 ls []) := by
    clear hl
    intro n9_5
    induction n9_5 with
    | zero =>
      intro v4_5 v3_5 ls iv4_5 hl hm5
      exact (fu_0 iv4_5 hm5).elim
    | succ n9_5 ih5 =>
      intro v4_5 v3_5 ls iv4_5 hl hm5
      refine lv_iload hx hb dX10_agreeOf_5 (lv_at hl 0 rfl) ?_
      refine lv_aload_n hx hb dX10_agreeOf_7 rfl (lv_at hl 2 rfl) ?_
      refine va_get (D := D) (ci := 10) (v := .ref (a 1)) (C := RX10) (T := TX10) (N := 38) hx hb hT in_X10 hown hK hP 0 mw_0 rfl 1 (by decide) (hT _ t1263) (fun _ h9 => h9) rfl dX10_agreeOf_8 ?_
      refine lv_iconst (v := 0) hx hb dX10_agreeOf_11 (by decide) ?_
      refine va_iald hx hb hK hP 1 0 mw_1 rfl (by unfold vp_in; decide) dX10_agreeOf_12 ?_
      refine k_top (y := (st 1 0)) rfl ?_
      have h983 : Iv 0 6 (st 1 0) := (tok_at (hw).1 0 0 6 (by decide) (by decide) (by decide))
      refine lv_icmp_ge (tgt := 56) hx hb dX10_agreeOf_13 (by decide) (fun c984 => ?_) (fun c984 => ?_)
      · skip
        have n985 : (st 1 0).toInt ≤ v4_5.toInt := (i_le c984)
        refine lv_iload_n hx hb dX10_agreeOf_56 rfl (lv_at hl 1 rfl) ?_
        rw [hQ]
        exact W.iret (v := v3_5) hx hb hr (fun t ht hW => ⟨v3_5, rfl, trivial, ht⟩) (fun _ h9 => by cases h9) dX10_agreeOf_57
      · skip
        have n986 : v4_5.toInt < (st 1 0).toInt := (i_nle c984)
        have h987 : Iv 0 5 v4_5 := lt_l iv4_5 n986 h983 (by decide)
        have h988 : Iv 1 6 (st 1 0) := lt_r iv4_5 n986 h983 (by decide)
        refine lv_iload_n hx hb dX10_agreeOf_16 rfl (lv_at hl 1 rfl) ?_
        refine lv_aload_n hx hb dX10_agreeOf_17 rfl (lv_at hl 2 rfl) ?_
        refine lv_iload hx hb dX10_agreeOf_18 (lv_at hl 0 rfl) ?_
        refine ro_V (As := [.int v4_5]) (rest := [.int v3_5]) S (m_X10_roadsOf l D k a st sl  v4_5 _  hB  hw) lkX10_285 ok_X10_roadsOf ⟨rfl, rfl, Nat.le_of_ble_eq_true rfl, Nat.le_of_ble_eq_true rfl⟩ (pw_V (ci := 10) (q0 := 0) hK hN rfl mw_0 hP hD0) rfl hl.1 rfl (Nat.le_of_ble_eq_true rfl) ⟨Nat.zero_le _, Nat.zero_le _⟩ dX10_agreeOf_20 (fun r989 er989 => ?_)
        have h990 : Iv 0 255 r989 := er989.1
        have k991 := er989.2
        refine lv_if_eq (tgt := 47) hx hb dX10_agreeOf_23 (by decide) (fun c992 => ?_) (fun c992 => ?_)
        · skip
          have h993 : Iv 0 0 r989 := eq_l c992 (iv_c (by decide) : Iv 0 0 0)
          refine lv_iconst (v := 0) hx hb dX10_agreeOf_47 (by decide) ?_
          refine lv_iadd hx hb dX10_agreeOf_48 ?_
          refine lv_topi (fun z994 ez994 => ?_)
          refine lv_istore_n (lv' := [(3, .int z994), (4, .int v4_5), (0, .ref (a 0)), (1, .int p0), (2, .int p1)]) hx hb dX10_agreeOf_49 rfl hl (by decide) rfl (fun ls hl => ?_)
          obtain ⟨z995, ez995⟩ : ∃ z9 : Int32, z9 = v4_5 + Int32.ofInt 1 := ⟨_, rfl⟩
          have h996 : Iv 1 6 z995 := iv_inc ez995 h987 (by decide) (by decide) (by decide) (by decide) (by decide) (by decide)
          refine lv_iinc (v := z995) (lv' := [(4, .int z995), (3, .int z994), (0, .ref (a 0)), (1, .int p0), (2, .int p1)]) hx hb dX10_agreeOf_50 hl (k := 1) rfl ez995.symm (by decide) rfl (fun ls hl => ?_)
          refine lv_goto (tgt := 5) hx hb dX10_agreeOf_53 (by decide) ?_
          exact ih5 z995 z994 _ (iv_mono (c := 0) (d := 6) h996 (by decide) (by decide)) (lv_sub hl [0, 1, 2, 3, 4] rfl) (fu_s (lo := 0) (ti_inc ez995 h987 (by decide) (by decide) (by decide) (by decide)) (by decide) hm5)
        · skip
          have h997 : Iv 1 255 r989 := ne_lo h990 c992 (by decide) (by decide)
          refine lv_aload_n hx hb dX10_agreeOf_26 rfl (lv_at hl 2 rfl) ?_
          refine lv_iload_n hx hb dX10_agreeOf_27 rfl (lv_at hl 3 rfl) ?_
          refine lv_iload hx hb dX10_agreeOf_28 (lv_at hl 0 rfl) ?_
          refine ro_V (As := [.int p0, .int v4_5]) (rest := [.int v3_5]) S (m_X10_aloneIn l D k a st sl  p0 v4_5 _  hB  hw) lkX10_358 ok_X10_aloneIn ⟨rfl, rfl, Nat.le_of_ble_eq_true rfl, Nat.le_of_ble_eq_true rfl⟩ (pw_V (ci := 10) (q0 := 0) hK hN rfl mw_0 hP hD0) rfl hl.1 rfl (Nat.le_of_ble_eq_true rfl) ⟨Nat.zero_le _, Nat.zero_le _⟩ dX10_agreeOf_30 (fun r998 er998 => ?_)
          have h999 : Iv (-1) 7 r998 := er998.1
          refine lv_aload_n hx hb dX10_agreeOf_33 rfl (lv_at hl 2 rfl) ?_
          refine lv_iload_n hx hb dX10_agreeOf_34 rfl (lv_at hl 4 rfl) ?_
          refine lv_iload hx hb dX10_agreeOf_35 (lv_at hl 0 rfl) ?_
          refine ro_V (As := [.int p1, .int v4_5]) (rest := [.int r998, .int v3_5]) S (m_X10_aloneIn l D k a st sl  p1 v4_5 _  hB  hw) lkX10_358 ok_X10_aloneIn ⟨rfl, rfl, Nat.le_of_ble_eq_true rfl, Nat.le_of_ble_eq_true rfl⟩ (pw_V (ci := 10) (q0 := 0) hK hN rfl mw_0 hP hD0) rfl hl.1 rfl (Nat.le_of_ble_eq_true rfl) ⟨Nat.zero_le _, Nat.zero_le _⟩ dX10_agreeOf_37 (fun r1000 er1000 => ?_)
          have h1001 : Iv (-1) 7 r1000 := er1000.1
          refine lv_icmp_ne (tgt := 47) hx hb dX10_agreeOf_40 (by decide) (fun c1002 => ?_) (fun c1002 => ?_)
          · skip
            refine lv_iconst (v := 0) hx hb dX10_agreeOf_47 (by decide) ?_
            refine lv_iadd hx hb dX10_agreeOf_48 ?_
            refine lv_topi (fun z1003 ez1003 => ?_)
            refine lv_istore_n (lv' := [(3, .int z1003), (4, .int v4_5), (0, .ref (a 0)), (1, .int p0), (2, .int p1)]) hx hb dX10_agreeOf_49 rfl hl (by decide) rfl (fun ls hl => ?_)
            obtain ⟨z1004, ez1004⟩ : ∃ z9 : Int32, z9 = v4_5 + Int32.ofInt 1 := ⟨_, rfl⟩
            have h1005 : Iv 1 6 z1004 := iv_inc ez1004 h987 (by decide) (by decide) (by decide) (by decide) (by decide) (by decide)
            refine lv_iinc (v := z1004) (lv' := [(4, .int z1004), (3, .int z1003), (0, .ref (a 0)), (1, .int p0), (2, .int p1)]) hx hb dX10_agreeOf_50 hl (k := 1) rfl ez1004.symm (by decide) rfl (fun ls hl => ?_)
            refine lv_goto (tgt := 5) hx hb dX10_agreeOf_53 (by decide) ?_
            exact ih5 z1004 z1003 _ (iv_mono (c := 0) (d := 6) h1005 (by decide) (by decide)) (lv_sub hl [0, 1, 2, 3, 4] rfl) (fu_s (lo := 0) (ti_inc ez1004 h987 (by decide) (by decide) (by decide) (by decide)) (by decide) hm5)
          · skip
            refine lv_iconst (v := 1) hx hb dX10_agreeOf_43 (by decide) ?_
            refine lv_goto (tgt := 48) hx hb dX10_agreeOf_44 (by decide) ?_
            refine lv_iadd hx hb dX10_agreeOf_48 ?_
            refine lv_topi (fun z1006 ez1006 => ?_)
            refine lv_istore_n (lv' := [(3, .int z1006), (4, .int v4_5), (0, .ref (a 0)), (1, .int p0), (2, .int p1)]) hx hb dX10_agreeOf_49 rfl hl (by decide) rfl (fun ls hl => ?_)
            obtain ⟨z1007, ez1007⟩ : ∃ z9 : Int32, z9 = v4_5 + Int32.ofInt 1 := ⟨_, rfl⟩
            have h1008 : Iv 1 6 z1007 := iv_inc ez1007 h987 (by decide) (by decide) (by decide) (by decide) (by decide) (by decide)
            refine lv_iinc (v := z1007) (lv' := [(4, .int z1007), (3, .int z1006), (0, .ref (a 0)), (1, .int p0), (2, .int p1)]) hx hb dX10_agreeOf_50 hl (k := 1) rfl ez1007.symm (by decide) rfl (fun ls hl => ?_)
            refine lv_goto (tgt := 5) hx hb dX10_agreeOf_53 (by decide) ?_
            exact ih5 z1007 z1006 _ (iv_mono (c := 0) (d := 6) h1008 (by decide) (by decide)) (lv_sub hl [0, 1, 2, 3, 4] rfl) (fu_s (lo := 0) (ti_inc ez1007 h987 (by decide) (by decide) (by decide) (by decide)) (by decide) hm5)
  exact lp5 7 0 0 _ (iv_mono (c := 0) (d := 6) (iv_c (by decide) : Iv 0 0 0) (by decide) (by decide)) (lv_sub hl [0, 1, 2, 3, 4] rfl) (fu_i (iv_mono (c := 0) (d := 6) (iv_c (by decide) : Iv 0 0 0) (by decide) (by decide)) (by decide))
set_option maxHeartbeats 4000000 in
set_option maxRecDepth 100000 in
theorem m_X10_agree (l : Launch) (D : va_G) (k : Nat → ClassId) (a : Nat → Nat) (st : CT) (sl : CL) (p0 : Int32) (p1 : Int32) (sz : Nat) (hB : MB st)  (hw : WOK (st 1)) : Met l yX10_agree (.code yX10_agree cX10_agree 3 (some .int) :: TB) (rmw 8 0 0) (va_Pc [.ref (a 0), .int p0, .int p1] (PW D k sz (MWS k a st sl))) (QI D (S := CT) (fun r u => MB u ∧ FR [7, 9, 8, 10, 11] st u ∧ ((True))) (fun u => MWS k a u sl) (fun _ => []) (MWS k a st sl) sz) 0 0 (va_A (MWS k a st sl) sz) := by
  refine Met.ofW (cc := cX10_agree) (maxL := 3) (ret := (some .int)) (by decide) rfl ?_
  intro p e s m args below meth c s₁ B hml hv
  obtain ⟨rfl, hsz, hP, hK, hD0, hN⟩ := hv
  have hx := B.exec
  have hb := B.bytes
  have hr := B.returns
  have hT : ∀ w9 ∈ TB, w9.before ([.ref (a 0), .int p0, .int p1] : List Value).toArray s = true := fun w9 h => atoms_spec (ws := .code yX10_agree cX10_agree 3 (some .int) :: TB) B.pre w9 (List.mem_cons_of_mem _ h)
  have hown : s.vm.findClass RX10 = some m.cls := findClass_of_methodNamed B.named
  have S : CallFix p m c cX10_agree 3 s _ TB RX10 := ⟨hx, hb, hml, hown, hT⟩
  subst hsz
  have hD := hD0.self (sz := s.heap.size)
  generalize hAe : va_A (MWS k a st sl) s.heap.size = A at hD ⊢
  have hA : ∀ q : Nat, s.heap.size ≤ q → A q := fun q h => by rw [← hAe]; exact Or.inr h
  have hS : va_S A s.heap s.heap [] := va_S.rf
  have hl := lv_entry ([.ref (a 0), .int p0, .int p1]) (n := 3) (Nat.le_of_ble_eq_true rfl)
  rw [lg_entry_eq]
  generalize (lg_sl ([.ref (a 0), .int p0, .int p1]) ++ List.replicate (3 - (lg_sl ([.ref (a 0), .int p0, .int p1])).length) Slot.unset).toArray = ls at hl ⊢
  have hl : lv_has ls 3 [(0, .ref (a 0)), (1, .int p0), (2, .int p1)] := hl
  refine nameQ (fun Q hQ => ?_)
  refine lv_aload_n hx hb dX10_agree_0 rfl (lv_at hl 0 rfl) ?_
  refine lv_iload_n hx hb dX10_agree_1 rfl (lv_at hl 1 rfl) ?_
  refine ro_V (As := [.int p0]) (rest := []) S (m_X10_isWheel l D k a st sl  p0 _  hB  hw) lkX10_269 ok_X10_isWheel ⟨rfl, rfl, Nat.le_of_ble_eq_true rfl, Nat.le_of_ble_eq_true rfl⟩ (pw_V (ci := 10) (q0 := 0) hK hN rfl mw_0 hP (hD.weaken (fun _ _ _ _ => trivial))) rfl hl.1 rfl (Nat.le_of_ble_eq_true rfl) ⟨Nat.zero_le _, Nat.zero_le _⟩ dX10_agree_2 (fun r1 er1 => ?_)
  rcases er1 with ⟨rfl, g9⟩ | ⟨rfl, g9⟩
  · skip
    have g2 := g9
    have h3 : Iv 0 7 p0 := g2.1
    have k4 := g2.2
    refine lv_if_eq (tgt := 16) hx hb dX10_agree_5 (by decide) (fun c5 => ?_) (fun c5 => ?_)
    · first | exact absurd c5 (by decide) | exact absurd (by decide) c5
    refine lv_aload_n hx hb dX10_agree_8 rfl (lv_at hl 0 rfl) ?_
    refine lv_iload_n hx hb dX10_agree_9 rfl (lv_at hl 2 rfl) ?_
    refine ro_V (As := [.int p1]) (rest := []) S (m_X10_isWheel l D k a st sl  p1 _  hB  hw) lkX10_269 ok_X10_isWheel ⟨rfl, rfl, Nat.le_of_ble_eq_true rfl, Nat.le_of_ble_eq_true rfl⟩ (pw_V (ci := 10) (q0 := 0) hK hN rfl mw_0 hP (hD.weaken (fun _ _ _ _ => trivial))) rfl hl.1 rfl (Nat.le_of_ble_eq_true rfl) ⟨Nat.zero_le _, Nat.zero_le _⟩ dX10_agree_10 (fun r6 er6 => ?_)
    rcases er6 with ⟨rfl, g9⟩ | ⟨rfl, g9⟩
    · skip
      have g7 := g9
      have h8 : Iv 0 7 p1 := g7.1
      have k9 := g7.2
      refine lv_if_ne (tgt := 19) hx hb dX10_agree_13 (by decide) (fun c10 => ?_) (fun c10 => ?_)
      rotate_left
      · first | exact absurd c10 (by decide) | exact absurd (by decide) c10
      refine lv_aload_n hx hb dX10_agree_19 rfl (lv_at hl 0 rfl) ?_
      refine ca_v hP hD hS hA (fun hDc => run_V (mc := 0) (ms := 0) (As := []) (rest := []) S (m_X10_asItIs l D k a st sl   _  hB  hw) lkX10_273 ok_X10_asItIs ⟨rfl, rfl, Nat.le_of_ble_eq_true rfl, Nat.le_of_ble_eq_true rfl⟩ (pw_V (ci := 10) (q0 := 0) hK hN rfl mw_0 hP hDc) rfl hl.1 rfl (Nat.le_of_ble_eq_true rfl) ⟨Nat.zero_le _, Nat.zero_le _⟩ dX10_agree_20) (fun s11 H9 locs9 hs11 hP9 hD9 hS9 => ?_)
      clear hP hD hS
      have hS := hS9
      have hP := hP9
      have hD := hD9
      clear hP9 hD9 hS9
      obtain ⟨hBs11, gs11, fs11⟩ := hs11
      have hFs11 : FR [7, 9, 8, 10, 11] st s11 := fr_ca fr_rf gs11 (sub_1 (List.mem_of_getElem? (i := 0) rfl) (sub_1 (List.mem_of_getElem? (i := 1) rfl) (sub_1 (List.mem_of_getElem? (i := 2) rfl) (sub_1 (List.mem_of_getElem? (i := 3) rfl) (sub_1 (List.mem_of_getElem? (i := 4) rfl) sub_0)))))
      refine lv_aload_n hx hb dX10_agree_23 rfl (lv_at hl 0 rfl) ?_
      refine lv_iload_n hx hb dX10_agree_24 rfl (lv_at hl 1 rfl) ?_
      refine lv_iload_n hx hb dX10_agree_25 rfl (lv_at hl 2 rfl) ?_
      refine ro_V (As := [.int p0, .int p1]) (rest := []) S (m_X10_agreeOf l D k a s11 sl  p0 p1 _  hBs11  (wok_of (hFs11 1 (nm_1 (by decide) (nm_1 (by decide) (nm_1 (by decide) (nm_1 (by decide) (nm_1 (by decide) nm_0)))))) hw)) lkX10_382 ok_X10_agreeOf ⟨rfl, rfl, Nat.le_of_ble_eq_true rfl, Nat.le_of_ble_eq_true rfl⟩ (pw_V (ci := 10) (q0 := 0) hK hN rfl mw_0 hP (hD.weaken (fun _ _ _ _ => trivial))) rfl hl.1 rfl (Nat.le_of_ble_eq_true rfl) ⟨Nat.zero_le _, Nat.zero_le _⟩ dX10_agree_26 (fun r13 er13 => ?_)
      rw [hQ]
      exact W.iret (v := r13) hx hb hr (fun t ht hW => ⟨⟨r13, s11, rfl, ⟨hBs11, hFs11, trivial⟩, by rw [ht]; exact hP, va_K.moved hW.alike (hK.sub (tys' := []) [] rfl), by rw [hAe]; exact hD⟩, by rw [hAe]; exact hS.F ht⟩) hS.2.2 dX10_agree_29
    · skip
      have g14 := g9
      refine lv_if_ne (tgt := 19) hx hb dX10_agree_13 (by decide) (fun c15 => ?_) (fun c15 => ?_)
      · first | exact absurd c15 (by decide) | exact absurd (by decide) c15
      refine lv_bipush (v := (-2)) hx hb dX10_agree_16 (by decide) ?_
      rw [hQ]
      exact W.iret (v := (-2)) hx hb hr (fun t ht hW => ⟨⟨(-2), st, rfl, ⟨hB, fr_rf, trivial⟩, by rw [ht]; exact hP, va_K.moved hW.alike (hK.sub (tys' := []) [] rfl), by rw [hAe]; exact hD⟩, by rw [hAe]; exact hS.F ht⟩) hS.2.2 dX10_agree_18
  · skip
    have g16 := g9
    refine lv_if_eq (tgt := 16) hx hb dX10_agree_5 (by decide) (fun c17 => ?_) (fun c17 => ?_)
    rotate_left
    · first | exact absurd c17 (by decide) | exact absurd (by decide) c17
    refine lv_bipush (v := (-2)) hx hb dX10_agree_16 (by decide) ?_
    rw [hQ]
    exact W.iret (v := (-2)) hx hb hr (fun t ht hW => ⟨⟨(-2), st, rfl, ⟨hB, fr_rf, trivial⟩, by rw [ht]; exact hP, va_K.moved hW.alike (hK.sub (tys' := []) [] rfl), by rw [hAe]; exact hD⟩, by rw [hAe]; exact hS.F ht⟩) hS.2.2 dX10_agree_18
set_option maxHeartbeats 4000000 in
set_option maxRecDepth 100000 in
theorem m_X10_mate (l : Launch) (D : va_G) (k : Nat → ClassId) (a : Nat → Nat) (st : CT) (sl : CL) (p0 : Int32) (sz : Nat) (hB : MB st)  (hw : WOK (st 1)) : Met l yX10_mate (.code yX10_mate cX10_mate 4 (some .int) :: TB) (rmw 8 0 0) (va_Pc [.ref (a 0), .int p0] (PW D k sz (MWS k a st sl))) (QI D (S := CT) (fun r u => MB u ∧ FR [7, 9, 8, 10, 11] st u ∧ (Iv (-2) 7 r ∧ (True))) (fun u => MWS k a u sl) (fun _ => []) (MWS k a st sl) sz) 0 0 (va_A (MWS k a st sl) sz) := by
  refine Met.ofW (cc := cX10_mate) (maxL := 4) (ret := (some .int)) (by decide) rfl ?_
  intro p e s m args below meth c s₁ B hml hv
  obtain ⟨rfl, hsz, hP, hK, hD0, hN⟩ := hv
  have hx := B.exec
  have hb := B.bytes
  have hr := B.returns
  have hT : ∀ w9 ∈ TB, w9.before ([.ref (a 0), .int p0] : List Value).toArray s = true := fun w9 h => atoms_spec (ws := .code yX10_mate cX10_mate 4 (some .int) :: TB) B.pre w9 (List.mem_cons_of_mem _ h)
  have hown : s.vm.findClass RX10 = some m.cls := findClass_of_methodNamed B.named
  have S : CallFix p m c cX10_mate 4 s _ TB RX10 := ⟨hx, hb, hml, hown, hT⟩
  subst hsz
  have hD := hD0.self (sz := s.heap.size)
  generalize hAe : va_A (MWS k a st sl) s.heap.size = A at hD ⊢
  have hA : ∀ q : Nat, s.heap.size ≤ q → A q := fun q h => by rw [← hAe]; exact Or.inr h
  have hS : va_S A s.heap s.heap [] := va_S.rf
  have hl := lv_entry ([.ref (a 0), .int p0]) (n := 4) (Nat.le_of_ble_eq_true rfl)
  rw [lg_entry_eq]
  generalize (lg_sl ([.ref (a 0), .int p0]) ++ List.replicate (4 - (lg_sl ([.ref (a 0), .int p0])).length) Slot.unset).toArray = ls at hl ⊢
  have hl : lv_has ls 4 [(0, .ref (a 0)), (1, .int p0)] := hl
  refine nameQ (fun Q hQ => ?_)
  refine lv_aload_n hx hb dX10_mate_0 rfl (lv_at hl 0 rfl) ?_
  refine lv_iload_n hx hb dX10_mate_1 rfl (lv_at hl 1 rfl) ?_
  refine ro_V (As := [.int p0]) (rest := []) S (m_X10_isWheel l D k a st sl  p0 _  hB  hw) lkX10_269 ok_X10_isWheel ⟨rfl, rfl, Nat.le_of_ble_eq_true rfl, Nat.le_of_ble_eq_true rfl⟩ (pw_V (ci := 10) (q0 := 0) hK hN rfl mw_0 hP (hD.weaken (fun _ _ _ _ => trivial))) rfl hl.1 rfl (Nat.le_of_ble_eq_true rfl) ⟨Nat.zero_le _, Nat.zero_le _⟩ dX10_mate_2 (fun r1 er1 => ?_)
  rcases er1 with ⟨rfl, g9⟩ | ⟨rfl, g9⟩
  · skip
    have g2 := g9
    have h3 : Iv 0 7 p0 := g2.1
    have k4 := g2.2
    refine lv_if_ne (tgt := 11) hx hb dX10_mate_5 (by decide) (fun c5 => ?_) (fun c5 => ?_)
    rotate_left
    · first | exact absurd c5 (by decide) | exact absurd (by decide) c5
    refine lv_aload_n hx hb dX10_mate_11 rfl (lv_at hl 0 rfl) ?_
    refine ca_v hP hD hS hA (fun hDc => run_V (mc := 0) (ms := 0) (As := []) (rest := []) S (m_X10_asItIs l D k a st sl   _  hB  hw) lkX10_273 ok_X10_asItIs ⟨rfl, rfl, Nat.le_of_ble_eq_true rfl, Nat.le_of_ble_eq_true rfl⟩ (pw_V (ci := 10) (q0 := 0) hK hN rfl mw_0 hP hDc) rfl hl.1 rfl (Nat.le_of_ble_eq_true rfl) ⟨Nat.zero_le _, Nat.zero_le _⟩ dX10_mate_12) (fun s6 H9 locs9 hs6 hP9 hD9 hS9 => ?_)
    clear hP hD hS
    have hS := hS9
    have hP := hP9
    have hD := hD9
    clear hP9 hD9 hS9
    obtain ⟨hBs6, gs6, fs6⟩ := hs6
    have hFs6 : FR [7, 9, 8, 10, 11] st s6 := fr_ca fr_rf gs6 (sub_1 (List.mem_of_getElem? (i := 0) rfl) (sub_1 (List.mem_of_getElem? (i := 1) rfl) (sub_1 (List.mem_of_getElem? (i := 2) rfl) (sub_1 (List.mem_of_getElem? (i := 3) rfl) (sub_1 (List.mem_of_getElem? (i := 4) rfl) sub_0)))))
    refine lv_iconst (v := (-1)) hx hb dX10_mate_15 (by decide) ?_
    refine lv_istore_n (lv' := [(2, .int (-1)), (0, .ref (a 0)), (1, .int p0)]) hx hb dX10_mate_16 rfl hl (by decide) rfl (fun ls hl => ?_)
    refine lv_iconst (v := 0) hx hb dX10_mate_17 (by decide) ?_
    refine lv_istore_n (lv' := [(3, .int 0), (2, .int (-1)), (0, .ref (a 0)), (1, .int p0)]) hx hb dX10_mate_18 rfl hl (by decide) rfl (fun ls hl => ?_)
    have lp19 : ∀ (n9_19 : Nat) (v3_19 : Int32) (v2_19 : Int32) (ls : Array Slot), Iv 0 8 v3_19 → Iv (-1) 7 v2_19 → lv_has ls 4 [(3, .int v3_19), (2, .int v2_19), (0, .ref (a 0)), (1, .int p0)] → (8 : Int) - v3_19.toInt < (n9_19 : Int) → W p l e (rmw 8 0 0) s m ([.ref (a 0), .int p0] : List Value).toArray below meth c H9 locs9 0 0 Q (F0 m 19 ls []) := by
      clear hl
      intro n9_19
      induction n9_19 with
      | zero =>
        intro v3_19 v2_19 ls iv3_19 iv2_19 hl hm19
        exact (fu_0 iv3_19 hm19).elim
      | succ n9_19 ih19 =>
        intro v3_19 v2_19 ls iv3_19 iv2_19 hl hm19
        refine lv_iload_n hx hb dX10_mate_19 rfl (lv_at hl 0 rfl) ?_
        refine lv_aload_n hx hb dX10_mate_20 rfl (lv_at hl 2 rfl) ?_
        refine va_get (D := D) (ci := 10) (v := .ref (a 1)) (C := RX10) (T := TX10) (N := 38) hx hb hT in_X10 hown hK hP 0 mw_0 rfl 1 (by decide) (hT _ t1263) (fun _ h9 => h9) rfl dX10_mate_21 ?_
        refine lv_iconst (v := 3) hx hb dX10_mate_24 (by decide) ?_
        refine va_iald hx hb hK hP 1 0 mw_1 rfl (by unfold vp_in; decide) dX10_mate_25 ?_
        refine k_top (y := (s6 1 3)) rfl ?_
        refine k_top (y := (st 1 3)) (congrFun (hFs6 1 (nm_1 (by decide) (nm_1 (by decide) (nm_1 (by decide) (nm_1 (by decide) (nm_1 (by decide) nm_0)))))) 3) ?_
        have h227 : Iv 0 8 (st 1 3) := (tok_at (hw).1 3 0 8 (by decide) (by decide) (by decide))
        refine lv_icmp_ge (tgt := 62) hx hb dX10_mate_26 (by decide) (fun c228 => ?_) (fun c228 => ?_)
        · skip
          have n229 : (st 1 3).toInt ≤ v3_19.toInt := (i_le c228)
          refine lv_iload_n hx hb dX10_mate_62 rfl (lv_at hl 1 rfl) ?_
          rw [hQ]
          exact W.iret (v := v2_19) hx hb hr (fun t ht hW => ⟨⟨v2_19, s6, rfl, ⟨hBs6, hFs6, ⟨(iv_mono (c := (-2)) (d := 7) iv2_19 (by decide) (by decide)), trivial⟩⟩, by rw [ht]; exact hP, va_K.moved hW.alike (hK.sub (tys' := []) [] rfl), by rw [hAe]; exact hD⟩, by rw [hAe]; exact hS.F ht⟩) hS.2.2 dX10_mate_63
        · skip
          have n230 : v3_19.toInt < (st 1 3).toInt := (i_nle c228)
          have h231 : Iv 0 7 v3_19 := lt_l iv3_19 n230 h227 (by decide)
          have h232 : Iv 1 8 (st 1 3) := lt_r iv3_19 n230 h227 (by decide)
          refine lv_iload_n hx hb dX10_mate_29 rfl (lv_at hl 0 rfl) ?_
          refine lv_iload_n hx hb dX10_mate_30 rfl (lv_at hl 3 rfl) ?_
          refine lv_icmp_eq (tgt := 56) hx hb dX10_mate_31 (by decide) (fun c233 => ?_) (fun c233 => ?_)
          · skip
            obtain ⟨z234, ez234⟩ : ∃ z9 : Int32, z9 = v3_19 + Int32.ofInt 1 := ⟨_, rfl⟩
            have h235 : Iv 1 8 z234 := iv_inc ez234 h231 (by decide) (by decide) (by decide) (by decide) (by decide) (by decide)
            refine lv_iinc (v := z234) (lv' := [(3, .int z234), (2, .int v2_19), (0, .ref (a 0)), (1, .int p0)]) hx hb dX10_mate_56 hl (k := 0) rfl ez234.symm (by decide) rfl (fun ls hl => ?_)
            refine lv_goto (tgt := 19) hx hb dX10_mate_59 (by decide) ?_
            exact ih19 z234 v2_19 _ (iv_mono (c := 0) (d := 8) h235 (by decide) (by decide)) iv2_19 (lv_sub hl [0, 1, 2, 3] rfl) (fu_s (lo := 0) (ti_inc ez234 h231 (by decide) (by decide) (by decide) (by decide)) (by decide) hm19)
          · skip
            refine lv_iload_n hx hb dX10_mate_34 rfl (lv_at hl 1 rfl) ?_
            refine lv_iconst (v := (-1)) hx hb dX10_mate_35 (by decide) ?_
            refine lv_icmp_eq (tgt := 54) hx hb dX10_mate_36 (by decide) (fun c236 => ?_) (fun c236 => ?_)
            · skip
              have h237 : Iv (-1) (-1) v2_19 := eq_l c236 (iv_c (by decide) : Iv (-1) (-1) (-1))
              refine lv_iload_n hx hb dX10_mate_54 rfl (lv_at hl 0 rfl) ?_
              refine lv_istore_n (lv' := [(2, .int v3_19), (3, .int v3_19), (0, .ref (a 0)), (1, .int p0)]) hx hb dX10_mate_55 rfl hl (by decide) rfl (fun ls hl => ?_)
              obtain ⟨z238, ez238⟩ : ∃ z9 : Int32, z9 = v3_19 + Int32.ofInt 1 := ⟨_, rfl⟩
              have h239 : Iv 1 8 z238 := iv_inc ez238 h231 (by decide) (by decide) (by decide) (by decide) (by decide) (by decide)
              refine lv_iinc (v := z238) (lv' := [(3, .int z238), (2, .int v3_19), (0, .ref (a 0)), (1, .int p0)]) hx hb dX10_mate_56 hl (k := 1) rfl ez238.symm (by decide) rfl (fun ls hl => ?_)
              refine lv_goto (tgt := 19) hx hb dX10_mate_59 (by decide) ?_
              exact ih19 z238 v3_19 _ (iv_mono (c := 0) (d := 8) h239 (by decide) (by decide)) (iv_mono (c := (-1)) (d := 7) h231 (by decide) (by decide)) (lv_sub hl [0, 1, 2, 3] rfl) (fu_s (lo := 0) (ti_inc ez238 h231 (by decide) (by decide) (by decide) (by decide)) (by decide) hm19)
            · skip
              have h240 : Iv 0 7 v2_19 := ne_lo iv2_19 c236 (by decide) (by decide)
              refine lv_aload_n hx hb dX10_mate_39 rfl (lv_at hl 2 rfl) ?_
              refine lv_iload_n hx hb dX10_mate_40 rfl (lv_at hl 3 rfl) ?_
              refine lv_iload_n hx hb dX10_mate_41 rfl (lv_at hl 0 rfl) ?_
              refine ro_V (As := [.int p0, .int v3_19]) (rest := []) S (m_X10_agreeOf l D k a s6 sl  p0 v3_19 _  hBs6  (wok_of (hFs6 1 (nm_1 (by decide) (nm_1 (by decide) (nm_1 (by decide) (nm_1 (by decide) (nm_1 (by decide) nm_0)))))) hw)) lkX10_382 ok_X10_agreeOf ⟨rfl, rfl, Nat.le_of_ble_eq_true rfl, Nat.le_of_ble_eq_true rfl⟩ (pw_V (ci := 10) (q0 := 0) hK hN rfl mw_0 hP (hD.weaken (fun _ _ _ _ => trivial))) rfl hl.1 rfl (Nat.le_of_ble_eq_true rfl) ⟨Nat.zero_le _, Nat.zero_le _⟩ dX10_mate_42 (fun r241 er241 => ?_)
              refine lv_aload_n hx hb dX10_mate_45 rfl (lv_at hl 2 rfl) ?_
              refine lv_iload_n hx hb dX10_mate_46 rfl (lv_at hl 3 rfl) ?_
              refine lv_iload_n hx hb dX10_mate_47 rfl (lv_at hl 1 rfl) ?_
              refine ro_V (As := [.int p0, .int v2_19]) (rest := [.int r241]) S (m_X10_agreeOf l D k a s6 sl  p0 v2_19 _  hBs6  (wok_of (hFs6 1 (nm_1 (by decide) (nm_1 (by decide) (nm_1 (by decide) (nm_1 (by decide) (nm_1 (by decide) nm_0)))))) hw)) lkX10_382 ok_X10_agreeOf ⟨rfl, rfl, Nat.le_of_ble_eq_true rfl, Nat.le_of_ble_eq_true rfl⟩ (pw_V (ci := 10) (q0 := 0) hK hN rfl mw_0 hP (hD.weaken (fun _ _ _ _ => trivial))) rfl hl.1 rfl (Nat.le_of_ble_eq_true rfl) ⟨Nat.zero_le _, Nat.zero_le _⟩ dX10_mate_48 (fun r242 er242 => ?_)
              refine lv_icmp_le (tgt := 56) hx hb dX10_mate_51 (by decide) (fun c243 => ?_) (fun c243 => ?_)
              · skip
                have n244 : r241.toInt ≤ r242.toInt := (i_le c243)
                obtain ⟨z245, ez245⟩ : ∃ z9 : Int32, z9 = v3_19 + Int32.ofInt 1 := ⟨_, rfl⟩
                have h246 : Iv 1 8 z245 := iv_inc ez245 h231 (by decide) (by decide) (by decide) (by decide) (by decide) (by decide)
                refine lv_iinc (v := z245) (lv' := [(3, .int z245), (2, .int v2_19), (0, .ref (a 0)), (1, .int p0)]) hx hb dX10_mate_56 hl (k := 0) rfl ez245.symm (by decide) rfl (fun ls hl => ?_)
                refine lv_goto (tgt := 19) hx hb dX10_mate_59 (by decide) ?_
                exact ih19 z245 v2_19 _ (iv_mono (c := 0) (d := 8) h246 (by decide) (by decide)) (iv_mono (c := (-1)) (d := 7) h240 (by decide) (by decide)) (lv_sub hl [0, 1, 2, 3] rfl) (fu_s (lo := 0) (ti_inc ez245 h231 (by decide) (by decide) (by decide) (by decide)) (by decide) hm19)
              · skip
                have n247 : r242.toInt < r241.toInt := (i_nle c243)
                have h248 : Iv (-2147483648) 2147483646 r242 := lt_l (iv_full r242) n247 (iv_full r241) (by decide)
                have h249 : Iv (-2147483647) 2147483647 r241 := lt_r (iv_full r242) n247 (iv_full r241) (by decide)
                refine lv_iload_n hx hb dX10_mate_54 rfl (lv_at hl 0 rfl) ?_
                refine lv_istore_n (lv' := [(2, .int v3_19), (3, .int v3_19), (0, .ref (a 0)), (1, .int p0)]) hx hb dX10_mate_55 rfl hl (by decide) rfl (fun ls hl => ?_)
                obtain ⟨z250, ez250⟩ : ∃ z9 : Int32, z9 = v3_19 + Int32.ofInt 1 := ⟨_, rfl⟩
                have h251 : Iv 1 8 z250 := iv_inc ez250 h231 (by decide) (by decide) (by decide) (by decide) (by decide) (by decide)
                refine lv_iinc (v := z250) (lv' := [(3, .int z250), (2, .int v3_19), (0, .ref (a 0)), (1, .int p0)]) hx hb dX10_mate_56 hl (k := 1) rfl ez250.symm (by decide) rfl (fun ls hl => ?_)
                refine lv_goto (tgt := 19) hx hb dX10_mate_59 (by decide) ?_
                exact ih19 z250 v3_19 _ (iv_mono (c := 0) (d := 8) h251 (by decide) (by decide)) (iv_mono (c := (-1)) (d := 7) h231 (by decide) (by decide)) (lv_sub hl [0, 1, 2, 3] rfl) (fu_s (lo := 0) (ti_inc ez250 h231 (by decide) (by decide) (by decide) (by decide)) (by decide) hm19)
    exact lp19 9 0 (-1) _ (iv_mono (c := 0) (d := 8) (iv_c (by decide) : Iv 0 0 0) (by decide) (by decide)) (iv_mono (c := (-1)) (d := 7) (iv_c (by decide) : Iv (-1) (-1) (-1)) (by decide) (by decide)) (lv_sub hl [0, 1, 2, 3] rfl) (fu_i (iv_mono (c := 0) (d := 8) (iv_c (by decide) : Iv 0 0 0) (by decide) (by decide)) (by decide))
  · skip
    have g252 := g9
    refine lv_if_ne (tgt := 11) hx hb dX10_mate_5 (by decide) (fun c253 => ?_) (fun c253 => ?_)
    · first | exact absurd c253 (by decide) | exact absurd (by decide) c253
    refine lv_bipush (v := (-2)) hx hb dX10_mate_8 (by decide) ?_
    rw [hQ]
    exact W.iret (v := (-2)) hx hb hr (fun t ht hW => ⟨⟨(-2), st, rfl, ⟨hB, fr_rf, ⟨(iv_mono (c := (-2)) (d := 7) (iv_c (by decide) : Iv (-2) (-2) (-2)) (by decide) (by decide)), trivial⟩⟩, by rw [ht]; exact hP, va_K.moved hW.alike (hK.sub (tys' := []) [] rfl), by rw [hAe]; exact hD⟩, by rw [hAe]; exact hS.F ht⟩) hS.2.2 dX10_mate_10
set_option maxHeartbeats 4000000 in
set_option maxRecDepth 100000 in
theorem m_X10_teach (l : Launch) (D : va_G) (k : Nat → ClassId) (a : Nat → Nat) (st : CT) (sl : CL) (p0 : Int32) (p1 : Int32) (sz : Nat) (hB : MB st)  (hw : WOK (st 1)) : Met l yX10_teach (.code yX10_teach cX10_teach 4 (some .int) :: TB) (rmw 8 0 0) (va_Pc [.ref (a 0), .int p0, .int p1] (PW D k sz (MWS k a st sl))) (QI D (S := CT) (fun r u => MB u ∧ FR [7, 9, 8, 10, 11] st u ∧ (Iv (-2) 60 r ∧ (True))) (fun u => MWS k a u sl) (fun _ => []) (MWS k a st sl) sz) 0 0 (va_A (MWS k a st sl) sz) := by
  refine Met.ofW (cc := cX10_teach) (maxL := 4) (ret := (some .int)) (by decide) rfl ?_
  intro p e s m args below meth c s₁ B hml hv
  obtain ⟨rfl, hsz, hP, hK, hD0, hN⟩ := hv
  have hx := B.exec
  have hb := B.bytes
  have hr := B.returns
  have hT : ∀ w9 ∈ TB, w9.before ([.ref (a 0), .int p0, .int p1] : List Value).toArray s = true := fun w9 h => atoms_spec (ws := .code yX10_teach cX10_teach 4 (some .int) :: TB) B.pre w9 (List.mem_cons_of_mem _ h)
  have hown : s.vm.findClass RX10 = some m.cls := findClass_of_methodNamed B.named
  have S : CallFix p m c cX10_teach 4 s _ TB RX10 := ⟨hx, hb, hml, hown, hT⟩
  subst hsz
  have hD := hD0.self (sz := s.heap.size)
  generalize hAe : va_A (MWS k a st sl) s.heap.size = A at hD ⊢
  have hA : ∀ q : Nat, s.heap.size ≤ q → A q := fun q h => by rw [← hAe]; exact Or.inr h
  have hS : va_S A s.heap s.heap [] := va_S.rf
  have hl := lv_entry ([.ref (a 0), .int p0, .int p1]) (n := 4) (Nat.le_of_ble_eq_true rfl)
  rw [lg_entry_eq]
  generalize (lg_sl ([.ref (a 0), .int p0, .int p1]) ++ List.replicate (4 - (lg_sl ([.ref (a 0), .int p0, .int p1])).length) Slot.unset).toArray = ls at hl ⊢
  have hl : lv_has ls 4 [(0, .ref (a 0)), (1, .int p0), (2, .int p1)] := hl
  refine nameQ (fun Q hQ => ?_)
  refine lv_aload_n hx hb dX10_teach_0 rfl (lv_at hl 0 rfl) ?_
  refine lv_iload_n hx hb dX10_teach_1 rfl (lv_at hl 1 rfl) ?_
  refine ro_V (As := [.int p0]) (rest := []) S (m_X10_isWheel l D k a st sl  p0 _  hB  hw) lkX10_269 ok_X10_isWheel ⟨rfl, rfl, Nat.le_of_ble_eq_true rfl, Nat.le_of_ble_eq_true rfl⟩ (pw_V (ci := 10) (q0 := 0) hK hN rfl mw_0 hP (hD.weaken (fun _ _ _ _ => trivial))) rfl hl.1 rfl (Nat.le_of_ble_eq_true rfl) ⟨Nat.zero_le _, Nat.zero_le _⟩ dX10_teach_2 (fun r1 er1 => ?_)
  rcases er1 with ⟨rfl, g9⟩ | ⟨rfl, g9⟩
  · skip
    have g2 := g9
    have h3 : Iv 0 7 p0 := g2.1
    have k4 := g2.2
    refine lv_if_eq (tgt := 17) hx hb dX10_teach_5 (by decide) (fun c5 => ?_) (fun c5 => ?_)
    · first | exact absurd c5 (by decide) | exact absurd (by decide) c5
    refine lv_aload_n hx hb dX10_teach_8 rfl (lv_at hl 0 rfl) ?_
    refine lv_iload_n hx hb dX10_teach_9 rfl (lv_at hl 2 rfl) ?_
    refine lv_i2l hx hb dX10_teach_10 rfl ?_
    refine ro_V (As := [.long (p1.toInt64)]) (rest := []) S (m_X10_isRoad l D k a st sl  (p1.toInt64) _  hB  hw) lkX10_265 ok_X10_isRoad ⟨rfl, rfl, Nat.le_of_ble_eq_true rfl, Nat.le_of_ble_eq_true rfl⟩ (pw_V (ci := 10) (q0 := 0) hK hN rfl mw_0 hP (hD.weaken (fun _ _ _ _ => trivial))) rfl hl.1 rfl (Nat.le_of_ble_eq_true rfl) ⟨Nat.zero_le _, Nat.zero_le _⟩ dX10_teach_11 (fun r6 er6 => ?_)
    rcases er6 with ⟨rfl, g9⟩ | ⟨rfl, g9⟩
    · skip
      have g7 := g9
      have h8 : (0 : Int) ≤ (p1.toInt64).toInt ∧ (p1.toInt64).toInt ≤ (7 : Int) := ⟨(g7).1, (g7).2⟩
      have h9 : Iv 0 7 p1 := iv_lv h8
      refine lv_if_ne (tgt := 20) hx hb dX10_teach_14 (by decide) (fun c10 => ?_) (fun c10 => ?_)
      rotate_left
      · first | exact absurd c10 (by decide) | exact absurd (by decide) c10
      refine lv_aload_n hx hb dX10_teach_20 rfl (lv_at hl 0 rfl) ?_
      refine ca_v hP hD hS hA (fun hDc => run_V (mc := 0) (ms := 0) (As := []) (rest := []) S (m_X10_asItIs l D k a st sl   _  hB  hw) lkX10_273 ok_X10_asItIs ⟨rfl, rfl, Nat.le_of_ble_eq_true rfl, Nat.le_of_ble_eq_true rfl⟩ (pw_V (ci := 10) (q0 := 0) hK hN rfl mw_0 hP hDc) rfl hl.1 rfl (Nat.le_of_ble_eq_true rfl) ⟨Nat.zero_le _, Nat.zero_le _⟩ dX10_teach_21) (fun s11 H9 locs9 hs11 hP9 hD9 hS9 => ?_)
      clear hP hD hS
      have hS := hS9
      have hP := hP9
      have hD := hD9
      clear hP9 hD9 hS9
      obtain ⟨hBs11, gs11, fs11⟩ := hs11
      have hFs11 : FR [7, 9, 8, 10, 11] st s11 := fr_ca fr_rf gs11 (sub_1 (List.mem_of_getElem? (i := 0) rfl) (sub_1 (List.mem_of_getElem? (i := 1) rfl) (sub_1 (List.mem_of_getElem? (i := 2) rfl) (sub_1 (List.mem_of_getElem? (i := 3) rfl) (sub_1 (List.mem_of_getElem? (i := 4) rfl) sub_0)))))
      refine lv_iconst (v := 0) hx hb dX10_teach_24 (by decide) ?_
      refine lv_istore_n (lv' := [(3, .int 0), (0, .ref (a 0)), (1, .int p0), (2, .int p1)]) hx hb dX10_teach_25 rfl hl (by decide) rfl (fun ls hl => ?_)
      have lp26 : ∀ (n9_26 : Nat) (v3_26 : Int32) (t26 : CT) (H9 : Heap) (locs9 : List Loc) (ls : Array Slot), Iv 0 61 v3_26 → MB t26 → FR [8, 7] s11 t26 → va_P D vwCl (MWS k a t26 sl) H9 → va_D A (MWS k a t26 sl) → va_S A s.heap H9 locs9 → lv_has ls 4 [(3, .int v3_26), (0, .ref (a 0)), (1, .int p0), (2, .int p1)] → (61 : Int) - v3_26.toInt < (n9_26 : Int) → W p l e (rmw 8 0 0) s m ([.ref (a 0), .int p0, .int p1] : List Value).toArray below meth c H9 locs9 0 0 Q (F0 m 26 ls []) := by
        clear hl hP hD hS
        intro n9_26
        induction n9_26 with
        | zero =>
          intro v3_26 t26 H9 locs9 ls iv3_26 hBt26 gt26 hP hD hS hl hm26
          exact (fu_0 iv3_26 hm26).elim
        | succ n9_26 ih26 =>
          intro v3_26 t26 H9 locs9 ls iv3_26 hBt26 gt26 hP hD hS hl hm26
          have hFt26 : FR [7, 9, 8, 10, 11] st t26 := fr_ca hFs11 gt26 (sub_1 (List.mem_of_getElem? (i := 2) rfl) (sub_1 (List.mem_of_getElem? (i := 0) rfl) sub_0))
          refine lv_iload_n hx hb dX10_teach_26 rfl (lv_at hl 0 rfl) ?_
          refine lv_bipush (v := 60) hx hb dX10_teach_27 (by decide) ?_
          refine lv_icmp_gt (tgt := 76) hx hb dX10_teach_29 (by decide) (fun c540 => ?_) (fun c540 => ?_)
          · skip
            have n541 : (60 : Int32).toInt < v3_26.toInt := (i_lt c540)
            have h542 : Iv 61 61 v3_26 := lt_r (iv_c (by decide) : Iv 60 60 60) n541 iv3_26 (by decide)
            refine lv_iconst (v := (-1)) hx hb dX10_teach_76 (by decide) ?_
            rw [hQ]
            exact W.iret (v := (-1)) hx hb hr (fun t ht hW => ⟨⟨(-1), t26, rfl, ⟨hBt26, hFt26, ⟨(iv_mono (c := (-2)) (d := 60) (iv_c (by decide) : Iv (-1) (-1) (-1)) (by decide) (by decide)), trivial⟩⟩, by rw [ht]; exact hP, va_K.moved hW.alike (hK.sub (tys' := []) [] rfl), by rw [hAe]; exact hD⟩, by rw [hAe]; exact hS.F ht⟩) hS.2.2 dX10_teach_77
          · skip
            have n543 : v3_26.toInt ≤ (60 : Int32).toInt := (i_nlt c540)
            have h544 : Iv 0 60 v3_26 := le_l iv3_26 n543 (iv_c (by decide) : Iv 60 60 60) (by decide)
            refine lv_aload_n hx hb dX10_teach_32 rfl (lv_at hl 1 rfl) ?_
            refine lv_iload_n hx hb dX10_teach_33 rfl (lv_at hl 2 rfl) ?_
            refine lv_aload_n hx hb dX10_teach_34 rfl (lv_at hl 1 rfl) ?_
            refine lv_iload_n hx hb dX10_teach_35 rfl (lv_at hl 3 rfl) ?_
            refine lv_iconst (v := 0) hx hb dX10_teach_36 (by decide) ?_
            refine ro_V (As := [.int p1, .int 0]) (rest := [.int p0, .ref (a 0)]) S (m_X10_end l D k a t26 sl  p1 0 _  hBt26 h9 (iv_mono (c := 0) (d := 2) (iv_c (by decide) : Iv 0 0 0) (by decide) (by decide)) (wok_of (hFt26 1 (nm_1 (by decide) (nm_1 (by decide) (nm_1 (by decide) (nm_1 (by decide) (nm_1 (by decide) nm_0)))))) hw)) lkX10_89 ok_X10_end ⟨rfl, rfl, Nat.le_of_ble_eq_true rfl, Nat.le_of_ble_eq_true rfl⟩ (pw_V (ci := 10) (q0 := 0) hK hN rfl mw_0 hP (hD.weaken (fun _ _ _ _ => trivial))) rfl hl.1 rfl (Nat.le_of_ble_eq_true rfl) ⟨Nat.zero_le _, Nat.zero_le _⟩ dX10_teach_37 (fun r545 er545 => ?_)
            have k546 := er545
            have h547 : Iv 0 5 r545 := k546.1 (iv_mono (c := 0) (d := 1) (iv_c (by decide) : Iv 0 0 0) (by decide) (by decide))
            refine ro_V (As := [.int p0, .int r545]) (rest := []) S (m_X10_aloneIn l D k a t26 sl  p0 r545 _  hBt26  (wok_of (hFt26 1 (nm_1 (by decide) (nm_1 (by decide) (nm_1 (by decide) (nm_1 (by decide) (nm_1 (by decide) nm_0)))))) hw)) lkX10_358 ok_X10_aloneIn ⟨rfl, rfl, Nat.le_of_ble_eq_true rfl, Nat.le_of_ble_eq_true rfl⟩ (pw_V (ci := 10) (q0 := 0) hK hN rfl mw_0 hP (hD.weaken (fun _ _ _ _ => trivial))) rfl hl.1 rfl (Nat.le_of_ble_eq_true rfl) ⟨Nat.zero_le _, Nat.zero_le _⟩ dX10_teach_40 (fun r548 er548 => ?_)
            have h549 : Iv (-1) 7 r548 := er548.1
            refine lv_iload_n hx hb dX10_teach_43 rfl (lv_at hl 3 rfl) ?_
            refine lv_icmp_ne (tgt := 64) hx hb dX10_teach_44 (by decide) (fun c550 => ?_) (fun c550 => ?_)
            · skip
              refine lv_aload_n hx hb dX10_teach_64 rfl (lv_at hl 1 rfl) ?_
              refine lv_iload_n hx hb dX10_teach_65 rfl (lv_at hl 2 rfl) ?_
              refine lv_iload_n hx hb dX10_teach_66 rfl (lv_at hl 3 rfl) ?_
              refine ca_v hP hD hS hA (fun hDc => run_V (mc := 0) (ms := 0) (As := [.int p0, .int p1]) (rest := []) S (m_X10_run l D k a t26 sl  p0 p1 _  hBt26 h3 h9 (wok_of (hFt26 1 (nm_1 (by decide) (nm_1 (by decide) (nm_1 (by decide) (nm_1 (by decide) (nm_1 (by decide) nm_0)))))) hw)) lkX10_259 ok_X10_run ⟨rfl, rfl, Nat.le_of_ble_eq_true rfl, Nat.le_of_ble_eq_true rfl⟩ (pw_V (ci := 10) (q0 := 0) hK hN rfl mw_0 hP hDc) rfl hl.1 rfl (Nat.le_of_ble_eq_true rfl) ⟨Nat.zero_le _, Nat.zero_le _⟩ dX10_teach_67) (fun s551 H9 locs9 hs551 hP9 hD9 hS9 => ?_)
              clear hP hD hS
              have hS := hS9
              have hP := hP9
              have hD := hD9
              clear hP9 hD9 hS9
              obtain ⟨hBs551, gs551, fs551⟩ := hs551
              have hFs551 : FR [7, 9, 8, 10, 11] st s551 := fr_ca hFt26 gs551 (sub_1 (List.mem_of_getElem? (i := 2) rfl) (sub_1 (List.mem_of_getElem? (i := 0) rfl) sub_0))
              obtain ⟨z553, ez553⟩ : ∃ z9 : Int32, z9 = v3_26 + Int32.ofInt 1 := ⟨_, rfl⟩
              have h554 : Iv 1 61 z553 := iv_inc ez553 h544 (by decide) (by decide) (by decide) (by decide) (by decide) (by decide)
              refine lv_iinc (v := z553) (lv' := [(3, .int z553), (0, .ref (a 0)), (1, .int p0), (2, .int p1)]) hx hb dX10_teach_70 hl (k := 0) rfl ez553.symm (by decide) rfl (fun ls hl => ?_)
              refine lv_goto (tgt := 26) hx hb dX10_teach_73 (by decide) ?_
              exact ih26 z553 s551 _ _ _ (iv_mono (c := 0) (d := 61) h554 (by decide) (by decide)) hBs551 (fr_ca gt26 gs551 (sub_1 (List.mem_of_getElem? (i := 0) rfl) (sub_1 (List.mem_of_getElem? (i := 1) rfl) sub_0))) hP hD hS (lv_sub hl [0, 1, 2, 3] rfl) (fu_s (lo := 0) (ti_inc ez553 h544 (by decide) (by decide) (by decide) (by decide)) (by decide) hm26)
            · skip
              have h555 : Iv 0 7 r548 := eq_l c550 h9
              refine lv_aload_n hx hb dX10_teach_47 rfl (lv_at hl 1 rfl) ?_
              refine lv_iload_n hx hb dX10_teach_48 rfl (lv_at hl 2 rfl) ?_
              refine lv_aload_n hx hb dX10_teach_49 rfl (lv_at hl 1 rfl) ?_
              refine lv_iload_n hx hb dX10_teach_50 rfl (lv_at hl 3 rfl) ?_
              refine lv_iconst (v := 1) hx hb dX10_teach_51 (by decide) ?_
              refine ro_V (As := [.int p1, .int 1]) (rest := [.int p0, .ref (a 0)]) S (m_X10_end l D k a t26 sl  p1 1 _  hBt26 h9 (iv_mono (c := 0) (d := 2) (iv_c (by decide) : Iv 1 1 1) (by decide) (by decide)) (wok_of (hFt26 1 (nm_1 (by decide) (nm_1 (by decide) (nm_1 (by decide) (nm_1 (by decide) (nm_1 (by decide) nm_0)))))) hw)) lkX10_89 ok_X10_end ⟨rfl, rfl, Nat.le_of_ble_eq_true rfl, Nat.le_of_ble_eq_true rfl⟩ (pw_V (ci := 10) (q0 := 0) hK hN rfl mw_0 hP (hD.weaken (fun _ _ _ _ => trivial))) rfl hl.1 rfl (Nat.le_of_ble_eq_true rfl) ⟨Nat.zero_le _, Nat.zero_le _⟩ dX10_teach_52 (fun r556 er556 => ?_)
              have k557 := er556
              have h558 : Iv 0 5 r556 := k557.1 (iv_mono (c := 0) (d := 1) (iv_c (by decide) : Iv 1 1 1) (by decide) (by decide))
              refine ro_V (As := [.int p0, .int r556]) (rest := []) S (m_X10_aloneIn l D k a t26 sl  p0 r556 _  hBt26  (wok_of (hFt26 1 (nm_1 (by decide) (nm_1 (by decide) (nm_1 (by decide) (nm_1 (by decide) (nm_1 (by decide) nm_0)))))) hw)) lkX10_358 ok_X10_aloneIn ⟨rfl, rfl, Nat.le_of_ble_eq_true rfl, Nat.le_of_ble_eq_true rfl⟩ (pw_V (ci := 10) (q0 := 0) hK hN rfl mw_0 hP (hD.weaken (fun _ _ _ _ => trivial))) rfl hl.1 rfl (Nat.le_of_ble_eq_true rfl) ⟨Nat.zero_le _, Nat.zero_le _⟩ dX10_teach_55 (fun r559 er559 => ?_)
              have h560 : Iv (-1) 7 r559 := er559.1
              refine lv_iload_n hx hb dX10_teach_58 rfl (lv_at hl 3 rfl) ?_
              refine lv_icmp_ne (tgt := 64) hx hb dX10_teach_59 (by decide) (fun c561 => ?_) (fun c561 => ?_)
              · skip
                refine lv_aload_n hx hb dX10_teach_64 rfl (lv_at hl 1 rfl) ?_
                refine lv_iload_n hx hb dX10_teach_65 rfl (lv_at hl 2 rfl) ?_
                refine lv_iload_n hx hb dX10_teach_66 rfl (lv_at hl 3 rfl) ?_
                refine ca_v hP hD hS hA (fun hDc => run_V (mc := 0) (ms := 0) (As := [.int p0, .int p1]) (rest := []) S (m_X10_run l D k a t26 sl  p0 p1 _  hBt26 h3 h9 (wok_of (hFt26 1 (nm_1 (by decide) (nm_1 (by decide) (nm_1 (by decide) (nm_1 (by decide) (nm_1 (by decide) nm_0)))))) hw)) lkX10_259 ok_X10_run ⟨rfl, rfl, Nat.le_of_ble_eq_true rfl, Nat.le_of_ble_eq_true rfl⟩ (pw_V (ci := 10) (q0 := 0) hK hN rfl mw_0 hP hDc) rfl hl.1 rfl (Nat.le_of_ble_eq_true rfl) ⟨Nat.zero_le _, Nat.zero_le _⟩ dX10_teach_67) (fun s562 H9 locs9 hs562 hP9 hD9 hS9 => ?_)
                clear hP hD hS
                have hS := hS9
                have hP := hP9
                have hD := hD9
                clear hP9 hD9 hS9
                obtain ⟨hBs562, gs562, fs562⟩ := hs562
                have hFs562 : FR [7, 9, 8, 10, 11] st s562 := fr_ca hFt26 gs562 (sub_1 (List.mem_of_getElem? (i := 2) rfl) (sub_1 (List.mem_of_getElem? (i := 0) rfl) sub_0))
                obtain ⟨z564, ez564⟩ : ∃ z9 : Int32, z9 = v3_26 + Int32.ofInt 1 := ⟨_, rfl⟩
                have h565 : Iv 1 61 z564 := iv_inc ez564 h544 (by decide) (by decide) (by decide) (by decide) (by decide) (by decide)
                refine lv_iinc (v := z564) (lv' := [(3, .int z564), (0, .ref (a 0)), (1, .int p0), (2, .int p1)]) hx hb dX10_teach_70 hl (k := 0) rfl ez564.symm (by decide) rfl (fun ls hl => ?_)
                refine lv_goto (tgt := 26) hx hb dX10_teach_73 (by decide) ?_
                exact ih26 z564 s562 _ _ _ (iv_mono (c := 0) (d := 61) h565 (by decide) (by decide)) hBs562 (fr_ca gt26 gs562 (sub_1 (List.mem_of_getElem? (i := 0) rfl) (sub_1 (List.mem_of_getElem? (i := 1) rfl) sub_0))) hP hD hS (lv_sub hl [0, 1, 2, 3] rfl) (fu_s (lo := 0) (ti_inc ez564 h544 (by decide) (by decide) (by decide) (by decide)) (by decide) hm26)
              · skip
                have h566 : Iv 0 7 r559 := eq_l c561 h9
                refine lv_iload_n hx hb dX10_teach_62 rfl (lv_at hl 0 rfl) ?_
                rw [hQ]
                exact W.iret (v := v3_26) hx hb hr (fun t ht hW => ⟨⟨v3_26, t26, rfl, ⟨hBt26, hFt26, ⟨(iv_mono (c := (-2)) (d := 60) h544 (by decide) (by decide)), trivial⟩⟩, by rw [ht]; exact hP, va_K.moved hW.alike (hK.sub (tys' := []) [] rfl), by rw [hAe]; exact hD⟩, by rw [hAe]; exact hS.F ht⟩) hS.2.2 dX10_teach_63
      exact lp26 62 0 s11 _ _ _ (iv_mono (c := 0) (d := 61) (iv_c (by decide) : Iv 0 0 0) (by decide) (by decide)) hBs11 fr_rf hP hD hS (lv_sub hl [0, 1, 2, 3] rfl) (fu_i (iv_mono (c := 0) (d := 61) (iv_c (by decide) : Iv 0 0 0) (by decide) (by decide)) (by decide))
    · skip
      have g567 := g9
      refine lv_if_ne (tgt := 20) hx hb dX10_teach_14 (by decide) (fun c568 => ?_) (fun c568 => ?_)
      · first | exact absurd c568 (by decide) | exact absurd (by decide) c568
      refine lv_bipush (v := (-2)) hx hb dX10_teach_17 (by decide) ?_
      rw [hQ]
      exact W.iret (v := (-2)) hx hb hr (fun t ht hW => ⟨⟨(-2), st, rfl, ⟨hB, fr_rf, ⟨(iv_mono (c := (-2)) (d := 60) (iv_c (by decide) : Iv (-2) (-2) (-2)) (by decide) (by decide)), trivial⟩⟩, by rw [ht]; exact hP, va_K.moved hW.alike (hK.sub (tys' := []) [] rfl), by rw [hAe]; exact hD⟩, by rw [hAe]; exact hS.F ht⟩) hS.2.2 dX10_teach_19
  · skip
    have g569 := g9
    refine lv_if_eq (tgt := 17) hx hb dX10_teach_5 (by decide) (fun c570 => ?_) (fun c570 => ?_)
    rotate_left
    · first | exact absurd c570 (by decide) | exact absurd (by decide) c570
    refine lv_bipush (v := (-2)) hx hb dX10_teach_17 (by decide) ?_
    rw [hQ]
    exact W.iret (v := (-2)) hx hb hr (fun t ht hW => ⟨⟨(-2), st, rfl, ⟨hB, fr_rf, ⟨(iv_mono (c := (-2)) (d := 60) (iv_c (by decide) : Iv (-2) (-2) (-2)) (by decide) (by decide)), trivial⟩⟩, by rw [ht]; exact hP, va_K.moved hW.alike (hK.sub (tys' := []) [] rfl), by rw [hAe]; exact hD⟩, by rw [hAe]; exact hS.F ht⟩) hS.2.2 dX10_teach_19
set_option maxHeartbeats 4000000 in
set_option maxRecDepth 100000 in
theorem m_X10_blindOf (l : Launch) (D : va_G) (k : Nat → ClassId) (a : Nat → Nat) (st : CT) (sl : CL) (p0 : Int32) (p1 : Int32) (sz : Nat) (hB : MB st) (hp0 : Iv 0 2 p0) (hw : WOK (st 1)) : Met l yX10_blindOf (.code yX10_blindOf cX10_blindOf 6 (some .int) :: TB) (rmk 4) (va_Pc [.ref (a 0), .int p0, .int p1] (PW D k sz (MWS k a st sl))) (vp_Si (fun r => Iv (-1) 255 r ∧ (True))) 0 0 (fun _ => False) := by
  refine Met.ofW (cc := cX10_blindOf) (maxL := 6) (ret := (some .int)) (by decide) rfl ?_
  intro p e s m args below meth c s₁ B hml hv
  obtain ⟨rfl, hsz, hP, hK, hD0, hN⟩ := hv
  have hx := B.exec
  have hb := B.bytes
  have hr := B.returns
  have hT : ∀ w9 ∈ TB, w9.before ([.ref (a 0), .int p0, .int p1] : List Value).toArray s = true := fun w9 h => atoms_spec (ws := .code yX10_blindOf cX10_blindOf 6 (some .int) :: TB) B.pre w9 (List.mem_cons_of_mem _ h)
  have hown : s.vm.findClass RX10 = some m.cls := findClass_of_methodNamed B.named
  have S : CallFix p m c cX10_blindOf 6 s _ TB RX10 := ⟨hx, hb, hml, hown, hT⟩
  subst hsz
  have hl := lv_entry ([.ref (a 0), .int p0, .int p1]) (n := 6) (Nat.le_of_ble_eq_true rfl)
  rw [lg_entry_eq]
  generalize (lg_sl ([.ref (a 0), .int p0, .int p1]) ++ List.replicate (6 - (lg_sl ([.ref (a 0), .int p0, .int p1])).length) Slot.unset).toArray = ls at hl ⊢
  have hl : lv_has ls 6 [(0, .ref (a 0)), (1, .int p0), (2, .int p1)] := hl
  refine nameQ (fun Q hQ => ?_)
  refine lv_aload_n hx hb dX10_blindOf_0 rfl (lv_at hl 0 rfl) ?_
  refine lv_iload_n hx hb dX10_blindOf_1 rfl (lv_at hl 1 rfl) ?_
  refine ro_V (As := [.int p0]) (rest := []) S (m_X10_wheelsOf l D k a st sl  p0 _  hB  hw) lkX10_246 ok_X10_wheelsOf ⟨rfl, rfl, Nat.le_of_ble_eq_true rfl, Nat.le_of_ble_eq_true rfl⟩ (pw_V (ci := 10) (q0 := 0) hK hN rfl mw_0 hP hD0) rfl hl.1 rfl (Nat.le_of_ble_eq_true rfl) ⟨Nat.zero_le _, Nat.zero_le _⟩ dX10_blindOf_2 (fun r1 er1 => ?_)
  have h2 : Iv 0 255 r1 := er1.1
  have k3 := er1.2
  refine lv_istore_n (lv' := [(3, .int r1), (0, .ref (a 0)), (1, .int p0), (2, .int p1)]) hx hb dX10_blindOf_5 rfl hl (by decide) rfl (fun ls hl => ?_)
  refine lv_iconst (v := (-1)) hx hb dX10_blindOf_6 (by decide) ?_
  refine lv_istore (lv' := [(4, .int (-1)), (3, .int r1), (0, .ref (a 0)), (1, .int p0), (2, .int p1)]) hx hb dX10_blindOf_7 hl (by decide) rfl (fun ls hl => ?_)
  refine lv_iconst (v := 0) hx hb dX10_blindOf_9 (by decide) ?_
  refine lv_istore (lv' := [(5, .int 0), (4, .int (-1)), (3, .int r1), (0, .ref (a 0)), (1, .int p0), (2, .int p1)]) hx hb dX10_blindOf_10 hl (by decide) rfl (fun ls hl => ?_)
  have lp12 : ∀ (n9_12 : Nat) (v5_12 : Int32) (v4_12 : Int32) (ls : Array Slot), Iv 0 256 v5_12 → Iv (-1) 255 v4_12 → lv_has ls 6 [(5, .int v5_12), (4, .int v4_12), (3, .int r1), (0, .ref (a 0)), (1, .int p0), (2, .int p1)] → (256 : Int) - v5_12.toInt < (n9_12 : Int) → W p l e (rmk 4) s m ([.ref (a 0), .int p0, .int p1] : List Value).toArray below meth c s.heap [] 0 0 Q (F0 m 12 ls []) := by
    clear hl
    intro n9_12
    induction n9_12 with
    | zero =>
      intro v5_12 v4_12 ls iv5_12 iv4_12 hl hm12
      exact (fu_0 iv5_12 hm12).elim
    | succ n9_12 ih12 =>
      intro v5_12 v4_12 ls iv5_12 iv4_12 hl hm12
      refine lv_iload hx hb dX10_blindOf_12 (lv_at hl 0 rfl) ?_
      refine lv_iload_n hx hb dX10_blindOf_14 rfl (lv_at hl 2 rfl) ?_
      refine lv_icmp_gt (tgt := 78) hx hb dX10_blindOf_15 (by decide) (fun c1401 => ?_) (fun c1401 => ?_)
      · skip
        have n1402 : r1.toInt < v5_12.toInt := (i_lt c1401)
        have h1403 : Iv 1 256 v5_12 := lt_r h2 n1402 iv5_12 (by decide)
        refine lv_iload hx hb dX10_blindOf_78 (lv_at hl 1 rfl) ?_
        rw [hQ]
        exact W.iret (v := v4_12) hx hb hr (fun t ht hW => ⟨v4_12, rfl, ⟨iv4_12, trivial⟩, ht⟩) (fun _ h9 => by cases h9) dX10_blindOf_80
      · skip
        have n1404 : v5_12.toInt ≤ r1.toInt := (i_nlt c1401)
        have h1405 : Iv 0 255 v5_12 := le_l iv5_12 n1404 h2 (by decide)
        refine lv_iload hx hb dX10_blindOf_18 (lv_at hl 0 rfl) ?_
        refine lv_iload_n hx hb dX10_blindOf_20 rfl (lv_at hl 2 rfl) ?_
        refine lv_iconst (v := (-1)) hx hb dX10_blindOf_21 (by decide) ?_
        refine lv_ixor hx hb dX10_blindOf_22 ?_
        refine lv_topi (fun z1406 ez1406 => ?_)
        refine lv_iand hx hb dX10_blindOf_23 ?_
        refine lv_topi (fun z1407 ez1407 => ?_)
        have h1408 : Iv 0 255 z1407 := iv_andl ez1407 h1405
        refine lv_if_ne (tgt := 72) hx hb dX10_blindOf_24 (by decide) (fun c1409 => ?_) (fun c1409 => ?_)
        · skip
          have h1410 : Iv 1 255 z1407 := ne_lo h1408 (show ¬ z1407 = 0 from c1409) (by decide) (by decide)
          obtain ⟨z1411, ez1411⟩ : ∃ z9 : Int32, z9 = v5_12 + Int32.ofInt 1 := ⟨_, rfl⟩
          have h1412 : Iv 1 256 z1411 := iv_inc ez1411 h1405 (by decide) (by decide) (by decide) (by decide) (by decide) (by decide)
          refine lv_iinc (v := z1411) (lv' := [(5, .int z1411), (4, .int v4_12), (3, .int r1), (0, .ref (a 0)), (1, .int p0), (2, .int p1)]) hx hb dX10_blindOf_72 hl (k := 0) rfl ez1411.symm (by decide) rfl (fun ls hl => ?_)
          refine lv_goto (tgt := 12) hx hb dX10_blindOf_75 (by decide) ?_
          exact ih12 z1411 v4_12 _ (iv_mono (c := 0) (d := 256) h1412 (by decide) (by decide)) iv4_12 (lv_sub hl [0, 1, 2, 3, 4, 5] rfl) (fu_s (lo := 0) (ti_inc ez1411 h1405 (by decide) (by decide) (by decide) (by decide)) (by decide) hm12)
        · skip
          have h1413 : Iv 0 0 z1407 := eq_l c1409 (iv_c (by decide) : Iv 0 0 0)
          refine lv_iload hx hb dX10_blindOf_27 (lv_at hl 1 rfl) ?_
          refine lv_iconst (v := (-1)) hx hb dX10_blindOf_29 (by decide) ?_
          refine lv_icmp_eq (tgt := 46) hx hb dX10_blindOf_30 (by decide) (fun c1414 => ?_) (fun c1414 => ?_)
          · skip
            have h1415 : Iv (-1) (-1) v4_12 := eq_l c1414 (iv_c (by decide) : Iv (-1) (-1) (-1))
            refine lv_aload_n hx hb dX10_blindOf_46 rfl (lv_at hl 3 rfl) ?_
            refine lv_iload_n hx hb dX10_blindOf_47 rfl (lv_at hl 2 rfl) ?_
            refine lv_iload hx hb dX10_blindOf_48 (lv_at hl 0 rfl) ?_
            refine lv_iconst (v := (-1)) hx hb dX10_blindOf_50 (by decide) ?_
            refine lv_ixor hx hb dX10_blindOf_51 ?_
            refine lv_topi (fun z1416 ez1416 => ?_)
            refine lv_iand hx hb dX10_blindOf_52 ?_
            refine lv_topi (fun z1417 ez1417 => ?_)
            have h1418 : Iv 0 255 z1417 := iv_andl ez1417 h2
            refine lv_aload_n hx hb dX10_blindOf_53 rfl (lv_at hl 3 rfl) ?_
            refine va_get (D := D) (ci := 10) (v := .ref (a 10)) (C := RX10) (T := TX10) (N := 38) hx hb hT in_X10 hown hK hP 0 mw_0 rfl 18 (by decide) (hT _ t1280) (fun _ h9 => h9) rfl dX10_blindOf_54 ?_
            refine lv_iload_n hx hb dX10_blindOf_57 rfl (lv_at hl 4 rfl) ?_
            refine va_iald hx hb hK hP 10 0 mw_10 rfl (iv_in hp0 (by decide) (by decide)) dX10_blindOf_58 ?_
            refine lv_topi (fun z1419 ez1419 => ?_)
            refine lv_iconst (v := (-1)) hx hb dX10_blindOf_59 (by decide) ?_
            refine lv_iconst (v := 0) hx hb dX10_blindOf_60 (by decide) ?_
            refine ro_V (As := [.int z1417, .int z1419, .int (-1), .int 0]) (rest := []) S (m_X10_turnBy l D k a st sl  z1417 z1419 (-1) 0 _  hB  hw) lkX10_249 ok_X10_turnBy ⟨rfl, rfl, Nat.le_of_ble_eq_true rfl, Nat.le_of_ble_eq_true rfl⟩ (pw_V (ci := 10) (q0 := 0) hK hN rfl mw_0 hP hD0) rfl hl.1 rfl (Nat.le_of_ble_eq_true rfl) ⟨Nat.zero_le _, Nat.zero_le _⟩ dX10_blindOf_61 (fun r1420 er1420 => ?_)
            have h1421 : Iv (-1) 7 r1420 := er1420.1
            refine lv_iload_n hx hb dX10_blindOf_64 rfl (lv_at hl 5 rfl) ?_
            refine lv_icmp_ne (tgt := 72) hx hb dX10_blindOf_65 (by decide) (fun c1422 => ?_) (fun c1422 => ?_)
            · skip
              obtain ⟨z1423, ez1423⟩ : ∃ z9 : Int32, z9 = v5_12 + Int32.ofInt 1 := ⟨_, rfl⟩
              have h1424 : Iv 1 256 z1423 := iv_inc ez1423 h1405 (by decide) (by decide) (by decide) (by decide) (by decide) (by decide)
              refine lv_iinc (v := z1423) (lv' := [(5, .int z1423), (4, .int v4_12), (3, .int r1), (0, .ref (a 0)), (1, .int p0), (2, .int p1)]) hx hb dX10_blindOf_72 hl (k := 0) rfl ez1423.symm (by decide) rfl (fun ls hl => ?_)
              refine lv_goto (tgt := 12) hx hb dX10_blindOf_75 (by decide) ?_
              exact ih12 z1423 v4_12 _ (iv_mono (c := 0) (d := 256) h1424 (by decide) (by decide)) (iv_mono (c := (-1)) (d := 255) h1415 (by decide) (by decide)) (lv_sub hl [0, 1, 2, 3, 4, 5] rfl) (fu_s (lo := 0) (ti_inc ez1423 h1405 (by decide) (by decide) (by decide) (by decide)) (by decide) hm12)
            · skip
              have h1425 : Iv (-1) 7 p1 := eq_l c1422.symm h1421
              refine lv_iload hx hb dX10_blindOf_68 (lv_at hl 0 rfl) ?_
              refine lv_istore (lv' := [(4, .int v5_12), (5, .int v5_12), (3, .int r1), (0, .ref (a 0)), (1, .int p0), (2, .int p1)]) hx hb dX10_blindOf_70 hl (by decide) rfl (fun ls hl => ?_)
              obtain ⟨z1426, ez1426⟩ : ∃ z9 : Int32, z9 = v5_12 + Int32.ofInt 1 := ⟨_, rfl⟩
              have h1427 : Iv 1 256 z1426 := iv_inc ez1426 h1405 (by decide) (by decide) (by decide) (by decide) (by decide) (by decide)
              refine lv_iinc (v := z1426) (lv' := [(5, .int z1426), (4, .int v5_12), (3, .int r1), (0, .ref (a 0)), (1, .int p0), (2, .int p1)]) hx hb dX10_blindOf_72 hl (k := 1) rfl ez1426.symm (by decide) rfl (fun ls hl => ?_)
              refine lv_goto (tgt := 12) hx hb dX10_blindOf_75 (by decide) ?_
              exact ih12 z1426 v5_12 _ (iv_mono (c := 0) (d := 256) h1427 (by decide) (by decide)) (iv_mono (c := (-1)) (d := 255) h1405 (by decide) (by decide)) (lv_sub hl [0, 1, 2, 3, 4, 5] rfl) (fu_s (lo := 0) (ti_inc ez1426 h1405 (by decide) (by decide) (by decide) (by decide)) (by decide) hm12)
          · skip
            have h1428 : Iv 0 255 v4_12 := ne_lo iv4_12 c1414 (by decide) (by decide)
            refine lv_iload hx hb dX10_blindOf_33 (lv_at hl 0 rfl) ?_
            refine ro_S (As := [.int v5_12]) (rest := []) S (m_X10_bits l D k a st sl  v5_12 _  hB  ) lkX10_190 ok_X10_bits ⟨rfl, rfl, Nat.le_of_ble_eq_true rfl, Nat.le_of_ble_eq_true rfl⟩ (pw_S hK hN hP hD0) rfl hl.1 rfl (Nat.le_of_ble_eq_true rfl) ⟨Nat.zero_le _, Nat.zero_le _⟩ dX10_blindOf_35 (fun r1429 er1429 => ?_)
            have k1430 := er1429
            refine lv_iload hx hb dX10_blindOf_38 (lv_at hl 1 rfl) ?_
            refine ro_S (As := [.int v4_12]) (rest := [.int r1429]) S (m_X10_bits l D k a st sl  v4_12 _  hB  ) lkX10_190 ok_X10_bits ⟨rfl, rfl, Nat.le_of_ble_eq_true rfl, Nat.le_of_ble_eq_true rfl⟩ (pw_S hK hN hP hD0) rfl hl.1 rfl (Nat.le_of_ble_eq_true rfl) ⟨Nat.zero_le _, Nat.zero_le _⟩ dX10_blindOf_40 (fun r1431 er1431 => ?_)
            have k1432 := er1431
            refine lv_icmp_ge (tgt := 72) hx hb dX10_blindOf_43 (by decide) (fun c1433 => ?_) (fun c1433 => ?_)
            · skip
              have n1434 : r1431.toInt ≤ r1429.toInt := (i_le c1433)
              obtain ⟨z1435, ez1435⟩ : ∃ z9 : Int32, z9 = v5_12 + Int32.ofInt 1 := ⟨_, rfl⟩
              have h1436 : Iv 1 256 z1435 := iv_inc ez1435 h1405 (by decide) (by decide) (by decide) (by decide) (by decide) (by decide)
              refine lv_iinc (v := z1435) (lv' := [(5, .int z1435), (4, .int v4_12), (3, .int r1), (0, .ref (a 0)), (1, .int p0), (2, .int p1)]) hx hb dX10_blindOf_72 hl (k := 0) rfl ez1435.symm (by decide) rfl (fun ls hl => ?_)
              refine lv_goto (tgt := 12) hx hb dX10_blindOf_75 (by decide) ?_
              exact ih12 z1435 v4_12 _ (iv_mono (c := 0) (d := 256) h1436 (by decide) (by decide)) (iv_mono (c := (-1)) (d := 255) h1428 (by decide) (by decide)) (lv_sub hl [0, 1, 2, 3, 4, 5] rfl) (fu_s (lo := 0) (ti_inc ez1435 h1405 (by decide) (by decide) (by decide) (by decide)) (by decide) hm12)
            · skip
              have n1437 : r1429.toInt < r1431.toInt := (i_nle c1433)
              have h1438 : Iv (-2147483648) 2147483646 r1429 := lt_l (iv_full r1429) n1437 (iv_full r1431) (by decide)
              have h1439 : Iv (-2147483647) 2147483647 r1431 := lt_r (iv_full r1429) n1437 (iv_full r1431) (by decide)
              refine lv_aload_n hx hb dX10_blindOf_46 rfl (lv_at hl 3 rfl) ?_
              refine lv_iload_n hx hb dX10_blindOf_47 rfl (lv_at hl 2 rfl) ?_
              refine lv_iload hx hb dX10_blindOf_48 (lv_at hl 0 rfl) ?_
              refine lv_iconst (v := (-1)) hx hb dX10_blindOf_50 (by decide) ?_
              refine lv_ixor hx hb dX10_blindOf_51 ?_
              refine lv_topi (fun z1440 ez1440 => ?_)
              refine lv_iand hx hb dX10_blindOf_52 ?_
              refine lv_topi (fun z1441 ez1441 => ?_)
              have h1442 : Iv 0 255 z1441 := iv_andl ez1441 h2
              refine lv_aload_n hx hb dX10_blindOf_53 rfl (lv_at hl 3 rfl) ?_
              refine va_get (D := D) (ci := 10) (v := .ref (a 10)) (C := RX10) (T := TX10) (N := 38) hx hb hT in_X10 hown hK hP 0 mw_0 rfl 18 (by decide) (hT _ t1280) (fun _ h9 => h9) rfl dX10_blindOf_54 ?_
              refine lv_iload_n hx hb dX10_blindOf_57 rfl (lv_at hl 4 rfl) ?_
              refine va_iald hx hb hK hP 10 0 mw_10 rfl (iv_in hp0 (by decide) (by decide)) dX10_blindOf_58 ?_
              refine lv_topi (fun z1443 ez1443 => ?_)
              refine lv_iconst (v := (-1)) hx hb dX10_blindOf_59 (by decide) ?_
              refine lv_iconst (v := 0) hx hb dX10_blindOf_60 (by decide) ?_
              refine ro_V (As := [.int z1441, .int z1443, .int (-1), .int 0]) (rest := []) S (m_X10_turnBy l D k a st sl  z1441 z1443 (-1) 0 _  hB  hw) lkX10_249 ok_X10_turnBy ⟨rfl, rfl, Nat.le_of_ble_eq_true rfl, Nat.le_of_ble_eq_true rfl⟩ (pw_V (ci := 10) (q0 := 0) hK hN rfl mw_0 hP hD0) rfl hl.1 rfl (Nat.le_of_ble_eq_true rfl) ⟨Nat.zero_le _, Nat.zero_le _⟩ dX10_blindOf_61 (fun r1444 er1444 => ?_)
              have h1445 : Iv (-1) 7 r1444 := er1444.1
              refine lv_iload_n hx hb dX10_blindOf_64 rfl (lv_at hl 5 rfl) ?_
              refine lv_icmp_ne (tgt := 72) hx hb dX10_blindOf_65 (by decide) (fun c1446 => ?_) (fun c1446 => ?_)
              · skip
                obtain ⟨z1447, ez1447⟩ : ∃ z9 : Int32, z9 = v5_12 + Int32.ofInt 1 := ⟨_, rfl⟩
                have h1448 : Iv 1 256 z1447 := iv_inc ez1447 h1405 (by decide) (by decide) (by decide) (by decide) (by decide) (by decide)
                refine lv_iinc (v := z1447) (lv' := [(5, .int z1447), (4, .int v4_12), (3, .int r1), (0, .ref (a 0)), (1, .int p0), (2, .int p1)]) hx hb dX10_blindOf_72 hl (k := 0) rfl ez1447.symm (by decide) rfl (fun ls hl => ?_)
                refine lv_goto (tgt := 12) hx hb dX10_blindOf_75 (by decide) ?_
                exact ih12 z1447 v4_12 _ (iv_mono (c := 0) (d := 256) h1448 (by decide) (by decide)) (iv_mono (c := (-1)) (d := 255) h1428 (by decide) (by decide)) (lv_sub hl [0, 1, 2, 3, 4, 5] rfl) (fu_s (lo := 0) (ti_inc ez1447 h1405 (by decide) (by decide) (by decide) (by decide)) (by decide) hm12)
              · skip
                have h1449 : Iv (-1) 7 p1 := eq_l c1446.symm h1445
                refine lv_iload hx hb dX10_blindOf_68 (lv_at hl 0 rfl) ?_
                refine lv_istore (lv' := [(4, .int v5_12), (5, .int v5_12), (3, .int r1), (0, .ref (a 0)), (1, .int p0), (2, .int p1)]) hx hb dX10_blindOf_70 hl (by decide) rfl (fun ls hl => ?_)
                obtain ⟨z1450, ez1450⟩ : ∃ z9 : Int32, z9 = v5_12 + Int32.ofInt 1 := ⟨_, rfl⟩
                have h1451 : Iv 1 256 z1450 := iv_inc ez1450 h1405 (by decide) (by decide) (by decide) (by decide) (by decide) (by decide)
                refine lv_iinc (v := z1450) (lv' := [(5, .int z1450), (4, .int v5_12), (3, .int r1), (0, .ref (a 0)), (1, .int p0), (2, .int p1)]) hx hb dX10_blindOf_72 hl (k := 1) rfl ez1450.symm (by decide) rfl (fun ls hl => ?_)
                refine lv_goto (tgt := 12) hx hb dX10_blindOf_75 (by decide) ?_
                exact ih12 z1450 v5_12 _ (iv_mono (c := 0) (d := 256) h1451 (by decide) (by decide)) (iv_mono (c := (-1)) (d := 255) h1405 (by decide) (by decide)) (lv_sub hl [0, 1, 2, 3, 4, 5] rfl) (fu_s (lo := 0) (ti_inc ez1450 h1405 (by decide) (by decide) (by decide) (by decide)) (by decide) hm12)
  exact lp12 257 0 (-1) _ (iv_mono (c := 0) (d := 256) (iv_c (by decide) : Iv 0 0 0) (by decide) (by decide)) (iv_mono (c := (-1)) (d := 255) (iv_c (by decide) : Iv (-1) (-1) (-1)) (by decide) (by decide)) (lv_sub hl [0, 1, 2, 3, 4, 5] rfl) (fu_i (iv_mono (c := 0) (d := 256) (iv_c (by decide) : Iv 0 0 0) (by decide) (by decide)) (by decide))
set_option maxHeartbeats 4000000 in
set_option maxRecDepth 100000 in
theorem m_X10_blind (l : Launch) (D : va_G) (k : Nat → ClassId) (a : Nat → Nat) (st : CT) (sl : CL) (p0 : Int32) (p1 : Int32) (sz : Nat) (hB : MB st)  (hw : WOK (st 1)) : Met l yX10_blind (.code yX10_blind cX10_blind 4 (some .int) :: TB) (rmw 9 0 0) (va_Pc [.ref (a 0), .int p0, .int p1] (PW D k sz (MWS k a st sl))) (QI D (S := CT) (fun r u => MB u ∧ FR [7, 9, 8, 10, 11] st u ∧ ((True))) (fun u => MWS k a u sl) (fun _ => []) (MWS k a st sl) sz) 0 0 (va_A (MWS k a st sl) sz) := by
  refine Met.ofW (cc := cX10_blind) (maxL := 4) (ret := (some .int)) (by decide) rfl ?_
  intro p e s m args below meth c s₁ B hml hv
  obtain ⟨rfl, hsz, hP, hK, hD0, hN⟩ := hv
  have hx := B.exec
  have hb := B.bytes
  have hr := B.returns
  have hT : ∀ w9 ∈ TB, w9.before ([.ref (a 0), .int p0, .int p1] : List Value).toArray s = true := fun w9 h => atoms_spec (ws := .code yX10_blind cX10_blind 4 (some .int) :: TB) B.pre w9 (List.mem_cons_of_mem _ h)
  have hown : s.vm.findClass RX10 = some m.cls := findClass_of_methodNamed B.named
  have S : CallFix p m c cX10_blind 4 s _ TB RX10 := ⟨hx, hb, hml, hown, hT⟩
  subst hsz
  have hD := hD0.self (sz := s.heap.size)
  generalize hAe : va_A (MWS k a st sl) s.heap.size = A at hD ⊢
  have hA : ∀ q : Nat, s.heap.size ≤ q → A q := fun q h => by rw [← hAe]; exact Or.inr h
  have hS : va_S A s.heap s.heap [] := va_S.rf
  have hl := lv_entry ([.ref (a 0), .int p0, .int p1]) (n := 4) (Nat.le_of_ble_eq_true rfl)
  rw [lg_entry_eq]
  generalize (lg_sl ([.ref (a 0), .int p0, .int p1]) ++ List.replicate (4 - (lg_sl ([.ref (a 0), .int p0, .int p1])).length) Slot.unset).toArray = ls at hl ⊢
  have hl : lv_has ls 4 [(0, .ref (a 0)), (1, .int p0), (2, .int p1)] := hl
  refine nameQ (fun Q hQ => ?_)
  refine lv_iload_n hx hb dX10_blind_0 rfl (lv_at hl 2 rfl) ?_
  refine lv_iconst (v := (-1)) hx hb dX10_blind_1 (by decide) ?_
  refine lv_icmp_eq (tgt := 15) hx hb dX10_blind_2 (by decide) (fun c1 => ?_) (fun c1 => ?_)
  · skip
    have h2 : Iv (-1) (-1) p1 := eq_l c1 (iv_c (by decide) : Iv (-1) (-1) (-1))
    refine lv_bipush (v := (-2)) hx hb dX10_blind_15 (by decide) ?_
    rw [hQ]
    exact W.iret (v := (-2)) hx hb hr (fun t ht hW => ⟨⟨(-2), st, rfl, ⟨hB, fr_rf, trivial⟩, by rw [ht]; exact hP, va_K.moved hW.alike (hK.sub (tys' := []) [] rfl), by rw [hAe]; exact hD⟩, by rw [hAe]; exact hS.F ht⟩) hS.2.2 dX10_blind_17
  · skip
    refine lv_aload_n hx hb dX10_blind_5 rfl (lv_at hl 0 rfl) ?_
    refine lv_iload_n hx hb dX10_blind_6 rfl (lv_at hl 1 rfl) ?_
    refine lv_iload_n hx hb dX10_blind_7 rfl (lv_at hl 2 rfl) ?_
    refine lv_i2l hx hb dX10_blind_8 rfl ?_
    refine ca_i hP hD hS hA (fun hDc => run_V (mc := 0) (ms := 0) (As := [.int p0, .long (p1.toInt64)]) (rest := []) S (m_X10_canWant l D k a st sl  p0 (p1.toInt64) _  hB  hw) lkX10_290 ok_X10_canWant ⟨rfl, rfl, Nat.le_of_ble_eq_true rfl, Nat.le_of_ble_eq_true rfl⟩ (pw_V (ci := 10) (q0 := 0) hK hN rfl mw_0 hP hDc) rfl hl.1 rfl (Nat.le_of_ble_eq_true rfl) ⟨Nat.zero_le _, Nat.zero_le _⟩ dX10_blind_9) (fun r4 s3 H9 locs9 hs3 hP9 hD9 hS9 => ?_)
    clear hP hD hS
    have hS := hS9
    have hP := hP9
    have hD := hD9
    clear hP9 hD9 hS9
    obtain ⟨hBs3, gs3, fs3⟩ := hs3
    have hFs3 : FR [7, 9, 8, 10, 11] st s3 := fr_ca fr_rf gs3 (sub_1 (List.mem_of_getElem? (i := 0) rfl) (sub_1 (List.mem_of_getElem? (i := 1) rfl) (sub_1 (List.mem_of_getElem? (i := 2) rfl) (sub_1 (List.mem_of_getElem? (i := 3) rfl) (sub_1 (List.mem_of_getElem? (i := 4) rfl) sub_0)))))
    rcases fs3 with ⟨rfl, g9⟩ | ⟨rfl, g9⟩
    · skip
      have g5 := g9
      have h6 : Iv 0 2 p0 := g5.1
      have h7 : ((-1) : Int) ≤ (p1.toInt64).toInt ∧ (p1.toInt64).toInt ≤ (7 : Int) := ⟨(g5.2).1, (g5.2).2⟩
      have h8 : Iv (-1) 7 p1 := iv_lv h7
      refine lv_if_ne (tgt := 18) hx hb dX10_blind_12 (by decide) (fun c9 => ?_) (fun c9 => ?_)
      rotate_left
      · first | exact absurd c9 (by decide) | exact absurd (by decide) c9
      refine lv_aload_n hx hb dX10_blind_18 rfl (lv_at hl 0 rfl) ?_
      refine lv_iload_n hx hb dX10_blind_19 rfl (lv_at hl 1 rfl) ?_
      refine lv_iload_n hx hb dX10_blind_20 rfl (lv_at hl 2 rfl) ?_
      refine ro_V (As := [.int p0, .int p1]) (rest := []) S (m_X10_blindOf l D k a s3 sl  p0 p1 _  hBs3 h6 (wok_of (hFs3 1 (nm_1 (by decide) (nm_1 (by decide) (nm_1 (by decide) (nm_1 (by decide) (nm_1 (by decide) nm_0)))))) hw)) lkX10_385 ok_X10_blindOf ⟨rfl, rfl, Nat.le_of_ble_eq_true rfl, Nat.le_of_ble_eq_true rfl⟩ (pw_V (ci := 10) (q0 := 0) hK hN rfl mw_0 hP (hD.weaken (fun _ _ _ _ => trivial))) rfl hl.1 rfl (Nat.le_of_ble_eq_true rfl) ⟨Nat.zero_le _, Nat.zero_le _⟩ dX10_blind_21 (fun r10 er10 => ?_)
      have h11 : Iv (-1) 255 r10 := er10.1
      refine lv_istore_n (lv' := [(3, .int r10), (0, .ref (a 0)), (1, .int p0), (2, .int p1)]) hx hb dX10_blind_24 rfl hl (by decide) rfl (fun ls hl => ?_)
      refine lv_iload_n hx hb dX10_blind_25 rfl (lv_at hl 0 rfl) ?_
      refine lv_iconst (v := (-1)) hx hb dX10_blind_26 (by decide) ?_
      refine lv_icmp_ne (tgt := 34) hx hb dX10_blind_27 (by decide) (fun c12 => ?_) (fun c12 => ?_)
      · skip
        have h13 : Iv 0 255 r10 := ne_lo h11 (show ¬ r10 = (-1) from c12) (by decide) (by decide)
        refine lv_iload_n hx hb dX10_blind_34 rfl (lv_at hl 0 rfl) ?_
        refine ro_S (As := [.int r10]) (rest := []) S (m_X10_bits l D k a s3 sl  r10 _  hBs3  ) lkX10_190 ok_X10_bits ⟨rfl, rfl, Nat.le_of_ble_eq_true rfl, Nat.le_of_ble_eq_true rfl⟩ (pw_S hK hN hP (hD.weaken (fun _ _ _ _ => trivial))) rfl hl.1 rfl (Nat.le_of_ble_eq_true rfl) ⟨Nat.zero_le _, Nat.zero_le _⟩ dX10_blind_35 (fun r14 er14 => ?_)
        have k15 := er14
        rw [hQ]
        exact W.iret (v := r14) hx hb hr (fun t ht hW => ⟨⟨r14, s3, rfl, ⟨hBs3, hFs3, trivial⟩, by rw [ht]; exact hP, va_K.moved hW.alike (hK.sub (tys' := []) [] rfl), by rw [hAe]; exact hD⟩, by rw [hAe]; exact hS.F ht⟩) hS.2.2 dX10_blind_38
      · skip
        have h16 : Iv (-1) (-1) r10 := eq_l c12 (iv_c (by decide) : Iv (-1) (-1) (-1))
        refine lv_iconst (v := (-1)) hx hb dX10_blind_30 (by decide) ?_
        refine lv_goto (tgt := 38) hx hb dX10_blind_31 (by decide) ?_
        rw [hQ]
        exact W.iret (v := (-1)) hx hb hr (fun t ht hW => ⟨⟨(-1), s3, rfl, ⟨hBs3, hFs3, trivial⟩, by rw [ht]; exact hP, va_K.moved hW.alike (hK.sub (tys' := []) [] rfl), by rw [hAe]; exact hD⟩, by rw [hAe]; exact hS.F ht⟩) hS.2.2 dX10_blind_38
    · skip
      have g17 := g9
      refine lv_if_ne (tgt := 18) hx hb dX10_blind_12 (by decide) (fun c18 => ?_) (fun c18 => ?_)
      · first | exact absurd c18 (by decide) | exact absurd (by decide) c18
      refine lv_bipush (v := (-2)) hx hb dX10_blind_15 (by decide) ?_
      rw [hQ]
      exact W.iret (v := (-2)) hx hb hr (fun t ht hW => ⟨⟨(-2), s3, rfl, ⟨hBs3, hFs3, trivial⟩, by rw [ht]; exact hP, va_K.moved hW.alike (hK.sub (tys' := []) [] rfl), by rw [hAe]; exact hD⟩, by rw [hAe]; exact hS.F ht⟩) hS.2.2 dX10_blind_17
set_option maxHeartbeats 4000000 in
set_option maxRecDepth 100000 in
theorem m_X10_blinds (l : Launch) (D : va_G) (k : Nat → ClassId) (a : Nat → Nat) (st : CT) (sl : CL) (p0 : Int32) (p1 : Int32) (sz : Nat) (hB : MB st)  (hw : WOK (st 1)) : Met l yX10_blinds (.code yX10_blinds cX10_blinds 3 (some .int) :: TB) (rmw 9 0 0) (va_Pc [.ref (a 0), .int p0, .int p1] (PW D k sz (MWS k a st sl))) (QI D (S := CT) (fun r u => MB u ∧ FR [7, 9, 8, 10, 11] st u ∧ (Iv (-2) 255 r ∧ (True))) (fun u => MWS k a u sl) (fun _ => []) (MWS k a st sl) sz) 0 0 (va_A (MWS k a st sl) sz) := by
  refine Met.ofW (cc := cX10_blinds) (maxL := 3) (ret := (some .int)) (by decide) rfl ?_
  intro p e s m args below meth c s₁ B hml hv
  obtain ⟨rfl, hsz, hP, hK, hD0, hN⟩ := hv
  have hx := B.exec
  have hb := B.bytes
  have hr := B.returns
  have hT : ∀ w9 ∈ TB, w9.before ([.ref (a 0), .int p0, .int p1] : List Value).toArray s = true := fun w9 h => atoms_spec (ws := .code yX10_blinds cX10_blinds 3 (some .int) :: TB) B.pre w9 (List.mem_cons_of_mem _ h)
  have hown : s.vm.findClass RX10 = some m.cls := findClass_of_methodNamed B.named
  have S : CallFix p m c cX10_blinds 3 s _ TB RX10 := ⟨hx, hb, hml, hown, hT⟩
  subst hsz
  have hD := hD0.self (sz := s.heap.size)
  generalize hAe : va_A (MWS k a st sl) s.heap.size = A at hD ⊢
  have hA : ∀ q : Nat, s.heap.size ≤ q → A q := fun q h => by rw [← hAe]; exact Or.inr h
  have hS : va_S A s.heap s.heap [] := va_S.rf
  have hl := lv_entry ([.ref (a 0), .int p0, .int p1]) (n := 3) (Nat.le_of_ble_eq_true rfl)
  rw [lg_entry_eq]
  generalize (lg_sl ([.ref (a 0), .int p0, .int p1]) ++ List.replicate (3 - (lg_sl ([.ref (a 0), .int p0, .int p1])).length) Slot.unset).toArray = ls at hl ⊢
  have hl : lv_has ls 3 [(0, .ref (a 0)), (1, .int p0), (2, .int p1)] := hl
  refine nameQ (fun Q hQ => ?_)
  refine lv_iload_n hx hb dX10_blinds_0 rfl (lv_at hl 2 rfl) ?_
  refine lv_iconst (v := (-1)) hx hb dX10_blinds_1 (by decide) ?_
  refine lv_icmp_eq (tgt := 15) hx hb dX10_blinds_2 (by decide) (fun c1 => ?_) (fun c1 => ?_)
  · skip
    have h2 : Iv (-1) (-1) p1 := eq_l c1 (iv_c (by decide) : Iv (-1) (-1) (-1))
    refine lv_bipush (v := (-2)) hx hb dX10_blinds_15 (by decide) ?_
    refine lv_goto (tgt := 26) hx hb dX10_blinds_17 (by decide) ?_
    rw [hQ]
    exact W.iret (v := (-2)) hx hb hr (fun t ht hW => ⟨⟨(-2), st, rfl, ⟨hB, fr_rf, ⟨(iv_mono (c := (-2)) (d := 255) (iv_c (by decide) : Iv (-2) (-2) (-2)) (by decide) (by decide)), trivial⟩⟩, by rw [ht]; exact hP, va_K.moved hW.alike (hK.sub (tys' := []) [] rfl), by rw [hAe]; exact hD⟩, by rw [hAe]; exact hS.F ht⟩) hS.2.2 dX10_blinds_26
  · skip
    refine lv_aload_n hx hb dX10_blinds_5 rfl (lv_at hl 0 rfl) ?_
    refine lv_iload_n hx hb dX10_blinds_6 rfl (lv_at hl 1 rfl) ?_
    refine lv_iload_n hx hb dX10_blinds_7 rfl (lv_at hl 2 rfl) ?_
    refine lv_i2l hx hb dX10_blinds_8 rfl ?_
    refine ca_i hP hD hS hA (fun hDc => run_V (mc := 0) (ms := 0) (As := [.int p0, .long (p1.toInt64)]) (rest := []) S (m_X10_canWant l D k a st sl  p0 (p1.toInt64) _  hB  hw) lkX10_290 ok_X10_canWant ⟨rfl, rfl, Nat.le_of_ble_eq_true rfl, Nat.le_of_ble_eq_true rfl⟩ (pw_V (ci := 10) (q0 := 0) hK hN rfl mw_0 hP hDc) rfl hl.1 rfl (Nat.le_of_ble_eq_true rfl) ⟨Nat.zero_le _, Nat.zero_le _⟩ dX10_blinds_9) (fun r4 s3 H9 locs9 hs3 hP9 hD9 hS9 => ?_)
    clear hP hD hS
    have hS := hS9
    have hP := hP9
    have hD := hD9
    clear hP9 hD9 hS9
    obtain ⟨hBs3, gs3, fs3⟩ := hs3
    have hFs3 : FR [7, 9, 8, 10, 11] st s3 := fr_ca fr_rf gs3 (sub_1 (List.mem_of_getElem? (i := 0) rfl) (sub_1 (List.mem_of_getElem? (i := 1) rfl) (sub_1 (List.mem_of_getElem? (i := 2) rfl) (sub_1 (List.mem_of_getElem? (i := 3) rfl) (sub_1 (List.mem_of_getElem? (i := 4) rfl) sub_0)))))
    rcases fs3 with ⟨rfl, g9⟩ | ⟨rfl, g9⟩
    · skip
      have g5 := g9
      have h6 : Iv 0 2 p0 := g5.1
      have h7 : ((-1) : Int) ≤ (p1.toInt64).toInt ∧ (p1.toInt64).toInt ≤ (7 : Int) := ⟨(g5.2).1, (g5.2).2⟩
      have h8 : Iv (-1) 7 p1 := iv_lv h7
      refine lv_if_ne (tgt := 20) hx hb dX10_blinds_12 (by decide) (fun c9 => ?_) (fun c9 => ?_)
      rotate_left
      · first | exact absurd c9 (by decide) | exact absurd (by decide) c9
      refine lv_aload_n hx hb dX10_blinds_20 rfl (lv_at hl 0 rfl) ?_
      refine lv_iload_n hx hb dX10_blinds_21 rfl (lv_at hl 1 rfl) ?_
      refine lv_iload_n hx hb dX10_blinds_22 rfl (lv_at hl 2 rfl) ?_
      refine ro_V (As := [.int p0, .int p1]) (rest := []) S (m_X10_blindOf l D k a s3 sl  p0 p1 _  hBs3 h6 (wok_of (hFs3 1 (nm_1 (by decide) (nm_1 (by decide) (nm_1 (by decide) (nm_1 (by decide) (nm_1 (by decide) nm_0)))))) hw)) lkX10_385 ok_X10_blindOf ⟨rfl, rfl, Nat.le_of_ble_eq_true rfl, Nat.le_of_ble_eq_true rfl⟩ (pw_V (ci := 10) (q0 := 0) hK hN rfl mw_0 hP (hD.weaken (fun _ _ _ _ => trivial))) rfl hl.1 rfl (Nat.le_of_ble_eq_true rfl) ⟨Nat.zero_le _, Nat.zero_le _⟩ dX10_blinds_23 (fun r10 er10 => ?_)
      have h11 : Iv (-1) 255 r10 := er10.1
      rw [hQ]
      exact W.iret (v := r10) hx hb hr (fun t ht hW => ⟨⟨r10, s3, rfl, ⟨hBs3, hFs3, ⟨(iv_mono (c := (-2)) (d := 255) h11 (by decide) (by decide)), trivial⟩⟩, by rw [ht]; exact hP, va_K.moved hW.alike (hK.sub (tys' := []) [] rfl), by rw [hAe]; exact hD⟩, by rw [hAe]; exact hS.F ht⟩) hS.2.2 dX10_blinds_26
    · skip
      have g12 := g9
      refine lv_if_ne (tgt := 20) hx hb dX10_blinds_12 (by decide) (fun c13 => ?_) (fun c13 => ?_)
      · first | exact absurd c13 (by decide) | exact absurd (by decide) c13
      refine lv_bipush (v := (-2)) hx hb dX10_blinds_15 (by decide) ?_
      refine lv_goto (tgt := 26) hx hb dX10_blinds_17 (by decide) ?_
      rw [hQ]
      exact W.iret (v := (-2)) hx hb hr (fun t ht hW => ⟨⟨(-2), s3, rfl, ⟨hBs3, hFs3, ⟨(iv_mono (c := (-2)) (d := 255) (iv_c (by decide) : Iv (-2) (-2) (-2)) (by decide) (by decide)), trivial⟩⟩, by rw [ht]; exact hP, va_K.moved hW.alike (hK.sub (tys' := []) [] rfl), by rw [hAe]; exact hD⟩, by rw [hAe]; exact hS.F ht⟩) hS.2.2 dX10_blinds_26
set_option maxHeartbeats 4000000 in
set_option maxRecDepth 100000 in
theorem m_X10_lasts (l : Launch) (D : va_G) (k : Nat → ClassId) (a : Nat → Nat) (st : CT) (sl : CL) (p0 : Int32) (p1 : Int32) (sz : Nat) (hB : MB st)  (hw : WOK (st 1)) : Met l yX10_lasts (.code yX10_lasts cX10_lasts 3 (some .int) :: TB) (rmw 8 0 0) (va_Pc [.ref (a 0), .int p0, .int p1] (PW D k sz (MWS k a st sl))) (QI D (S := CT) (fun r u => MB u ∧ FR [7, 9, 8, 10, 11] st u ∧ ((True))) (fun u => MWS k a u sl) (fun _ => []) (MWS k a st sl) sz) 0 0 (va_A (MWS k a st sl) sz) := by
  refine Met.ofW (cc := cX10_lasts) (maxL := 3) (ret := (some .int)) (by decide) rfl ?_
  intro p e s m args below meth c s₁ B hml hv
  obtain ⟨rfl, hsz, hP, hK, hD0, hN⟩ := hv
  have hx := B.exec
  have hb := B.bytes
  have hr := B.returns
  have hT : ∀ w9 ∈ TB, w9.before ([.ref (a 0), .int p0, .int p1] : List Value).toArray s = true := fun w9 h => atoms_spec (ws := .code yX10_lasts cX10_lasts 3 (some .int) :: TB) B.pre w9 (List.mem_cons_of_mem _ h)
  have hown : s.vm.findClass RX10 = some m.cls := findClass_of_methodNamed B.named
  have S : CallFix p m c cX10_lasts 3 s _ TB RX10 := ⟨hx, hb, hml, hown, hT⟩
  subst hsz
  have hD := hD0.self (sz := s.heap.size)
  generalize hAe : va_A (MWS k a st sl) s.heap.size = A at hD ⊢
  have hA : ∀ q : Nat, s.heap.size ≤ q → A q := fun q h => by rw [← hAe]; exact Or.inr h
  have hS : va_S A s.heap s.heap [] := va_S.rf
  have hl := lv_entry ([.ref (a 0), .int p0, .int p1]) (n := 3) (Nat.le_of_ble_eq_true rfl)
  rw [lg_entry_eq]
  generalize (lg_sl ([.ref (a 0), .int p0, .int p1]) ++ List.replicate (3 - (lg_sl ([.ref (a 0), .int p0, .int p1])).length) Slot.unset).toArray = ls at hl ⊢
  have hl : lv_has ls 3 [(0, .ref (a 0)), (1, .int p0), (2, .int p1)] := hl
  refine nameQ (fun Q hQ => ?_)
  refine lv_aload_n hx hb dX10_lasts_0 rfl (lv_at hl 0 rfl) ?_
  refine lv_iload_n hx hb dX10_lasts_1 rfl (lv_at hl 1 rfl) ?_
  refine ro_V (As := [.int p0]) (rest := []) S (m_X10_isWheel l D k a st sl  p0 _  hB  hw) lkX10_269 ok_X10_isWheel ⟨rfl, rfl, Nat.le_of_ble_eq_true rfl, Nat.le_of_ble_eq_true rfl⟩ (pw_V (ci := 10) (q0 := 0) hK hN rfl mw_0 hP (hD.weaken (fun _ _ _ _ => trivial))) rfl hl.1 rfl (Nat.le_of_ble_eq_true rfl) ⟨Nat.zero_le _, Nat.zero_le _⟩ dX10_lasts_2 (fun r1 er1 => ?_)
  rcases er1 with ⟨rfl, g9⟩ | ⟨rfl, g9⟩
  · skip
    have g2 := g9
    have h3 : Iv 0 7 p0 := g2.1
    have k4 := g2.2
    refine lv_if_eq (tgt := 20) hx hb dX10_lasts_5 (by decide) (fun c5 => ?_) (fun c5 => ?_)
    · first | exact absurd c5 (by decide) | exact absurd (by decide) c5
    refine lv_iload_n hx hb dX10_lasts_8 rfl (lv_at hl 2 rfl) ?_
    refine lv_i2l hx hb dX10_lasts_9 rfl ?_
    refine lv_lconst (v := 1) hx hb dX10_lasts_10 (by decide) ?_
    refine lv_ldc2 (v := 20) hx hb hown (hT _ t1853) dX10_lasts_11 ?_
    refine ro_S (As := [.long (p1.toInt64), .long 1, .long 20]) (rest := []) S (m_X10_in l D k a st sl  (p1.toInt64) 1 20 _  hB  ) lkX10_85 ok_X10_in ⟨rfl, rfl, Nat.le_of_ble_eq_true rfl, Nat.le_of_ble_eq_true rfl⟩ (pw_S hK hN hP (hD.weaken (fun _ _ _ _ => trivial))) rfl hl.1 rfl (Nat.le_of_ble_eq_true rfl) ⟨Nat.zero_le _, Nat.zero_le _⟩ dX10_lasts_14 (fun r6 er6 => ?_)
    rcases er6 with ⟨rfl, g9⟩ | ⟨rfl, g9⟩
    · skip
      have g7 := g9
      have k8 := g7
      have h9 : (1 : Int) ≤ (p1.toInt64).toInt ∧ (p1.toInt64).toInt ≤ (20 : Int) := ⟨((show (1 : Int) ≤ (p1.toInt64).toInt ∧ (p1.toInt64).toInt ≤ (20 : Int) from ⟨Int.le_trans ((⟨by decide, by decide⟩ : (1 : Int) ≤ (1 : Int64).toInt ∧ (1 : Int64).toInt ≤ (1 : Int))).1 k8.1, Int.le_trans k8.2 ((⟨by decide, by decide⟩ : (20 : Int) ≤ (20 : Int64).toInt ∧ (20 : Int64).toInt ≤ (20 : Int))).2⟩)).1, ((show (1 : Int) ≤ (p1.toInt64).toInt ∧ (p1.toInt64).toInt ≤ (20 : Int) from ⟨Int.le_trans ((⟨by decide, by decide⟩ : (1 : Int) ≤ (1 : Int64).toInt ∧ (1 : Int64).toInt ≤ (1 : Int))).1 k8.1, Int.le_trans k8.2 ((⟨by decide, by decide⟩ : (20 : Int) ≤ (20 : Int64).toInt ∧ (20 : Int64).toInt ≤ (20 : Int))).2⟩)).2⟩
      have h10 : Iv 1 20 p1 := iv_lv h9
      refine lv_if_ne (tgt := 23) hx hb dX10_lasts_17 (by decide) (fun c11 => ?_) (fun c11 => ?_)
      rotate_left
      · first | exact absurd c11 (by decide) | exact absurd (by decide) c11
      refine lv_aload_n hx hb dX10_lasts_23 rfl (lv_at hl 0 rfl) ?_
      refine ca_v hP hD hS hA (fun hDc => run_V (mc := 0) (ms := 0) (As := []) (rest := []) S (m_X10_asItIs l D k a st sl   _  hB  hw) lkX10_273 ok_X10_asItIs ⟨rfl, rfl, Nat.le_of_ble_eq_true rfl, Nat.le_of_ble_eq_true rfl⟩ (pw_V (ci := 10) (q0 := 0) hK hN rfl mw_0 hP hDc) rfl hl.1 rfl (Nat.le_of_ble_eq_true rfl) ⟨Nat.zero_le _, Nat.zero_le _⟩ dX10_lasts_24) (fun s12 H9 locs9 hs12 hP9 hD9 hS9 => ?_)
      clear hP hD hS
      have hS := hS9
      have hP := hP9
      have hD := hD9
      clear hP9 hD9 hS9
      obtain ⟨hBs12, gs12, fs12⟩ := hs12
      have hFs12 : FR [7, 9, 8, 10, 11] st s12 := fr_ca fr_rf gs12 (sub_1 (List.mem_of_getElem? (i := 0) rfl) (sub_1 (List.mem_of_getElem? (i := 1) rfl) (sub_1 (List.mem_of_getElem? (i := 2) rfl) (sub_1 (List.mem_of_getElem? (i := 3) rfl) (sub_1 (List.mem_of_getElem? (i := 4) rfl) sub_0)))))
      refine lv_aload_n hx hb dX10_lasts_27 rfl (lv_at hl 0 rfl) ?_
      refine va_get (D := D) (ci := 10) (v := .ref (a 7)) (C := RX10) (T := TX10) (N := 38) hx hb hT in_X10 hown hK hP 0 mw_0 rfl 15 (by decide) (hT _ t1277) (fun _ h9 => h9) rfl dX10_lasts_28 ?_
      refine lv_iload_n hx hb dX10_lasts_31 rfl (lv_at hl 1 rfl) ?_
      refine va_iald hx hb hK hP 7 0 mw_7 rfl (iv_in h3 (by decide) (by decide)) dX10_lasts_32 ?_
      refine lv_topi (fun z14 ez14 => ?_)
      refine lv_iload_n hx hb dX10_lasts_33 rfl (lv_at hl 2 rfl) ?_
      refine lv_idiv hx hb dX10_lasts_34 (iv_nz h10 (by decide)) ?_
      refine lv_topi (fun z15 ez15 => ?_)
      refine lv_iconst (v := 1) hx hb dX10_lasts_35 (by decide) ?_
      refine lv_iadd hx hb dX10_lasts_36 ?_
      refine lv_topi (fun z16 ez16 => ?_)
      rw [hQ]
      exact W.iret (v := z16) hx hb hr (fun t ht hW => ⟨⟨z16, s12, rfl, ⟨hBs12, hFs12, trivial⟩, by rw [ht]; exact hP, va_K.moved hW.alike (hK.sub (tys' := []) [] rfl), by rw [hAe]; exact hD⟩, by rw [hAe]; exact hS.F ht⟩) hS.2.2 dX10_lasts_37
    · skip
      have g17 := g9
      have k18 := g17
      refine lv_if_ne (tgt := 23) hx hb dX10_lasts_17 (by decide) (fun c19 => ?_) (fun c19 => ?_)
      · first | exact absurd c19 (by decide) | exact absurd (by decide) c19
      refine lv_bipush (v := (-2)) hx hb dX10_lasts_20 (by decide) ?_
      rw [hQ]
      exact W.iret (v := (-2)) hx hb hr (fun t ht hW => ⟨⟨(-2), st, rfl, ⟨hB, fr_rf, trivial⟩, by rw [ht]; exact hP, va_K.moved hW.alike (hK.sub (tys' := []) [] rfl), by rw [hAe]; exact hD⟩, by rw [hAe]; exact hS.F ht⟩) hS.2.2 dX10_lasts_22
  · skip
    have g20 := g9
    refine lv_if_eq (tgt := 20) hx hb dX10_lasts_5 (by decide) (fun c21 => ?_) (fun c21 => ?_)
    rotate_left
    · first | exact absurd c21 (by decide) | exact absurd (by decide) c21
    refine lv_bipush (v := (-2)) hx hb dX10_lasts_20 (by decide) ?_
    rw [hQ]
    exact W.iret (v := (-2)) hx hb hr (fun t ht hW => ⟨⟨(-2), st, rfl, ⟨hB, fr_rf, trivial⟩, by rw [ht]; exact hP, va_K.moved hW.alike (hK.sub (tys' := []) [] rfl), by rw [hAe]; exact hD⟩, by rw [hAe]; exact hS.F ht⟩) hS.2.2 dX10_lasts_22
