set_option maxHeartbeats 4000000 in
set_option maxRecDepth 100000 in
theorem m_X10_worthOf (l : Launch) (D : va_G) (k : Nat → ClassId) (a : Nat → Nat) (st : CT) (sl : CL) (p0 : Int32) (sz : Nat) (hB : MB st) (hp0 : Iv 0 7 p0) (hw : WOK (st 1)) : Met l yX10_worthOf (.code yX10_worthOf cX10_worthOf 4 (some .int) :: TB) (rmk 2) (va_Pc [.ref (a 0), .int p0] (PW D k sz (MWS k a st sl))) (vp_Si (fun r => (True))) 0 0 (fun _ => False) := by
  refine Met.ofW (cc := cX10_worthOf) (maxL := 4) (ret := (some .int)) (by decide) rfl ?_
  intro p e s m args below meth c s₁ B hml hv
  obtain ⟨rfl, hsz, hP, hK, hD0, hN⟩ := hv
  have hx := B.exec
  have hb := B.bytes
  have hr := B.returns
  have hT : ∀ w9 ∈ TB, w9.before ([.ref (a 0), .int p0] : List Value).toArray s = true := fun w9 h => atoms_spec (ws := .code yX10_worthOf cX10_worthOf 4 (some .int) :: TB) B.pre w9 (List.mem_cons_of_mem _ h)
  have hown : s.vm.findClass RX10 = some m.cls := findClass_of_methodNamed B.named
  have S : CallFix p m c cX10_worthOf 4 s _ TB RX10 := ⟨hx, hb, hml, hown, hT⟩
  subst hsz
  have hl := lv_entry ([.ref (a 0), .int p0]) (n := 4) (Nat.le_of_ble_eq_true rfl)
  rw [lg_entry_eq]
  generalize (lg_sl ([.ref (a 0), .int p0]) ++ List.replicate (4 - (lg_sl ([.ref (a 0), .int p0])).length) Slot.unset).toArray = ls at hl ⊢
  have hl : lv_has ls 4 [(0, .ref (a 0)), (1, .int p0)] := hl
  refine nameQ (fun Q hQ => ?_)
  refine lv_iconst (v := 0) hx hb dX10_worthOf_0 (by decide) ?_
  refine lv_istore_n (lv' := [(2, .int 0), (0, .ref (a 0)), (1, .int p0)]) hx hb dX10_worthOf_1 rfl hl (by decide) rfl (fun ls hl => ?_)
  refine lv_iconst (v := 0) hx hb dX10_worthOf_2 (by decide) ?_
  refine lv_istore_n (lv' := [(3, .int 0), (2, .int 0), (0, .ref (a 0)), (1, .int p0)]) hx hb dX10_worthOf_3 rfl hl (by decide) rfl (fun ls hl => ?_)
  have lp4 : ∀ (n9_4 : Nat) (v3_4 : Int32) (v2_4 : Int32) (ls : Array Slot), Iv 0 8 v3_4 → lv_has ls 4 [(3, .int v3_4), (2, .int v2_4), (0, .ref (a 0)), (1, .int p0)] → (8 : Int) - v3_4.toInt < (n9_4 : Int) → W p l e (rmk 2) s m ([.ref (a 0), .int p0] : List Value).toArray below meth c s.heap [] 0 0 Q (F0 m 4 ls []) := by
    clear hl
    intro n9_4
    induction n9_4 with
    | zero =>
      intro v3_4 v2_4 ls iv3_4 hl hm4
      exact (fu_0 iv3_4 hm4).elim
    | succ n9_4 ih4 =>
      intro v3_4 v2_4 ls iv3_4 hl hm4
      refine lv_iload_n hx hb dX10_worthOf_4 rfl (lv_at hl 0 rfl) ?_
      refine lv_aload_n hx hb dX10_worthOf_5 rfl (lv_at hl 2 rfl) ?_
      refine va_get (D := D) (ci := 10) (v := .ref (a 1)) (C := RX10) (T := TX10) (N := 38) hx hb hT in_X10 hown hK hP 0 mw_0 rfl 1 (by decide) (hT _ t1263) (fun _ h9 => h9) rfl dX10_worthOf_6 ?_
      refine lv_iconst (v := 2) hx hb dX10_worthOf_9 (by decide) ?_
      refine va_iald hx hb hK hP 1 0 mw_1 rfl (by unfold vp_in; decide) dX10_worthOf_10 ?_
      refine k_top (y := (st 1 2)) rfl ?_
      have h154 : Iv 0 8 (st 1 2) := (tok_at (hw).1 2 0 8 (by decide) (by decide) (by decide))
      refine lv_icmp_ge (tgt := 40) hx hb dX10_worthOf_11 (by decide) (fun c155 => ?_) (fun c155 => ?_)
      · skip
        have n156 : (st 1 2).toInt ≤ v3_4.toInt := (i_le c155)
        refine lv_iload_n hx hb dX10_worthOf_40 rfl (lv_at hl 1 rfl) ?_
        rw [hQ]
        exact W.iret (v := v2_4) hx hb hr (fun t ht hW => ⟨v2_4, rfl, trivial, ht⟩) (fun _ h9 => by cases h9) dX10_worthOf_41
      · skip
        have n157 : v3_4.toInt < (st 1 2).toInt := (i_nle c155)
        have h158 : Iv 0 7 v3_4 := lt_l iv3_4 n157 h154 (by decide)
        have h159 : Iv 1 8 (st 1 2) := lt_r iv3_4 n157 h154 (by decide)
        refine lv_iload_n hx hb dX10_worthOf_14 rfl (lv_at hl 1 rfl) ?_
        refine lv_aload_n hx hb dX10_worthOf_15 rfl (lv_at hl 2 rfl) ?_
        refine va_get (D := D) (ci := 10) (v := .ref (a 8)) (C := RX10) (T := TX10) (N := 38) hx hb hT in_X10 hown hK hP 0 mw_0 rfl 16 (by decide) (hT _ t1278) (fun _ h9 => h9) rfl dX10_worthOf_16 ?_
        refine lv_bipush (v := 8) hx hb dX10_worthOf_19 (by decide) ?_
        refine lv_iload_n hx hb dX10_worthOf_21 rfl (lv_at hl 3 rfl) ?_
        refine lv_imul hx hb dX10_worthOf_22 ?_
        refine lv_topi (fun z160 ez160 => ?_)
        have h161 : Iv 0 56 z160 := iv_mull ez160 hp0 (k := 8) (by decide) (by decide) (by decide) (by decide) (by decide) (by decide)
        refine lv_iload_n hx hb dX10_worthOf_23 rfl (lv_at hl 0 rfl) ?_
        refine lv_iadd hx hb dX10_worthOf_24 ?_
        refine lv_topi (fun z162 ez162 => ?_)
        have h163 : Iv 0 63 z162 := iv_add ez162 h161 h158 (by decide) (by decide) (by decide) (by decide)
        refine va_iald hx hb hK hP 8 0 mw_8 rfl (iv_in h163 (by decide) (by decide)) dX10_worthOf_25 ?_
        refine lv_topi (fun z164 ez164 => ?_)
        refine lv_aload_n hx hb dX10_worthOf_26 rfl (lv_at hl 2 rfl) ?_
        refine lv_iload_n hx hb dX10_worthOf_27 rfl (lv_at hl 0 rfl) ?_
        refine ro_V (As := [.int v3_4]) (rest := [.int z164, .int v2_4]) S (m_X10_milesOf l D k a st sl  v3_4 _  hB h158 hw) lkX10_253 ok_X10_milesOf ⟨rfl, rfl, Nat.le_of_ble_eq_true rfl, Nat.le_of_ble_eq_true rfl⟩ (pw_V (ci := 10) (q0 := 0) hK hN rfl mw_0 hP hD0) rfl hl.1 rfl (Nat.le_of_ble_eq_true rfl) ⟨Nat.zero_le _, Nat.zero_le _⟩ dX10_worthOf_28 (fun r165 er165 => ?_)
        have h166 : Iv 0 20 r165 := er165.1
        refine lv_imul hx hb dX10_worthOf_31 ?_
        refine lv_topi (fun z167 ez167 => ?_)
        refine lv_iadd hx hb dX10_worthOf_32 ?_
        refine lv_topi (fun z168 ez168 => ?_)
        refine lv_istore_n (lv' := [(2, .int z168), (3, .int v3_4), (0, .ref (a 0)), (1, .int p0)]) hx hb dX10_worthOf_33 rfl hl (by decide) rfl (fun ls hl => ?_)
        obtain ⟨z169, ez169⟩ : ∃ z9 : Int32, z9 = v3_4 + Int32.ofInt 1 := ⟨_, rfl⟩
        have h170 : Iv 1 8 z169 := iv_inc ez169 h158 (by decide) (by decide) (by decide) (by decide) (by decide) (by decide)
        refine lv_iinc (v := z169) (lv' := [(3, .int z169), (2, .int z168), (0, .ref (a 0)), (1, .int p0)]) hx hb dX10_worthOf_34 hl (k := 1) rfl ez169.symm (by decide) rfl (fun ls hl => ?_)
        refine lv_goto (tgt := 4) hx hb dX10_worthOf_37 (by decide) ?_
        exact ih4 z169 z168 _ (iv_mono (c := 0) (d := 8) h170 (by decide) (by decide)) (lv_sub hl [0, 1, 2, 3] rfl) (fu_s (lo := 0) (ti_inc ez169 h158 (by decide) (by decide) (by decide) (by decide)) (by decide) hm4)
  exact lp4 9 0 0 _ (iv_mono (c := 0) (d := 8) (iv_c (by decide) : Iv 0 0 0) (by decide) (by decide)) (lv_sub hl [0, 1, 2, 3] rfl) (fu_i (iv_mono (c := 0) (d := 8) (iv_c (by decide) : Iv 0 0 0) (by decide) (by decide)) (by decide))
set_option maxHeartbeats 4000000 in
set_option maxRecDepth 100000 in
theorem m_X10_worth (l : Launch) (D : va_G) (k : Nat → ClassId) (a : Nat → Nat) (st : CT) (sl : CL) (p0 : Int32) (sz : Nat) (hB : MB st)  (hw : WOK (st 1)) : Met l yX10_worth (.code yX10_worth cX10_worth 2 (some .int) :: TB) (rmw 8 0 0) (va_Pc [.ref (a 0), .int p0] (PW D k sz (MWS k a st sl))) (QI D (S := CT) (fun r u => MB u ∧ FR [7, 9, 8, 10, 11] st u ∧ ((True))) (fun u => MWS k a u sl) (fun _ => []) (MWS k a st sl) sz) 0 0 (va_A (MWS k a st sl) sz) := by
  refine Met.ofW (cc := cX10_worth) (maxL := 2) (ret := (some .int)) (by decide) rfl ?_
  intro p e s m args below meth c s₁ B hml hv
  obtain ⟨rfl, hsz, hP, hK, hD0, hN⟩ := hv
  have hx := B.exec
  have hb := B.bytes
  have hr := B.returns
  have hT : ∀ w9 ∈ TB, w9.before ([.ref (a 0), .int p0] : List Value).toArray s = true := fun w9 h => atoms_spec (ws := .code yX10_worth cX10_worth 2 (some .int) :: TB) B.pre w9 (List.mem_cons_of_mem _ h)
  have hown : s.vm.findClass RX10 = some m.cls := findClass_of_methodNamed B.named
  have S : CallFix p m c cX10_worth 2 s _ TB RX10 := ⟨hx, hb, hml, hown, hT⟩
  subst hsz
  have hD := hD0.self (sz := s.heap.size)
  generalize hAe : va_A (MWS k a st sl) s.heap.size = A at hD ⊢
  have hA : ∀ q : Nat, s.heap.size ≤ q → A q := fun q h => by rw [← hAe]; exact Or.inr h
  have hS : va_S A s.heap s.heap [] := va_S.rf
  have hl := lv_entry ([.ref (a 0), .int p0]) (n := 2) (Nat.le_of_ble_eq_true rfl)
  rw [lg_entry_eq]
  generalize (lg_sl ([.ref (a 0), .int p0]) ++ List.replicate (2 - (lg_sl ([.ref (a 0), .int p0])).length) Slot.unset).toArray = ls at hl ⊢
  have hl : lv_has ls 2 [(0, .ref (a 0)), (1, .int p0)] := hl
  refine nameQ (fun Q hQ => ?_)
  refine lv_aload_n hx hb dX10_worth_0 rfl (lv_at hl 0 rfl) ?_
  refine lv_iload_n hx hb dX10_worth_1 rfl (lv_at hl 1 rfl) ?_
  refine ro_V (As := [.int p0]) (rest := []) S (m_X10_isWheel l D k a st sl  p0 _  hB  hw) lkX10_269 ok_X10_isWheel ⟨rfl, rfl, Nat.le_of_ble_eq_true rfl, Nat.le_of_ble_eq_true rfl⟩ (pw_V (ci := 10) (q0 := 0) hK hN rfl mw_0 hP (hD.weaken (fun _ _ _ _ => trivial))) rfl hl.1 rfl (Nat.le_of_ble_eq_true rfl) ⟨Nat.zero_le _, Nat.zero_le _⟩ dX10_worth_2 (fun r1 er1 => ?_)
  rcases er1 with ⟨rfl, g9⟩ | ⟨rfl, g9⟩
  · skip
    have g2 := g9
    have h3 : Iv 0 7 p0 := g2.1
    have k4 := g2.2
    refine lv_if_ne (tgt := 11) hx hb dX10_worth_5 (by decide) (fun c5 => ?_) (fun c5 => ?_)
    rotate_left
    · first | exact absurd c5 (by decide) | exact absurd (by decide) c5
    refine lv_aload_n hx hb dX10_worth_11 rfl (lv_at hl 0 rfl) ?_
    refine ca_v hP hD hS hA (fun hDc => run_V (mc := 0) (ms := 0) (As := []) (rest := []) S (m_X10_asItIs l D k a st sl   _  hB  hw) lkX10_273 ok_X10_asItIs ⟨rfl, rfl, Nat.le_of_ble_eq_true rfl, Nat.le_of_ble_eq_true rfl⟩ (pw_V (ci := 10) (q0 := 0) hK hN rfl mw_0 hP hDc) rfl hl.1 rfl (Nat.le_of_ble_eq_true rfl) ⟨Nat.zero_le _, Nat.zero_le _⟩ dX10_worth_12) (fun s6 H9 locs9 hs6 hP9 hD9 hS9 => ?_)
    clear hP hD hS
    have hS := hS9
    have hP := hP9
    have hD := hD9
    clear hP9 hD9 hS9
    obtain ⟨hBs6, gs6, fs6⟩ := hs6
    have hFs6 : FR [7, 9, 8, 10, 11] st s6 := fr_ca fr_rf gs6 (sub_1 (List.mem_of_getElem? (i := 0) rfl) (sub_1 (List.mem_of_getElem? (i := 1) rfl) (sub_1 (List.mem_of_getElem? (i := 2) rfl) (sub_1 (List.mem_of_getElem? (i := 3) rfl) (sub_1 (List.mem_of_getElem? (i := 4) rfl) sub_0)))))
    refine lv_aload_n hx hb dX10_worth_15 rfl (lv_at hl 0 rfl) ?_
    refine lv_iload_n hx hb dX10_worth_16 rfl (lv_at hl 1 rfl) ?_
    refine ro_V (As := [.int p0]) (rest := []) S (m_X10_worthOf l D k a s6 sl  p0 _  hBs6 h3 (wok_of (hFs6 1 (nm_1 (by decide) (nm_1 (by decide) (nm_1 (by decide) (nm_1 (by decide) (nm_1 (by decide) nm_0)))))) hw)) lkX10_396 ok_X10_worthOf ⟨rfl, rfl, Nat.le_of_ble_eq_true rfl, Nat.le_of_ble_eq_true rfl⟩ (pw_V (ci := 10) (q0 := 0) hK hN rfl mw_0 hP (hD.weaken (fun _ _ _ _ => trivial))) rfl hl.1 rfl (Nat.le_of_ble_eq_true rfl) ⟨Nat.zero_le _, Nat.zero_le _⟩ dX10_worth_17 (fun r8 er8 => ?_)
    rw [hQ]
    exact W.iret (v := r8) hx hb hr (fun t ht hW => ⟨⟨r8, s6, rfl, ⟨hBs6, hFs6, trivial⟩, by rw [ht]; exact hP, va_K.moved hW.alike (hK.sub (tys' := []) [] rfl), by rw [hAe]; exact hD⟩, by rw [hAe]; exact hS.F ht⟩) hS.2.2 dX10_worth_20
  · skip
    have g9 := g9
    refine lv_if_ne (tgt := 11) hx hb dX10_worth_5 (by decide) (fun c10 => ?_) (fun c10 => ?_)
    · first | exact absurd c10 (by decide) | exact absurd (by decide) c10
    refine lv_bipush (v := (-2)) hx hb dX10_worth_8 (by decide) ?_
    rw [hQ]
    exact W.iret (v := (-2)) hx hb hr (fun t ht hW => ⟨⟨(-2), st, rfl, ⟨hB, fr_rf, trivial⟩, by rw [ht]; exact hP, va_K.moved hW.alike (hK.sub (tys' := []) [] rfl), by rw [hAe]; exact hD⟩, by rw [hAe]; exact hS.F ht⟩) hS.2.2 dX10_worth_10
set_option maxHeartbeats 4000000 in
set_option maxRecDepth 100000 in
theorem m_X10_gainBy (l : Launch) (D : va_G) (k : Nat → ClassId) (a : Nat → Nat) (st : CT) (sl : CL) (p0 : Int32) (p1 : Int32) (p2 : Int32) (sz : Nat) (hB : MB st) (hp0 : Iv 0 255 p0) (hp1 : Iv 0 7 p1) (hw : WOK (st 1)) : Met l yX10_gainBy (.code yX10_gainBy cX10_gainBy 4 (some .int) :: TB) (rmk 3) (va_Pc [.ref (a 0), .int p0, .int p1, .int p2] (PW D k sz (MWS k a st sl))) (vp_Si (fun r => (True))) 0 0 (fun _ => False) := by
  refine Met.ofW (cc := cX10_gainBy) (maxL := 4) (ret := (some .int)) (by decide) rfl ?_
  intro p e s m args below meth c s₁ B hml hv
  obtain ⟨rfl, hsz, hP, hK, hD0, hN⟩ := hv
  have hx := B.exec
  have hb := B.bytes
  have hr := B.returns
  have hT : ∀ w9 ∈ TB, w9.before ([.ref (a 0), .int p0, .int p1, .int p2] : List Value).toArray s = true := fun w9 h => atoms_spec (ws := .code yX10_gainBy cX10_gainBy 4 (some .int) :: TB) B.pre w9 (List.mem_cons_of_mem _ h)
  have hown : s.vm.findClass RX10 = some m.cls := findClass_of_methodNamed B.named
  have S : CallFix p m c cX10_gainBy 4 s _ TB RX10 := ⟨hx, hb, hml, hown, hT⟩
  subst hsz
  have hl := lv_entry ([.ref (a 0), .int p0, .int p1, .int p2]) (n := 4) (Nat.le_of_ble_eq_true rfl)
  rw [lg_entry_eq]
  generalize (lg_sl ([.ref (a 0), .int p0, .int p1, .int p2]) ++ List.replicate (4 - (lg_sl ([.ref (a 0), .int p0, .int p1, .int p2])).length) Slot.unset).toArray = ls at hl ⊢
  have hl : lv_has ls 4 [(0, .ref (a 0)), (1, .int p0), (2, .int p1), (3, .int p2)] := hl
  refine nameQ (fun Q hQ => ?_)
  refine lv_aload_n hx hb dX10_gainBy_0 rfl (lv_at hl 0 rfl) ?_
  refine va_get (D := D) (ci := 10) (v := .ref (a 17)) (C := RX10) (T := TX10) (N := 38) hx hb hT in_X10 hown hK hP 0 mw_0 rfl 32 (by decide) (hT _ t1294) (fun _ h9 => h9) rfl dX10_gainBy_1 ?_
  refine lv_iload_n hx hb dX10_gainBy_4 rfl (lv_at hl 1 rfl) ?_
  refine lv_iconst (v := 1) hx hb dX10_gainBy_5 (by decide) ?_
  refine lv_iload_n hx hb dX10_gainBy_6 rfl (lv_at hl 2 rfl) ?_
  refine lv_ishl hx hb dX10_gainBy_7 ?_
  refine lv_topi (fun z1 ez1 => ?_)
  have h2 : Iv 1 128 z1 := iv_shl 7 ez1 hp1 (by decide) (by decide) (by decide)
  refine lv_iconst (v := (-1)) hx hb dX10_gainBy_8 (by decide) ?_
  refine lv_ixor hx hb dX10_gainBy_9 ?_
  refine lv_topi (fun z3 ez3 => ?_)
  refine lv_iand hx hb dX10_gainBy_10 ?_
  refine lv_topi (fun z4 ez4 => ?_)
  have h5 : Iv 0 255 z4 := iv_andl ez4 hp0
  refine va_iald hx hb hK hP 17 0 mw_17 rfl (iv_in h5 (by decide) (by decide)) dX10_gainBy_11 ?_
  refine lv_topi (fun z6 ez6 => ?_)
  refine lv_iload_n hx hb dX10_gainBy_12 rfl (lv_at hl 3 rfl) ?_
  refine lv_if_eq (tgt := 24) hx hb dX10_gainBy_13 (by decide) (fun c7 => ?_) (fun c7 => ?_)
  · skip
    have h8 : Iv 0 0 p2 := eq_l c7 (iv_c (by decide) : Iv 0 0 0)
    refine lv_aload_n hx hb dX10_gainBy_24 rfl (lv_at hl 0 rfl) ?_
    refine va_get (D := D) (ci := 10) (v := .ref (a 7)) (C := RX10) (T := TX10) (N := 38) hx hb hT in_X10 hown hK hP 0 mw_0 rfl 15 (by decide) (hT _ t1277) (fun _ h9 => h9) rfl dX10_gainBy_25 ?_
    refine lv_iload_n hx hb dX10_gainBy_28 rfl (lv_at hl 2 rfl) ?_
    refine va_iald hx hb hK hP 7 0 mw_7 rfl (iv_in hp1 (by decide) (by decide)) dX10_gainBy_29 ?_
    refine lv_topi (fun z9 ez9 => ?_)
    refine lv_ineg hx hb dX10_gainBy_30 ?_
    refine lv_topi (fun z10 ez10 => ?_)
    refine lv_iadd hx hb dX10_gainBy_31 ?_
    refine lv_topi (fun z11 ez11 => ?_)
    rw [hQ]
    exact W.iret (v := z11) hx hb hr (fun t ht hW => ⟨z11, rfl, trivial, ht⟩) (fun _ h9 => by cases h9) dX10_gainBy_32
  · skip
    refine lv_aload_n hx hb dX10_gainBy_16 rfl (lv_at hl 0 rfl) ?_
    refine lv_iload_n hx hb dX10_gainBy_17 rfl (lv_at hl 2 rfl) ?_
    refine ro_V (As := [.int p1]) (rest := [.int z6]) S (m_X10_worthOf l D k a st sl  p1 _  hB hp1 hw) lkX10_396 ok_X10_worthOf ⟨rfl, rfl, Nat.le_of_ble_eq_true rfl, Nat.le_of_ble_eq_true rfl⟩ (pw_V (ci := 10) (q0 := 0) hK hN rfl mw_0 hP hD0) rfl hl.1 rfl (Nat.le_of_ble_eq_true rfl) ⟨Nat.zero_le _, Nat.zero_le _⟩ dX10_gainBy_18 (fun r12 er12 => ?_)
    refine lv_goto (tgt := 31) hx hb dX10_gainBy_21 (by decide) ?_
    refine lv_iadd hx hb dX10_gainBy_31 ?_
    refine lv_topi (fun z13 ez13 => ?_)
    rw [hQ]
    exact W.iret (v := z13) hx hb hr (fun t ht hW => ⟨z13, rfl, trivial, ht⟩) (fun _ h9 => by cases h9) dX10_gainBy_32
set_option maxHeartbeats 4000000 in
set_option maxRecDepth 100000 in
theorem m_X10_smithsOf (l : Launch) (D : va_G) (k : Nat → ClassId) (a : Nat → Nat) (st : CT) (sl : CL) (p0 : Int32) (sz : Nat) (hB : MB st) (hp0 : Iv 0 255 p0) (hw : WOK (st 1)) : Met l yX10_smithsOf (.code yX10_smithsOf cX10_smithsOf 6 (some .int) :: TB) (rmw 4 0 0) (va_Pc [.ref (a 0), .int p0] (PW D k sz (MWS k a st sl))) (QI D (S := CT) (fun r u => MB u ∧ FR [17] st u ∧ ((True))) (fun u => MWS k a u sl) (fun _ => []) (MWS k a st sl) sz) 0 0 (va_A (MWS k a st sl) sz) := by
  refine Met.ofW (cc := cX10_smithsOf) (maxL := 6) (ret := (some .int)) (by decide) rfl ?_
  intro p e s m args below meth c s₁ B hml hv
  obtain ⟨rfl, hsz, hP, hK, hD0, hN⟩ := hv
  have hx := B.exec
  have hb := B.bytes
  have hr := B.returns
  have hT : ∀ w9 ∈ TB, w9.before ([.ref (a 0), .int p0] : List Value).toArray s = true := fun w9 h => atoms_spec (ws := .code yX10_smithsOf cX10_smithsOf 6 (some .int) :: TB) B.pre w9 (List.mem_cons_of_mem _ h)
  have hown : s.vm.findClass RX10 = some m.cls := findClass_of_methodNamed B.named
  have S : CallFix p m c cX10_smithsOf 6 s _ TB RX10 := ⟨hx, hb, hml, hown, hT⟩
  subst hsz
  have hD := hD0.self (sz := s.heap.size)
  generalize hAe : va_A (MWS k a st sl) s.heap.size = A at hD ⊢
  have hA : ∀ q : Nat, s.heap.size ≤ q → A q := fun q h => by rw [← hAe]; exact Or.inr h
  have hS : va_S A s.heap s.heap [] := va_S.rf
  have hl := lv_entry ([.ref (a 0), .int p0]) (n := 6) (Nat.le_of_ble_eq_true rfl)
  rw [lg_entry_eq]
  generalize (lg_sl ([.ref (a 0), .int p0]) ++ List.replicate (6 - (lg_sl ([.ref (a 0), .int p0])).length) Slot.unset).toArray = ls at hl ⊢
  have hl : lv_has ls 6 [(0, .ref (a 0)), (1, .int p0)] := hl
  refine nameQ (fun Q hQ => ?_)
  refine lv_iconst (v := 0) hx hb dX10_smithsOf_0 (by decide) ?_
  refine lv_istore_n (lv' := [(2, .int 0), (0, .ref (a 0)), (1, .int p0)]) hx hb dX10_smithsOf_1 rfl hl (by decide) rfl (fun ls hl => ?_)
  have lp2 : ∀ (n9_2 : Nat) (v2_2 : Int32) (t2 : CT) (H9 : Heap) (locs9 : List Loc) (ls : Array Slot), Iv 0 256 v2_2 → MB t2 → FR [17] st t2 → va_P D vwCl (MWS k a t2 sl) H9 → va_D A (MWS k a t2 sl) → va_S A s.heap H9 locs9 → lv_has ls 6 [(2, .int v2_2), (0, .ref (a 0)), (1, .int p0)] → (256 : Int) - v2_2.toInt < (n9_2 : Int) → W p l e (rmw 4 0 0) s m ([.ref (a 0), .int p0] : List Value).toArray below meth c H9 locs9 0 0 Q (F0 m 2 ls []) := by
    clear hl hP hD hS
    intro n9_2
    induction n9_2 with
    | zero =>
      intro v2_2 t2 H9 locs9 ls iv2_2 hBt2 gt2 hP hD hS hl hm2
      exact (fu_0 iv2_2 hm2).elim
    | succ n9_2 ih2 =>
      intro v2_2 t2 H9 locs9 ls iv2_2 hBt2 gt2 hP hD hS hl hm2
      have hFt2 : FR [17] st t2 := fr_ca fr_rf gt2 (sub_1 (List.mem_of_getElem? (i := 0) rfl) sub_0)
      refine lv_iload_n hx hb dX10_smithsOf_2 rfl (lv_at hl 0 rfl) ?_
      refine lv_iload_n hx hb dX10_smithsOf_3 rfl (lv_at hl 2 rfl) ?_
      refine lv_icmp_gt (tgt := 139) hx hb dX10_smithsOf_4 (by decide) (fun c29471 => ?_) (fun c29471 => ?_)
      · skip
        have n29472 : p0.toInt < v2_2.toInt := (i_lt c29471)
        have h29473 : Iv 1 256 v2_2 := lt_r hp0 n29472 iv2_2 (by decide)
        refine lv_aload_n hx hb dX10_smithsOf_139 rfl (lv_at hl 1 rfl) ?_
        refine va_get (D := D) (ci := 10) (v := .ref (a 17)) (C := RX10) (T := TX10) (N := 38) hx hb hT in_X10 hown hK hP 0 mw_0 rfl 32 (by decide) (hT _ t1294) (fun _ h9 => h9) rfl dX10_smithsOf_140 ?_
        refine lv_iload_n hx hb dX10_smithsOf_143 rfl (lv_at hl 2 rfl) ?_
        refine va_iald hx hb hK hP 17 0 mw_17 rfl (iv_in hp0 (by decide) (by decide)) dX10_smithsOf_144 ?_
        refine lv_topi (fun z29474 ez29474 => ?_)
        rw [hQ]
        exact W.iret (v := z29474) hx hb hr (fun t ht hW => ⟨⟨z29474, t2, rfl, ⟨hBt2, hFt2, trivial⟩, by rw [ht]; exact hP, va_K.moved hW.alike (hK.sub (tys' := []) [] rfl), by rw [hAe]; exact hD⟩, by rw [hAe]; exact hS.F ht⟩) hS.2.2 dX10_smithsOf_145
      · skip
        have n29475 : v2_2.toInt ≤ p0.toInt := (i_nlt c29471)
        have h29476 : Iv 0 255 v2_2 := le_l iv2_2 n29475 hp0 (by decide)
        refine lv_iload_n hx hb dX10_smithsOf_7 rfl (lv_at hl 2 rfl) ?_
        refine ro_S (As := [.int p0]) (rest := []) S (m_X10_bits l D k a t2 sl  p0 _  hBt2  ) lkX10_190 ok_X10_bits ⟨rfl, rfl, Nat.le_of_ble_eq_true rfl, Nat.le_of_ble_eq_true rfl⟩ (pw_S hK hN hP (hD.weaken (fun _ _ _ _ => trivial))) rfl hl.1 rfl (Nat.le_of_ble_eq_true rfl) ⟨Nat.zero_le _, Nat.zero_le _⟩ dX10_smithsOf_8 (fun r29477 er29477 => ?_)
        have k29478 := er29477
        refine lv_iload_n hx hb dX10_smithsOf_11 rfl (lv_at hl 0 rfl) ?_
        refine ro_S (As := [.int v2_2]) (rest := [.int r29477]) S (m_X10_bits l D k a t2 sl  v2_2 _  hBt2  ) lkX10_190 ok_X10_bits ⟨rfl, rfl, Nat.le_of_ble_eq_true rfl, Nat.le_of_ble_eq_true rfl⟩ (pw_S hK hN hP (hD.weaken (fun _ _ _ _ => trivial))) rfl hl.1 rfl (Nat.le_of_ble_eq_true rfl) ⟨Nat.zero_le _, Nat.zero_le _⟩ dX10_smithsOf_12 (fun r29479 er29479 => ?_)
        have k29480 := er29479
        refine lv_isub hx hb dX10_smithsOf_15 ?_
        refine lv_topi (fun z29481 ez29481 => ?_)
        refine lv_iconst (v := 2) hx hb dX10_smithsOf_16 (by decide) ?_
        refine lv_irem hx hb dX10_smithsOf_17 (iv_nz (iv_c (by decide) : Iv 2 2 2) (by decide)) ?_
        refine lv_topi (fun z29482 ez29482 => ?_)
        refine lv_if_ne (tgt := 25) hx hb dX10_smithsOf_18 (by decide) (fun c29483 => ?_) (fun c29483 => ?_)
        · skip
          refine lv_iconst (v := 0) hx hb dX10_smithsOf_25 (by decide) ?_
          refine lv_istore_n (lv' := [(3, .int 0), (2, .int v2_2), (0, .ref (a 0)), (1, .int p0)]) hx hb dX10_smithsOf_26 rfl hl (by decide) rfl (fun ls hl => ?_)
          refine lv_iload_n hx hb dX10_smithsOf_27 rfl (lv_at hl 1 rfl) ?_
          refine lv_if_ne (tgt := 35) hx hb dX10_smithsOf_28 (by decide) (fun c29484 => ?_) (fun c29484 => ?_)
          · skip
            have h29485 : Iv 1 255 v2_2 := ne_lo h29476 (show ¬ v2_2 = 0 from c29484) (by decide) (by decide)
            refine lv_iload_n hx hb dX10_smithsOf_35 rfl (lv_at hl 0 rfl) ?_
            refine lv_if_eq (tgt := 45) hx hb dX10_smithsOf_36 (by decide) (fun c29486 => ?_) (fun c29486 => ?_)
            rotate_left
            · first | exact absurd c29486 (by decide) | exact absurd (by decide) c29486
            refine lv_ldcw (v := 1000000000) hx hb hown (hT _ t1702) dX10_smithsOf_45 ?_
            refine lv_istore (lv' := [(4, .int 1000000000), (3, .int 0), (2, .int v2_2), (0, .ref (a 0)), (1, .int p0)]) hx hb dX10_smithsOf_48 hl (by decide) rfl (fun ls hl => ?_)
            refine lv_iconst (v := 0) hx hb dX10_smithsOf_50 (by decide) ?_
            refine lv_istore (lv' := [(5, .int 0), (4, .int 1000000000), (3, .int 0), (2, .int v2_2), (0, .ref (a 0)), (1, .int p0)]) hx hb dX10_smithsOf_51 hl (by decide) rfl (fun ls hl => ?_)
            have lp53 : ∀ (n9_53 : Nat) (v5_53 : Int32) (v4_53 : Int32) (ls : Array Slot), Iv 0 8 v5_53 → Iv (-2147483648) 1000000000 v4_53 → lv_has ls 6 [(5, .int v5_53), (4, .int v4_53), (3, .int 0), (2, .int v2_2), (0, .ref (a 0)), (1, .int p0)] → (8 : Int) - v5_53.toInt < (n9_53 : Int) → W p l e (rmw 4 0 0) s m ([.ref (a 0), .int p0] : List Value).toArray below meth c H9 locs9 0 0 Q (F0 m 53 ls []) := by
              clear hl
              intro n9_53
              induction n9_53 with
              | zero =>
                intro v5_53 v4_53 ls iv5_53 iv4_53 hl hm53
                exact (fu_0 iv5_53 hm53).elim
              | succ n9_53 ih53 =>
                intro v5_53 v4_53 ls iv5_53 iv4_53 hl hm53
                refine lv_iload hx hb dX10_smithsOf_53 (lv_at hl 0 rfl) ?_
                refine lv_aload_n hx hb dX10_smithsOf_55 rfl (lv_at hl 4 rfl) ?_
                refine va_get (D := D) (ci := 10) (v := .ref (a 1)) (C := RX10) (T := TX10) (N := 38) hx hb hT in_X10 hown hK hP 0 mw_0 rfl 1 (by decide) (hT _ t1263) (fun _ h9 => h9) rfl dX10_smithsOf_56 ?_
                refine lv_iconst (v := 3) hx hb dX10_smithsOf_59 (by decide) ?_
                refine va_iald hx hb hK hP 1 0 mw_1 rfl (by unfold vp_in; decide) dX10_smithsOf_60 ?_
                refine k_top (y := (t2 1 3)) rfl ?_
                refine k_top (y := (st 1 3)) (congrFun (hFt2 1 (nm_1 (by decide) nm_0)) 3) ?_
                have h29739 : Iv 0 8 (st 1 3) := (tok_at (hw).1 3 0 8 (by decide) (by decide) (by decide))
                refine lv_icmp_ge (tgt := 125) hx hb dX10_smithsOf_61 (by decide) (fun c29740 => ?_) (fun c29740 => ?_)
                · skip
                  have n29741 : (st 1 3).toInt ≤ v5_53.toInt := (i_le c29740)
                  refine lv_aload_n hx hb dX10_smithsOf_125 rfl (lv_at hl 4 rfl) ?_
                  refine va_get (D := D) (ci := 10) (v := .ref (a 17)) (C := RX10) (T := TX10) (N := 38) hx hb hT in_X10 hown hK hP 0 mw_0 rfl 32 (by decide) (hT _ t1294) (fun _ h9 => h9) rfl dX10_smithsOf_126 ?_
                  refine lv_iload_n hx hb dX10_smithsOf_129 rfl (lv_at hl 3 rfl) ?_
                  refine lv_iload hx hb dX10_smithsOf_130 (lv_at hl 1 rfl) ?_
                  refine c_ist hx hb hK hP hD hS mw_17 ms_17 (iv_in h29485 (by decide) (by decide)) dX10_smithsOf_132 (fun s29742 H9 locs9 es29742 hP9 hD9 hS9 => ?_)
                  clear hP hD hS
                  have hS := hS9
                  have hP := hP9
                  have hD := hD9
                  clear hP9 hD9 hS9
                  have hBs29742 : MB s29742 := by rw [es29742]; exact mb_sw hBt2 trivial
                  have hFs29742 : FR [17] st s29742 := fr_sw hFt2 (List.mem_of_getElem? (i := 0) rfl) es29742
                  obtain ⟨z29743, ez29743⟩ : ∃ z9 : Int32, z9 = v2_2 + Int32.ofInt 1 := ⟨_, rfl⟩
                  have h29744 : Iv 2 256 z29743 := iv_inc ez29743 h29485 (by decide) (by decide) (by decide) (by decide) (by decide) (by decide)
                  refine lv_iinc (v := z29743) (lv' := [(2, .int z29743), (5, .int v5_53), (4, .int v4_53), (3, .int 0), (0, .ref (a 0)), (1, .int p0)]) hx hb dX10_smithsOf_133 hl (k := 3) rfl ez29743.symm (by decide) rfl (fun ls hl => ?_)
                  refine lv_goto (tgt := 2) hx hb dX10_smithsOf_136 (by decide) ?_
                  exact ih2 z29743 s29742 _ _ _ (iv_mono (c := 0) (d := 256) h29744 (by decide) (by decide)) hBs29742 (fr_sw gt2 (List.mem_of_getElem? (i := 0) rfl) es29742) hP hD hS (lv_sub hl [0, 4, 5] rfl) (fu_s (lo := 0) (ti_inc ez29743 h29485 (by decide) (by decide) (by decide) (by decide)) (by decide) hm2)
                · skip
                  have n29745 : v5_53.toInt < (st 1 3).toInt := (i_nle c29740)
                  have h29746 : Iv 0 7 v5_53 := lt_l iv5_53 n29745 h29739 (by decide)
                  have h29747 : Iv 1 8 (st 1 3) := lt_r iv5_53 n29745 h29739 (by decide)
                  refine lv_iload_n hx hb dX10_smithsOf_64 rfl (lv_at hl 3 rfl) ?_
                  refine lv_iload_n hx hb dX10_smithsOf_65 rfl (lv_at hl 5 rfl) ?_
                  refine lv_iconst (v := (-1)) hx hb dX10_smithsOf_66 (by decide) ?_
                  refine lv_ixor hx hb dX10_smithsOf_67 ?_
                  refine lv_topi (fun z29748 ez29748 => ?_)
                  refine lv_iand hx hb dX10_smithsOf_68 ?_
                  refine lv_topi (fun z29749 ez29749 => ?_)
                  have h29750 : Iv 0 255 z29749 := iv_andl ez29749 (iv_mono (c := 0) (d := 255) h29485 (by decide) (by decide))
                  refine lv_if_ne (tgt := 119) hx hb dX10_smithsOf_69 (by decide) (fun c29751 => ?_) (fun c29751 => ?_)
                  · skip
                    have h29752 : Iv 1 255 z29749 := ne_lo h29750 (show ¬ z29749 = 0 from c29751) (by decide) (by decide)
                    obtain ⟨z29753, ez29753⟩ : ∃ z9 : Int32, z9 = v5_53 + Int32.ofInt 1 := ⟨_, rfl⟩
                    have h29754 : Iv 1 8 z29753 := iv_inc ez29753 h29746 (by decide) (by decide) (by decide) (by decide) (by decide) (by decide)
                    refine lv_iinc (v := z29753) (lv' := [(5, .int z29753), (4, .int v4_53), (3, .int 0), (2, .int v2_2), (0, .ref (a 0)), (1, .int p0)]) hx hb dX10_smithsOf_119 hl (k := 0) rfl ez29753.symm (by decide) rfl (fun ls hl => ?_)
                    refine lv_goto (tgt := 53) hx hb dX10_smithsOf_122 (by decide) ?_
                    exact ih53 z29753 v4_53 _ (iv_mono (c := 0) (d := 8) h29754 (by decide) (by decide)) iv4_53 (lv_sub hl [0, 1, 2, 3, 4, 5] rfl) (fu_s (lo := 0) (ti_inc ez29753 h29746 (by decide) (by decide) (by decide) (by decide)) (by decide) hm53)
                  · skip
                    have h29755 : Iv 0 0 z29749 := eq_l c29751 (iv_c (by decide) : Iv 0 0 0)
                    refine lv_iload_n hx hb dX10_smithsOf_72 rfl (lv_at hl 3 rfl) ?_
                    refine lv_iload hx hb dX10_smithsOf_73 (lv_at hl 0 rfl) ?_
                    refine ro_S (As := [.int v2_2, .int v5_53]) (rest := []) S (m_X10_bit l D k a t2 sl  v2_2 v5_53 _  hBt2  ) lkX10_193 ok_X10_bit ⟨rfl, rfl, Nat.le_of_ble_eq_true rfl, Nat.le_of_ble_eq_true rfl⟩ (pw_S hK hN hP (hD.weaken (fun _ _ _ _ => trivial))) rfl hl.1 rfl (Nat.le_of_ble_eq_true rfl) ⟨Nat.zero_le _, Nat.zero_le _⟩ dX10_smithsOf_75 (fun r29756 er29756 => ?_)
                    have h29757 : Iv 0 1 r29756 := er29756.1
                    have k29758 := er29756.2
                    refine lv_if_ne (tgt := 84) hx hb dX10_smithsOf_78 (by decide) (fun c29759 => ?_) (fun c29759 => ?_)
                    · skip
                      have h29760 : Iv 1 1 r29756 := ne_lo h29757 (show ¬ r29756 = 0 from c29759) (by decide) (by decide)
                      refine lv_iload_n hx hb dX10_smithsOf_84 rfl (lv_at hl 2 rfl) ?_
                      refine lv_if_eq (tgt := 104) hx hb dX10_smithsOf_85 (by decide) (fun c29761 => ?_) (fun c29761 => ?_)
                      rotate_left
                      · first | exact absurd c29761 (by decide) | exact absurd (by decide) c29761
                      refine lv_iload hx hb dX10_smithsOf_104 (lv_at hl 1 rfl) ?_
                      refine lv_aload_n hx hb dX10_smithsOf_106 rfl (lv_at hl 4 rfl) ?_
                      refine lv_iload_n hx hb dX10_smithsOf_107 rfl (lv_at hl 3 rfl) ?_
                      refine lv_iload hx hb dX10_smithsOf_108 (lv_at hl 0 rfl) ?_
                      refine lv_iconst (v := 0) hx hb dX10_smithsOf_110 (by decide) ?_
                      refine ro_V (As := [.int v2_2, .int v5_53, .int 0]) (rest := [.int v4_53]) S (m_X10_gainBy l D k a t2 sl  v2_2 v5_53 0 _  hBt2 (iv_mono (c := 0) (d := 255) h29485 (by decide) (by decide)) h29746 (wok_of (hFt2 1 (nm_1 (by decide) nm_0)) hw)) lkX10_400 ok_X10_gainBy ⟨rfl, rfl, Nat.le_of_ble_eq_true rfl, Nat.le_of_ble_eq_true rfl⟩ (pw_V (ci := 10) (q0 := 0) hK hN rfl mw_0 hP (hD.weaken (fun _ _ _ _ => trivial))) rfl hl.1 rfl (Nat.le_of_ble_eq_true rfl) ⟨Nat.zero_le _, Nat.zero_le _⟩ dX10_smithsOf_111 (fun r29762 er29762 => ?_)
                      refine va_mmin hx hb (hml.trans hl.1.symm) hown (hT _ t1418) (hT _ t544) (hT _ t116) (hT _ t545) (Nat.le_of_ble_eq_true rfl) (Nat.le_of_ble_eq_true rfl) (Nat.zero_le _) (Nat.zero_le _) dX10_smithsOf_114 ?_
                      refine lv_topi (fun z29763 ez29763 => ?_)
                      have h29764 : Iv (-2147483648) 1000000000 z29763 := iv_min ez29763 iv4_53 (iv_full r29762) (by decide) (by decide) (by decide)
                      refine lv_istore (lv' := [(4, .int z29763), (5, .int v5_53), (3, .int 0), (2, .int v2_2), (0, .ref (a 0)), (1, .int p0)]) hx hb dX10_smithsOf_117 hl (by decide) rfl (fun ls hl => ?_)
                      obtain ⟨z29765, ez29765⟩ : ∃ z9 : Int32, z9 = v5_53 + Int32.ofInt 1 := ⟨_, rfl⟩
                      have h29766 : Iv 1 8 z29765 := iv_inc ez29765 h29746 (by decide) (by decide) (by decide) (by decide) (by decide) (by decide)
                      refine lv_iinc (v := z29765) (lv' := [(5, .int z29765), (4, .int z29763), (3, .int 0), (2, .int v2_2), (0, .ref (a 0)), (1, .int p0)]) hx hb dX10_smithsOf_119 hl (k := 1) rfl ez29765.symm (by decide) rfl (fun ls hl => ?_)
                      refine lv_goto (tgt := 53) hx hb dX10_smithsOf_122 (by decide) ?_
                      exact ih53 z29765 z29763 _ (iv_mono (c := 0) (d := 8) h29766 (by decide) (by decide)) h29764 (lv_sub hl [0, 1, 2, 3, 4, 5] rfl) (fu_s (lo := 0) (ti_inc ez29765 h29746 (by decide) (by decide) (by decide) (by decide)) (by decide) hm53)
                    · skip
                      have h29767 : Iv 0 0 r29756 := eq_l c29759 (iv_c (by decide) : Iv 0 0 0)
                      refine lv_goto (tgt := 119) hx hb dX10_smithsOf_81 (by decide) ?_
                      obtain ⟨z29768, ez29768⟩ : ∃ z9 : Int32, z9 = v5_53 + Int32.ofInt 1 := ⟨_, rfl⟩
                      have h29769 : Iv 1 8 z29768 := iv_inc ez29768 h29746 (by decide) (by decide) (by decide) (by decide) (by decide) (by decide)
                      refine lv_iinc (v := z29768) (lv' := [(5, .int z29768), (4, .int v4_53), (3, .int 0), (2, .int v2_2), (0, .ref (a 0)), (1, .int p0)]) hx hb dX10_smithsOf_119 hl (k := 0) rfl ez29768.symm (by decide) rfl (fun ls hl => ?_)
                      refine lv_goto (tgt := 53) hx hb dX10_smithsOf_122 (by decide) ?_
                      exact ih53 z29768 v4_53 _ (iv_mono (c := 0) (d := 8) h29769 (by decide) (by decide)) iv4_53 (lv_sub hl [0, 1, 2, 3, 4, 5] rfl) (fu_s (lo := 0) (ti_inc ez29768 h29746 (by decide) (by decide) (by decide) (by decide)) (by decide) hm53)
            exact lp53 9 0 1000000000 _ (iv_mono (c := 0) (d := 8) (iv_c (by decide) : Iv 0 0 0) (by decide) (by decide)) (iv_mono (c := (-2147483648)) (d := 1000000000) (iv_c (by decide) : Iv 1000000000 1000000000 1000000000) (by decide) (by decide)) (lv_sub hl [0, 1, 2, 3, 4, 5] rfl) (fu_i (iv_mono (c := 0) (d := 8) (iv_c (by decide) : Iv 0 0 0) (by decide) (by decide)) (by decide))
          · skip
            have h29770 : Iv 0 0 v2_2 := eq_l c29484 (iv_c (by decide) : Iv 0 0 0)
            refine lv_iconst (v := 0) hx hb dX10_smithsOf_31 (by decide) ?_
            refine lv_goto (tgt := 48) hx hb dX10_smithsOf_32 (by decide) ?_
            refine lv_istore (lv' := [(4, .int 0), (3, .int 0), (2, .int v2_2), (0, .ref (a 0)), (1, .int p0)]) hx hb dX10_smithsOf_48 hl (by decide) rfl (fun ls hl => ?_)
            refine lv_iconst (v := 0) hx hb dX10_smithsOf_50 (by decide) ?_
            refine lv_istore (lv' := [(5, .int 0), (4, .int 0), (3, .int 0), (2, .int v2_2), (0, .ref (a 0)), (1, .int p0)]) hx hb dX10_smithsOf_51 hl (by decide) rfl (fun ls hl => ?_)
            have lp53 : ∀ (n9_53 : Nat) (v5_53 : Int32) (v4_53 : Int32) (ls : Array Slot), Iv 0 8 v5_53 → Iv (-2147483648) 0 v4_53 → lv_has ls 6 [(5, .int v5_53), (4, .int v4_53), (3, .int 0), (2, .int v2_2), (0, .ref (a 0)), (1, .int p0)] → (8 : Int) - v5_53.toInt < (n9_53 : Int) → W p l e (rmw 4 0 0) s m ([.ref (a 0), .int p0] : List Value).toArray below meth c H9 locs9 0 0 Q (F0 m 53 ls []) := by
              clear hl
              intro n9_53
              induction n9_53 with
              | zero =>
                intro v5_53 v4_53 ls iv5_53 iv4_53 hl hm53
                exact (fu_0 iv5_53 hm53).elim
              | succ n9_53 ih53 =>
                intro v5_53 v4_53 ls iv5_53 iv4_53 hl hm53
                refine lv_iload hx hb dX10_smithsOf_53 (lv_at hl 0 rfl) ?_
                refine lv_aload_n hx hb dX10_smithsOf_55 rfl (lv_at hl 4 rfl) ?_
                refine va_get (D := D) (ci := 10) (v := .ref (a 1)) (C := RX10) (T := TX10) (N := 38) hx hb hT in_X10 hown hK hP 0 mw_0 rfl 1 (by decide) (hT _ t1263) (fun _ h9 => h9) rfl dX10_smithsOf_56 ?_
                refine lv_iconst (v := 3) hx hb dX10_smithsOf_59 (by decide) ?_
                refine va_iald hx hb hK hP 1 0 mw_1 rfl (by unfold vp_in; decide) dX10_smithsOf_60 ?_
                refine k_top (y := (t2 1 3)) rfl ?_
                refine k_top (y := (st 1 3)) (congrFun (hFt2 1 (nm_1 (by decide) nm_0)) 3) ?_
                have h29987 : Iv 0 8 (st 1 3) := (tok_at (hw).1 3 0 8 (by decide) (by decide) (by decide))
                refine lv_icmp_ge (tgt := 125) hx hb dX10_smithsOf_61 (by decide) (fun c29988 => ?_) (fun c29988 => ?_)
                · skip
                  have n29989 : (st 1 3).toInt ≤ v5_53.toInt := (i_le c29988)
                  refine lv_aload_n hx hb dX10_smithsOf_125 rfl (lv_at hl 4 rfl) ?_
                  refine va_get (D := D) (ci := 10) (v := .ref (a 17)) (C := RX10) (T := TX10) (N := 38) hx hb hT in_X10 hown hK hP 0 mw_0 rfl 32 (by decide) (hT _ t1294) (fun _ h9 => h9) rfl dX10_smithsOf_126 ?_
                  refine lv_iload_n hx hb dX10_smithsOf_129 rfl (lv_at hl 3 rfl) ?_
                  refine lv_iload hx hb dX10_smithsOf_130 (lv_at hl 1 rfl) ?_
                  refine c_ist hx hb hK hP hD hS mw_17 ms_17 (iv_in h29770 (by decide) (by decide)) dX10_smithsOf_132 (fun s29990 H9 locs9 es29990 hP9 hD9 hS9 => ?_)
                  clear hP hD hS
                  have hS := hS9
                  have hP := hP9
                  have hD := hD9
                  clear hP9 hD9 hS9
                  have hBs29990 : MB s29990 := by rw [es29990]; exact mb_sw hBt2 trivial
                  have hFs29990 : FR [17] st s29990 := fr_sw hFt2 (List.mem_of_getElem? (i := 0) rfl) es29990
                  obtain ⟨z29991, ez29991⟩ : ∃ z9 : Int32, z9 = v2_2 + Int32.ofInt 1 := ⟨_, rfl⟩
                  have h29992 : Iv 1 1 z29991 := iv_inc ez29991 h29770 (by decide) (by decide) (by decide) (by decide) (by decide) (by decide)
                  refine lv_iinc (v := z29991) (lv' := [(2, .int z29991), (5, .int v5_53), (4, .int v4_53), (3, .int 0), (0, .ref (a 0)), (1, .int p0)]) hx hb dX10_smithsOf_133 hl (k := 3) rfl ez29991.symm (by decide) rfl (fun ls hl => ?_)
                  refine lv_goto (tgt := 2) hx hb dX10_smithsOf_136 (by decide) ?_
                  exact ih2 z29991 s29990 _ _ _ (iv_mono (c := 0) (d := 256) h29992 (by decide) (by decide)) hBs29990 (fr_sw gt2 (List.mem_of_getElem? (i := 0) rfl) es29990) hP hD hS (lv_sub hl [0, 4, 5] rfl) (fu_s (lo := 0) (ti_inc ez29991 h29770 (by decide) (by decide) (by decide) (by decide)) (by decide) hm2)
                · skip
                  have n29993 : v5_53.toInt < (st 1 3).toInt := (i_nle c29988)
                  have h29994 : Iv 0 7 v5_53 := lt_l iv5_53 n29993 h29987 (by decide)
                  have h29995 : Iv 1 8 (st 1 3) := lt_r iv5_53 n29993 h29987 (by decide)
                  refine lv_iload_n hx hb dX10_smithsOf_64 rfl (lv_at hl 3 rfl) ?_
                  refine lv_iload_n hx hb dX10_smithsOf_65 rfl (lv_at hl 5 rfl) ?_
                  refine lv_iconst (v := (-1)) hx hb dX10_smithsOf_66 (by decide) ?_
                  refine lv_ixor hx hb dX10_smithsOf_67 ?_
                  refine lv_topi (fun z29996 ez29996 => ?_)
                  refine lv_iand hx hb dX10_smithsOf_68 ?_
                  refine lv_topi (fun z29997 ez29997 => ?_)
                  have h29998 : Iv 0 0 z29997 := iv_andl ez29997 h29770
                  refine lv_if_ne (tgt := 119) hx hb dX10_smithsOf_69 (by decide) (fun c29999 => ?_) (fun c29999 => ?_)
                  · skip
                    exact (iv_no (ne_lo h29998 (show ¬ z29997 = 0 from c29999) (by decide) (Int.le_refl _)) (by decide)).elim
                  · skip
                    refine lv_iload_n hx hb dX10_smithsOf_72 rfl (lv_at hl 3 rfl) ?_
                    refine lv_iload hx hb dX10_smithsOf_73 (lv_at hl 0 rfl) ?_
                    refine ro_S (As := [.int v2_2, .int v5_53]) (rest := []) S (m_X10_bit l D k a t2 sl  v2_2 v5_53 _  hBt2  ) lkX10_193 ok_X10_bit ⟨rfl, rfl, Nat.le_of_ble_eq_true rfl, Nat.le_of_ble_eq_true rfl⟩ (pw_S hK hN hP (hD.weaken (fun _ _ _ _ => trivial))) rfl hl.1 rfl (Nat.le_of_ble_eq_true rfl) ⟨Nat.zero_le _, Nat.zero_le _⟩ dX10_smithsOf_75 (fun r30000 er30000 => ?_)
                    have h30001 : Iv 0 1 r30000 := er30000.1
                    have k30002 := er30000.2
                    refine lv_if_ne (tgt := 84) hx hb dX10_smithsOf_78 (by decide) (fun c30003 => ?_) (fun c30003 => ?_)
                    · skip
                      have h30004 : Iv 1 1 r30000 := ne_lo h30001 (show ¬ r30000 = 0 from c30003) (by decide) (by decide)
                      refine lv_iload_n hx hb dX10_smithsOf_84 rfl (lv_at hl 2 rfl) ?_
                      refine lv_if_eq (tgt := 104) hx hb dX10_smithsOf_85 (by decide) (fun c30005 => ?_) (fun c30005 => ?_)
                      rotate_left
                      · first | exact absurd c30005 (by decide) | exact absurd (by decide) c30005
                      refine lv_iload hx hb dX10_smithsOf_104 (lv_at hl 1 rfl) ?_
                      refine lv_aload_n hx hb dX10_smithsOf_106 rfl (lv_at hl 4 rfl) ?_
                      refine lv_iload_n hx hb dX10_smithsOf_107 rfl (lv_at hl 3 rfl) ?_
                      refine lv_iload hx hb dX10_smithsOf_108 (lv_at hl 0 rfl) ?_
                      refine lv_iconst (v := 0) hx hb dX10_smithsOf_110 (by decide) ?_
                      refine ro_V (As := [.int v2_2, .int v5_53, .int 0]) (rest := [.int v4_53]) S (m_X10_gainBy l D k a t2 sl  v2_2 v5_53 0 _  hBt2 (iv_mono (c := 0) (d := 255) h29770 (by decide) (by decide)) h29994 (wok_of (hFt2 1 (nm_1 (by decide) nm_0)) hw)) lkX10_400 ok_X10_gainBy ⟨rfl, rfl, Nat.le_of_ble_eq_true rfl, Nat.le_of_ble_eq_true rfl⟩ (pw_V (ci := 10) (q0 := 0) hK hN rfl mw_0 hP (hD.weaken (fun _ _ _ _ => trivial))) rfl hl.1 rfl (Nat.le_of_ble_eq_true rfl) ⟨Nat.zero_le _, Nat.zero_le _⟩ dX10_smithsOf_111 (fun r30006 er30006 => ?_)
                      refine va_mmin hx hb (hml.trans hl.1.symm) hown (hT _ t1418) (hT _ t544) (hT _ t116) (hT _ t545) (Nat.le_of_ble_eq_true rfl) (Nat.le_of_ble_eq_true rfl) (Nat.zero_le _) (Nat.zero_le _) dX10_smithsOf_114 ?_
                      refine lv_topi (fun z30007 ez30007 => ?_)
                      have h30008 : Iv (-2147483648) 0 z30007 := iv_min ez30007 iv4_53 (iv_full r30006) (by decide) (by decide) (by decide)
                      refine lv_istore (lv' := [(4, .int z30007), (5, .int v5_53), (3, .int 0), (2, .int v2_2), (0, .ref (a 0)), (1, .int p0)]) hx hb dX10_smithsOf_117 hl (by decide) rfl (fun ls hl => ?_)
                      obtain ⟨z30009, ez30009⟩ : ∃ z9 : Int32, z9 = v5_53 + Int32.ofInt 1 := ⟨_, rfl⟩
                      have h30010 : Iv 1 8 z30009 := iv_inc ez30009 h29994 (by decide) (by decide) (by decide) (by decide) (by decide) (by decide)
                      refine lv_iinc (v := z30009) (lv' := [(5, .int z30009), (4, .int z30007), (3, .int 0), (2, .int v2_2), (0, .ref (a 0)), (1, .int p0)]) hx hb dX10_smithsOf_119 hl (k := 1) rfl ez30009.symm (by decide) rfl (fun ls hl => ?_)
                      refine lv_goto (tgt := 53) hx hb dX10_smithsOf_122 (by decide) ?_
                      exact ih53 z30009 z30007 _ (iv_mono (c := 0) (d := 8) h30010 (by decide) (by decide)) h30008 (lv_sub hl [0, 1, 2, 3, 4, 5] rfl) (fu_s (lo := 0) (ti_inc ez30009 h29994 (by decide) (by decide) (by decide) (by decide)) (by decide) hm53)
                    · skip
                      have h30011 : Iv 0 0 r30000 := eq_l c30003 (iv_c (by decide) : Iv 0 0 0)
                      refine lv_goto (tgt := 119) hx hb dX10_smithsOf_81 (by decide) ?_
                      obtain ⟨z30012, ez30012⟩ : ∃ z9 : Int32, z9 = v5_53 + Int32.ofInt 1 := ⟨_, rfl⟩
                      have h30013 : Iv 1 8 z30012 := iv_inc ez30012 h29994 (by decide) (by decide) (by decide) (by decide) (by decide) (by decide)
                      refine lv_iinc (v := z30012) (lv' := [(5, .int z30012), (4, .int v4_53), (3, .int 0), (2, .int v2_2), (0, .ref (a 0)), (1, .int p0)]) hx hb dX10_smithsOf_119 hl (k := 0) rfl ez30012.symm (by decide) rfl (fun ls hl => ?_)
                      refine lv_goto (tgt := 53) hx hb dX10_smithsOf_122 (by decide) ?_
                      exact ih53 z30012 v4_53 _ (iv_mono (c := 0) (d := 8) h30013 (by decide) (by decide)) iv4_53 (lv_sub hl [0, 1, 2, 3, 4, 5] rfl) (fu_s (lo := 0) (ti_inc ez30012 h29994 (by decide) (by decide) (by decide) (by decide)) (by decide) hm53)
            exact lp53 9 0 0 _ (iv_mono (c := 0) (d := 8) (iv_c (by decide) : Iv 0 0 0) (by decide) (by decide)) (iv_mono (c := (-2147483648)) (d := 0) (iv_c (by decide) : Iv 0 0 0) (by decide) (by decide)) (lv_sub hl [0, 1, 2, 3, 4, 5] rfl) (fu_i (iv_mono (c := 0) (d := 8) (iv_c (by decide) : Iv 0 0 0) (by decide) (by decide)) (by decide))
        · skip
          have h30014 : Iv 0 0 z29482 := eq_l c29483 (iv_c (by decide) : Iv 0 0 0)
          refine lv_iconst (v := 1) hx hb dX10_smithsOf_21 (by decide) ?_
          refine lv_goto (tgt := 26) hx hb dX10_smithsOf_22 (by decide) ?_
          refine lv_istore_n (lv' := [(3, .int 1), (2, .int v2_2), (0, .ref (a 0)), (1, .int p0)]) hx hb dX10_smithsOf_26 rfl hl (by decide) rfl (fun ls hl => ?_)
          refine lv_iload_n hx hb dX10_smithsOf_27 rfl (lv_at hl 1 rfl) ?_
          refine lv_if_ne (tgt := 35) hx hb dX10_smithsOf_28 (by decide) (fun c30015 => ?_) (fun c30015 => ?_)
          · skip
            have h30016 : Iv 1 255 v2_2 := ne_lo h29476 (show ¬ v2_2 = 0 from c30015) (by decide) (by decide)
            refine lv_iload_n hx hb dX10_smithsOf_35 rfl (lv_at hl 0 rfl) ?_
            refine lv_if_eq (tgt := 45) hx hb dX10_smithsOf_36 (by decide) (fun c30017 => ?_) (fun c30017 => ?_)
            · first | exact absurd c30017 (by decide) | exact absurd (by decide) c30017
            refine lv_ldcw (v := (-1000000000)) hx hb hown (hT _ t1880) dX10_smithsOf_39 ?_
            refine lv_goto (tgt := 48) hx hb dX10_smithsOf_42 (by decide) ?_
            refine lv_istore (lv' := [(4, .int (-1000000000)), (3, .int 1), (2, .int v2_2), (0, .ref (a 0)), (1, .int p0)]) hx hb dX10_smithsOf_48 hl (by decide) rfl (fun ls hl => ?_)
            refine lv_iconst (v := 0) hx hb dX10_smithsOf_50 (by decide) ?_
            refine lv_istore (lv' := [(5, .int 0), (4, .int (-1000000000)), (3, .int 1), (2, .int v2_2), (0, .ref (a 0)), (1, .int p0)]) hx hb dX10_smithsOf_51 hl (by decide) rfl (fun ls hl => ?_)
            have lp53 : ∀ (n9_53 : Nat) (v5_53 : Int32) (v4_53 : Int32) (ls : Array Slot), Iv 0 8 v5_53 → Iv (-1000000000) 2147483647 v4_53 → lv_has ls 6 [(5, .int v5_53), (4, .int v4_53), (3, .int 1), (2, .int v2_2), (0, .ref (a 0)), (1, .int p0)] → (8 : Int) - v5_53.toInt < (n9_53 : Int) → W p l e (rmw 4 0 0) s m ([.ref (a 0), .int p0] : List Value).toArray below meth c H9 locs9 0 0 Q (F0 m 53 ls []) := by
              clear hl
              intro n9_53
              induction n9_53 with
              | zero =>
                intro v5_53 v4_53 ls iv5_53 iv4_53 hl hm53
                exact (fu_0 iv5_53 hm53).elim
              | succ n9_53 ih53 =>
                intro v5_53 v4_53 ls iv5_53 iv4_53 hl hm53
                refine lv_iload hx hb dX10_smithsOf_53 (lv_at hl 0 rfl) ?_
                refine lv_aload_n hx hb dX10_smithsOf_55 rfl (lv_at hl 4 rfl) ?_
                refine va_get (D := D) (ci := 10) (v := .ref (a 1)) (C := RX10) (T := TX10) (N := 38) hx hb hT in_X10 hown hK hP 0 mw_0 rfl 1 (by decide) (hT _ t1263) (fun _ h9 => h9) rfl dX10_smithsOf_56 ?_
                refine lv_iconst (v := 3) hx hb dX10_smithsOf_59 (by decide) ?_
                refine va_iald hx hb hK hP 1 0 mw_1 rfl (by unfold vp_in; decide) dX10_smithsOf_60 ?_
                refine k_top (y := (t2 1 3)) rfl ?_
                refine k_top (y := (st 1 3)) (congrFun (hFt2 1 (nm_1 (by decide) nm_0)) 3) ?_
                have h30270 : Iv 0 8 (st 1 3) := (tok_at (hw).1 3 0 8 (by decide) (by decide) (by decide))
                refine lv_icmp_ge (tgt := 125) hx hb dX10_smithsOf_61 (by decide) (fun c30271 => ?_) (fun c30271 => ?_)
                · skip
                  have n30272 : (st 1 3).toInt ≤ v5_53.toInt := (i_le c30271)
                  refine lv_aload_n hx hb dX10_smithsOf_125 rfl (lv_at hl 4 rfl) ?_
                  refine va_get (D := D) (ci := 10) (v := .ref (a 17)) (C := RX10) (T := TX10) (N := 38) hx hb hT in_X10 hown hK hP 0 mw_0 rfl 32 (by decide) (hT _ t1294) (fun _ h9 => h9) rfl dX10_smithsOf_126 ?_
                  refine lv_iload_n hx hb dX10_smithsOf_129 rfl (lv_at hl 3 rfl) ?_
                  refine lv_iload hx hb dX10_smithsOf_130 (lv_at hl 1 rfl) ?_
                  refine c_ist hx hb hK hP hD hS mw_17 ms_17 (iv_in h30016 (by decide) (by decide)) dX10_smithsOf_132 (fun s30273 H9 locs9 es30273 hP9 hD9 hS9 => ?_)
                  clear hP hD hS
                  have hS := hS9
                  have hP := hP9
                  have hD := hD9
                  clear hP9 hD9 hS9
                  have hBs30273 : MB s30273 := by rw [es30273]; exact mb_sw hBt2 trivial
                  have hFs30273 : FR [17] st s30273 := fr_sw hFt2 (List.mem_of_getElem? (i := 0) rfl) es30273
                  obtain ⟨z30274, ez30274⟩ : ∃ z9 : Int32, z9 = v2_2 + Int32.ofInt 1 := ⟨_, rfl⟩
                  have h30275 : Iv 2 256 z30274 := iv_inc ez30274 h30016 (by decide) (by decide) (by decide) (by decide) (by decide) (by decide)
                  refine lv_iinc (v := z30274) (lv' := [(2, .int z30274), (5, .int v5_53), (4, .int v4_53), (3, .int 1), (0, .ref (a 0)), (1, .int p0)]) hx hb dX10_smithsOf_133 hl (k := 3) rfl ez30274.symm (by decide) rfl (fun ls hl => ?_)
                  refine lv_goto (tgt := 2) hx hb dX10_smithsOf_136 (by decide) ?_
                  exact ih2 z30274 s30273 _ _ _ (iv_mono (c := 0) (d := 256) h30275 (by decide) (by decide)) hBs30273 (fr_sw gt2 (List.mem_of_getElem? (i := 0) rfl) es30273) hP hD hS (lv_sub hl [0, 4, 5] rfl) (fu_s (lo := 0) (ti_inc ez30274 h30016 (by decide) (by decide) (by decide) (by decide)) (by decide) hm2)
                · skip
                  have n30276 : v5_53.toInt < (st 1 3).toInt := (i_nle c30271)
                  have h30277 : Iv 0 7 v5_53 := lt_l iv5_53 n30276 h30270 (by decide)
                  have h30278 : Iv 1 8 (st 1 3) := lt_r iv5_53 n30276 h30270 (by decide)
                  refine lv_iload_n hx hb dX10_smithsOf_64 rfl (lv_at hl 3 rfl) ?_
                  refine lv_iload_n hx hb dX10_smithsOf_65 rfl (lv_at hl 5 rfl) ?_
                  refine lv_iconst (v := (-1)) hx hb dX10_smithsOf_66 (by decide) ?_
                  refine lv_ixor hx hb dX10_smithsOf_67 ?_
                  refine lv_topi (fun z30279 ez30279 => ?_)
                  refine lv_iand hx hb dX10_smithsOf_68 ?_
                  refine lv_topi (fun z30280 ez30280 => ?_)
                  have h30281 : Iv 0 255 z30280 := iv_andl ez30280 (iv_mono (c := 0) (d := 255) h30016 (by decide) (by decide))
                  refine lv_if_ne (tgt := 119) hx hb dX10_smithsOf_69 (by decide) (fun c30282 => ?_) (fun c30282 => ?_)
                  · skip
                    have h30283 : Iv 1 255 z30280 := ne_lo h30281 (show ¬ z30280 = 0 from c30282) (by decide) (by decide)
                    obtain ⟨z30284, ez30284⟩ : ∃ z9 : Int32, z9 = v5_53 + Int32.ofInt 1 := ⟨_, rfl⟩
                    have h30285 : Iv 1 8 z30284 := iv_inc ez30284 h30277 (by decide) (by decide) (by decide) (by decide) (by decide) (by decide)
                    refine lv_iinc (v := z30284) (lv' := [(5, .int z30284), (4, .int v4_53), (3, .int 1), (2, .int v2_2), (0, .ref (a 0)), (1, .int p0)]) hx hb dX10_smithsOf_119 hl (k := 0) rfl ez30284.symm (by decide) rfl (fun ls hl => ?_)
                    refine lv_goto (tgt := 53) hx hb dX10_smithsOf_122 (by decide) ?_
                    exact ih53 z30284 v4_53 _ (iv_mono (c := 0) (d := 8) h30285 (by decide) (by decide)) iv4_53 (lv_sub hl [0, 1, 2, 3, 4, 5] rfl) (fu_s (lo := 0) (ti_inc ez30284 h30277 (by decide) (by decide) (by decide) (by decide)) (by decide) hm53)
                  · skip
                    have h30286 : Iv 0 0 z30280 := eq_l c30282 (iv_c (by decide) : Iv 0 0 0)
                    refine lv_iload_n hx hb dX10_smithsOf_72 rfl (lv_at hl 3 rfl) ?_
                    refine lv_iload hx hb dX10_smithsOf_73 (lv_at hl 0 rfl) ?_
                    refine ro_S (As := [.int v2_2, .int v5_53]) (rest := []) S (m_X10_bit l D k a t2 sl  v2_2 v5_53 _  hBt2  ) lkX10_193 ok_X10_bit ⟨rfl, rfl, Nat.le_of_ble_eq_true rfl, Nat.le_of_ble_eq_true rfl⟩ (pw_S hK hN hP (hD.weaken (fun _ _ _ _ => trivial))) rfl hl.1 rfl (Nat.le_of_ble_eq_true rfl) ⟨Nat.zero_le _, Nat.zero_le _⟩ dX10_smithsOf_75 (fun r30287 er30287 => ?_)
                    have h30288 : Iv 0 1 r30287 := er30287.1
                    have k30289 := er30287.2
                    refine lv_if_ne (tgt := 84) hx hb dX10_smithsOf_78 (by decide) (fun c30290 => ?_) (fun c30290 => ?_)
                    · skip
                      have h30291 : Iv 1 1 r30287 := ne_lo h30288 (show ¬ r30287 = 0 from c30290) (by decide) (by decide)
                      refine lv_iload_n hx hb dX10_smithsOf_84 rfl (lv_at hl 2 rfl) ?_
                      refine lv_if_eq (tgt := 104) hx hb dX10_smithsOf_85 (by decide) (fun c30292 => ?_) (fun c30292 => ?_)
                      · first | exact absurd c30292 (by decide) | exact absurd (by decide) c30292
                      refine lv_iload hx hb dX10_smithsOf_88 (lv_at hl 1 rfl) ?_
                      refine lv_aload_n hx hb dX10_smithsOf_90 rfl (lv_at hl 4 rfl) ?_
                      refine lv_iload_n hx hb dX10_smithsOf_91 rfl (lv_at hl 3 rfl) ?_
                      refine lv_iload hx hb dX10_smithsOf_92 (lv_at hl 0 rfl) ?_
                      refine lv_iconst (v := 1) hx hb dX10_smithsOf_94 (by decide) ?_
                      refine ro_V (As := [.int v2_2, .int v5_53, .int 1]) (rest := [.int v4_53]) S (m_X10_gainBy l D k a t2 sl  v2_2 v5_53 1 _  hBt2 (iv_mono (c := 0) (d := 255) h30016 (by decide) (by decide)) h30277 (wok_of (hFt2 1 (nm_1 (by decide) nm_0)) hw)) lkX10_400 ok_X10_gainBy ⟨rfl, rfl, Nat.le_of_ble_eq_true rfl, Nat.le_of_ble_eq_true rfl⟩ (pw_V (ci := 10) (q0 := 0) hK hN rfl mw_0 hP (hD.weaken (fun _ _ _ _ => trivial))) rfl hl.1 rfl (Nat.le_of_ble_eq_true rfl) ⟨Nat.zero_le _, Nat.zero_le _⟩ dX10_smithsOf_95 (fun r30293 er30293 => ?_)
                      refine va_mmax hx hb (hml.trans hl.1.symm) hown (hT _ t1800) (hT _ t1070) (hT _ t116) (hT _ t1071) (Nat.le_of_ble_eq_true rfl) (Nat.le_of_ble_eq_true rfl) (Nat.zero_le _) (Nat.zero_le _) dX10_smithsOf_98 ?_
                      refine lv_topi (fun z30294 ez30294 => ?_)
                      have h30295 : Iv (-1000000000) 2147483647 z30294 := iv_max ez30294 iv4_53 (iv_full r30293) (by decide) (by decide) (by decide)
                      refine lv_goto (tgt := 117) hx hb dX10_smithsOf_101 (by decide) ?_
                      refine lv_istore (lv' := [(4, .int z30294), (5, .int v5_53), (3, .int 1), (2, .int v2_2), (0, .ref (a 0)), (1, .int p0)]) hx hb dX10_smithsOf_117 hl (by decide) rfl (fun ls hl => ?_)
                      obtain ⟨z30296, ez30296⟩ : ∃ z9 : Int32, z9 = v5_53 + Int32.ofInt 1 := ⟨_, rfl⟩
                      have h30297 : Iv 1 8 z30296 := iv_inc ez30296 h30277 (by decide) (by decide) (by decide) (by decide) (by decide) (by decide)
                      refine lv_iinc (v := z30296) (lv' := [(5, .int z30296), (4, .int z30294), (3, .int 1), (2, .int v2_2), (0, .ref (a 0)), (1, .int p0)]) hx hb dX10_smithsOf_119 hl (k := 1) rfl ez30296.symm (by decide) rfl (fun ls hl => ?_)
                      refine lv_goto (tgt := 53) hx hb dX10_smithsOf_122 (by decide) ?_
                      exact ih53 z30296 z30294 _ (iv_mono (c := 0) (d := 8) h30297 (by decide) (by decide)) h30295 (lv_sub hl [0, 1, 2, 3, 4, 5] rfl) (fu_s (lo := 0) (ti_inc ez30296 h30277 (by decide) (by decide) (by decide) (by decide)) (by decide) hm53)
                    · skip
                      have h30298 : Iv 0 0 r30287 := eq_l c30290 (iv_c (by decide) : Iv 0 0 0)
                      refine lv_goto (tgt := 119) hx hb dX10_smithsOf_81 (by decide) ?_
                      obtain ⟨z30299, ez30299⟩ : ∃ z9 : Int32, z9 = v5_53 + Int32.ofInt 1 := ⟨_, rfl⟩
                      have h30300 : Iv 1 8 z30299 := iv_inc ez30299 h30277 (by decide) (by decide) (by decide) (by decide) (by decide) (by decide)
                      refine lv_iinc (v := z30299) (lv' := [(5, .int z30299), (4, .int v4_53), (3, .int 1), (2, .int v2_2), (0, .ref (a 0)), (1, .int p0)]) hx hb dX10_smithsOf_119 hl (k := 0) rfl ez30299.symm (by decide) rfl (fun ls hl => ?_)
                      refine lv_goto (tgt := 53) hx hb dX10_smithsOf_122 (by decide) ?_
                      exact ih53 z30299 v4_53 _ (iv_mono (c := 0) (d := 8) h30300 (by decide) (by decide)) iv4_53 (lv_sub hl [0, 1, 2, 3, 4, 5] rfl) (fu_s (lo := 0) (ti_inc ez30299 h30277 (by decide) (by decide) (by decide) (by decide)) (by decide) hm53)
            exact lp53 9 0 (-1000000000) _ (iv_mono (c := 0) (d := 8) (iv_c (by decide) : Iv 0 0 0) (by decide) (by decide)) (iv_mono (c := (-1000000000)) (d := 2147483647) (iv_c (by decide) : Iv (-1000000000) (-1000000000) (-1000000000)) (by decide) (by decide)) (lv_sub hl [0, 1, 2, 3, 4, 5] rfl) (fu_i (iv_mono (c := 0) (d := 8) (iv_c (by decide) : Iv 0 0 0) (by decide) (by decide)) (by decide))
          · skip
            have h30301 : Iv 0 0 v2_2 := eq_l c30015 (iv_c (by decide) : Iv 0 0 0)
            refine lv_iconst (v := 0) hx hb dX10_smithsOf_31 (by decide) ?_
            refine lv_goto (tgt := 48) hx hb dX10_smithsOf_32 (by decide) ?_
            refine lv_istore (lv' := [(4, .int 0), (3, .int 1), (2, .int v2_2), (0, .ref (a 0)), (1, .int p0)]) hx hb dX10_smithsOf_48 hl (by decide) rfl (fun ls hl => ?_)
            refine lv_iconst (v := 0) hx hb dX10_smithsOf_50 (by decide) ?_
            refine lv_istore (lv' := [(5, .int 0), (4, .int 0), (3, .int 1), (2, .int v2_2), (0, .ref (a 0)), (1, .int p0)]) hx hb dX10_smithsOf_51 hl (by decide) rfl (fun ls hl => ?_)
            have lp53 : ∀ (n9_53 : Nat) (v5_53 : Int32) (v4_53 : Int32) (ls : Array Slot), Iv 0 8 v5_53 → Iv 0 2147483647 v4_53 → lv_has ls 6 [(5, .int v5_53), (4, .int v4_53), (3, .int 1), (2, .int v2_2), (0, .ref (a 0)), (1, .int p0)] → (8 : Int) - v5_53.toInt < (n9_53 : Int) → W p l e (rmw 4 0 0) s m ([.ref (a 0), .int p0] : List Value).toArray below meth c H9 locs9 0 0 Q (F0 m 53 ls []) := by
              clear hl
              intro n9_53
              induction n9_53 with
              | zero =>
                intro v5_53 v4_53 ls iv5_53 iv4_53 hl hm53
                exact (fu_0 iv5_53 hm53).elim
              | succ n9_53 ih53 =>
                intro v5_53 v4_53 ls iv5_53 iv4_53 hl hm53
                refine lv_iload hx hb dX10_smithsOf_53 (lv_at hl 0 rfl) ?_
                refine lv_aload_n hx hb dX10_smithsOf_55 rfl (lv_at hl 4 rfl) ?_
                refine va_get (D := D) (ci := 10) (v := .ref (a 1)) (C := RX10) (T := TX10) (N := 38) hx hb hT in_X10 hown hK hP 0 mw_0 rfl 1 (by decide) (hT _ t1263) (fun _ h9 => h9) rfl dX10_smithsOf_56 ?_
                refine lv_iconst (v := 3) hx hb dX10_smithsOf_59 (by decide) ?_
                refine va_iald hx hb hK hP 1 0 mw_1 rfl (by unfold vp_in; decide) dX10_smithsOf_60 ?_
                refine k_top (y := (t2 1 3)) rfl ?_
                refine k_top (y := (st 1 3)) (congrFun (hFt2 1 (nm_1 (by decide) nm_0)) 3) ?_
                have h30518 : Iv 0 8 (st 1 3) := (tok_at (hw).1 3 0 8 (by decide) (by decide) (by decide))
                refine lv_icmp_ge (tgt := 125) hx hb dX10_smithsOf_61 (by decide) (fun c30519 => ?_) (fun c30519 => ?_)
                · skip
                  have n30520 : (st 1 3).toInt ≤ v5_53.toInt := (i_le c30519)
                  refine lv_aload_n hx hb dX10_smithsOf_125 rfl (lv_at hl 4 rfl) ?_
                  refine va_get (D := D) (ci := 10) (v := .ref (a 17)) (C := RX10) (T := TX10) (N := 38) hx hb hT in_X10 hown hK hP 0 mw_0 rfl 32 (by decide) (hT _ t1294) (fun _ h9 => h9) rfl dX10_smithsOf_126 ?_
                  refine lv_iload_n hx hb dX10_smithsOf_129 rfl (lv_at hl 3 rfl) ?_
                  refine lv_iload hx hb dX10_smithsOf_130 (lv_at hl 1 rfl) ?_
                  refine c_ist hx hb hK hP hD hS mw_17 ms_17 (iv_in h30301 (by decide) (by decide)) dX10_smithsOf_132 (fun s30521 H9 locs9 es30521 hP9 hD9 hS9 => ?_)
                  clear hP hD hS
                  have hS := hS9
                  have hP := hP9
                  have hD := hD9
                  clear hP9 hD9 hS9
                  have hBs30521 : MB s30521 := by rw [es30521]; exact mb_sw hBt2 trivial
                  have hFs30521 : FR [17] st s30521 := fr_sw hFt2 (List.mem_of_getElem? (i := 0) rfl) es30521
                  obtain ⟨z30522, ez30522⟩ : ∃ z9 : Int32, z9 = v2_2 + Int32.ofInt 1 := ⟨_, rfl⟩
                  have h30523 : Iv 1 1 z30522 := iv_inc ez30522 h30301 (by decide) (by decide) (by decide) (by decide) (by decide) (by decide)
                  refine lv_iinc (v := z30522) (lv' := [(2, .int z30522), (5, .int v5_53), (4, .int v4_53), (3, .int 1), (0, .ref (a 0)), (1, .int p0)]) hx hb dX10_smithsOf_133 hl (k := 3) rfl ez30522.symm (by decide) rfl (fun ls hl => ?_)
                  refine lv_goto (tgt := 2) hx hb dX10_smithsOf_136 (by decide) ?_
                  exact ih2 z30522 s30521 _ _ _ (iv_mono (c := 0) (d := 256) h30523 (by decide) (by decide)) hBs30521 (fr_sw gt2 (List.mem_of_getElem? (i := 0) rfl) es30521) hP hD hS (lv_sub hl [0, 4, 5] rfl) (fu_s (lo := 0) (ti_inc ez30522 h30301 (by decide) (by decide) (by decide) (by decide)) (by decide) hm2)
                · skip
                  have n30524 : v5_53.toInt < (st 1 3).toInt := (i_nle c30519)
                  have h30525 : Iv 0 7 v5_53 := lt_l iv5_53 n30524 h30518 (by decide)
                  have h30526 : Iv 1 8 (st 1 3) := lt_r iv5_53 n30524 h30518 (by decide)
                  refine lv_iload_n hx hb dX10_smithsOf_64 rfl (lv_at hl 3 rfl) ?_
                  refine lv_iload_n hx hb dX10_smithsOf_65 rfl (lv_at hl 5 rfl) ?_
                  refine lv_iconst (v := (-1)) hx hb dX10_smithsOf_66 (by decide) ?_
                  refine lv_ixor hx hb dX10_smithsOf_67 ?_
                  refine lv_topi (fun z30527 ez30527 => ?_)
                  refine lv_iand hx hb dX10_smithsOf_68 ?_
                  refine lv_topi (fun z30528 ez30528 => ?_)
                  have h30529 : Iv 0 0 z30528 := iv_andl ez30528 h30301
                  refine lv_if_ne (tgt := 119) hx hb dX10_smithsOf_69 (by decide) (fun c30530 => ?_) (fun c30530 => ?_)
                  · skip
                    exact (iv_no (ne_lo h30529 (show ¬ z30528 = 0 from c30530) (by decide) (Int.le_refl _)) (by decide)).elim
                  · skip
                    refine lv_iload_n hx hb dX10_smithsOf_72 rfl (lv_at hl 3 rfl) ?_
                    refine lv_iload hx hb dX10_smithsOf_73 (lv_at hl 0 rfl) ?_
                    refine ro_S (As := [.int v2_2, .int v5_53]) (rest := []) S (m_X10_bit l D k a t2 sl  v2_2 v5_53 _  hBt2  ) lkX10_193 ok_X10_bit ⟨rfl, rfl, Nat.le_of_ble_eq_true rfl, Nat.le_of_ble_eq_true rfl⟩ (pw_S hK hN hP (hD.weaken (fun _ _ _ _ => trivial))) rfl hl.1 rfl (Nat.le_of_ble_eq_true rfl) ⟨Nat.zero_le _, Nat.zero_le _⟩ dX10_smithsOf_75 (fun r30531 er30531 => ?_)
                    have h30532 : Iv 0 1 r30531 := er30531.1
                    have k30533 := er30531.2
                    refine lv_if_ne (tgt := 84) hx hb dX10_smithsOf_78 (by decide) (fun c30534 => ?_) (fun c30534 => ?_)
                    · skip
                      have h30535 : Iv 1 1 r30531 := ne_lo h30532 (show ¬ r30531 = 0 from c30534) (by decide) (by decide)
                      refine lv_iload_n hx hb dX10_smithsOf_84 rfl (lv_at hl 2 rfl) ?_
                      refine lv_if_eq (tgt := 104) hx hb dX10_smithsOf_85 (by decide) (fun c30536 => ?_) (fun c30536 => ?_)
                      · first | exact absurd c30536 (by decide) | exact absurd (by decide) c30536
                      refine lv_iload hx hb dX10_smithsOf_88 (lv_at hl 1 rfl) ?_
                      refine lv_aload_n hx hb dX10_smithsOf_90 rfl (lv_at hl 4 rfl) ?_
                      refine lv_iload_n hx hb dX10_smithsOf_91 rfl (lv_at hl 3 rfl) ?_
                      refine lv_iload hx hb dX10_smithsOf_92 (lv_at hl 0 rfl) ?_
                      refine lv_iconst (v := 1) hx hb dX10_smithsOf_94 (by decide) ?_
                      refine ro_V (As := [.int v2_2, .int v5_53, .int 1]) (rest := [.int v4_53]) S (m_X10_gainBy l D k a t2 sl  v2_2 v5_53 1 _  hBt2 (iv_mono (c := 0) (d := 255) h30301 (by decide) (by decide)) h30525 (wok_of (hFt2 1 (nm_1 (by decide) nm_0)) hw)) lkX10_400 ok_X10_gainBy ⟨rfl, rfl, Nat.le_of_ble_eq_true rfl, Nat.le_of_ble_eq_true rfl⟩ (pw_V (ci := 10) (q0 := 0) hK hN rfl mw_0 hP (hD.weaken (fun _ _ _ _ => trivial))) rfl hl.1 rfl (Nat.le_of_ble_eq_true rfl) ⟨Nat.zero_le _, Nat.zero_le _⟩ dX10_smithsOf_95 (fun r30537 er30537 => ?_)
                      refine va_mmax hx hb (hml.trans hl.1.symm) hown (hT _ t1800) (hT _ t1070) (hT _ t116) (hT _ t1071) (Nat.le_of_ble_eq_true rfl) (Nat.le_of_ble_eq_true rfl) (Nat.zero_le _) (Nat.zero_le _) dX10_smithsOf_98 ?_
                      refine lv_topi (fun z30538 ez30538 => ?_)
                      have h30539 : Iv 0 2147483647 z30538 := iv_max ez30538 iv4_53 (iv_full r30537) (by decide) (by decide) (by decide)
                      refine lv_goto (tgt := 117) hx hb dX10_smithsOf_101 (by decide) ?_
                      refine lv_istore (lv' := [(4, .int z30538), (5, .int v5_53), (3, .int 1), (2, .int v2_2), (0, .ref (a 0)), (1, .int p0)]) hx hb dX10_smithsOf_117 hl (by decide) rfl (fun ls hl => ?_)
                      obtain ⟨z30540, ez30540⟩ : ∃ z9 : Int32, z9 = v5_53 + Int32.ofInt 1 := ⟨_, rfl⟩
                      have h30541 : Iv 1 8 z30540 := iv_inc ez30540 h30525 (by decide) (by decide) (by decide) (by decide) (by decide) (by decide)
                      refine lv_iinc (v := z30540) (lv' := [(5, .int z30540), (4, .int z30538), (3, .int 1), (2, .int v2_2), (0, .ref (a 0)), (1, .int p0)]) hx hb dX10_smithsOf_119 hl (k := 1) rfl ez30540.symm (by decide) rfl (fun ls hl => ?_)
                      refine lv_goto (tgt := 53) hx hb dX10_smithsOf_122 (by decide) ?_
                      exact ih53 z30540 z30538 _ (iv_mono (c := 0) (d := 8) h30541 (by decide) (by decide)) h30539 (lv_sub hl [0, 1, 2, 3, 4, 5] rfl) (fu_s (lo := 0) (ti_inc ez30540 h30525 (by decide) (by decide) (by decide) (by decide)) (by decide) hm53)
                    · skip
                      have h30542 : Iv 0 0 r30531 := eq_l c30534 (iv_c (by decide) : Iv 0 0 0)
                      refine lv_goto (tgt := 119) hx hb dX10_smithsOf_81 (by decide) ?_
                      obtain ⟨z30543, ez30543⟩ : ∃ z9 : Int32, z9 = v5_53 + Int32.ofInt 1 := ⟨_, rfl⟩
                      have h30544 : Iv 1 8 z30543 := iv_inc ez30543 h30525 (by decide) (by decide) (by decide) (by decide) (by decide) (by decide)
                      refine lv_iinc (v := z30543) (lv' := [(5, .int z30543), (4, .int v4_53), (3, .int 1), (2, .int v2_2), (0, .ref (a 0)), (1, .int p0)]) hx hb dX10_smithsOf_119 hl (k := 0) rfl ez30543.symm (by decide) rfl (fun ls hl => ?_)
                      refine lv_goto (tgt := 53) hx hb dX10_smithsOf_122 (by decide) ?_
                      exact ih53 z30543 v4_53 _ (iv_mono (c := 0) (d := 8) h30544 (by decide) (by decide)) iv4_53 (lv_sub hl [0, 1, 2, 3, 4, 5] rfl) (fu_s (lo := 0) (ti_inc ez30543 h30525 (by decide) (by decide) (by decide) (by decide)) (by decide) hm53)
            exact lp53 9 0 0 _ (iv_mono (c := 0) (d := 8) (iv_c (by decide) : Iv 0 0 0) (by decide) (by decide)) (iv_mono (c := 0) (d := 2147483647) (iv_c (by decide) : Iv 0 0 0) (by decide) (by decide)) (lv_sub hl [0, 1, 2, 3, 4, 5] rfl) (fu_i (iv_mono (c := 0) (d := 8) (iv_c (by decide) : Iv 0 0 0) (by decide) (by decide)) (by decide))
  exact lp2 257 0 st _ _ _ (iv_mono (c := 0) (d := 256) (iv_c (by decide) : Iv 0 0 0) (by decide) (by decide)) hB fr_rf hP hD hS (lv_sub hl [0, 1, 2] rfl) (fu_i (iv_mono (c := 0) (d := 256) (iv_c (by decide) : Iv 0 0 0) (by decide) (by decide)) (by decide))
set_option maxHeartbeats 4000000 in
set_option maxRecDepth 100000 in
theorem m_X10_smiths (l : Launch) (D : va_G) (k : Nat → ClassId) (a : Nat → Nat) (st : CT) (sl : CL) (sz : Nat) (hB : MB st)  (hw : WOK (st 1)) : Met l yX10_smiths (.code yX10_smiths cX10_smiths 1 (some .int) :: TB) (rmw 8 0 0) (va_Pc [.ref (a 0)] (PW D k sz (MWS k a st sl))) (QI D (S := CT) (fun r u => MB u ∧ FR [7, 9, 8, 10, 11, 17] st u ∧ ((True))) (fun u => MWS k a u sl) (fun _ => []) (MWS k a st sl) sz) 0 0 (va_A (MWS k a st sl) sz) := by
  refine Met.ofW (cc := cX10_smiths) (maxL := 1) (ret := (some .int)) (by decide) rfl ?_
  intro p e s m args below meth c s₁ B hml hv
  obtain ⟨rfl, hsz, hP, hK, hD0, hN⟩ := hv
  have hx := B.exec
  have hb := B.bytes
  have hr := B.returns
  have hT : ∀ w9 ∈ TB, w9.before ([.ref (a 0)] : List Value).toArray s = true := fun w9 h => atoms_spec (ws := .code yX10_smiths cX10_smiths 1 (some .int) :: TB) B.pre w9 (List.mem_cons_of_mem _ h)
  have hown : s.vm.findClass RX10 = some m.cls := findClass_of_methodNamed B.named
  have S : CallFix p m c cX10_smiths 1 s _ TB RX10 := ⟨hx, hb, hml, hown, hT⟩
  subst hsz
  have hD := hD0.self (sz := s.heap.size)
  generalize hAe : va_A (MWS k a st sl) s.heap.size = A at hD ⊢
  have hA : ∀ q : Nat, s.heap.size ≤ q → A q := fun q h => by rw [← hAe]; exact Or.inr h
  have hS : va_S A s.heap s.heap [] := va_S.rf
  have hl := lv_entry ([.ref (a 0)]) (n := 1) (Nat.le_of_ble_eq_true rfl)
  rw [lg_entry_eq]
  generalize (lg_sl ([.ref (a 0)]) ++ List.replicate (1 - (lg_sl ([.ref (a 0)])).length) Slot.unset).toArray = ls at hl ⊢
  have hl : lv_has ls 1 [(0, .ref (a 0))] := hl
  refine nameQ (fun Q hQ => ?_)
  refine lv_aload_n hx hb dX10_smiths_0 rfl (lv_at hl 0 rfl) ?_
  refine ro_V (As := []) (rest := []) S (m_X10_isLand l D k a st sl   _  hB  hw) lkX10_297 ok_X10_isLand ⟨rfl, rfl, Nat.le_of_ble_eq_true rfl, Nat.le_of_ble_eq_true rfl⟩ (pw_V (ci := 10) (q0 := 0) hK hN rfl mw_0 hP (hD.weaken (fun _ _ _ _ => trivial))) rfl hl.1 rfl (Nat.le_of_ble_eq_true rfl) ⟨Nat.zero_le _, Nat.zero_le _⟩ dX10_smiths_1 (fun r1 er1 => ?_)
  rcases er1 with ⟨rfl, g9⟩ | ⟨rfl, g9⟩
  · skip
    have g2 := g9
    refine lv_if_ne (tgt := 11) hx hb dX10_smiths_4 (by decide) (fun c3 => ?_) (fun c3 => ?_)
    rotate_left
    · first | exact absurd c3 (by decide) | exact absurd (by decide) c3
    refine lv_aload_n hx hb dX10_smiths_11 rfl (lv_at hl 0 rfl) ?_
    refine ca_v hP hD hS hA (fun hDc => run_V (mc := 0) (ms := 0) (As := []) (rest := []) S (m_X10_asItIs l D k a st sl   _  hB  hw) lkX10_273 ok_X10_asItIs ⟨rfl, rfl, Nat.le_of_ble_eq_true rfl, Nat.le_of_ble_eq_true rfl⟩ (pw_V (ci := 10) (q0 := 0) hK hN rfl mw_0 hP hDc) rfl hl.1 rfl (Nat.le_of_ble_eq_true rfl) ⟨Nat.zero_le _, Nat.zero_le _⟩ dX10_smiths_12) (fun s4 H9 locs9 hs4 hP9 hD9 hS9 => ?_)
    clear hP hD hS
    have hS := hS9
    have hP := hP9
    have hD := hD9
    clear hP9 hD9 hS9
    obtain ⟨hBs4, gs4, fs4⟩ := hs4
    have hFs4 : FR [7, 9, 8, 10, 11, 17] st s4 := fr_ca fr_rf gs4 (sub_1 (List.mem_of_getElem? (i := 0) rfl) (sub_1 (List.mem_of_getElem? (i := 1) rfl) (sub_1 (List.mem_of_getElem? (i := 2) rfl) (sub_1 (List.mem_of_getElem? (i := 3) rfl) (sub_1 (List.mem_of_getElem? (i := 4) rfl) sub_0)))))
    refine lv_aload_n hx hb dX10_smiths_15 rfl (lv_at hl 0 rfl) ?_
    refine lv_aload_n hx hb dX10_smiths_16 rfl (lv_at hl 0 rfl) ?_
    refine lv_iconst (v := (-1)) hx hb dX10_smiths_17 (by decide) ?_
    refine ro_V (As := [.int (-1)]) (rest := [.ref (a 0)]) S (m_X10_wheelsOf l D k a s4 sl  (-1) _  hBs4  (wok_of (hFs4 1 (nm_1 (by decide) (nm_1 (by decide) (nm_1 (by decide) (nm_1 (by decide) (nm_1 (by decide) (nm_1 (by decide) nm_0))))))) hw)) lkX10_246 ok_X10_wheelsOf ⟨rfl, rfl, Nat.le_of_ble_eq_true rfl, Nat.le_of_ble_eq_true rfl⟩ (pw_V (ci := 10) (q0 := 0) hK hN rfl mw_0 hP (hD.weaken (fun _ _ _ _ => trivial))) rfl hl.1 rfl (Nat.le_of_ble_eq_true rfl) ⟨Nat.zero_le _, Nat.zero_le _⟩ dX10_smiths_18 (fun r6 er6 => ?_)
    have h7 : Iv 0 255 r6 := er6.1
    have k8 := er6.2
    refine ca_i hP hD hS hA (fun hDc => run_V (mc := 0) (ms := 0) (As := [.int r6]) (rest := []) S (m_X10_smithsOf l D k a s4 sl  r6 _  hBs4 h7 (wok_of (hFs4 1 (nm_1 (by decide) (nm_1 (by decide) (nm_1 (by decide) (nm_1 (by decide) (nm_1 (by decide) (nm_1 (by decide) nm_0))))))) hw)) lkX10_405 ok_X10_smithsOf ⟨rfl, rfl, Nat.le_of_ble_eq_true rfl, Nat.le_of_ble_eq_true rfl⟩ (pw_V (ci := 10) (q0 := 0) hK hN rfl mw_0 hP hDc) rfl hl.1 rfl (Nat.le_of_ble_eq_true rfl) ⟨Nat.zero_le _, Nat.zero_le _⟩ dX10_smiths_21) (fun r10 s9 H9 locs9 hs9 hP9 hD9 hS9 => ?_)
    clear hP hD hS
    have hS := hS9
    have hP := hP9
    have hD := hD9
    clear hP9 hD9 hS9
    obtain ⟨hBs9, gs9, fs9⟩ := hs9
    have hFs9 : FR [7, 9, 8, 10, 11, 17] st s9 := fr_ca hFs4 gs9 (sub_1 (List.mem_of_getElem? (i := 5) rfl) sub_0)
    rw [hQ]
    exact W.iret (v := r10) hx hb hr (fun t ht hW => ⟨⟨r10, s9, rfl, ⟨hBs9, hFs9, trivial⟩, by rw [ht]; exact hP, va_K.moved hW.alike (hK.sub (tys' := []) [] rfl), by rw [hAe]; exact hD⟩, by rw [hAe]; exact hS.F ht⟩) hS.2.2 dX10_smiths_24
  · skip
    have g11 := g9
    refine lv_if_ne (tgt := 11) hx hb dX10_smiths_4 (by decide) (fun c12 => ?_) (fun c12 => ?_)
    · first | exact absurd c12 (by decide) | exact absurd (by decide) c12
    refine lv_ldcw (v := (-2000000)) hx hb hown (hT _ t1875) dX10_smiths_7 ?_
    rw [hQ]
    exact W.iret (v := (-2000000)) hx hb hr (fun t ht hW => ⟨⟨(-2000000), st, rfl, ⟨hB, fr_rf, trivial⟩, by rw [ht]; exact hP, va_K.moved hW.alike (hK.sub (tys' := []) [] rfl), by rw [hAe]; exact hD⟩, by rw [hAe]; exact hS.F ht⟩) hS.2.2 dX10_smiths_10
set_option maxHeartbeats 4000000 in
set_option maxRecDepth 100000 in
theorem m_X10_picks (l : Launch) (D : va_G) (k : Nat → ClassId) (a : Nat → Nat) (st : CT) (sl : CL) (sz : Nat) (hB : MB st)  (hw : WOK (st 1)) : Met l yX10_picks (.code yX10_picks cX10_picks 4 (some .int) :: TB) (rmw 8 0 0) (va_Pc [.ref (a 0)] (PW D k sz (MWS k a st sl))) (QI D (S := CT) (fun r u => MB u ∧ FR [7, 9, 8, 10, 11, 17] st u ∧ (Iv (-2) 7 r ∧ (True))) (fun u => MWS k a u sl) (fun _ => []) (MWS k a st sl) sz) 0 0 (va_A (MWS k a st sl) sz) := by
  refine Met.ofW (cc := cX10_picks) (maxL := 4) (ret := (some .int)) (by decide) rfl ?_
  intro p e s m args below meth c s₁ B hml hv
  obtain ⟨rfl, hsz, hP, hK, hD0, hN⟩ := hv
  have hx := B.exec
  have hb := B.bytes
  have hr := B.returns
  have hT : ∀ w9 ∈ TB, w9.before ([.ref (a 0)] : List Value).toArray s = true := fun w9 h => atoms_spec (ws := .code yX10_picks cX10_picks 4 (some .int) :: TB) B.pre w9 (List.mem_cons_of_mem _ h)
  have hown : s.vm.findClass RX10 = some m.cls := findClass_of_methodNamed B.named
  have S : CallFix p m c cX10_picks 4 s _ TB RX10 := ⟨hx, hb, hml, hown, hT⟩
  subst hsz
  have hD := hD0.self (sz := s.heap.size)
  generalize hAe : va_A (MWS k a st sl) s.heap.size = A at hD ⊢
  have hA : ∀ q : Nat, s.heap.size ≤ q → A q := fun q h => by rw [← hAe]; exact Or.inr h
  have hS : va_S A s.heap s.heap [] := va_S.rf
  have hl := lv_entry ([.ref (a 0)]) (n := 4) (Nat.le_of_ble_eq_true rfl)
  rw [lg_entry_eq]
  generalize (lg_sl ([.ref (a 0)]) ++ List.replicate (4 - (lg_sl ([.ref (a 0)])).length) Slot.unset).toArray = ls at hl ⊢
  have hl : lv_has ls 4 [(0, .ref (a 0))] := hl
  refine nameQ (fun Q hQ => ?_)
  refine lv_aload_n hx hb dX10_picks_0 rfl (lv_at hl 0 rfl) ?_
  refine ro_V (As := []) (rest := []) S (m_X10_isLand l D k a st sl   _  hB  hw) lkX10_297 ok_X10_isLand ⟨rfl, rfl, Nat.le_of_ble_eq_true rfl, Nat.le_of_ble_eq_true rfl⟩ (pw_V (ci := 10) (q0 := 0) hK hN rfl mw_0 hP (hD.weaken (fun _ _ _ _ => trivial))) rfl hl.1 rfl (Nat.le_of_ble_eq_true rfl) ⟨Nat.zero_le _, Nat.zero_le _⟩ dX10_picks_1 (fun r1 er1 => ?_)
  rcases er1 with ⟨rfl, g9⟩ | ⟨rfl, g9⟩
  · skip
    have g2 := g9
    refine lv_if_ne (tgt := 10) hx hb dX10_picks_4 (by decide) (fun c3 => ?_) (fun c3 => ?_)
    rotate_left
    · first | exact absurd c3 (by decide) | exact absurd (by decide) c3
    refine lv_aload_n hx hb dX10_picks_10 rfl (lv_at hl 0 rfl) ?_
    refine ca_v hP hD hS hA (fun hDc => run_V (mc := 0) (ms := 0) (As := []) (rest := []) S (m_X10_asItIs l D k a st sl   _  hB  hw) lkX10_273 ok_X10_asItIs ⟨rfl, rfl, Nat.le_of_ble_eq_true rfl, Nat.le_of_ble_eq_true rfl⟩ (pw_V (ci := 10) (q0 := 0) hK hN rfl mw_0 hP hDc) rfl hl.1 rfl (Nat.le_of_ble_eq_true rfl) ⟨Nat.zero_le _, Nat.zero_le _⟩ dX10_picks_11) (fun s4 H9 locs9 hs4 hP9 hD9 hS9 => ?_)
    clear hP hD hS
    have hS := hS9
    have hP := hP9
    have hD := hD9
    clear hP9 hD9 hS9
    obtain ⟨hBs4, gs4, fs4⟩ := hs4
    have hFs4 : FR [7, 9, 8, 10, 11, 17] st s4 := fr_ca fr_rf gs4 (sub_1 (List.mem_of_getElem? (i := 0) rfl) (sub_1 (List.mem_of_getElem? (i := 1) rfl) (sub_1 (List.mem_of_getElem? (i := 2) rfl) (sub_1 (List.mem_of_getElem? (i := 3) rfl) (sub_1 (List.mem_of_getElem? (i := 4) rfl) sub_0)))))
    refine lv_aload_n hx hb dX10_picks_14 rfl (lv_at hl 0 rfl) ?_
    refine lv_iconst (v := (-1)) hx hb dX10_picks_15 (by decide) ?_
    refine ro_V (As := [.int (-1)]) (rest := []) S (m_X10_wheelsOf l D k a s4 sl  (-1) _  hBs4  (wok_of (hFs4 1 (nm_1 (by decide) (nm_1 (by decide) (nm_1 (by decide) (nm_1 (by decide) (nm_1 (by decide) (nm_1 (by decide) nm_0))))))) hw)) lkX10_246 ok_X10_wheelsOf ⟨rfl, rfl, Nat.le_of_ble_eq_true rfl, Nat.le_of_ble_eq_true rfl⟩ (pw_V (ci := 10) (q0 := 0) hK hN rfl mw_0 hP (hD.weaken (fun _ _ _ _ => trivial))) rfl hl.1 rfl (Nat.le_of_ble_eq_true rfl) ⟨Nat.zero_le _, Nat.zero_le _⟩ dX10_picks_16 (fun r6 er6 => ?_)
    have h7 : Iv 0 255 r6 := er6.1
    have k8 := er6.2
    refine lv_istore_n (lv' := [(1, .int r6), (0, .ref (a 0))]) hx hb dX10_picks_19 rfl hl (by decide) rfl (fun ls hl => ?_)
    refine lv_aload_n hx hb dX10_picks_20 rfl (lv_at hl 1 rfl) ?_
    refine lv_iload_n hx hb dX10_picks_21 rfl (lv_at hl 0 rfl) ?_
    refine ca_i hP hD hS hA (fun hDc => run_V (mc := 0) (ms := 0) (As := [.int r6]) (rest := []) S (m_X10_smithsOf l D k a s4 sl  r6 _  hBs4 h7 (wok_of (hFs4 1 (nm_1 (by decide) (nm_1 (by decide) (nm_1 (by decide) (nm_1 (by decide) (nm_1 (by decide) (nm_1 (by decide) nm_0))))))) hw)) lkX10_405 ok_X10_smithsOf ⟨rfl, rfl, Nat.le_of_ble_eq_true rfl, Nat.le_of_ble_eq_true rfl⟩ (pw_V (ci := 10) (q0 := 0) hK hN rfl mw_0 hP hDc) rfl hl.1 rfl (Nat.le_of_ble_eq_true rfl) ⟨Nat.zero_le _, Nat.zero_le _⟩ dX10_picks_22) (fun r10 s9 H9 locs9 hs9 hP9 hD9 hS9 => ?_)
    clear hP hD hS
    have hS := hS9
    have hP := hP9
    have hD := hD9
    clear hP9 hD9 hS9
    obtain ⟨hBs9, gs9, fs9⟩ := hs9
    have hFs9 : FR [7, 9, 8, 10, 11, 17] st s9 := fr_ca hFs4 gs9 (sub_1 (List.mem_of_getElem? (i := 5) rfl) sub_0)
    refine lv_istore_n (lv' := [(2, .int r10), (1, .int r6), (0, .ref (a 0))]) hx hb dX10_picks_25 rfl hl (by decide) rfl (fun ls hl => ?_)
    refine lv_iconst (v := 0) hx hb dX10_picks_26 (by decide) ?_
    refine lv_istore_n (lv' := [(3, .int 0), (2, .int r10), (1, .int r6), (0, .ref (a 0))]) hx hb dX10_picks_27 rfl hl (by decide) rfl (fun ls hl => ?_)
    have lp28 : ∀ (n9_28 : Nat) (v3_28 : Int32) (ls : Array Slot), Iv 0 8 v3_28 → lv_has ls 4 [(3, .int v3_28), (2, .int r10), (1, .int r6), (0, .ref (a 0))] → (8 : Int) - v3_28.toInt < (n9_28 : Int) → W p l e (rmw 8 0 0) s m ([.ref (a 0)] : List Value).toArray below meth c H9 locs9 0 0 Q (F0 m 28 ls []) := by
      clear hl
      intro n9_28
      induction n9_28 with
      | zero =>
        intro v3_28 ls iv3_28 hl hm28
        exact (fu_0 iv3_28 hm28).elim
      | succ n9_28 ih28 =>
        intro v3_28 ls iv3_28 hl hm28
        refine lv_iload_n hx hb dX10_picks_28 rfl (lv_at hl 0 rfl) ?_
        refine lv_aload_n hx hb dX10_picks_29 rfl (lv_at hl 3 rfl) ?_
        refine va_get (D := D) (ci := 10) (v := .ref (a 1)) (C := RX10) (T := TX10) (N := 38) hx hb hT in_X10 hown hK hP 0 mw_0 rfl 1 (by decide) (hT _ t1263) (fun _ h9 => h9) rfl dX10_picks_30 ?_
        refine lv_iconst (v := 3) hx hb dX10_picks_33 (by decide) ?_
        refine va_iald hx hb hK hP 1 0 mw_1 rfl (by unfold vp_in; decide) dX10_picks_34 ?_
        refine k_top (y := (s9 1 3)) rfl ?_
        refine k_top (y := (st 1 3)) (congrFun (hFs9 1 (nm_1 (by decide) (nm_1 (by decide) (nm_1 (by decide) (nm_1 (by decide) (nm_1 (by decide) (nm_1 (by decide) nm_0))))))) 3) ?_
        have h173 : Iv 0 8 (st 1 3) := (tok_at (hw).1 3 0 8 (by decide) (by decide) (by decide))
        refine lv_icmp_ge (tgt := 66) hx hb dX10_picks_35 (by decide) (fun c174 => ?_) (fun c174 => ?_)
        · skip
          have n175 : (st 1 3).toInt ≤ v3_28.toInt := (i_le c174)
          refine lv_iconst (v := (-1)) hx hb dX10_picks_66 (by decide) ?_
          rw [hQ]
          exact W.iret (v := (-1)) hx hb hr (fun t ht hW => ⟨⟨(-1), s9, rfl, ⟨hBs9, hFs9, ⟨(iv_mono (c := (-2)) (d := 7) (iv_c (by decide) : Iv (-1) (-1) (-1)) (by decide) (by decide)), trivial⟩⟩, by rw [ht]; exact hP, va_K.moved hW.alike (hK.sub (tys' := []) [] rfl), by rw [hAe]; exact hD⟩, by rw [hAe]; exact hS.F ht⟩) hS.2.2 dX10_picks_67
        · skip
          have n176 : v3_28.toInt < (st 1 3).toInt := (i_nle c174)
          have h177 : Iv 0 7 v3_28 := lt_l iv3_28 n176 h173 (by decide)
          have h178 : Iv 1 8 (st 1 3) := lt_r iv3_28 n176 h173 (by decide)
          refine lv_iload_n hx hb dX10_picks_38 rfl (lv_at hl 2 rfl) ?_
          refine lv_iload_n hx hb dX10_picks_39 rfl (lv_at hl 0 rfl) ?_
          refine ro_S (As := [.int r6, .int v3_28]) (rest := []) S (m_X10_bit l D k a s9 sl  r6 v3_28 _  hBs9  ) lkX10_193 ok_X10_bit ⟨rfl, rfl, Nat.le_of_ble_eq_true rfl, Nat.le_of_ble_eq_true rfl⟩ (pw_S hK hN hP (hD.weaken (fun _ _ _ _ => trivial))) rfl hl.1 rfl (Nat.le_of_ble_eq_true rfl) ⟨Nat.zero_le _, Nat.zero_le _⟩ dX10_picks_40 (fun r179 er179 => ?_)
          have h180 : Iv 0 1 r179 := er179.1
          have k181 := er179.2
          refine lv_iconst (v := 1) hx hb dX10_picks_43 (by decide) ?_
          refine lv_icmp_ne (tgt := 60) hx hb dX10_picks_44 (by decide) (fun c182 => ?_) (fun c182 => ?_)
          · skip
            have h183 : Iv 0 0 r179 := ne_hi h180 (show ¬ r179 = 1 from c182) (by decide) (by decide)
            obtain ⟨z184, ez184⟩ : ∃ z9 : Int32, z9 = v3_28 + Int32.ofInt 1 := ⟨_, rfl⟩
            have h185 : Iv 1 8 z184 := iv_inc ez184 h177 (by decide) (by decide) (by decide) (by decide) (by decide) (by decide)
            refine lv_iinc (v := z184) (lv' := [(3, .int z184), (2, .int r10), (1, .int r6), (0, .ref (a 0))]) hx hb dX10_picks_60 hl (k := 0) rfl ez184.symm (by decide) rfl (fun ls hl => ?_)
            refine lv_goto (tgt := 28) hx hb dX10_picks_63 (by decide) ?_
            exact ih28 z184 _ (iv_mono (c := 0) (d := 8) h185 (by decide) (by decide)) (lv_sub hl [0, 1, 2, 3] rfl) (fu_s (lo := 0) (ti_inc ez184 h177 (by decide) (by decide) (by decide) (by decide)) (by decide) hm28)
          · skip
            have h186 : Iv 1 1 r179 := eq_l c182 (iv_c (by decide) : Iv 1 1 1)
            refine lv_aload_n hx hb dX10_picks_47 rfl (lv_at hl 3 rfl) ?_
            refine lv_iload_n hx hb dX10_picks_48 rfl (lv_at hl 2 rfl) ?_
            refine lv_iload_n hx hb dX10_picks_49 rfl (lv_at hl 0 rfl) ?_
            refine lv_iconst (v := 1) hx hb dX10_picks_50 (by decide) ?_
            refine ro_V (As := [.int r6, .int v3_28, .int 1]) (rest := []) S (m_X10_gainBy l D k a s9 sl  r6 v3_28 1 _  hBs9 h7 h177 (wok_of (hFs9 1 (nm_1 (by decide) (nm_1 (by decide) (nm_1 (by decide) (nm_1 (by decide) (nm_1 (by decide) (nm_1 (by decide) nm_0))))))) hw)) lkX10_400 ok_X10_gainBy ⟨rfl, rfl, Nat.le_of_ble_eq_true rfl, Nat.le_of_ble_eq_true rfl⟩ (pw_V (ci := 10) (q0 := 0) hK hN rfl mw_0 hP (hD.weaken (fun _ _ _ _ => trivial))) rfl hl.1 rfl (Nat.le_of_ble_eq_true rfl) ⟨Nat.zero_le _, Nat.zero_le _⟩ dX10_picks_51 (fun r187 er187 => ?_)
            refine lv_iload_n hx hb dX10_picks_54 rfl (lv_at hl 1 rfl) ?_
            refine lv_icmp_ne (tgt := 60) hx hb dX10_picks_55 (by decide) (fun c188 => ?_) (fun c188 => ?_)
            · skip
              obtain ⟨z189, ez189⟩ : ∃ z9 : Int32, z9 = v3_28 + Int32.ofInt 1 := ⟨_, rfl⟩
              have h190 : Iv 1 8 z189 := iv_inc ez189 h177 (by decide) (by decide) (by decide) (by decide) (by decide) (by decide)
              refine lv_iinc (v := z189) (lv' := [(3, .int z189), (2, .int r10), (1, .int r6), (0, .ref (a 0))]) hx hb dX10_picks_60 hl (k := 0) rfl ez189.symm (by decide) rfl (fun ls hl => ?_)
              refine lv_goto (tgt := 28) hx hb dX10_picks_63 (by decide) ?_
              exact ih28 z189 _ (iv_mono (c := 0) (d := 8) h190 (by decide) (by decide)) (lv_sub hl [0, 1, 2, 3] rfl) (fu_s (lo := 0) (ti_inc ez189 h177 (by decide) (by decide) (by decide) (by decide)) (by decide) hm28)
            · skip
              refine lv_iload_n hx hb dX10_picks_58 rfl (lv_at hl 0 rfl) ?_
              rw [hQ]
              exact W.iret (v := v3_28) hx hb hr (fun t ht hW => ⟨⟨v3_28, s9, rfl, ⟨hBs9, hFs9, ⟨(iv_mono (c := (-2)) (d := 7) h177 (by decide) (by decide)), trivial⟩⟩, by rw [ht]; exact hP, va_K.moved hW.alike (hK.sub (tys' := []) [] rfl), by rw [hAe]; exact hD⟩, by rw [hAe]; exact hS.F ht⟩) hS.2.2 dX10_picks_59
    exact lp28 9 0 _ (iv_mono (c := 0) (d := 8) (iv_c (by decide) : Iv 0 0 0) (by decide) (by decide)) (lv_sub hl [0, 1, 2, 3] rfl) (fu_i (iv_mono (c := 0) (d := 8) (iv_c (by decide) : Iv 0 0 0) (by decide) (by decide)) (by decide))
  · skip
    have g191 := g9
    refine lv_if_ne (tgt := 10) hx hb dX10_picks_4 (by decide) (fun c192 => ?_) (fun c192 => ?_)
    · first | exact absurd c192 (by decide) | exact absurd (by decide) c192
    refine lv_bipush (v := (-2)) hx hb dX10_picks_7 (by decide) ?_
    rw [hQ]
    exact W.iret (v := (-2)) hx hb hr (fun t ht hW => ⟨⟨(-2), st, rfl, ⟨hB, fr_rf, ⟨(iv_mono (c := (-2)) (d := 7) (iv_c (by decide) : Iv (-2) (-2) (-2)) (by decide) (by decide)), trivial⟩⟩, by rw [ht]; exact hP, va_K.moved hW.alike (hK.sub (tys' := []) [] rfl), by rw [hAe]; exact hD⟩, by rw [hAe]; exact hS.F ht⟩) hS.2.2 dX10_picks_9
