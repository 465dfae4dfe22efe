set_option maxHeartbeats 4000000 in
set_option maxRecDepth 100000 in
theorem m_X10_roadAt (l : Launch) (D : va_G) (k : Nat → ClassId) (a : Nat → Nat) (st : CT) (sl : CL) (p0 : Int32) (p1 : Int32) (sz : Nat) (hB : MB st)  (hw : WOK (st 1)) : Met l yX10_roadAt (.code yX10_roadAt cX10_roadAt 5 (some .int) :: TB) (rmk 3) (va_Pc [.ref (a 0), .int p0, .int p1] (PW D k sz (MWS k a st sl))) (vp_Si (fun r => Iv (-1) 7 r ∧ (True))) 0 0 (fun _ => False) := by
  refine Met.ofW (cc := cX10_roadAt) (maxL := 5) (ret := (some .int)) (by decide) rfl ?_
  intro p e s m args below meth c s₁ B hml hv
  obtain ⟨rfl, hsz, hP, hK, hD0, hN⟩ := hv
  have hx := B.exec
  have hb := B.bytes
  have hr := B.returns
  have hT : ∀ w9 ∈ TB, w9.before ([.ref (a 0), .int p0, .int p1] : List Value).toArray s = true := fun w9 h => atoms_spec (ws := .code yX10_roadAt cX10_roadAt 5 (some .int) :: TB) B.pre w9 (List.mem_cons_of_mem _ h)
  have hown : s.vm.findClass RX10 = some m.cls := findClass_of_methodNamed B.named
  have S : CallFix p m c cX10_roadAt 5 s _ TB RX10 := ⟨hx, hb, hml, hown, hT⟩
  subst hsz
  have hl := lv_entry ([.ref (a 0), .int p0, .int p1]) (n := 5) (Nat.le_of_ble_eq_true rfl)
  rw [lg_entry_eq]
  generalize (lg_sl ([.ref (a 0), .int p0, .int p1]) ++ List.replicate (5 - (lg_sl ([.ref (a 0), .int p0, .int p1])).length) Slot.unset).toArray = ls at hl ⊢
  have hl : lv_has ls 5 [(0, .ref (a 0)), (1, .int p0), (2, .int p1)] := hl
  refine nameQ (fun Q hQ => ?_)
  refine lv_iload_n hx hb dX10_roadAt_0 rfl (lv_at hl 2 rfl) ?_
  refine lv_istore_n (lv' := [(3, .int p1), (0, .ref (a 0)), (1, .int p0), (2, .int p1)]) hx hb dX10_roadAt_1 rfl hl (by decide) rfl (fun ls hl => ?_)
  refine lv_iconst (v := 0) hx hb dX10_roadAt_2 (by decide) ?_
  refine lv_istore (lv' := [(4, .int 0), (3, .int p1), (0, .ref (a 0)), (1, .int p0), (2, .int p1)]) hx hb dX10_roadAt_3 hl (by decide) rfl (fun ls hl => ?_)
  have lp5 : ∀ (n9_5 : Nat) (v4_5 : Int32) (v3_5 : Int32) (ls : Array Slot), Iv 0 8 v4_5 → lv_has ls 5 [(4, .int v4_5), (3, .int v3_5), (0, .ref (a 0)), (1, .int p0), (2, .int p1)] → (8 : Int) - v4_5.toInt < (n9_5 : Int) → W p l e (rmk 3) s m ([.ref (a 0), .int p0, .int p1] : List Value).toArray below meth c s.heap [] 0 0 Q (F0 m 5 ls []) := by
    clear hl
    intro n9_5
    induction n9_5 with
    | zero =>
      intro v4_5 v3_5 ls iv4_5 hl hm5
      exact (fu_0 iv4_5 hm5).elim
    | succ n9_5 ih5 =>
      intro v4_5 v3_5 ls iv4_5 hl hm5
      refine lv_iload hx hb dX10_roadAt_5 (lv_at hl 0 rfl) ?_
      refine lv_aload_n hx hb dX10_roadAt_7 rfl (lv_at hl 2 rfl) ?_
      refine va_get (D := D) (ci := 10) (v := .ref (a 1)) (C := RX10) (T := TX10) (N := 38) hx hb hT in_X10 hown hK hP 0 mw_0 rfl 1 (by decide) (hT _ t1263) (fun _ h9 => h9) rfl dX10_roadAt_8 ?_
      refine lv_iconst (v := 2) hx hb dX10_roadAt_11 (by decide) ?_
      refine va_iald hx hb hK hP 1 0 mw_1 rfl (by unfold vp_in; decide) dX10_roadAt_12 ?_
      refine k_top (y := (st 1 2)) rfl ?_
      have h190 : Iv 0 8 (st 1 2) := (tok_at (hw).1 2 0 8 (by decide) (by decide) (by decide))
      refine lv_icmp_ge (tgt := 45) hx hb dX10_roadAt_13 (by decide) (fun c191 => ?_) (fun c191 => ?_)
      · skip
        have n192 : (st 1 2).toInt ≤ v4_5.toInt := (i_le c191)
        refine lv_iconst (v := (-1)) hx hb dX10_roadAt_45 (by decide) ?_
        rw [hQ]
        exact W.iret (v := (-1)) hx hb hr (fun t ht hW => ⟨(-1), rfl, ⟨(iv_mono (c := (-1)) (d := 7) (iv_c (by decide) : Iv (-1) (-1) (-1)) (by decide) (by decide)), trivial⟩, ht⟩) (fun _ h9 => by cases h9) dX10_roadAt_46
      · skip
        have n193 : v4_5.toInt < (st 1 2).toInt := (i_nle c191)
        have h194 : Iv 0 7 v4_5 := lt_l iv4_5 n193 h190 (by decide)
        have h195 : Iv 1 8 (st 1 2) := lt_r iv4_5 n193 h190 (by decide)
        refine lv_aload_n hx hb dX10_roadAt_16 rfl (lv_at hl 2 rfl) ?_
        refine lv_iload hx hb dX10_roadAt_17 (lv_at hl 0 rfl) ?_
        refine lv_iload_n hx hb dX10_roadAt_19 rfl (lv_at hl 3 rfl) ?_
        refine ro_V (As := [.int v4_5, .int p0]) (rest := []) S (m_X10_isOf l D k a st sl  v4_5 p0 _  hB h194 hw) lkX10_93 ok_X10_isOf ⟨rfl, rfl, Nat.le_of_ble_eq_true rfl, Nat.le_of_ble_eq_true rfl⟩ (pw_V (ci := 10) (q0 := 0) hK hN rfl mw_0 hP hD0) rfl hl.1 rfl (Nat.le_of_ble_eq_true rfl) ⟨Nat.zero_le _, Nat.zero_le _⟩ dX10_roadAt_20 (fun r196 er196 => ?_)
        rcases er196 with ⟨rfl, g9⟩ | ⟨rfl, g9⟩
        · skip
          have g197 := g9
          have h198 : Iv 0 5 p0 := g197.1
          have k199 := g197.2
          refine lv_if_ne (tgt := 29) hx hb dX10_roadAt_23 (by decide) (fun c200 => ?_) (fun c200 => ?_)
          rotate_left
          · first | exact absurd c200 (by decide) | exact absurd (by decide) c200
          refine lv_iload_n hx hb dX10_roadAt_29 rfl (lv_at hl 1 rfl) ?_
          refine lv_if_ne (tgt := 36) hx hb dX10_roadAt_30 (by decide) (fun c201 => ?_) (fun c201 => ?_)
          · skip
            obtain ⟨z202, ez202⟩ : ∃ z9 : Int32, z9 = v3_5 + Int32.ofInt (-1) := ⟨_, rfl⟩
            refine lv_iinc (v := z202) (lv' := [(3, .int z202), (4, .int v4_5), (0, .ref (a 0)), (1, .int p0), (2, .int p1)]) hx hb dX10_roadAt_36 hl (k := 1) rfl ez202.symm (by decide) rfl (fun ls hl => ?_)
            obtain ⟨z203, ez203⟩ : ∃ z9 : Int32, z9 = v4_5 + Int32.ofInt 1 := ⟨_, rfl⟩
            have h204 : Iv 1 8 z203 := iv_inc ez203 h194 (by decide) (by decide) (by decide) (by decide) (by decide) (by decide)
            refine lv_iinc (v := z203) (lv' := [(4, .int z203), (3, .int z202), (0, .ref (a 0)), (1, .int p0), (2, .int p1)]) hx hb dX10_roadAt_39 hl (k := 1) rfl ez203.symm (by decide) rfl (fun ls hl => ?_)
            refine lv_goto (tgt := 5) hx hb dX10_roadAt_42 (by decide) ?_
            exact ih5 z203 z202 _ (iv_mono (c := 0) (d := 8) h204 (by decide) (by decide)) (lv_sub hl [0, 1, 2, 3, 4] rfl) (fu_s (lo := 0) (ti_inc ez203 h194 (by decide) (by decide) (by decide) (by decide)) (by decide) hm5)
          · skip
            have h205 : Iv 0 0 v3_5 := eq_l c201 (iv_c (by decide) : Iv 0 0 0)
            refine lv_iload hx hb dX10_roadAt_33 (lv_at hl 0 rfl) ?_
            rw [hQ]
            exact W.iret (v := v4_5) hx hb hr (fun t ht hW => ⟨v4_5, rfl, ⟨(iv_mono (c := (-1)) (d := 7) h194 (by decide) (by decide)), trivial⟩, ht⟩) (fun _ h9 => by cases h9) dX10_roadAt_35
        · skip
          have g206 := g9
          have k207 := g206
          refine lv_if_ne (tgt := 29) hx hb dX10_roadAt_23 (by decide) (fun c208 => ?_) (fun c208 => ?_)
          · first | exact absurd c208 (by decide) | exact absurd (by decide) c208
          refine lv_goto (tgt := 39) hx hb dX10_roadAt_26 (by decide) ?_
          obtain ⟨z209, ez209⟩ : ∃ z9 : Int32, z9 = v4_5 + Int32.ofInt 1 := ⟨_, rfl⟩
          have h210 : Iv 1 8 z209 := iv_inc ez209 h194 (by decide) (by decide) (by decide) (by decide) (by decide) (by decide)
          refine lv_iinc (v := z209) (lv' := [(4, .int z209), (3, .int v3_5), (0, .ref (a 0)), (1, .int p0), (2, .int p1)]) hx hb dX10_roadAt_39 hl (k := 0) rfl ez209.symm (by decide) rfl (fun ls hl => ?_)
          refine lv_goto (tgt := 5) hx hb dX10_roadAt_42 (by decide) ?_
          exact ih5 z209 v3_5 _ (iv_mono (c := 0) (d := 8) h210 (by decide) (by decide)) (lv_sub hl [0, 1, 2, 3, 4] rfl) (fu_s (lo := 0) (ti_inc ez209 h194 (by decide) (by decide) (by decide) (by decide)) (by decide) hm5)
  exact lp5 9 0 p1 _ (iv_mono (c := 0) (d := 8) (iv_c (by decide) : Iv 0 0 0) (by decide) (by decide)) (lv_sub hl [0, 1, 2, 3, 4] rfl) (fu_i (iv_mono (c := 0) (d := 8) (iv_c (by decide) : Iv 0 0 0) (by decide) (by decide)) (by decide))
set_option maxHeartbeats 4000000 in
set_option maxRecDepth 100000 in
theorem m_X10_goDrawn (l : Launch) (D : va_G) (k : Nat → ClassId) (a : Nat → Nat) (st : CT) (sl : CL) (p0 : Int64) (p1 : Int32) (p2 : Int32) (sz : Nat) (hB : MB st) (hp1 : Iv 0 2 p1) (hp2 : Iv 0 40 p2) (hw : WOK (st 1)) : Met l yX10_goDrawn (.code yX10_goDrawn cX10_goDrawn 9 none :: TB) (rmw 8 0 0) (va_Pc [.ref (a 0), .long p0, .int p1, .int p2] (PW D k sz (MWS k a st sl))) (QV D (S := CT) (fun u => MB u ∧ FR [7, 9, 8, 10, 11, 0] st u ∧ u 0 0 = st 0 0 ∧ u 0 5 = st 0 5 ∧ u 0 7 = st 0 7 ∧ u 0 8 = st 0 8 ∧ u 0 9 = st 0 9 ∧ u 0 10 = st 0 10 ∧ u 0 11 = st 0 11 ∧ u 0 12 = st 0 12 ∧ u 0 13 = st 0 13 ∧ u 0 20 = st 0 20 ∧ u 0 21 = st 0 21 ∧ u 0 22 = st 0 22 ∧ u 0 26 = st 0 26 ∧ u 0 27 = st 0 27 ∧ u 0 29 = st 0 29 ∧ u 0 31 = st 0 31 ∧ (True)) (fun u => MWS k a u sl) (fun _ => []) (MWS k a st sl) sz) 0 0 (va_A (MWS k a st sl) sz) := by
  refine Met.ofW (cc := cX10_goDrawn) (maxL := 9) (ret := none) (by decide) rfl ?_
  intro p e s m args below meth c s₁ B hml hv
  obtain ⟨rfl, hsz, hP, hK, hD0, hN⟩ := hv
  have hx := B.exec
  have hb := B.bytes
  have hr := B.returns
  have hT : ∀ w9 ∈ TB, w9.before ([.ref (a 0), .long p0, .int p1, .int p2] : List Value).toArray s = true := fun w9 h => atoms_spec (ws := .code yX10_goDrawn cX10_goDrawn 9 none :: TB) B.pre w9 (List.mem_cons_of_mem _ h)
  have hown : s.vm.findClass RX10 = some m.cls := findClass_of_methodNamed B.named
  have S : CallFix p m c cX10_goDrawn 9 s _ TB RX10 := ⟨hx, hb, hml, hown, hT⟩
  subst hsz
  have hD := hD0.self (sz := s.heap.size)
  generalize hAe : va_A (MWS k a st sl) s.heap.size = A at hD ⊢
  have hA : ∀ q : Nat, s.heap.size ≤ q → A q := fun q h => by rw [← hAe]; exact Or.inr h
  have hS : va_S A s.heap s.heap [] := va_S.rf
  have hl := lv_entry ([.ref (a 0), .long p0, .int p1, .int p2]) (n := 9) (Nat.le_of_ble_eq_true rfl)
  rw [lg_entry_eq]
  generalize (lg_sl ([.ref (a 0), .long p0, .int p1, .int p2]) ++ List.replicate (9 - (lg_sl ([.ref (a 0), .long p0, .int p1, .int p2])).length) Slot.unset).toArray = ls at hl ⊢
  have hl : lv_has ls 9 [(0, .ref (a 0)), (1, .long p0), (3, .int p1), (4, .int p2)] := hl
  refine nameQ (fun Q hQ => ?_)
  refine lv_aload_n hx hb dX10_goDrawn_0 rfl (lv_at hl 0 rfl) ?_
  refine ca_v hP hD hS hA (fun hDc => run_V (mc := 0) (ms := 0) (As := []) (rest := []) S (m_X10_asItIs l D k a st sl   _  hB  hw) lkX10_273 ok_X10_asItIs ⟨rfl, rfl, Nat.le_of_ble_eq_true rfl, Nat.le_of_ble_eq_true rfl⟩ (pw_V (ci := 10) (q0 := 0) hK hN rfl mw_0 hP hDc) rfl hl.1 rfl (Nat.le_of_ble_eq_true rfl) ⟨Nat.zero_le _, Nat.zero_le _⟩ dX10_goDrawn_1) (fun s1 H9 locs9 hs1 hP9 hD9 hS9 => ?_)
  clear hP hD hS
  have hS := hS9
  have hP := hP9
  have hD := hD9
  clear hP9 hD9 hS9
  obtain ⟨hBs1, gs1, fs1⟩ := hs1
  have hFs1 : FR [7, 9, 8, 10, 11, 0] st s1 := fr_ca fr_rf gs1 (sub_1 (List.mem_of_getElem? (i := 0) rfl) (sub_1 (List.mem_of_getElem? (i := 1) rfl) (sub_1 (List.mem_of_getElem? (i := 2) rfl) (sub_1 (List.mem_of_getElem? (i := 3) rfl) (sub_1 (List.mem_of_getElem? (i := 4) rfl) sub_0)))))
  refine lv_aload_n hx hb dX10_goDrawn_4 rfl (lv_at hl 0 rfl) ?_
  refine va_get (D := D) (ci := 10) (v := .ref (a 11)) (C := RX10) (T := TX10) (N := 38) hx hb hT in_X10 hown hK hP 0 mw_0 rfl 19 (by decide) (hT _ t1281) (fun _ h9 => h9) rfl dX10_goDrawn_5 ?_
  refine lv_iload_n hx hb dX10_goDrawn_8 rfl (lv_at hl 2 rfl) ?_
  refine lv_iconst (v := 0) hx hb dX10_goDrawn_9 (by decide) ?_
  refine c_ist hx hb hK hP hD hS mw_11 ms_11 (iv_in hp1 (by decide) (by decide)) dX10_goDrawn_10 (fun s3 H9 locs9 es3 hP9 hD9 hS9 => ?_)
  clear hP hD hS
  have hS := hS9
  have hP := hP9
  have hD := hD9
  clear hP9 hD9 hS9
  have hBs3 : MB s3 := by rw [es3]; exact mb_sw hBs1 trivial
  have hFs3 : FR [7, 9, 8, 10, 11, 0] st s3 := fr_sw hFs1 (List.mem_of_getElem? (i := 4) rfl) es3
  refine lv_aload_n hx hb dX10_goDrawn_11 rfl (lv_at hl 0 rfl) ?_
  refine lv_iconst (v := 0) hx hb dX10_goDrawn_12 (by decide) ?_
  refine c_put (ci := 10) (C := RX10) (T := TX10) (N := 38) (j := 33) (v := 0) hx hb hT in_X10 tyX10 tyX10_ok nmX10 hown hK hP hD hS mw_0 rfl (by decide) (hT _ t1295) (by decide +kernel) (by decide +kernel) rfl rfl (Nat.le_of_ble_eq_true rfl) (ms_0 (upd (s3 0) 33 0)) dX10_goDrawn_13 (fun s4 H9 locs9 es4 hP9 hD9 hS9 => ?_)
  clear hP hD hS
  have hS := hS9
  have hP := hP9
  have hD := hD9
  clear hP9 hD9 hS9
  have hBs4 : MB s4 := by rw [es4]; exact mb_sw hBs3 (mi_1_33 (hBs3 0))
  have hFs4 : FR [7, 9, 8, 10, 11, 0] st s4 := fr_sw hFs3 (List.mem_of_getElem? (i := 5) rfl) es4
  refine lv_lload_n hx hb dX10_goDrawn_16 rfl (lv_at hl 1 rfl) ?_
  refine lv_lstore (lv' := [(5, .long p0), (0, .ref (a 0)), (1, .long p0), (3, .int p1), (4, .int p2)]) hx hb dX10_goDrawn_17 hl (by decide) rfl (fun ls hl => ?_)
  refine lv_iconst (v := 0) hx hb dX10_goDrawn_19 (by decide) ?_
  refine lv_istore (lv' := [(7, .int 0), (5, .long p0), (0, .ref (a 0)), (1, .long p0), (3, .int p1), (4, .int p2)]) hx hb dX10_goDrawn_20 hl (by decide) rfl (fun ls hl => ?_)
  have lp22 : ∀ (n9_22 : Nat) (v7_22 : Int32) (v5_22 : Int64) (t22 : CT) (H9 : Heap) (locs9 : List Loc) (ls : Array Slot), Iv 0 40 v7_22 → MB t22 → FR [8, 7, 10, 11, 0] s4 t22 → t22 0 0 = s4 0 0 → t22 0 5 = s4 0 5 → t22 0 7 = s4 0 7 → t22 0 8 = s4 0 8 → t22 0 9 = s4 0 9 → t22 0 10 = s4 0 10 → t22 0 11 = s4 0 11 → t22 0 12 = s4 0 12 → t22 0 13 = s4 0 13 → t22 0 20 = s4 0 20 → t22 0 21 = s4 0 21 → t22 0 22 = s4 0 22 → t22 0 26 = s4 0 26 → t22 0 27 = s4 0 27 → t22 0 29 = s4 0 29 → t22 0 31 = s4 0 31 → va_P D vwCl (MWS k a t22 sl) H9 → va_D A (MWS k a t22 sl) → va_S A s.heap H9 locs9 → lv_has ls 9 [(7, .int v7_22), (5, .long v5_22), (0, .ref (a 0)), (1, .long p0), (3, .int p1), (4, .int p2)] → (40 : Int) - v7_22.toInt < (n9_22 : Int) → W p l e (rmw 8 0 0) s m ([.ref (a 0), .long p0, .int p1, .int p2] : List Value).toArray below meth c H9 locs9 0 0 Q (F0 m 22 ls []) := by
    clear hl hP hD hS
    intro n9_22
    induction n9_22 with
    | zero =>
      intro v7_22 v5_22 t22 H9 locs9 ls iv7_22 hBt22 gt22 qt22_0 qt22_1 qt22_2 qt22_3 qt22_4 qt22_5 qt22_6 qt22_7 qt22_8 qt22_9 qt22_10 qt22_11 qt22_12 qt22_13 qt22_14 qt22_15 hP hD hS hl hm22
      exact (fu_0 iv7_22 hm22).elim
    | succ n9_22 ih22 =>
      intro v7_22 v5_22 t22 H9 locs9 ls iv7_22 hBt22 gt22 qt22_0 qt22_1 qt22_2 qt22_3 qt22_4 qt22_5 qt22_6 qt22_7 qt22_8 qt22_9 qt22_10 qt22_11 qt22_12 qt22_13 qt22_14 qt22_15 hP hD hS hl hm22
      have hFt22 : FR [7, 9, 8, 10, 11, 0] st t22 := fr_ca hFs4 gt22 (sub_1 (List.mem_of_getElem? (i := 2) rfl) (sub_1 (List.mem_of_getElem? (i := 0) rfl) (sub_1 (List.mem_of_getElem? (i := 3) rfl) (sub_1 (List.mem_of_getElem? (i := 4) rfl) (sub_1 (List.mem_of_getElem? (i := 5) rfl) sub_0)))))
      refine lv_iload hx hb dX10_goDrawn_22 (lv_at hl 0 rfl) ?_
      refine lv_iload hx hb dX10_goDrawn_24 (lv_at hl 5 rfl) ?_
      refine lv_icmp_ge (tgt := 124) hx hb dX10_goDrawn_26 (by decide) (fun c649 => ?_) (fun c649 => ?_)
      · skip
        have n650 : p2.toInt ≤ v7_22.toInt := (i_le c649)
        rw [hQ]
        exact W.vret hx hb hr (fun t ht hW => ⟨⟨t22, rfl, ⟨hBt22, hFt22, (Eq.trans qt22_0 (Eq.trans (congrFun (sw_it es4) 0) (Eq.trans (congrFun (sw_at es3 (by decide)) 0) (congrFun (gs1 0 (nm_1 (by decide) (nm_1 (by decide) (nm_1 (by decide) (nm_1 (by decide) (nm_1 (by decide) nm_0)))))) 0)))), (Eq.trans qt22_1 (Eq.trans (congrFun (sw_it es4) 5) (Eq.trans (congrFun (sw_at es3 (by decide)) 5) (congrFun (gs1 0 (nm_1 (by decide) (nm_1 (by decide) (nm_1 (by decide) (nm_1 (by decide) (nm_1 (by decide) nm_0)))))) 5)))), (Eq.trans qt22_2 (Eq.trans (congrFun (sw_it es4) 7) (Eq.trans (congrFun (sw_at es3 (by decide)) 7) (congrFun (gs1 0 (nm_1 (by decide) (nm_1 (by decide) (nm_1 (by decide) (nm_1 (by decide) (nm_1 (by decide) nm_0)))))) 7)))), (Eq.trans qt22_3 (Eq.trans (congrFun (sw_it es4) 8) (Eq.trans (congrFun (sw_at es3 (by decide)) 8) (congrFun (gs1 0 (nm_1 (by decide) (nm_1 (by decide) (nm_1 (by decide) (nm_1 (by decide) (nm_1 (by decide) nm_0)))))) 8)))), (Eq.trans qt22_4 (Eq.trans (congrFun (sw_it es4) 9) (Eq.trans (congrFun (sw_at es3 (by decide)) 9) (congrFun (gs1 0 (nm_1 (by decide) (nm_1 (by decide) (nm_1 (by decide) (nm_1 (by decide) (nm_1 (by decide) nm_0)))))) 9)))), (Eq.trans qt22_5 (Eq.trans (congrFun (sw_it es4) 10) (Eq.trans (congrFun (sw_at es3 (by decide)) 10) (congrFun (gs1 0 (nm_1 (by decide) (nm_1 (by decide) (nm_1 (by decide) (nm_1 (by decide) (nm_1 (by decide) nm_0)))))) 10)))), (Eq.trans qt22_6 (Eq.trans (congrFun (sw_it es4) 11) (Eq.trans (congrFun (sw_at es3 (by decide)) 11) (congrFun (gs1 0 (nm_1 (by decide) (nm_1 (by decide) (nm_1 (by decide) (nm_1 (by decide) (nm_1 (by decide) nm_0)))))) 11)))), (Eq.trans qt22_7 (Eq.trans (congrFun (sw_it es4) 12) (Eq.trans (congrFun (sw_at es3 (by decide)) 12) (congrFun (gs1 0 (nm_1 (by decide) (nm_1 (by decide) (nm_1 (by decide) (nm_1 (by decide) (nm_1 (by decide) nm_0)))))) 12)))), (Eq.trans qt22_8 (Eq.trans (congrFun (sw_it es4) 13) (Eq.trans (congrFun (sw_at es3 (by decide)) 13) (congrFun (gs1 0 (nm_1 (by decide) (nm_1 (by decide) (nm_1 (by decide) (nm_1 (by decide) (nm_1 (by decide) nm_0)))))) 13)))), (Eq.trans qt22_9 (Eq.trans (congrFun (sw_it es4) 20) (Eq.trans (congrFun (sw_at es3 (by decide)) 20) (congrFun (gs1 0 (nm_1 (by decide) (nm_1 (by decide) (nm_1 (by decide) (nm_1 (by decide) (nm_1 (by decide) nm_0)))))) 20)))), (Eq.trans qt22_10 (Eq.trans (congrFun (sw_it es4) 21) (Eq.trans (congrFun (sw_at es3 (by decide)) 21) (congrFun (gs1 0 (nm_1 (by decide) (nm_1 (by decide) (nm_1 (by decide) (nm_1 (by decide) (nm_1 (by decide) nm_0)))))) 21)))), (Eq.trans qt22_11 (Eq.trans (congrFun (sw_it es4) 22) (Eq.trans (congrFun (sw_at es3 (by decide)) 22) (congrFun (gs1 0 (nm_1 (by decide) (nm_1 (by decide) (nm_1 (by decide) (nm_1 (by decide) (nm_1 (by decide) nm_0)))))) 22)))), (Eq.trans qt22_12 (Eq.trans (congrFun (sw_it es4) 26) (Eq.trans (congrFun (sw_at es3 (by decide)) 26) (congrFun (gs1 0 (nm_1 (by decide) (nm_1 (by decide) (nm_1 (by decide) (nm_1 (by decide) (nm_1 (by decide) nm_0)))))) 26)))), (Eq.trans qt22_13 (Eq.trans (congrFun (sw_it es4) 27) (Eq.trans (congrFun (sw_at es3 (by decide)) 27) (congrFun (gs1 0 (nm_1 (by decide) (nm_1 (by decide) (nm_1 (by decide) (nm_1 (by decide) (nm_1 (by decide) nm_0)))))) 27)))), (Eq.trans qt22_14 (Eq.trans (congrFun (sw_it es4) 29) (Eq.trans (congrFun (sw_at es3 (by decide)) 29) (congrFun (gs1 0 (nm_1 (by decide) (nm_1 (by decide) (nm_1 (by decide) (nm_1 (by decide) (nm_1 (by decide) nm_0)))))) 29)))), (Eq.trans qt22_15 (Eq.trans (congrFun (sw_it es4) 31) (Eq.trans (congrFun (sw_at es3 (by decide)) 31) (congrFun (gs1 0 (nm_1 (by decide) (nm_1 (by decide) (nm_1 (by decide) (nm_1 (by decide) (nm_1 (by decide) nm_0)))))) 31)))), trivial⟩, by rw [ht]; exact hP, va_K.moved hW.alike (hK.sub (tys' := []) [] rfl), by rw [hAe]; exact hD⟩, by rw [hAe]; exact hS.F ht⟩) hS.2.2 dX10_goDrawn_124
      · skip
        have n651 : v7_22.toInt < p2.toInt := (i_nle c649)
        have h652 : Iv 0 39 v7_22 := lt_l iv7_22 n651 hp2 (by decide)
        have h653 : Iv 1 40 p2 := lt_r iv7_22 n651 hp2 (by decide)
        refine lv_aload_n hx hb dX10_goDrawn_29 rfl (lv_at hl 2 rfl) ?_
        refine lv_aload_n hx hb dX10_goDrawn_30 rfl (lv_at hl 2 rfl) ?_
        refine va_get (D := D) (ci := 10) (v := .ref (a 10)) (C := RX10) (T := TX10) (N := 38) hx hb hT in_X10 hown hK hP 0 mw_0 rfl 18 (by decide) (hT _ t1280) (fun _ h9 => h9) rfl dX10_goDrawn_31 ?_
        refine lv_iload_n hx hb dX10_goDrawn_34 rfl (lv_at hl 4 rfl) ?_
        refine va_iald hx hb hK hP 10 0 mw_10 rfl (iv_in hp1 (by decide) (by decide)) dX10_goDrawn_35 ?_
        refine k_top (y := (t22 10 p1.toNatClampNeg)) rfl ?_
        refine ro_V (As := [.int (t22 10 p1.toNatClampNeg)]) (rest := []) S (m_X10_roadsOf l D k a t22 sl  (t22 10 p1.toNatClampNeg) _  hBt22  (wok_of (hFt22 1 (nm_1 (by decide) (nm_1 (by decide) (nm_1 (by decide) (nm_1 (by decide) (nm_1 (by decide) (nm_1 (by decide) nm_0))))))) hw)) lkX10_285 ok_X10_roadsOf ⟨rfl, rfl, Nat.le_of_ble_eq_true rfl, Nat.le_of_ble_eq_true rfl⟩ (pw_V (ci := 10) (q0 := 0) hK hN rfl mw_0 hP (hD.weaken (fun _ _ _ _ => trivial))) rfl hl.1 rfl (Nat.le_of_ble_eq_true rfl) ⟨Nat.zero_le _, Nat.zero_le _⟩ dX10_goDrawn_36 (fun r654 er654 => ?_)
        have h655 : Iv 0 255 r654 := er654.1
        have k656 := er654.2
        rw [(hFt22 1 (nm_1 (by decide) (nm_1 (by decide) (nm_1 (by decide) (nm_1 (by decide) (nm_1 (by decide) (nm_1 (by decide) nm_0)))))))] at k656
        refine lv_if_eq (tgt := 124) hx hb dX10_goDrawn_39 (by decide) (fun c657 => ?_) (fun c657 => ?_)
        · skip
          have h658 : Iv 0 0 r654 := eq_l c657 (iv_c (by decide) : Iv 0 0 0)
          rw [hQ]
          exact W.vret hx hb hr (fun t ht hW => ⟨⟨t22, rfl, ⟨hBt22, hFt22, (Eq.trans qt22_0 (Eq.trans (congrFun (sw_it es4) 0) (Eq.trans (congrFun (sw_at es3 (by decide)) 0) (congrFun (gs1 0 (nm_1 (by decide) (nm_1 (by decide) (nm_1 (by decide) (nm_1 (by decide) (nm_1 (by decide) nm_0)))))) 0)))), (Eq.trans qt22_1 (Eq.trans (congrFun (sw_it es4) 5) (Eq.trans (congrFun (sw_at es3 (by decide)) 5) (congrFun (gs1 0 (nm_1 (by decide) (nm_1 (by decide) (nm_1 (by decide) (nm_1 (by decide) (nm_1 (by decide) nm_0)))))) 5)))), (Eq.trans qt22_2 (Eq.trans (congrFun (sw_it es4) 7) (Eq.trans (congrFun (sw_at es3 (by decide)) 7) (congrFun (gs1 0 (nm_1 (by decide) (nm_1 (by decide) (nm_1 (by decide) (nm_1 (by decide) (nm_1 (by decide) nm_0)))))) 7)))), (Eq.trans qt22_3 (Eq.trans (congrFun (sw_it es4) 8) (Eq.trans (congrFun (sw_at es3 (by decide)) 8) (congrFun (gs1 0 (nm_1 (by decide) (nm_1 (by decide) (nm_1 (by decide) (nm_1 (by decide) (nm_1 (by decide) nm_0)))))) 8)))), (Eq.trans qt22_4 (Eq.trans (congrFun (sw_it es4) 9) (Eq.trans (congrFun (sw_at es3 (by decide)) 9) (congrFun (gs1 0 (nm_1 (by decide) (nm_1 (by decide) (nm_1 (by decide) (nm_1 (by decide) (nm_1 (by decide) nm_0)))))) 9)))), (Eq.trans qt22_5 (Eq.trans (congrFun (sw_it es4) 10) (Eq.trans (congrFun (sw_at es3 (by decide)) 10) (congrFun (gs1 0 (nm_1 (by decide) (nm_1 (by decide) (nm_1 (by decide) (nm_1 (by decide) (nm_1 (by decide) nm_0)))))) 10)))), (Eq.trans qt22_6 (Eq.trans (congrFun (sw_it es4) 11) (Eq.trans (congrFun (sw_at es3 (by decide)) 11) (congrFun (gs1 0 (nm_1 (by decide) (nm_1 (by decide) (nm_1 (by decide) (nm_1 (by decide) (nm_1 (by decide) nm_0)))))) 11)))), (Eq.trans qt22_7 (Eq.trans (congrFun (sw_it es4) 12) (Eq.trans (congrFun (sw_at es3 (by decide)) 12) (congrFun (gs1 0 (nm_1 (by decide) (nm_1 (by decide) (nm_1 (by decide) (nm_1 (by decide) (nm_1 (by decide) nm_0)))))) 12)))), (Eq.trans qt22_8 (Eq.trans (congrFun (sw_it es4) 13) (Eq.trans (congrFun (sw_at es3 (by decide)) 13) (congrFun (gs1 0 (nm_1 (by decide) (nm_1 (by decide) (nm_1 (by decide) (nm_1 (by decide) (nm_1 (by decide) nm_0)))))) 13)))), (Eq.trans qt22_9 (Eq.trans (congrFun (sw_it es4) 20) (Eq.trans (congrFun (sw_at es3 (by decide)) 20) (congrFun (gs1 0 (nm_1 (by decide) (nm_1 (by decide) (nm_1 (by decide) (nm_1 (by decide) (nm_1 (by decide) nm_0)))))) 20)))), (Eq.trans qt22_10 (Eq.trans (congrFun (sw_it es4) 21) (Eq.trans (congrFun (sw_at es3 (by decide)) 21) (congrFun (gs1 0 (nm_1 (by decide) (nm_1 (by decide) (nm_1 (by decide) (nm_1 (by decide) (nm_1 (by decide) nm_0)))))) 21)))), (Eq.trans qt22_11 (Eq.trans (congrFun (sw_it es4) 22) (Eq.trans (congrFun (sw_at es3 (by decide)) 22) (congrFun (gs1 0 (nm_1 (by decide) (nm_1 (by decide) (nm_1 (by decide) (nm_1 (by decide) (nm_1 (by decide) nm_0)))))) 22)))), (Eq.trans qt22_12 (Eq.trans (congrFun (sw_it es4) 26) (Eq.trans (congrFun (sw_at es3 (by decide)) 26) (congrFun (gs1 0 (nm_1 (by decide) (nm_1 (by decide) (nm_1 (by decide) (nm_1 (by decide) (nm_1 (by decide) nm_0)))))) 26)))), (Eq.trans qt22_13 (Eq.trans (congrFun (sw_it es4) 27) (Eq.trans (congrFun (sw_at es3 (by decide)) 27) (congrFun (gs1 0 (nm_1 (by decide) (nm_1 (by decide) (nm_1 (by decide) (nm_1 (by decide) (nm_1 (by decide) nm_0)))))) 27)))), (Eq.trans qt22_14 (Eq.trans (congrFun (sw_it es4) 29) (Eq.trans (congrFun (sw_at es3 (by decide)) 29) (congrFun (gs1 0 (nm_1 (by decide) (nm_1 (by decide) (nm_1 (by decide) (nm_1 (by decide) (nm_1 (by decide) nm_0)))))) 29)))), (Eq.trans qt22_15 (Eq.trans (congrFun (sw_it es4) 31) (Eq.trans (congrFun (sw_at es3 (by decide)) 31) (congrFun (gs1 0 (nm_1 (by decide) (nm_1 (by decide) (nm_1 (by decide) (nm_1 (by decide) (nm_1 (by decide) nm_0)))))) 31)))), trivial⟩, by rw [ht]; exact hP, va_K.moved hW.alike (hK.sub (tys' := []) [] rfl), by rw [hAe]; exact hD⟩, by rw [hAe]; exact hS.F ht⟩) hS.2.2 dX10_goDrawn_124
        · skip
          have h659 : Iv 1 255 r654 := ne_lo h655 c657 (by decide) (by decide)
          refine lv_ldc2 (v := 1103515245) hx hb hown (hT _ t1902) dX10_goDrawn_42 ?_
          refine lv_lload hx hb dX10_goDrawn_45 (lv_at hl 1 rfl) ?_
          refine lv_lmul hx hb dX10_goDrawn_47 ?_
          refine lv_topl (fun z660 ez660 => ?_)
          refine lv_ldc2 (v := 12345) hx hb hown (hT _ t1903) dX10_goDrawn_48 ?_
          refine lv_ladd hx hb dX10_goDrawn_51 ?_
          refine lv_topl (fun z661 ez661 => ?_)
          refine lv_ldc2 (v := 2147483648) hx hb hown (hT _ t1904) dX10_goDrawn_52 ?_
          refine lv_lrem hx hb dX10_goDrawn_55 (by decide) ?_
          refine lv_topl (fun z662 ez662 => ?_)
          refine lv_lstore (lv' := [(5, .long z662), (7, .int v7_22), (0, .ref (a 0)), (1, .long p0), (3, .int p1), (4, .int p2)]) hx hb dX10_goDrawn_56 hl (by decide) rfl (fun ls hl => ?_)
          refine lv_aload_n hx hb dX10_goDrawn_58 rfl (lv_at hl 2 rfl) ?_
          refine lv_aload_n hx hb dX10_goDrawn_59 rfl (lv_at hl 2 rfl) ?_
          refine va_get (D := D) (ci := 10) (v := .ref (a 10)) (C := RX10) (T := TX10) (N := 38) hx hb hT in_X10 hown hK hP 0 mw_0 rfl 18 (by decide) (hT _ t1280) (fun _ h9 => h9) rfl dX10_goDrawn_60 ?_
          refine lv_iload_n hx hb dX10_goDrawn_63 rfl (lv_at hl 4 rfl) ?_
          refine va_iald hx hb hK hP 10 0 mw_10 rfl (iv_in hp1 (by decide) (by decide)) dX10_goDrawn_64 ?_
          refine k_top (y := (t22 10 p1.toNatClampNeg)) rfl ?_
          refine lv_lload hx hb dX10_goDrawn_65 (lv_at hl 0 rfl) ?_
          refine lv_ldc2 (v := 65536) hx hb hown (hT _ t1905) dX10_goDrawn_67 ?_
          refine lv_ldiv hx hb dX10_goDrawn_70 (by decide) ?_
          refine lv_topl (fun z663 ez663 => ?_)
          refine lv_aload_n hx hb dX10_goDrawn_71 rfl (lv_at hl 2 rfl) ?_
          refine lv_aload_n hx hb dX10_goDrawn_72 rfl (lv_at hl 2 rfl) ?_
          refine va_get (D := D) (ci := 10) (v := .ref (a 10)) (C := RX10) (T := TX10) (N := 38) hx hb hT in_X10 hown hK hP 0 mw_0 rfl 18 (by decide) (hT _ t1280) (fun _ h9 => h9) rfl dX10_goDrawn_73 ?_
          refine lv_iload_n hx hb dX10_goDrawn_76 rfl (lv_at hl 4 rfl) ?_
          refine va_iald hx hb hK hP 10 0 mw_10 rfl (iv_in hp1 (by decide) (by decide)) dX10_goDrawn_77 ?_
          refine k_top (y := (t22 10 p1.toNatClampNeg)) rfl ?_
          refine ro_V (As := [.int (t22 10 p1.toNatClampNeg)]) (rest := [.long z663, .int (t22 10 p1.toNatClampNeg), .ref (a 0)]) S (m_X10_roadsOf l D k a t22 sl  (t22 10 p1.toNatClampNeg) _  hBt22  (wok_of (hFt22 1 (nm_1 (by decide) (nm_1 (by decide) (nm_1 (by decide) (nm_1 (by decide) (nm_1 (by decide) (nm_1 (by decide) nm_0))))))) hw)) lkX10_285 ok_X10_roadsOf ⟨rfl, rfl, Nat.le_of_ble_eq_true rfl, Nat.le_of_ble_eq_true rfl⟩ (pw_V (ci := 10) (q0 := 0) hK hN rfl mw_0 hP (hD.weaken (fun _ _ _ _ => trivial))) rfl hl.1 rfl (Nat.le_of_ble_eq_true rfl) ⟨Nat.zero_le _, Nat.zero_le _⟩ dX10_goDrawn_78 (fun r664 er664 => ?_)
          have h665 : Iv 0 255 r664 := er664.1
          have k666 := er664.2
          rw [(hFt22 1 (nm_1 (by decide) (nm_1 (by decide) (nm_1 (by decide) (nm_1 (by decide) (nm_1 (by decide) (nm_1 (by decide) nm_0)))))))] at k666
          have h667 : Iv 1 255 r664 := (by rw [show r664 = r654 from k666.trans k656.symm]; exact ⟨(h659).1, by have y9 := (h659).2; omega⟩)
          refine ro_S (As := [.int r664]) (rest := [.long z663, .int (t22 10 p1.toNatClampNeg), .ref (a 0)]) S (m_X10_bits l D k a t22 sl  r664 _  hBt22  ) lkX10_190 ok_X10_bits ⟨rfl, rfl, Nat.le_of_ble_eq_true rfl, Nat.le_of_ble_eq_true rfl⟩ (pw_S hK hN hP (hD.weaken (fun _ _ _ _ => trivial))) rfl hl.1 rfl (Nat.le_of_ble_eq_true rfl) ⟨Nat.zero_le _, Nat.zero_le _⟩ dX10_goDrawn_81 (fun r668 er668 => ?_)
          have k669 := er668
          have h670 : Iv 1 2147483647 r668 := ⟨by rw [k669]; exact bs_nz h667, ((iv_full r668)).2⟩
          refine lv_i2l hx hb dX10_goDrawn_84 rfl ?_
          refine lv_lrem hx hb dX10_goDrawn_85 (l_nz h670 (by decide)) ?_
          refine lv_topl (fun z671 ez671 => ?_)
          refine lv_l2i hx hb dX10_goDrawn_86 rfl ?_
          refine lv_topi (fun z672 ez672 => ?_)
          refine ro_V (As := [.int (t22 10 p1.toNatClampNeg), .int z672]) (rest := []) S (m_X10_roadAt l D k a t22 sl  (t22 10 p1.toNatClampNeg) z672 _  hBt22  (wok_of (hFt22 1 (nm_1 (by decide) (nm_1 (by decide) (nm_1 (by decide) (nm_1 (by decide) (nm_1 (by decide) (nm_1 (by decide) nm_0))))))) hw)) lkX10_419 ok_X10_roadAt ⟨rfl, rfl, Nat.le_of_ble_eq_true rfl, Nat.le_of_ble_eq_true rfl⟩ (pw_V (ci := 10) (q0 := 0) hK hN rfl mw_0 hP (hD.weaken (fun _ _ _ _ => trivial))) rfl hl.1 rfl (Nat.le_of_ble_eq_true rfl) ⟨Nat.zero_le _, Nat.zero_le _⟩ dX10_goDrawn_87 (fun r673 er673 => ?_)
          have h674 : Iv (-1) 7 r673 := er673.1
          refine lv_istore (lv' := [(8, .int r673), (5, .long z662), (7, .int v7_22), (0, .ref (a 0)), (1, .long p0), (3, .int p1), (4, .int p2)]) hx hb dX10_goDrawn_90 hl (by decide) rfl (fun ls hl => ?_)
          refine lv_aload_n hx hb dX10_goDrawn_92 rfl (lv_at hl 3 rfl) ?_
          refine lv_dup hx hb dX10_goDrawn_93 rfl ?_
          refine va_get (D := D) (ci := 10) (v := .int (t22 0 33)) (C := RX10) (T := TX10) (N := 38) hx hb hT in_X10 hown hK hP 0 mw_0 rfl 33 (by decide) (hT _ t1295) (fun _ h9 => h9) rfl dX10_goDrawn_94 ?_
          refine lv_aload_n hx hb dX10_goDrawn_97 rfl (lv_at hl 3 rfl) ?_
          refine lv_iload_n hx hb dX10_goDrawn_98 rfl (lv_at hl 5 rfl) ?_
          refine lv_iload hx hb dX10_goDrawn_99 (lv_at hl 0 rfl) ?_
          refine ca_i hP hD hS hA (fun hDc => run_V (mc := 0) (ms := 0) (As := [.int p1, .int r673]) (rest := [.int (t22 0 33), .ref (a 0)]) S (m_X10_driveBy l D k a t22 sl  p1 r673 _  hBt22 hp1 (wok_of (hFt22 1 (nm_1 (by decide) (nm_1 (by decide) (nm_1 (by decide) (nm_1 (by decide) (nm_1 (by decide) (nm_1 (by decide) nm_0))))))) hw)) lkX10_233 ok_X10_driveBy ⟨rfl, rfl, Nat.le_of_ble_eq_true rfl, Nat.le_of_ble_eq_true rfl⟩ (pw_V (ci := 10) (q0 := 0) hK hN rfl mw_0 hP hDc) rfl hl.1 rfl (Nat.le_of_ble_eq_true rfl) ⟨Nat.zero_le _, Nat.zero_le _⟩ dX10_goDrawn_101) (fun r676 s675 H9 locs9 hs675 hP9 hD9 hS9 => ?_)
          clear hP hD hS
          have hS := hS9
          have hP := hP9
          have hD := hD9
          clear hP9 hD9 hS9
          obtain ⟨hBs675, gs675, fs675⟩ := hs675
          have hFs675 : FR [7, 9, 8, 10, 11, 0] st s675 := fr_ca hFt22 gs675 (sub_1 (List.mem_of_getElem? (i := 2) rfl) (sub_1 (List.mem_of_getElem? (i := 0) rfl) (sub_1 (List.mem_of_getElem? (i := 3) rfl) (sub_1 (List.mem_of_getElem? (i := 4) rfl) sub_0))))
          have h677 : Iv (-1) 7 r676 := fs675.1
          refine lv_iload hx hb dX10_goDrawn_104 (lv_at hl 0 rfl) ?_
          refine lv_icmp_ne (tgt := 113) hx hb dX10_goDrawn_106 (by decide) (fun c678 => ?_) (fun c678 => ?_)
          · skip
            refine lv_iconst (v := 1) hx hb dX10_goDrawn_113 (by decide) ?_
            refine lv_iadd hx hb dX10_goDrawn_114 ?_
            refine lv_topi (fun z679 ez679 => ?_)
            refine c_put (ci := 10) (C := RX10) (T := TX10) (N := 38) (j := 33) (v := z679) hx hb hT in_X10 tyX10 tyX10_ok nmX10 hown hK hP hD hS mw_0 rfl (by decide) (hT _ t1295) (by decide +kernel) (by decide +kernel) rfl rfl (Nat.le_of_ble_eq_true rfl) (ms_0 (upd (s675 0) 33 z679)) dX10_goDrawn_115 (fun s680 H9 locs9 es680 hP9 hD9 hS9 => ?_)
            clear hP hD hS
            have hS := hS9
            have hP := hP9
            have hD := hD9
            clear hP9 hD9 hS9
            have hBs680 : MB s680 := by rw [es680]; exact mb_sw hBs675 (mi_1_33 (hBs675 0))
            have hFs680 : FR [7, 9, 8, 10, 11, 0] st s680 := fr_sw hFs675 (List.mem_of_getElem? (i := 5) rfl) es680
            obtain ⟨z681, ez681⟩ : ∃ z9 : Int32, z9 = v7_22 + Int32.ofInt 1 := ⟨_, rfl⟩
            have h682 : Iv 1 40 z681 := iv_inc ez681 h652 (by decide) (by decide) (by decide) (by decide) (by decide) (by decide)
            refine lv_iinc (v := z681) (lv' := [(7, .int z681), (8, .int r673), (5, .long z662), (0, .ref (a 0)), (1, .long p0), (3, .int p1), (4, .int p2)]) hx hb dX10_goDrawn_118 hl (k := 2) rfl ez681.symm (by decide) rfl (fun ls hl => ?_)
            refine lv_goto (tgt := 22) hx hb dX10_goDrawn_121 (by decide) ?_
            exact ih22 z681 z662 s680 _ _ _ (iv_mono (c := 0) (d := 40) h682 (by decide) (by decide)) hBs680 (fr_sw (fr_ca gt22 gs675 (sub_1 (List.mem_of_getElem? (i := 0) rfl) (sub_1 (List.mem_of_getElem? (i := 1) rfl) (sub_1 (List.mem_of_getElem? (i := 2) rfl) (sub_1 (List.mem_of_getElem? (i := 3) rfl) sub_0))))) (List.mem_of_getElem? (i := 4) rfl) es680) (Eq.trans (Eq.trans (congrFun (sw_it es680) 0) (Eq.trans (congrFun (gs675 0 (nm_1 (by decide) (nm_1 (by decide) (nm_1 (by decide) (nm_1 (by decide) nm_0))))) 0) (Eq.trans qt22_0 (Eq.trans (congrFun (sw_it es4) 0) (Eq.trans (congrFun (sw_at es3 (by decide)) 0) (congrFun (gs1 0 (nm_1 (by decide) (nm_1 (by decide) (nm_1 (by decide) (nm_1 (by decide) (nm_1 (by decide) nm_0)))))) 0)))))) (Eq.symm (Eq.trans (congrFun (sw_it es4) 0) (Eq.trans (congrFun (sw_at es3 (by decide)) 0) (congrFun (gs1 0 (nm_1 (by decide) (nm_1 (by decide) (nm_1 (by decide) (nm_1 (by decide) (nm_1 (by decide) nm_0)))))) 0))))) (Eq.trans (Eq.trans (congrFun (sw_it es680) 5) (Eq.trans (congrFun (gs675 0 (nm_1 (by decide) (nm_1 (by decide) (nm_1 (by decide) (nm_1 (by decide) nm_0))))) 5) (Eq.trans qt22_1 (Eq.trans (congrFun (sw_it es4) 5) (Eq.trans (congrFun (sw_at es3 (by decide)) 5) (congrFun (gs1 0 (nm_1 (by decide) (nm_1 (by decide) (nm_1 (by decide) (nm_1 (by decide) (nm_1 (by decide) nm_0)))))) 5)))))) (Eq.symm (Eq.trans (congrFun (sw_it es4) 5) (Eq.trans (congrFun (sw_at es3 (by decide)) 5) (congrFun (gs1 0 (nm_1 (by decide) (nm_1 (by decide) (nm_1 (by decide) (nm_1 (by decide) (nm_1 (by decide) nm_0)))))) 5))))) (Eq.trans (Eq.trans (congrFun (sw_it es680) 7) (Eq.trans (congrFun (gs675 0 (nm_1 (by decide) (nm_1 (by decide) (nm_1 (by decide) (nm_1 (by decide) nm_0))))) 7) (Eq.trans qt22_2 (Eq.trans (congrFun (sw_it es4) 7) (Eq.trans (congrFun (sw_at es3 (by decide)) 7) (congrFun (gs1 0 (nm_1 (by decide) (nm_1 (by decide) (nm_1 (by decide) (nm_1 (by decide) (nm_1 (by decide) nm_0)))))) 7)))))) (Eq.symm (Eq.trans (congrFun (sw_it es4) 7) (Eq.trans (congrFun (sw_at es3 (by decide)) 7) (congrFun (gs1 0 (nm_1 (by decide) (nm_1 (by decide) (nm_1 (by decide) (nm_1 (by decide) (nm_1 (by decide) nm_0)))))) 7))))) (Eq.trans (Eq.trans (congrFun (sw_it es680) 8) (Eq.trans (congrFun (gs675 0 (nm_1 (by decide) (nm_1 (by decide) (nm_1 (by decide) (nm_1 (by decide) nm_0))))) 8) (Eq.trans qt22_3 (Eq.trans (congrFun (sw_it es4) 8) (Eq.trans (congrFun (sw_at es3 (by decide)) 8) (congrFun (gs1 0 (nm_1 (by decide) (nm_1 (by decide) (nm_1 (by decide) (nm_1 (by decide) (nm_1 (by decide) nm_0)))))) 8)))))) (Eq.symm (Eq.trans (congrFun (sw_it es4) 8) (Eq.trans (congrFun (sw_at es3 (by decide)) 8) (congrFun (gs1 0 (nm_1 (by decide) (nm_1 (by decide) (nm_1 (by decide) (nm_1 (by decide) (nm_1 (by decide) nm_0)))))) 8))))) (Eq.trans (Eq.trans (congrFun (sw_it es680) 9) (Eq.trans (congrFun (gs675 0 (nm_1 (by decide) (nm_1 (by decide) (nm_1 (by decide) (nm_1 (by decide) nm_0))))) 9) (Eq.trans qt22_4 (Eq.trans (congrFun (sw_it es4) 9) (Eq.trans (congrFun (sw_at es3 (by decide)) 9) (congrFun (gs1 0 (nm_1 (by decide) (nm_1 (by decide) (nm_1 (by decide) (nm_1 (by decide) (nm_1 (by decide) nm_0)))))) 9)))))) (Eq.symm (Eq.trans (congrFun (sw_it es4) 9) (Eq.trans (congrFun (sw_at es3 (by decide)) 9) (congrFun (gs1 0 (nm_1 (by decide) (nm_1 (by decide) (nm_1 (by decide) (nm_1 (by decide) (nm_1 (by decide) nm_0)))))) 9))))) (Eq.trans (Eq.trans (congrFun (sw_it es680) 10) (Eq.trans (congrFun (gs675 0 (nm_1 (by decide) (nm_1 (by decide) (nm_1 (by decide) (nm_1 (by decide) nm_0))))) 10) (Eq.trans qt22_5 (Eq.trans (congrFun (sw_it es4) 10) (Eq.trans (congrFun (sw_at es3 (by decide)) 10) (congrFun (gs1 0 (nm_1 (by decide) (nm_1 (by decide) (nm_1 (by decide) (nm_1 (by decide) (nm_1 (by decide) nm_0)))))) 10)))))) (Eq.symm (Eq.trans (congrFun (sw_it es4) 10) (Eq.trans (congrFun (sw_at es3 (by decide)) 10) (congrFun (gs1 0 (nm_1 (by decide) (nm_1 (by decide) (nm_1 (by decide) (nm_1 (by decide) (nm_1 (by decide) nm_0)))))) 10))))) (Eq.trans (Eq.trans (congrFun (sw_it es680) 11) (Eq.trans (congrFun (gs675 0 (nm_1 (by decide) (nm_1 (by decide) (nm_1 (by decide) (nm_1 (by decide) nm_0))))) 11) (Eq.trans qt22_6 (Eq.trans (congrFun (sw_it es4) 11) (Eq.trans (congrFun (sw_at es3 (by decide)) 11) (congrFun (gs1 0 (nm_1 (by decide) (nm_1 (by decide) (nm_1 (by decide) (nm_1 (by decide) (nm_1 (by decide) nm_0)))))) 11)))))) (Eq.symm (Eq.trans (congrFun (sw_it es4) 11) (Eq.trans (congrFun (sw_at es3 (by decide)) 11) (congrFun (gs1 0 (nm_1 (by decide) (nm_1 (by decide) (nm_1 (by decide) (nm_1 (by decide) (nm_1 (by decide) nm_0)))))) 11))))) (Eq.trans (Eq.trans (congrFun (sw_it es680) 12) (Eq.trans (congrFun (gs675 0 (nm_1 (by decide) (nm_1 (by decide) (nm_1 (by decide) (nm_1 (by decide) nm_0))))) 12) (Eq.trans qt22_7 (Eq.trans (congrFun (sw_it es4) 12) (Eq.trans (congrFun (sw_at es3 (by decide)) 12) (congrFun (gs1 0 (nm_1 (by decide) (nm_1 (by decide) (nm_1 (by decide) (nm_1 (by decide) (nm_1 (by decide) nm_0)))))) 12)))))) (Eq.symm (Eq.trans (congrFun (sw_it es4) 12) (Eq.trans (congrFun (sw_at es3 (by decide)) 12) (congrFun (gs1 0 (nm_1 (by decide) (nm_1 (by decide) (nm_1 (by decide) (nm_1 (by decide) (nm_1 (by decide) nm_0)))))) 12))))) (Eq.trans (Eq.trans (congrFun (sw_it es680) 13) (Eq.trans (congrFun (gs675 0 (nm_1 (by decide) (nm_1 (by decide) (nm_1 (by decide) (nm_1 (by decide) nm_0))))) 13) (Eq.trans qt22_8 (Eq.trans (congrFun (sw_it es4) 13) (Eq.trans (congrFun (sw_at es3 (by decide)) 13) (congrFun (gs1 0 (nm_1 (by decide) (nm_1 (by decide) (nm_1 (by decide) (nm_1 (by decide) (nm_1 (by decide) nm_0)))))) 13)))))) (Eq.symm (Eq.trans (congrFun (sw_it es4) 13) (Eq.trans (congrFun (sw_at es3 (by decide)) 13) (congrFun (gs1 0 (nm_1 (by decide) (nm_1 (by decide) (nm_1 (by decide) (nm_1 (by decide) (nm_1 (by decide) nm_0)))))) 13))))) (Eq.trans (Eq.trans (congrFun (sw_it es680) 20) (Eq.trans (congrFun (gs675 0 (nm_1 (by decide) (nm_1 (by decide) (nm_1 (by decide) (nm_1 (by decide) nm_0))))) 20) (Eq.trans qt22_9 (Eq.trans (congrFun (sw_it es4) 20) (Eq.trans (congrFun (sw_at es3 (by decide)) 20) (congrFun (gs1 0 (nm_1 (by decide) (nm_1 (by decide) (nm_1 (by decide) (nm_1 (by decide) (nm_1 (by decide) nm_0)))))) 20)))))) (Eq.symm (Eq.trans (congrFun (sw_it es4) 20) (Eq.trans (congrFun (sw_at es3 (by decide)) 20) (congrFun (gs1 0 (nm_1 (by decide) (nm_1 (by decide) (nm_1 (by decide) (nm_1 (by decide) (nm_1 (by decide) nm_0)))))) 20))))) (Eq.trans (Eq.trans (congrFun (sw_it es680) 21) (Eq.trans (congrFun (gs675 0 (nm_1 (by decide) (nm_1 (by decide) (nm_1 (by decide) (nm_1 (by decide) nm_0))))) 21) (Eq.trans qt22_10 (Eq.trans (congrFun (sw_it es4) 21) (Eq.trans (congrFun (sw_at es3 (by decide)) 21) (congrFun (gs1 0 (nm_1 (by decide) (nm_1 (by decide) (nm_1 (by decide) (nm_1 (by decide) (nm_1 (by decide) nm_0)))))) 21)))))) (Eq.symm (Eq.trans (congrFun (sw_it es4) 21) (Eq.trans (congrFun (sw_at es3 (by decide)) 21) (congrFun (gs1 0 (nm_1 (by decide) (nm_1 (by decide) (nm_1 (by decide) (nm_1 (by decide) (nm_1 (by decide) nm_0)))))) 21))))) (Eq.trans (Eq.trans (congrFun (sw_it es680) 22) (Eq.trans (congrFun (gs675 0 (nm_1 (by decide) (nm_1 (by decide) (nm_1 (by decide) (nm_1 (by decide) nm_0))))) 22) (Eq.trans qt22_11 (Eq.trans (congrFun (sw_it es4) 22) (Eq.trans (congrFun (sw_at es3 (by decide)) 22) (congrFun (gs1 0 (nm_1 (by decide) (nm_1 (by decide) (nm_1 (by decide) (nm_1 (by decide) (nm_1 (by decide) nm_0)))))) 22)))))) (Eq.symm (Eq.trans (congrFun (sw_it es4) 22) (Eq.trans (congrFun (sw_at es3 (by decide)) 22) (congrFun (gs1 0 (nm_1 (by decide) (nm_1 (by decide) (nm_1 (by decide) (nm_1 (by decide) (nm_1 (by decide) nm_0)))))) 22))))) (Eq.trans (Eq.trans (congrFun (sw_it es680) 26) (Eq.trans (congrFun (gs675 0 (nm_1 (by decide) (nm_1 (by decide) (nm_1 (by decide) (nm_1 (by decide) nm_0))))) 26) (Eq.trans qt22_12 (Eq.trans (congrFun (sw_it es4) 26) (Eq.trans (congrFun (sw_at es3 (by decide)) 26) (congrFun (gs1 0 (nm_1 (by decide) (nm_1 (by decide) (nm_1 (by decide) (nm_1 (by decide) (nm_1 (by decide) nm_0)))))) 26)))))) (Eq.symm (Eq.trans (congrFun (sw_it es4) 26) (Eq.trans (congrFun (sw_at es3 (by decide)) 26) (congrFun (gs1 0 (nm_1 (by decide) (nm_1 (by decide) (nm_1 (by decide) (nm_1 (by decide) (nm_1 (by decide) nm_0)))))) 26))))) (Eq.trans (Eq.trans (congrFun (sw_it es680) 27) (Eq.trans (congrFun (gs675 0 (nm_1 (by decide) (nm_1 (by decide) (nm_1 (by decide) (nm_1 (by decide) nm_0))))) 27) (Eq.trans qt22_13 (Eq.trans (congrFun (sw_it es4) 27) (Eq.trans (congrFun (sw_at es3 (by decide)) 27) (congrFun (gs1 0 (nm_1 (by decide) (nm_1 (by decide) (nm_1 (by decide) (nm_1 (by decide) (nm_1 (by decide) nm_0)))))) 27)))))) (Eq.symm (Eq.trans (congrFun (sw_it es4) 27) (Eq.trans (congrFun (sw_at es3 (by decide)) 27) (congrFun (gs1 0 (nm_1 (by decide) (nm_1 (by decide) (nm_1 (by decide) (nm_1 (by decide) (nm_1 (by decide) nm_0)))))) 27))))) (Eq.trans (Eq.trans (congrFun (sw_it es680) 29) (Eq.trans (congrFun (gs675 0 (nm_1 (by decide) (nm_1 (by decide) (nm_1 (by decide) (nm_1 (by decide) nm_0))))) 29) (Eq.trans qt22_14 (Eq.trans (congrFun (sw_it es4) 29) (Eq.trans (congrFun (sw_at es3 (by decide)) 29) (congrFun (gs1 0 (nm_1 (by decide) (nm_1 (by decide) (nm_1 (by decide) (nm_1 (by decide) (nm_1 (by decide) nm_0)))))) 29)))))) (Eq.symm (Eq.trans (congrFun (sw_it es4) 29) (Eq.trans (congrFun (sw_at es3 (by decide)) 29) (congrFun (gs1 0 (nm_1 (by decide) (nm_1 (by decide) (nm_1 (by decide) (nm_1 (by decide) (nm_1 (by decide) nm_0)))))) 29))))) (Eq.trans (Eq.trans (congrFun (sw_it es680) 31) (Eq.trans (congrFun (gs675 0 (nm_1 (by decide) (nm_1 (by decide) (nm_1 (by decide) (nm_1 (by decide) nm_0))))) 31) (Eq.trans qt22_15 (Eq.trans (congrFun (sw_it es4) 31) (Eq.trans (congrFun (sw_at es3 (by decide)) 31) (congrFun (gs1 0 (nm_1 (by decide) (nm_1 (by decide) (nm_1 (by decide) (nm_1 (by decide) (nm_1 (by decide) nm_0)))))) 31)))))) (Eq.symm (Eq.trans (congrFun (sw_it es4) 31) (Eq.trans (congrFun (sw_at es3 (by decide)) 31) (congrFun (gs1 0 (nm_1 (by decide) (nm_1 (by decide) (nm_1 (by decide) (nm_1 (by decide) (nm_1 (by decide) nm_0)))))) 31))))) hP hD hS (lv_sub hl [0, 2, 3, 4, 5, 6] rfl) (fu_s (lo := 0) (ti_inc ez681 h652 (by decide) (by decide) (by decide) (by decide)) (by decide) hm22)
          · skip
            refine lv_iconst (v := 0) hx hb dX10_goDrawn_109 (by decide) ?_
            refine lv_goto (tgt := 114) hx hb dX10_goDrawn_110 (by decide) ?_
            refine lv_iadd hx hb dX10_goDrawn_114 ?_
            refine lv_topi (fun z683 ez683 => ?_)
            refine c_put (ci := 10) (C := RX10) (T := TX10) (N := 38) (j := 33) (v := z683) hx hb hT in_X10 tyX10 tyX10_ok nmX10 hown hK hP hD hS mw_0 rfl (by decide) (hT _ t1295) (by decide +kernel) (by decide +kernel) rfl rfl (Nat.le_of_ble_eq_true rfl) (ms_0 (upd (s675 0) 33 z683)) dX10_goDrawn_115 (fun s684 H9 locs9 es684 hP9 hD9 hS9 => ?_)
            clear hP hD hS
            have hS := hS9
            have hP := hP9
            have hD := hD9
            clear hP9 hD9 hS9
            have hBs684 : MB s684 := by rw [es684]; exact mb_sw hBs675 (mi_1_33 (hBs675 0))
            have hFs684 : FR [7, 9, 8, 10, 11, 0] st s684 := fr_sw hFs675 (List.mem_of_getElem? (i := 5) rfl) es684
            obtain ⟨z685, ez685⟩ : ∃ z9 : Int32, z9 = v7_22 + Int32.ofInt 1 := ⟨_, rfl⟩
            have h686 : Iv 1 40 z685 := iv_inc ez685 h652 (by decide) (by decide) (by decide) (by decide) (by decide) (by decide)
            refine lv_iinc (v := z685) (lv' := [(7, .int z685), (8, .int r673), (5, .long z662), (0, .ref (a 0)), (1, .long p0), (3, .int p1), (4, .int p2)]) hx hb dX10_goDrawn_118 hl (k := 2) rfl ez685.symm (by decide) rfl (fun ls hl => ?_)
            refine lv_goto (tgt := 22) hx hb dX10_goDrawn_121 (by decide) ?_
            exact ih22 z685 z662 s684 _ _ _ (iv_mono (c := 0) (d := 40) h686 (by decide) (by decide)) hBs684 (fr_sw (fr_ca gt22 gs675 (sub_1 (List.mem_of_getElem? (i := 0) rfl) (sub_1 (List.mem_of_getElem? (i := 1) rfl) (sub_1 (List.mem_of_getElem? (i := 2) rfl) (sub_1 (List.mem_of_getElem? (i := 3) rfl) sub_0))))) (List.mem_of_getElem? (i := 4) rfl) es684) (Eq.trans (Eq.trans (congrFun (sw_it es684) 0) (Eq.trans (congrFun (gs675 0 (nm_1 (by decide) (nm_1 (by decide) (nm_1 (by decide) (nm_1 (by decide) nm_0))))) 0) (Eq.trans qt22_0 (Eq.trans (congrFun (sw_it es4) 0) (Eq.trans (congrFun (sw_at es3 (by decide)) 0) (congrFun (gs1 0 (nm_1 (by decide) (nm_1 (by decide) (nm_1 (by decide) (nm_1 (by decide) (nm_1 (by decide) nm_0)))))) 0)))))) (Eq.symm (Eq.trans (congrFun (sw_it es4) 0) (Eq.trans (congrFun (sw_at es3 (by decide)) 0) (congrFun (gs1 0 (nm_1 (by decide) (nm_1 (by decide) (nm_1 (by decide) (nm_1 (by decide) (nm_1 (by decide) nm_0)))))) 0))))) (Eq.trans (Eq.trans (congrFun (sw_it es684) 5) (Eq.trans (congrFun (gs675 0 (nm_1 (by decide) (nm_1 (by decide) (nm_1 (by decide) (nm_1 (by decide) nm_0))))) 5) (Eq.trans qt22_1 (Eq.trans (congrFun (sw_it es4) 5) (Eq.trans (congrFun (sw_at es3 (by decide)) 5) (congrFun (gs1 0 (nm_1 (by decide) (nm_1 (by decide) (nm_1 (by decide) (nm_1 (by decide) (nm_1 (by decide) nm_0)))))) 5)))))) (Eq.symm (Eq.trans (congrFun (sw_it es4) 5) (Eq.trans (congrFun (sw_at es3 (by decide)) 5) (congrFun (gs1 0 (nm_1 (by decide) (nm_1 (by decide) (nm_1 (by decide) (nm_1 (by decide) (nm_1 (by decide) nm_0)))))) 5))))) (Eq.trans (Eq.trans (congrFun (sw_it es684) 7) (Eq.trans (congrFun (gs675 0 (nm_1 (by decide) (nm_1 (by decide) (nm_1 (by decide) (nm_1 (by decide) nm_0))))) 7) (Eq.trans qt22_2 (Eq.trans (congrFun (sw_it es4) 7) (Eq.trans (congrFun (sw_at es3 (by decide)) 7) (congrFun (gs1 0 (nm_1 (by decide) (nm_1 (by decide) (nm_1 (by decide) (nm_1 (by decide) (nm_1 (by decide) nm_0)))))) 7)))))) (Eq.symm (Eq.trans (congrFun (sw_it es4) 7) (Eq.trans (congrFun (sw_at es3 (by decide)) 7) (congrFun (gs1 0 (nm_1 (by decide) (nm_1 (by decide) (nm_1 (by decide) (nm_1 (by decide) (nm_1 (by decide) nm_0)))))) 7))))) (Eq.trans (Eq.trans (congrFun (sw_it es684) 8) (Eq.trans (congrFun (gs675 0 (nm_1 (by decide) (nm_1 (by decide) (nm_1 (by decide) (nm_1 (by decide) nm_0))))) 8) (Eq.trans qt22_3 (Eq.trans (congrFun (sw_it es4) 8) (Eq.trans (congrFun (sw_at es3 (by decide)) 8) (congrFun (gs1 0 (nm_1 (by decide) (nm_1 (by decide) (nm_1 (by decide) (nm_1 (by decide) (nm_1 (by decide) nm_0)))))) 8)))))) (Eq.symm (Eq.trans (congrFun (sw_it es4) 8) (Eq.trans (congrFun (sw_at es3 (by decide)) 8) (congrFun (gs1 0 (nm_1 (by decide) (nm_1 (by decide) (nm_1 (by decide) (nm_1 (by decide) (nm_1 (by decide) nm_0)))))) 8))))) (Eq.trans (Eq.trans (congrFun (sw_it es684) 9) (Eq.trans (congrFun (gs675 0 (nm_1 (by decide) (nm_1 (by decide) (nm_1 (by decide) (nm_1 (by decide) nm_0))))) 9) (Eq.trans qt22_4 (Eq.trans (congrFun (sw_it es4) 9) (Eq.trans (congrFun (sw_at es3 (by decide)) 9) (congrFun (gs1 0 (nm_1 (by decide) (nm_1 (by decide) (nm_1 (by decide) (nm_1 (by decide) (nm_1 (by decide) nm_0)))))) 9)))))) (Eq.symm (Eq.trans (congrFun (sw_it es4) 9) (Eq.trans (congrFun (sw_at es3 (by decide)) 9) (congrFun (gs1 0 (nm_1 (by decide) (nm_1 (by decide) (nm_1 (by decide) (nm_1 (by decide) (nm_1 (by decide) nm_0)))))) 9))))) (Eq.trans (Eq.trans (congrFun (sw_it es684) 10) (Eq.trans (congrFun (gs675 0 (nm_1 (by decide) (nm_1 (by decide) (nm_1 (by decide) (nm_1 (by decide) nm_0))))) 10) (Eq.trans qt22_5 (Eq.trans (congrFun (sw_it es4) 10) (Eq.trans (congrFun (sw_at es3 (by decide)) 10) (congrFun (gs1 0 (nm_1 (by decide) (nm_1 (by decide) (nm_1 (by decide) (nm_1 (by decide) (nm_1 (by decide) nm_0)))))) 10)))))) (Eq.symm (Eq.trans (congrFun (sw_it es4) 10) (Eq.trans (congrFun (sw_at es3 (by decide)) 10) (congrFun (gs1 0 (nm_1 (by decide) (nm_1 (by decide) (nm_1 (by decide) (nm_1 (by decide) (nm_1 (by decide) nm_0)))))) 10))))) (Eq.trans (Eq.trans (congrFun (sw_it es684) 11) (Eq.trans (congrFun (gs675 0 (nm_1 (by decide) (nm_1 (by decide) (nm_1 (by decide) (nm_1 (by decide) nm_0))))) 11) (Eq.trans qt22_6 (Eq.trans (congrFun (sw_it es4) 11) (Eq.trans (congrFun (sw_at es3 (by decide)) 11) (congrFun (gs1 0 (nm_1 (by decide) (nm_1 (by decide) (nm_1 (by decide) (nm_1 (by decide) (nm_1 (by decide) nm_0)))))) 11)))))) (Eq.symm (Eq.trans (congrFun (sw_it es4) 11) (Eq.trans (congrFun (sw_at es3 (by decide)) 11) (congrFun (gs1 0 (nm_1 (by decide) (nm_1 (by decide) (nm_1 (by decide) (nm_1 (by decide) (nm_1 (by decide) nm_0)))))) 11))))) (Eq.trans (Eq.trans (congrFun (sw_it es684) 12) (Eq.trans (congrFun (gs675 0 (nm_1 (by decide) (nm_1 (by decide) (nm_1 (by decide) (nm_1 (by decide) nm_0))))) 12) (Eq.trans qt22_7 (Eq.trans (congrFun (sw_it es4) 12) (Eq.trans (congrFun (sw_at es3 (by decide)) 12) (congrFun (gs1 0 (nm_1 (by decide) (nm_1 (by decide) (nm_1 (by decide) (nm_1 (by decide) (nm_1 (by decide) nm_0)))))) 12)))))) (Eq.symm (Eq.trans (congrFun (sw_it es4) 12) (Eq.trans (congrFun (sw_at es3 (by decide)) 12) (congrFun (gs1 0 (nm_1 (by decide) (nm_1 (by decide) (nm_1 (by decide) (nm_1 (by decide) (nm_1 (by decide) nm_0)))))) 12))))) (Eq.trans (Eq.trans (congrFun (sw_it es684) 13) (Eq.trans (congrFun (gs675 0 (nm_1 (by decide) (nm_1 (by decide) (nm_1 (by decide) (nm_1 (by decide) nm_0))))) 13) (Eq.trans qt22_8 (Eq.trans (congrFun (sw_it es4) 13) (Eq.trans (congrFun (sw_at es3 (by decide)) 13) (congrFun (gs1 0 (nm_1 (by decide) (nm_1 (by decide) (nm_1 (by decide) (nm_1 (by decide) (nm_1 (by decide) nm_0)))))) 13)))))) (Eq.symm (Eq.trans (congrFun (sw_it es4) 13) (Eq.trans (congrFun (sw_at es3 (by decide)) 13) (congrFun (gs1 0 (nm_1 (by decide) (nm_1 (by decide) (nm_1 (by decide) (nm_1 (by decide) (nm_1 (by decide) nm_0)))))) 13))))) (Eq.trans (Eq.trans (congrFun (sw_it es684) 20) (Eq.trans (congrFun (gs675 0 (nm_1 (by decide) (nm_1 (by decide) (nm_1 (by decide) (nm_1 (by decide) nm_0))))) 20) (Eq.trans qt22_9 (Eq.trans (congrFun (sw_it es4) 20) (Eq.trans (congrFun (sw_at es3 (by decide)) 20) (congrFun (gs1 0 (nm_1 (by decide) (nm_1 (by decide) (nm_1 (by decide) (nm_1 (by decide) (nm_1 (by decide) nm_0)))))) 20)))))) (Eq.symm (Eq.trans (congrFun (sw_it es4) 20) (Eq.trans (congrFun (sw_at es3 (by decide)) 20) (congrFun (gs1 0 (nm_1 (by decide) (nm_1 (by decide) (nm_1 (by decide) (nm_1 (by decide) (nm_1 (by decide) nm_0)))))) 20))))) (Eq.trans (Eq.trans (congrFun (sw_it es684) 21) (Eq.trans (congrFun (gs675 0 (nm_1 (by decide) (nm_1 (by decide) (nm_1 (by decide) (nm_1 (by decide) nm_0))))) 21) (Eq.trans qt22_10 (Eq.trans (congrFun (sw_it es4) 21) (Eq.trans (congrFun (sw_at es3 (by decide)) 21) (congrFun (gs1 0 (nm_1 (by decide) (nm_1 (by decide) (nm_1 (by decide) (nm_1 (by decide) (nm_1 (by decide) nm_0)))))) 21)))))) (Eq.symm (Eq.trans (congrFun (sw_it es4) 21) (Eq.trans (congrFun (sw_at es3 (by decide)) 21) (congrFun (gs1 0 (nm_1 (by decide) (nm_1 (by decide) (nm_1 (by decide) (nm_1 (by decide) (nm_1 (by decide) nm_0)))))) 21))))) (Eq.trans (Eq.trans (congrFun (sw_it es684) 22) (Eq.trans (congrFun (gs675 0 (nm_1 (by decide) (nm_1 (by decide) (nm_1 (by decide) (nm_1 (by decide) nm_0))))) 22) (Eq.trans qt22_11 (Eq.trans (congrFun (sw_it es4) 22) (Eq.trans (congrFun (sw_at es3 (by decide)) 22) (congrFun (gs1 0 (nm_1 (by decide) (nm_1 (by decide) (nm_1 (by decide) (nm_1 (by decide) (nm_1 (by decide) nm_0)))))) 22)))))) (Eq.symm (Eq.trans (congrFun (sw_it es4) 22) (Eq.trans (congrFun (sw_at es3 (by decide)) 22) (congrFun (gs1 0 (nm_1 (by decide) (nm_1 (by decide) (nm_1 (by decide) (nm_1 (by decide) (nm_1 (by decide) nm_0)))))) 22))))) (Eq.trans (Eq.trans (congrFun (sw_it es684) 26) (Eq.trans (congrFun (gs675 0 (nm_1 (by decide) (nm_1 (by decide) (nm_1 (by decide) (nm_1 (by decide) nm_0))))) 26) (Eq.trans qt22_12 (Eq.trans (congrFun (sw_it es4) 26) (Eq.trans (congrFun (sw_at es3 (by decide)) 26) (congrFun (gs1 0 (nm_1 (by decide) (nm_1 (by decide) (nm_1 (by decide) (nm_1 (by decide) (nm_1 (by decide) nm_0)))))) 26)))))) (Eq.symm (Eq.trans (congrFun (sw_it es4) 26) (Eq.trans (congrFun (sw_at es3 (by decide)) 26) (congrFun (gs1 0 (nm_1 (by decide) (nm_1 (by decide) (nm_1 (by decide) (nm_1 (by decide) (nm_1 (by decide) nm_0)))))) 26))))) (Eq.trans (Eq.trans (congrFun (sw_it es684) 27) (Eq.trans (congrFun (gs675 0 (nm_1 (by decide) (nm_1 (by decide) (nm_1 (by decide) (nm_1 (by decide) nm_0))))) 27) (Eq.trans qt22_13 (Eq.trans (congrFun (sw_it es4) 27) (Eq.trans (congrFun (sw_at es3 (by decide)) 27) (congrFun (gs1 0 (nm_1 (by decide) (nm_1 (by decide) (nm_1 (by decide) (nm_1 (by decide) (nm_1 (by decide) nm_0)))))) 27)))))) (Eq.symm (Eq.trans (congrFun (sw_it es4) 27) (Eq.trans (congrFun (sw_at es3 (by decide)) 27) (congrFun (gs1 0 (nm_1 (by decide) (nm_1 (by decide) (nm_1 (by decide) (nm_1 (by decide) (nm_1 (by decide) nm_0)))))) 27))))) (Eq.trans (Eq.trans (congrFun (sw_it es684) 29) (Eq.trans (congrFun (gs675 0 (nm_1 (by decide) (nm_1 (by decide) (nm_1 (by decide) (nm_1 (by decide) nm_0))))) 29) (Eq.trans qt22_14 (Eq.trans (congrFun (sw_it es4) 29) (Eq.trans (congrFun (sw_at es3 (by decide)) 29) (congrFun (gs1 0 (nm_1 (by decide) (nm_1 (by decide) (nm_1 (by decide) (nm_1 (by decide) (nm_1 (by decide) nm_0)))))) 29)))))) (Eq.symm (Eq.trans (congrFun (sw_it es4) 29) (Eq.trans (congrFun (sw_at es3 (by decide)) 29) (congrFun (gs1 0 (nm_1 (by decide) (nm_1 (by decide) (nm_1 (by decide) (nm_1 (by decide) (nm_1 (by decide) nm_0)))))) 29))))) (Eq.trans (Eq.trans (congrFun (sw_it es684) 31) (Eq.trans (congrFun (gs675 0 (nm_1 (by decide) (nm_1 (by decide) (nm_1 (by decide) (nm_1 (by decide) nm_0))))) 31) (Eq.trans qt22_15 (Eq.trans (congrFun (sw_it es4) 31) (Eq.trans (congrFun (sw_at es3 (by decide)) 31) (congrFun (gs1 0 (nm_1 (by decide) (nm_1 (by decide) (nm_1 (by decide) (nm_1 (by decide) (nm_1 (by decide) nm_0)))))) 31)))))) (Eq.symm (Eq.trans (congrFun (sw_it es4) 31) (Eq.trans (congrFun (sw_at es3 (by decide)) 31) (congrFun (gs1 0 (nm_1 (by decide) (nm_1 (by decide) (nm_1 (by decide) (nm_1 (by decide) (nm_1 (by decide) nm_0)))))) 31))))) hP hD hS (lv_sub hl [0, 2, 3, 4, 5, 6] rfl) (fu_s (lo := 0) (ti_inc ez685 h652 (by decide) (by decide) (by decide) (by decide)) (by decide) hm22)
  exact lp22 41 0 p0 s4 _ _ _ (iv_mono (c := 0) (d := 40) (iv_c (by decide) : Iv 0 0 0) (by decide) (by decide)) hBs4 fr_rf rfl rfl rfl rfl rfl rfl rfl rfl rfl rfl rfl rfl rfl rfl rfl rfl hP hD hS (lv_sub hl [0, 1, 2, 3, 4, 5] rfl) (fu_i (iv_mono (c := 0) (d := 40) (iv_c (by decide) : Iv 0 0 0) (by decide) (by decide)) (by decide))
set_option maxHeartbeats 4000000 in
set_option maxRecDepth 100000 in
theorem m_X10_isDrawn (l : Launch) (D : va_G) (k : Nat → ClassId) (a : Nat → Nat) (st : CT) (sl : CL) (p0 : Int32) (p1 : Int32) (p2 : Int32) (sz : Nat) (hB : MB st)  (hw : WOK (st 1)) : Met l yX10_isDrawn (.code yX10_isDrawn cX10_isDrawn 4 (some .boolean) :: TB) (rmk 3) (va_Pc [.ref (a 0), .int p0, .int p1, .int p2] (PW D k sz (MWS k a st sl))) (vp_Si (fun r => (r = 1 ∧ Iv 0 2000000000 p0 ∧ Iv 0 2 p1 ∧ Iv 0 40 p2 ∧ (True)) ∨ (r = 0 ∧ (True)))) 0 0 (fun _ => False) := by
  refine Met.ofW (cc := cX10_isDrawn) (maxL := 4) (ret := (some .boolean)) (by decide) rfl ?_
  intro p e s m args below meth c s₁ B hml hv
  obtain ⟨rfl, hsz, hP, hK, hD0, hN⟩ := hv
  have hx := B.exec
  have hb := B.bytes
  have hr := B.returns
  have hT : ∀ w9 ∈ TB, w9.before ([.ref (a 0), .int p0, .int p1, .int p2] : List Value).toArray s = true := fun w9 h => atoms_spec (ws := .code yX10_isDrawn cX10_isDrawn 4 (some .boolean) :: TB) B.pre w9 (List.mem_cons_of_mem _ h)
  have hown : s.vm.findClass RX10 = some m.cls := findClass_of_methodNamed B.named
  have S : CallFix p m c cX10_isDrawn 4 s _ TB RX10 := ⟨hx, hb, hml, hown, hT⟩
  subst hsz
  have hl := lv_entry ([.ref (a 0), .int p0, .int p1, .int p2]) (n := 4) (Nat.le_of_ble_eq_true rfl)
  rw [lg_entry_eq]
  generalize (lg_sl ([.ref (a 0), .int p0, .int p1, .int p2]) ++ List.replicate (4 - (lg_sl ([.ref (a 0), .int p0, .int p1, .int p2])).length) Slot.unset).toArray = ls at hl ⊢
  have hl : lv_has ls 4 [(0, .ref (a 0)), (1, .int p0), (2, .int p1), (3, .int p2)] := hl
  refine nameQ (fun Q hQ => ?_)
  refine lv_iload_n hx hb dX10_isDrawn_0 rfl (lv_at hl 1 rfl) ?_
  refine lv_i2l hx hb dX10_isDrawn_1 rfl ?_
  refine lv_lconst (v := 0) hx hb dX10_isDrawn_2 (by decide) ?_
  refine lv_ldc2 (v := 2000000000) hx hb hown (hT _ t1897) dX10_isDrawn_3 ?_
  refine ro_S (As := [.long (p0.toInt64), .long 0, .long 2000000000]) (rest := []) S (m_X10_in l D k a st sl  (p0.toInt64) 0 2000000000 _  hB  ) lkX10_85 ok_X10_in ⟨rfl, rfl, Nat.le_of_ble_eq_true rfl, Nat.le_of_ble_eq_true rfl⟩ (pw_S hK hN hP hD0) rfl hl.1 rfl (Nat.le_of_ble_eq_true rfl) ⟨Nat.zero_le _, Nat.zero_le _⟩ dX10_isDrawn_6 (fun r1 er1 => ?_)
  rcases er1 with ⟨rfl, g9⟩ | ⟨rfl, g9⟩
  · skip
    have g2 := g9
    have k3 := g2
    have h4 : (0 : Int) ≤ (p0.toInt64).toInt ∧ (p0.toInt64).toInt ≤ (2000000000 : Int) := ⟨((show (0 : Int) ≤ (p0.toInt64).toInt ∧ (p0.toInt64).toInt ≤ (2000000000 : Int) from ⟨Int.le_trans ((⟨by decide, by decide⟩ : (0 : Int) ≤ (0 : Int64).toInt ∧ (0 : Int64).toInt ≤ (0 : Int))).1 k3.1, Int.le_trans k3.2 ((⟨by decide, by decide⟩ : (2000000000 : Int) ≤ (2000000000 : Int64).toInt ∧ (2000000000 : Int64).toInt ≤ (2000000000 : Int))).2⟩)).1, ((show (0 : Int) ≤ (p0.toInt64).toInt ∧ (p0.toInt64).toInt ≤ (2000000000 : Int) from ⟨Int.le_trans ((⟨by decide, by decide⟩ : (0 : Int) ≤ (0 : Int64).toInt ∧ (0 : Int64).toInt ≤ (0 : Int))).1 k3.1, Int.le_trans k3.2 ((⟨by decide, by decide⟩ : (2000000000 : Int) ≤ (2000000000 : Int64).toInt ∧ (2000000000 : Int64).toInt ≤ (2000000000 : Int))).2⟩)).2⟩
    have h5 : Iv 0 2000000000 p0 := iv_lv h4
    refine lv_if_eq (tgt := 36) hx hb dX10_isDrawn_9 (by decide) (fun c6 => ?_) (fun c6 => ?_)
    · first | exact absurd c6 (by decide) | exact absurd (by decide) c6
    refine lv_aload_n hx hb dX10_isDrawn_12 rfl (lv_at hl 0 rfl) ?_
    refine lv_iload_n hx hb dX10_isDrawn_13 rfl (lv_at hl 2 rfl) ?_
    refine ro_V (As := [.int p1]) (rest := []) S (m_X10_isCart l D k a st sl  p1 _  hB  hw) lkX10_279 ok_X10_isCart ⟨rfl, rfl, Nat.le_of_ble_eq_true rfl, Nat.le_of_ble_eq_true rfl⟩ (pw_V (ci := 10) (q0 := 0) hK hN rfl mw_0 hP hD0) rfl hl.1 rfl (Nat.le_of_ble_eq_true rfl) ⟨Nat.zero_le _, Nat.zero_le _⟩ dX10_isDrawn_14 (fun r7 er7 => ?_)
    rcases er7 with ⟨rfl, g9⟩ | ⟨rfl, g9⟩
    · skip
      have g8 := g9
      have h9 : Iv 0 2 p1 := g8.1
      refine lv_if_eq (tgt := 36) hx hb dX10_isDrawn_17 (by decide) (fun c10 => ?_) (fun c10 => ?_)
      · first | exact absurd c10 (by decide) | exact absurd (by decide) c10
      refine lv_iload_n hx hb dX10_isDrawn_20 rfl (lv_at hl 3 rfl) ?_
      refine lv_i2l hx hb dX10_isDrawn_21 rfl ?_
      refine lv_lconst (v := 0) hx hb dX10_isDrawn_22 (by decide) ?_
      refine lv_ldc2 (v := 40) hx hb hown (hT _ t1743) dX10_isDrawn_23 ?_
      refine ro_S (As := [.long (p2.toInt64), .long 0, .long 40]) (rest := []) S (m_X10_in l D k a st sl  (p2.toInt64) 0 40 _  hB  ) lkX10_85 ok_X10_in ⟨rfl, rfl, Nat.le_of_ble_eq_true rfl, Nat.le_of_ble_eq_true rfl⟩ (pw_S hK hN hP hD0) rfl hl.1 rfl (Nat.le_of_ble_eq_true rfl) ⟨Nat.zero_le _, Nat.zero_le _⟩ dX10_isDrawn_26 (fun r11 er11 => ?_)
      rcases er11 with ⟨rfl, g9⟩ | ⟨rfl, g9⟩
      · skip
        have g12 := g9
        have k13 := g12
        have h14 : (0 : Int) ≤ (p2.toInt64).toInt ∧ (p2.toInt64).toInt ≤ (40 : Int) := ⟨((show (0 : Int) ≤ (p2.toInt64).toInt ∧ (p2.toInt64).toInt ≤ (40 : Int) from ⟨Int.le_trans ((⟨by decide, by decide⟩ : (0 : Int) ≤ (0 : Int64).toInt ∧ (0 : Int64).toInt ≤ (0 : Int))).1 k13.1, Int.le_trans k13.2 ((⟨by decide, by decide⟩ : (40 : Int) ≤ (40 : Int64).toInt ∧ (40 : Int64).toInt ≤ (40 : Int))).2⟩)).1, ((show (0 : Int) ≤ (p2.toInt64).toInt ∧ (p2.toInt64).toInt ≤ (40 : Int) from ⟨Int.le_trans ((⟨by decide, by decide⟩ : (0 : Int) ≤ (0 : Int64).toInt ∧ (0 : Int64).toInt ≤ (0 : Int))).1 k13.1, Int.le_trans k13.2 ((⟨by decide, by decide⟩ : (40 : Int) ≤ (40 : Int64).toInt ∧ (40 : Int64).toInt ≤ (40 : Int))).2⟩)).2⟩
        have h15 : Iv 0 40 p2 := iv_lv h14
        refine lv_if_eq (tgt := 36) hx hb dX10_isDrawn_29 (by decide) (fun c16 => ?_) (fun c16 => ?_)
        · first | exact absurd c16 (by decide) | exact absurd (by decide) c16
        refine lv_iconst (v := 1) hx hb dX10_isDrawn_32 (by decide) ?_
        refine lv_goto (tgt := 37) hx hb dX10_isDrawn_33 (by decide) ?_
        rw [hQ]
        exact W.zret (v := 1) (ty := .boolean) hx hb hr rfl (fun t ht hW => ⟨1, rfl, Or.inl ⟨rfl, h5, h9, h15, trivial⟩, ht⟩) (fun _ h9 => by cases h9) dX10_isDrawn_37
      · skip
        have g17 := g9
        have k18 := g17
        refine lv_if_eq (tgt := 36) hx hb dX10_isDrawn_29 (by decide) (fun c19 => ?_) (fun c19 => ?_)
        rotate_left
        · first | exact absurd c19 (by decide) | exact absurd (by decide) c19
        refine lv_iconst (v := 0) hx hb dX10_isDrawn_36 (by decide) ?_
        rw [hQ]
        exact W.zret (v := 0) (ty := .boolean) hx hb hr rfl (fun t ht hW => ⟨0, rfl, Or.inr ⟨rfl, trivial⟩, ht⟩) (fun _ h9 => by cases h9) dX10_isDrawn_37
    · skip
      have g20 := g9
      refine lv_if_eq (tgt := 36) hx hb dX10_isDrawn_17 (by decide) (fun c21 => ?_) (fun c21 => ?_)
      rotate_left
      · first | exact absurd c21 (by decide) | exact absurd (by decide) c21
      refine lv_iconst (v := 0) hx hb dX10_isDrawn_36 (by decide) ?_
      rw [hQ]
      exact W.zret (v := 0) (ty := .boolean) hx hb hr rfl (fun t ht hW => ⟨0, rfl, Or.inr ⟨rfl, trivial⟩, ht⟩) (fun _ h9 => by cases h9) dX10_isDrawn_37
  · skip
    have g22 := g9
    have k23 := g22
    refine lv_if_eq (tgt := 36) hx hb dX10_isDrawn_9 (by decide) (fun c24 => ?_) (fun c24 => ?_)
    rotate_left
    · first | exact absurd c24 (by decide) | exact absurd (by decide) c24
    refine lv_iconst (v := 0) hx hb dX10_isDrawn_36 (by decide) ?_
    rw [hQ]
    exact W.zret (v := 0) (ty := .boolean) hx hb hr rfl (fun t ht hW => ⟨0, rfl, Or.inr ⟨rfl, trivial⟩, ht⟩) (fun _ h9 => by cases h9) dX10_isDrawn_37
set_option maxHeartbeats 4000000 in
set_option maxRecDepth 100000 in
theorem m_X10_drawn (l : Launch) (D : va_G) (k : Nat → ClassId) (a : Nat → Nat) (st : CT) (sl : CL) (p0 : Int32) (p1 : Int32) (p2 : Int32) (p3 : Int32) (sz : Nat) (hB : MB st)  (hw : WOK (st 1)) : Met l yX10_drawn (.code yX10_drawn cX10_drawn 5 (some .int) :: TB) (rmw 9 0 0) (va_Pc [.ref (a 0), .int p0, .int p1, .int p2, .int p3] (PW D k sz (MWS k a st sl))) (QI D (S := CT) (fun r u => MB u ∧ FR [7, 9, 8, 10, 11, 0] st u ∧ u 0 0 = st 0 0 ∧ u 0 5 = st 0 5 ∧ u 0 7 = st 0 7 ∧ u 0 8 = st 0 8 ∧ u 0 9 = st 0 9 ∧ u 0 10 = st 0 10 ∧ u 0 11 = st 0 11 ∧ u 0 12 = st 0 12 ∧ u 0 13 = st 0 13 ∧ u 0 20 = st 0 20 ∧ u 0 21 = st 0 21 ∧ u 0 22 = st 0 22 ∧ u 0 26 = st 0 26 ∧ u 0 27 = st 0 27 ∧ u 0 29 = st 0 29 ∧ u 0 31 = st 0 31 ∧ ((True))) (fun u => MWS k a u sl) (fun _ => []) (MWS k a st sl) sz) 0 0 (va_A (MWS k a st sl) sz) := by
  refine Met.ofW (cc := cX10_drawn) (maxL := 5) (ret := (some .int)) (by decide) rfl ?_
  intro p e s m args below meth c s₁ B hml hv
  obtain ⟨rfl, hsz, hP, hK, hD0, hN⟩ := hv
  have hx := B.exec
  have hb := B.bytes
  have hr := B.returns
  have hT : ∀ w9 ∈ TB, w9.before ([.ref (a 0), .int p0, .int p1, .int p2, .int p3] : List Value).toArray s = true := fun w9 h => atoms_spec (ws := .code yX10_drawn cX10_drawn 5 (some .int) :: TB) B.pre w9 (List.mem_cons_of_mem _ h)
  have hown : s.vm.findClass RX10 = some m.cls := findClass_of_methodNamed B.named
  have S : CallFix p m c cX10_drawn 5 s _ TB RX10 := ⟨hx, hb, hml, hown, hT⟩
  subst hsz
  have hD := hD0.self (sz := s.heap.size)
  generalize hAe : va_A (MWS k a st sl) s.heap.size = A at hD ⊢
  have hA : ∀ q : Nat, s.heap.size ≤ q → A q := fun q h => by rw [← hAe]; exact Or.inr h
  have hS : va_S A s.heap s.heap [] := va_S.rf
  have hl := lv_entry ([.ref (a 0), .int p0, .int p1, .int p2, .int p3]) (n := 5) (Nat.le_of_ble_eq_true rfl)
  rw [lg_entry_eq]
  generalize (lg_sl ([.ref (a 0), .int p0, .int p1, .int p2, .int p3]) ++ List.replicate (5 - (lg_sl ([.ref (a 0), .int p0, .int p1, .int p2, .int p3])).length) Slot.unset).toArray = ls at hl ⊢
  have hl : lv_has ls 5 [(0, .ref (a 0)), (1, .int p0), (2, .int p1), (3, .int p2), (4, .int p3)] := hl
  refine nameQ (fun Q hQ => ?_)
  refine lv_aload_n hx hb dX10_drawn_0 rfl (lv_at hl 0 rfl) ?_
  refine lv_iload_n hx hb dX10_drawn_1 rfl (lv_at hl 1 rfl) ?_
  refine lv_iload_n hx hb dX10_drawn_2 rfl (lv_at hl 2 rfl) ?_
  refine lv_iload_n hx hb dX10_drawn_3 rfl (lv_at hl 3 rfl) ?_
  refine ro_V (As := [.int p0, .int p1, .int p2]) (rest := []) S (m_X10_isDrawn l D k a st sl  p0 p1 p2 _  hB  hw) lkX10_424 ok_X10_isDrawn ⟨rfl, rfl, Nat.le_of_ble_eq_true rfl, Nat.le_of_ble_eq_true rfl⟩ (pw_V (ci := 10) (q0 := 0) hK hN rfl mw_0 hP (hD.weaken (fun _ _ _ _ => trivial))) rfl hl.1 rfl (Nat.le_of_ble_eq_true rfl) ⟨Nat.zero_le _, Nat.zero_le _⟩ dX10_drawn_4 (fun r1 er1 => ?_)
  rcases er1 with ⟨rfl, g9⟩ | ⟨rfl, g9⟩
  · skip
    have g2 := g9
    have h3 : Iv 0 2000000000 p0 := g2.1
    have h4 : Iv 0 2 p1 := g2.2.1
    have h5 : Iv 0 40 p2 := g2.2.2.1
    refine lv_if_eq (tgt := 23) hx hb dX10_drawn_7 (by decide) (fun c6 => ?_) (fun c6 => ?_)
    · first | exact absurd c6 (by decide) | exact absurd (by decide) c6
    refine lv_iload hx hb dX10_drawn_10 (lv_at hl 4 rfl) ?_
    refine lv_i2l hx hb dX10_drawn_12 rfl ?_
    refine lv_lconst (v := 0) hx hb dX10_drawn_13 (by decide) ?_
    refine lv_ldc2 (v := 2) hx hb hown (hT _ t1381) dX10_drawn_14 ?_
    refine ro_S (As := [.long (p3.toInt64), .long 0, .long 2]) (rest := []) S (m_X10_in l D k a st sl  (p3.toInt64) 0 2 _  hB  ) lkX10_85 ok_X10_in ⟨rfl, rfl, Nat.le_of_ble_eq_true rfl, Nat.le_of_ble_eq_true rfl⟩ (pw_S hK hN hP (hD.weaken (fun _ _ _ _ => trivial))) rfl hl.1 rfl (Nat.le_of_ble_eq_true rfl) ⟨Nat.zero_le _, Nat.zero_le _⟩ dX10_drawn_17 (fun r7 er7 => ?_)
    rcases er7 with ⟨rfl, g9⟩ | ⟨rfl, g9⟩
    · skip
      have g8 := g9
      have k9 := g8
      have h10 : (0 : Int) ≤ (p3.toInt64).toInt ∧ (p3.toInt64).toInt ≤ (2 : Int) := ⟨((show (0 : Int) ≤ (p3.toInt64).toInt ∧ (p3.toInt64).toInt ≤ (2 : Int) from ⟨Int.le_trans ((⟨by decide, by decide⟩ : (0 : Int) ≤ (0 : Int64).toInt ∧ (0 : Int64).toInt ≤ (0 : Int))).1 k9.1, Int.le_trans k9.2 ((⟨by decide, by decide⟩ : (2 : Int) ≤ (2 : Int64).toInt ∧ (2 : Int64).toInt ≤ (2 : Int))).2⟩)).1, ((show (0 : Int) ≤ (p3.toInt64).toInt ∧ (p3.toInt64).toInt ≤ (2 : Int) from ⟨Int.le_trans ((⟨by decide, by decide⟩ : (0 : Int) ≤ (0 : Int64).toInt ∧ (0 : Int64).toInt ≤ (0 : Int))).1 k9.1, Int.le_trans k9.2 ((⟨by decide, by decide⟩ : (2 : Int) ≤ (2 : Int64).toInt ∧ (2 : Int64).toInt ≤ (2 : Int))).2⟩)).2⟩
      have h11 : Iv 0 2 p3 := iv_lv h10
      refine lv_if_ne (tgt := 26) hx hb dX10_drawn_20 (by decide) (fun c12 => ?_) (fun c12 => ?_)
      rotate_left
      · first | exact absurd c12 (by decide) | exact absurd (by decide) c12
      refine lv_aload_n hx hb dX10_drawn_26 rfl (lv_at hl 0 rfl) ?_
      refine lv_iload_n hx hb dX10_drawn_27 rfl (lv_at hl 1 rfl) ?_
      refine lv_i2l hx hb dX10_drawn_28 rfl ?_
      refine lv_iload_n hx hb dX10_drawn_29 rfl (lv_at hl 2 rfl) ?_
      refine lv_iload_n hx hb dX10_drawn_30 rfl (lv_at hl 3 rfl) ?_
      refine ca_v hP hD hS hA (fun hDc => run_V (mc := 0) (ms := 0) (As := [.long (p0.toInt64), .int p1, .int p2]) (rest := []) S (m_X10_goDrawn l D k a st sl  (p0.toInt64) p1 p2 _  hB h4 h5 hw) lkX10_428 ok_X10_goDrawn ⟨rfl, rfl, Nat.le_of_ble_eq_true rfl, Nat.le_of_ble_eq_true rfl⟩ (pw_V (ci := 10) (q0 := 0) hK hN rfl mw_0 hP hDc) rfl hl.1 rfl (Nat.le_of_ble_eq_true rfl) ⟨Nat.zero_le _, Nat.zero_le _⟩ dX10_drawn_31) (fun s13 H9 locs9 hs13 hP9 hD9 hS9 => ?_)
      clear hP hD hS
      have hS := hS9
      have hP := hP9
      have hD := hD9
      clear hP9 hD9 hS9
      obtain ⟨hBs13, gs13, qs13_0, qs13_1, qs13_2, qs13_3, qs13_4, qs13_5, qs13_6, qs13_7, qs13_8, qs13_9, qs13_10, qs13_11, qs13_12, qs13_13, qs13_14, qs13_15, fs13⟩ := hs13
      have hFs13 : FR [7, 9, 8, 10, 11, 0] st s13 := fr_ca fr_rf gs13 (sub_1 (List.mem_of_getElem? (i := 0) rfl) (sub_1 (List.mem_of_getElem? (i := 1) rfl) (sub_1 (List.mem_of_getElem? (i := 2) rfl) (sub_1 (List.mem_of_getElem? (i := 3) rfl) (sub_1 (List.mem_of_getElem? (i := 4) rfl) (sub_1 (List.mem_of_getElem? (i := 5) rfl) sub_0))))))
      refine lv_iload hx hb dX10_drawn_34 (lv_at hl 4 rfl) ?_
      refine lv_if_ne (tgt := 48) hx hb dX10_drawn_36 (by decide) (fun c15 => ?_) (fun c15 => ?_)
      · skip
        have h16 : Iv 1 2 p3 := ne_lo h11 (show ¬ p3 = 0 from c15) (by decide) (by decide)
        refine lv_iload hx hb dX10_drawn_48 (lv_at hl 4 rfl) ?_
        refine lv_iconst (v := 1) hx hb dX10_drawn_50 (by decide) ?_
        refine lv_icmp_ne (tgt := 63) hx hb dX10_drawn_51 (by decide) (fun c17 => ?_) (fun c17 => ?_)
        · skip
          have h18 : Iv 2 2 p3 := ne_lo h16 (show ¬ p3 = 1 from c17) (by decide) (by decide)
          refine lv_aload_n hx hb dX10_drawn_63 rfl (lv_at hl 0 rfl) ?_
          refine va_get (D := D) (ci := 10) (v := .int (s13 0 33)) (C := RX10) (T := TX10) (N := 38) hx hb hT in_X10 hown hK hP 0 mw_0 rfl 33 (by decide) (hT _ t1295) (fun _ h9 => h9) rfl dX10_drawn_64 ?_
          rw [hQ]
          exact W.iret (v := (s13 0 33)) hx hb hr (fun t ht hW => ⟨⟨(s13 0 33), s13, rfl, ⟨hBs13, hFs13, qs13_0, qs13_1, qs13_2, qs13_3, qs13_4, qs13_5, qs13_6, qs13_7, qs13_8, qs13_9, qs13_10, qs13_11, qs13_12, qs13_13, qs13_14, qs13_15, trivial⟩, by rw [ht]; exact hP, va_K.moved hW.alike (hK.sub (tys' := []) [] rfl), by rw [hAe]; exact hD⟩, by rw [hAe]; exact hS.F ht⟩) hS.2.2 dX10_drawn_67
        · skip
          have h19 : Iv 1 1 p3 := eq_l c17 (iv_c (by decide) : Iv 1 1 1)
          refine lv_aload_n hx hb dX10_drawn_54 rfl (lv_at hl 0 rfl) ?_
          refine va_get (D := D) (ci := 10) (v := .ref (a 11)) (C := RX10) (T := TX10) (N := 38) hx hb hT in_X10 hown hK hP 0 mw_0 rfl 19 (by decide) (hT _ t1281) (fun _ h9 => h9) rfl dX10_drawn_55 ?_
          refine lv_iload_n hx hb dX10_drawn_58 rfl (lv_at hl 2 rfl) ?_
          refine va_iald hx hb hK hP 11 0 mw_11 rfl (iv_in h4 (by decide) (by decide)) dX10_drawn_59 ?_
          refine lv_topi (fun z20 ez20 => ?_)
          refine lv_goto (tgt := 67) hx hb dX10_drawn_60 (by decide) ?_
          rw [hQ]
          exact W.iret (v := z20) hx hb hr (fun t ht hW => ⟨⟨z20, s13, rfl, ⟨hBs13, hFs13, qs13_0, qs13_1, qs13_2, qs13_3, qs13_4, qs13_5, qs13_6, qs13_7, qs13_8, qs13_9, qs13_10, qs13_11, qs13_12, qs13_13, qs13_14, qs13_15, trivial⟩, by rw [ht]; exact hP, va_K.moved hW.alike (hK.sub (tys' := []) [] rfl), by rw [hAe]; exact hD⟩, by rw [hAe]; exact hS.F ht⟩) hS.2.2 dX10_drawn_67
      · skip
        have h21 : Iv 0 0 p3 := eq_l c15 (iv_c (by decide) : Iv 0 0 0)
        refine lv_aload_n hx hb dX10_drawn_39 rfl (lv_at hl 0 rfl) ?_
        refine va_get (D := D) (ci := 10) (v := .ref (a 10)) (C := RX10) (T := TX10) (N := 38) hx hb hT in_X10 hown hK hP 0 mw_0 rfl 18 (by decide) (hT _ t1280) (fun _ h9 => h9) rfl dX10_drawn_40 ?_
        refine lv_iload_n hx hb dX10_drawn_43 rfl (lv_at hl 2 rfl) ?_
        refine va_iald hx hb hK hP 10 0 mw_10 rfl (iv_in h4 (by decide) (by decide)) dX10_drawn_44 ?_
        refine lv_topi (fun z22 ez22 => ?_)
        refine lv_goto (tgt := 67) hx hb dX10_drawn_45 (by decide) ?_
        rw [hQ]
        exact W.iret (v := z22) hx hb hr (fun t ht hW => ⟨⟨z22, s13, rfl, ⟨hBs13, hFs13, qs13_0, qs13_1, qs13_2, qs13_3, qs13_4, qs13_5, qs13_6, qs13_7, qs13_8, qs13_9, qs13_10, qs13_11, qs13_12, qs13_13, qs13_14, qs13_15, trivial⟩, by rw [ht]; exact hP, va_K.moved hW.alike (hK.sub (tys' := []) [] rfl), by rw [hAe]; exact hD⟩, by rw [hAe]; exact hS.F ht⟩) hS.2.2 dX10_drawn_67
    · skip
      have g23 := g9
      have k24 := g23
      refine lv_if_ne (tgt := 26) hx hb dX10_drawn_20 (by decide) (fun c25 => ?_) (fun c25 => ?_)
      · first | exact absurd c25 (by decide) | exact absurd (by decide) c25
      refine lv_bipush (v := (-2)) hx hb dX10_drawn_23 (by decide) ?_
      rw [hQ]
      exact W.iret (v := (-2)) hx hb hr (fun t ht hW => ⟨⟨(-2), st, rfl, ⟨hB, fr_rf, rfl, rfl, rfl, rfl, rfl, rfl, rfl, rfl, rfl, rfl, rfl, rfl, rfl, rfl, rfl, rfl, trivial⟩, by rw [ht]; exact hP, va_K.moved hW.alike (hK.sub (tys' := []) [] rfl), by rw [hAe]; exact hD⟩, by rw [hAe]; exact hS.F ht⟩) hS.2.2 dX10_drawn_25
  · skip
    have g26 := g9
    refine lv_if_eq (tgt := 23) hx hb dX10_drawn_7 (by decide) (fun c27 => ?_) (fun c27 => ?_)
    rotate_left
    · first | exact absurd c27 (by decide) | exact absurd (by decide) c27
    refine lv_bipush (v := (-2)) hx hb dX10_drawn_23 (by decide) ?_
    rw [hQ]
    exact W.iret (v := (-2)) hx hb hr (fun t ht hW => ⟨⟨(-2), st, rfl, ⟨hB, fr_rf, rfl, rfl, rfl, rfl, rfl, rfl, rfl, rfl, rfl, rfl, rfl, rfl, rfl, rfl, rfl, rfl, trivial⟩, by rw [ht]; exact hP, va_K.moved hW.alike (hK.sub (tys' := []) [] rfl), by rw [hAe]; exact hD⟩, by rw [hAe]; exact hS.F ht⟩) hS.2.2 dX10_drawn_25
set_option maxHeartbeats 4000000 in
set_option maxRecDepth 100000 in
theorem m_X10_luck (l : Launch) (D : va_G) (k : Nat → ClassId) (a : Nat → Nat) (st : CT) (sl : CL) (p0 : Int32) (p1 : Int32) (p2 : Int32) (p3 : Int32) (p4 : Int32) (sz : Nat) (hB : MB st)  (hw : WOK (st 1)) : Met l yX10_luck (.code yX10_luck cX10_luck 8 (some .int) :: TB) (rmw 9 0 0) (va_Pc [.ref (a 0), .int p0, .int p1, .int p2, .int p3, .int p4] (PW D k sz (MWS k a st sl))) (QI D (S := CT) (fun r u => MB u ∧ FR [7, 9, 8, 10, 11, 0] st u ∧ u 0 0 = st 0 0 ∧ u 0 5 = st 0 5 ∧ u 0 7 = st 0 7 ∧ u 0 8 = st 0 8 ∧ u 0 9 = st 0 9 ∧ u 0 10 = st 0 10 ∧ u 0 11 = st 0 11 ∧ u 0 12 = st 0 12 ∧ u 0 13 = st 0 13 ∧ u 0 20 = st 0 20 ∧ u 0 21 = st 0 21 ∧ u 0 22 = st 0 22 ∧ u 0 26 = st 0 26 ∧ u 0 27 = st 0 27 ∧ u 0 29 = st 0 29 ∧ u 0 31 = st 0 31 ∧ ((True))) (fun u => MWS k a u sl) (fun _ => []) (MWS k a st sl) sz) 0 0 (va_A (MWS k a st sl) sz) := by
  refine Met.ofW (cc := cX10_luck) (maxL := 8) (ret := (some .int)) (by decide) rfl ?_
  intro p e s m args below meth c s₁ B hml hv
  obtain ⟨rfl, hsz, hP, hK, hD0, hN⟩ := hv
  have hx := B.exec
  have hb := B.bytes
  have hr := B.returns
  have hT : ∀ w9 ∈ TB, w9.before ([.ref (a 0), .int p0, .int p1, .int p2, .int p3, .int p4] : List Value).toArray s = true := fun w9 h => atoms_spec (ws := .code yX10_luck cX10_luck 8 (some .int) :: TB) B.pre w9 (List.mem_cons_of_mem _ h)
  have hown : s.vm.findClass RX10 = some m.cls := findClass_of_methodNamed B.named
  have S : CallFix p m c cX10_luck 8 s _ TB RX10 := ⟨hx, hb, hml, hown, hT⟩
  subst hsz
  have hD := hD0.self (sz := s.heap.size)
  generalize hAe : va_A (MWS k a st sl) s.heap.size = A at hD ⊢
  have hA : ∀ q : Nat, s.heap.size ≤ q → A q := fun q h => by rw [← hAe]; exact Or.inr h
  have hS : va_S A s.heap s.heap [] := va_S.rf
  have hl := lv_entry ([.ref (a 0), .int p0, .int p1, .int p2, .int p3, .int p4]) (n := 8) (Nat.le_of_ble_eq_true rfl)
  rw [lg_entry_eq]
  generalize (lg_sl ([.ref (a 0), .int p0, .int p1, .int p2, .int p3, .int p4]) ++ List.replicate (8 - (lg_sl ([.ref (a 0), .int p0, .int p1, .int p2, .int p3, .int p4])).length) Slot.unset).toArray = ls at hl ⊢
  have hl : lv_has ls 8 [(0, .ref (a 0)), (1, .int p0), (2, .int p1), (3, .int p2), (4, .int p3), (5, .int p4)] := hl
  refine nameQ (fun Q hQ => ?_)
  refine lv_aload_n hx hb dX10_luck_0 rfl (lv_at hl 0 rfl) ?_
  refine lv_iload_n hx hb dX10_luck_1 rfl (lv_at hl 1 rfl) ?_
  refine lv_iload_n hx hb dX10_luck_2 rfl (lv_at hl 3 rfl) ?_
  refine lv_iload hx hb dX10_luck_3 (lv_at hl 4 rfl) ?_
  refine ro_V (As := [.int p0, .int p2, .int p3]) (rest := []) S (m_X10_isDrawn l D k a st sl  p0 p2 p3 _  hB  hw) lkX10_424 ok_X10_isDrawn ⟨rfl, rfl, Nat.le_of_ble_eq_true rfl, Nat.le_of_ble_eq_true rfl⟩ (pw_V (ci := 10) (q0 := 0) hK hN rfl mw_0 hP (hD.weaken (fun _ _ _ _ => trivial))) rfl hl.1 rfl (Nat.le_of_ble_eq_true rfl) ⟨Nat.zero_le _, Nat.zero_le _⟩ dX10_luck_5 (fun r1 er1 => ?_)
  rcases er1 with ⟨rfl, g9⟩ | ⟨rfl, g9⟩
  · skip
    have g2 := g9
    have h3 : Iv 0 2000000000 p0 := g2.1
    have h4 : Iv 0 2 p2 := g2.2.1
    have h5 : Iv 0 40 p3 := g2.2.2.1
    refine lv_if_eq (tgt := 33) hx hb dX10_luck_8 (by decide) (fun c6 => ?_) (fun c6 => ?_)
    · first | exact absurd c6 (by decide) | exact absurd (by decide) c6
    refine lv_iload_n hx hb dX10_luck_11 rfl (lv_at hl 2 rfl) ?_
    refine lv_i2l hx hb dX10_luck_12 rfl ?_
    refine lv_lconst (v := 1) hx hb dX10_luck_13 (by decide) ?_
    refine lv_ldc2 (v := 20) hx hb hown (hT _ t1853) dX10_luck_14 ?_
    refine ro_S (As := [.long (p1.toInt64), .long 1, .long 20]) (rest := []) S (m_X10_in l D k a st sl  (p1.toInt64) 1 20 _  hB  ) lkX10_85 ok_X10_in ⟨rfl, rfl, Nat.le_of_ble_eq_true rfl, Nat.le_of_ble_eq_true rfl⟩ (pw_S hK hN hP (hD.weaken (fun _ _ _ _ => trivial))) rfl hl.1 rfl (Nat.le_of_ble_eq_true rfl) ⟨Nat.zero_le _, Nat.zero_le _⟩ dX10_luck_17 (fun r7 er7 => ?_)
    rcases er7 with ⟨rfl, g9⟩ | ⟨rfl, g9⟩
    · skip
      have g8 := g9
      have k9 := g8
      have h10 : (1 : Int) ≤ (p1.toInt64).toInt ∧ (p1.toInt64).toInt ≤ (20 : Int) := ⟨((show (1 : Int) ≤ (p1.toInt64).toInt ∧ (p1.toInt64).toInt ≤ (20 : Int) from ⟨Int.le_trans ((⟨by decide, by decide⟩ : (1 : Int) ≤ (1 : Int64).toInt ∧ (1 : Int64).toInt ≤ (1 : Int))).1 k9.1, Int.le_trans k9.2 ((⟨by decide, by decide⟩ : (20 : Int) ≤ (20 : Int64).toInt ∧ (20 : Int64).toInt ≤ (20 : Int))).2⟩)).1, ((show (1 : Int) ≤ (p1.toInt64).toInt ∧ (p1.toInt64).toInt ≤ (20 : Int) from ⟨Int.le_trans ((⟨by decide, by decide⟩ : (1 : Int) ≤ (1 : Int64).toInt ∧ (1 : Int64).toInt ≤ (1 : Int))).1 k9.1, Int.le_trans k9.2 ((⟨by decide, by decide⟩ : (20 : Int) ≤ (20 : Int64).toInt ∧ (20 : Int64).toInt ≤ (20 : Int))).2⟩)).2⟩
      have h11 : Iv 1 20 p1 := iv_lv h10
      refine lv_if_eq (tgt := 33) hx hb dX10_luck_20 (by decide) (fun c12 => ?_) (fun c12 => ?_)
      · first | exact absurd c12 (by decide) | exact absurd (by decide) c12
      refine lv_aload_n hx hb dX10_luck_23 rfl (lv_at hl 0 rfl) ?_
      refine lv_iload hx hb dX10_luck_24 (lv_at hl 5 rfl) ?_
      refine lv_i2l hx hb dX10_luck_26 rfl ?_
      refine ro_V (As := [.long (p4.toInt64)]) (rest := []) S (m_X10_isPlace l D k a st sl  (p4.toInt64) _  hB  hw) lkX10_282 ok_X10_isPlace ⟨rfl, rfl, Nat.le_of_ble_eq_true rfl, Nat.le_of_ble_eq_true rfl⟩ (pw_V (ci := 10) (q0 := 0) hK hN rfl mw_0 hP (hD.weaken (fun _ _ _ _ => trivial))) rfl hl.1 rfl (Nat.le_of_ble_eq_true rfl) ⟨Nat.zero_le _, Nat.zero_le _⟩ dX10_luck_27 (fun r13 er13 => ?_)
      rcases er13 with ⟨rfl, g9⟩ | ⟨rfl, g9⟩
      · skip
        have g14 := g9
        have h15 : (0 : Int) ≤ (p4.toInt64).toInt ∧ (p4.toInt64).toInt ≤ (5 : Int) := ⟨(g14).1, (g14).2⟩
        have h16 : Iv 0 5 p4 := iv_lv h15
        refine lv_if_ne (tgt := 36) hx hb dX10_luck_30 (by decide) (fun c17 => ?_) (fun c17 => ?_)
        rotate_left
        · first | exact absurd c17 (by decide) | exact absurd (by decide) c17
        refine lv_iconst (v := 0) hx hb dX10_luck_36 (by decide) ?_
        refine lv_istore (lv' := [(6, .int 0), (0, .ref (a 0)), (1, .int p0), (2, .int p1), (3, .int p2), (4, .int p3), (5, .int p4)]) hx hb dX10_luck_37 hl (by decide) rfl (fun ls hl => ?_)
        refine lv_iconst (v := 0) hx hb dX10_luck_39 (by decide) ?_
        refine lv_istore (lv' := [(7, .int 0), (6, .int 0), (0, .ref (a 0)), (1, .int p0), (2, .int p1), (3, .int p2), (4, .int p3), (5, .int p4)]) hx hb dX10_luck_40 hl (by decide) rfl (fun ls hl => ?_)
        have lp42 : ∀ (n9_42 : Nat) (v7_42 : Int32) (v6_42 : Int32) (t42 : CT) (H9 : Heap) (locs9 : List Loc) (ls : Array Slot), Iv 0 20 v7_42 → MB t42 → FR [7, 9, 8, 10, 11, 0] st t42 → t42 0 0 = st 0 0 → t42 0 5 = st 0 5 → t42 0 7 = st 0 7 → t42 0 8 = st 0 8 → t42 0 9 = st 0 9 → t42 0 10 = st 0 10 → t42 0 11 = st 0 11 → t42 0 12 = st 0 12 → t42 0 13 = st 0 13 → t42 0 20 = st 0 20 → t42 0 21 = st 0 21 → t42 0 22 = st 0 22 → t42 0 26 = st 0 26 → t42 0 27 = st 0 27 → t42 0 29 = st 0 29 → t42 0 31 = st 0 31 → va_P D vwCl (MWS k a t42 sl) H9 → va_D A (MWS k a t42 sl) → va_S A s.heap H9 locs9 → lv_has ls 8 [(7, .int v7_42), (6, .int v6_42), (0, .ref (a 0)), (1, .int p0), (2, .int p1), (3, .int p2), (4, .int p3), (5, .int p4)] → (20 : Int) - v7_42.toInt < (n9_42 : Int) → W p l e (rmw 9 0 0) s m ([.ref (a 0), .int p0, .int p1, .int p2, .int p3, .int p4] : List Value).toArray below meth c H9 locs9 0 0 Q (F0 m 42 ls []) := by
          clear hl hP hD hS
          intro n9_42
          induction n9_42 with
          | zero =>
            intro v7_42 v6_42 t42 H9 locs9 ls iv7_42 hBt42 gt42 qt42_0 qt42_1 qt42_2 qt42_3 qt42_4 qt42_5 qt42_6 qt42_7 qt42_8 qt42_9 qt42_10 qt42_11 qt42_12 qt42_13 qt42_14 qt42_15 hP hD hS hl hm42
            exact (fu_0 iv7_42 hm42).elim
          | succ n9_42 ih42 =>
            intro v7_42 v6_42 t42 H9 locs9 ls iv7_42 hBt42 gt42 qt42_0 qt42_1 qt42_2 qt42_3 qt42_4 qt42_5 qt42_6 qt42_7 qt42_8 qt42_9 qt42_10 qt42_11 qt42_12 qt42_13 qt42_14 qt42_15 hP hD hS hl hm42
            have hFt42 : FR [7, 9, 8, 10, 11, 0] st t42 := fr_ca fr_rf gt42 (sub_1 (List.mem_of_getElem? (i := 0) rfl) (sub_1 (List.mem_of_getElem? (i := 1) rfl) (sub_1 (List.mem_of_getElem? (i := 2) rfl) (sub_1 (List.mem_of_getElem? (i := 3) rfl) (sub_1 (List.mem_of_getElem? (i := 4) rfl) (sub_1 (List.mem_of_getElem? (i := 5) rfl) sub_0))))))
            refine lv_iload hx hb dX10_luck_42 (lv_at hl 0 rfl) ?_
            refine lv_iload_n hx hb dX10_luck_44 rfl (lv_at hl 4 rfl) ?_
            refine lv_icmp_ge (tgt := 88) hx hb dX10_luck_45 (by decide) (fun c659 => ?_) (fun c659 => ?_)
            · skip
              have n660 : p1.toInt ≤ v7_42.toInt := (i_le c659)
              have h661 : Iv 1 20 v7_42 := le_r h11 n660 iv7_42 (by decide)
              refine lv_iload hx hb dX10_luck_88 (lv_at hl 1 rfl) ?_
              rw [hQ]
              exact W.iret (v := v6_42) hx hb hr (fun t ht hW => ⟨⟨v6_42, t42, rfl, ⟨hBt42, hFt42, qt42_0, qt42_1, qt42_2, qt42_3, qt42_4, qt42_5, qt42_6, qt42_7, qt42_8, qt42_9, qt42_10, qt42_11, qt42_12, qt42_13, qt42_14, qt42_15, trivial⟩, by rw [ht]; exact hP, va_K.moved hW.alike (hK.sub (tys' := []) [] rfl), by rw [hAe]; exact hD⟩, by rw [hAe]; exact hS.F ht⟩) hS.2.2 dX10_luck_90
            · skip
              have n662 : v7_42.toInt < p1.toInt := (i_nle c659)
              have h663 : Iv 0 19 v7_42 := lt_l iv7_42 n662 h11 (by decide)
              refine lv_aload_n hx hb dX10_luck_48 rfl (lv_at hl 2 rfl) ?_
              refine lv_iload_n hx hb dX10_luck_49 rfl (lv_at hl 3 rfl) ?_
              refine lv_i2l hx hb dX10_luck_50 rfl ?_
              refine lv_iload hx hb dX10_luck_51 (lv_at hl 0 rfl) ?_
              refine lv_i2l hx hb dX10_luck_53 rfl ?_
              refine lv_ladd hx hb dX10_luck_54 ?_
              refine lv_topl (fun z664 ez664 => ?_)
              refine lv_iload_n hx hb dX10_luck_55 rfl (lv_at hl 5 rfl) ?_
              refine lv_iload hx hb dX10_luck_56 (lv_at hl 6 rfl) ?_
              refine ca_v hP hD hS hA (fun hDc => run_V (mc := 0) (ms := 0) (As := [.long z664, .int p2, .int p3]) (rest := []) S (m_X10_goDrawn l D k a t42 sl  z664 p2 p3 _  hBt42 h4 h5 (wok_of (hFt42 1 (nm_1 (by decide) (nm_1 (by decide) (nm_1 (by decide) (nm_1 (by decide) (nm_1 (by decide) (nm_1 (by decide) nm_0))))))) hw)) lkX10_428 ok_X10_goDrawn ⟨rfl, rfl, Nat.le_of_ble_eq_true rfl, Nat.le_of_ble_eq_true rfl⟩ (pw_V (ci := 10) (q0 := 0) hK hN rfl mw_0 hP hDc) rfl hl.1 rfl (Nat.le_of_ble_eq_true rfl) ⟨Nat.zero_le _, Nat.zero_le _⟩ dX10_luck_58) (fun s665 H9 locs9 hs665 hP9 hD9 hS9 => ?_)
              clear hP hD hS
              have hS := hS9
              have hP := hP9
              have hD := hD9
              clear hP9 hD9 hS9
              obtain ⟨hBs665, gs665, qs665_0, qs665_1, qs665_2, qs665_3, qs665_4, qs665_5, qs665_6, qs665_7, qs665_8, qs665_9, qs665_10, qs665_11, qs665_12, qs665_13, qs665_14, qs665_15, fs665⟩ := hs665
              have hFs665 : FR [7, 9, 8, 10, 11, 0] st s665 := fr_ca hFt42 gs665 (sub_1 (List.mem_of_getElem? (i := 0) rfl) (sub_1 (List.mem_of_getElem? (i := 1) rfl) (sub_1 (List.mem_of_getElem? (i := 2) rfl) (sub_1 (List.mem_of_getElem? (i := 3) rfl) (sub_1 (List.mem_of_getElem? (i := 4) rfl) (sub_1 (List.mem_of_getElem? (i := 5) rfl) sub_0))))))
              refine lv_iload hx hb dX10_luck_61 (lv_at hl 1 rfl) ?_
              refine lv_aload_n hx hb dX10_luck_63 rfl (lv_at hl 2 rfl) ?_
              refine va_get (D := D) (ci := 10) (v := .ref (a 10)) (C := RX10) (T := TX10) (N := 38) hx hb hT in_X10 hown hK hP 0 mw_0 rfl 18 (by decide) (hT _ t1280) (fun _ h9 => h9) rfl dX10_luck_64 ?_
              refine lv_iload_n hx hb dX10_luck_67 rfl (lv_at hl 5 rfl) ?_
              refine va_iald hx hb hK hP 10 0 mw_10 rfl (iv_in h4 (by decide) (by decide)) dX10_luck_68 ?_
              refine lv_topi (fun z667 ez667 => ?_)
              refine lv_iload hx hb dX10_luck_69 (lv_at hl 7 rfl) ?_
              refine lv_icmp_ne (tgt := 78) hx hb dX10_luck_71 (by decide) (fun c668 => ?_) (fun c668 => ?_)
              · skip
                refine lv_iconst (v := 0) hx hb dX10_luck_78 (by decide) ?_
                refine lv_iadd hx hb dX10_luck_79 ?_
                refine lv_topi (fun z669 ez669 => ?_)
                refine lv_istore (lv' := [(6, .int z669), (7, .int v7_42), (0, .ref (a 0)), (1, .int p0), (2, .int p1), (3, .int p2), (4, .int p3), (5, .int p4)]) hx hb dX10_luck_80 hl (by decide) rfl (fun ls hl => ?_)
                obtain ⟨z670, ez670⟩ : ∃ z9 : Int32, z9 = v7_42 + Int32.ofInt 1 := ⟨_, rfl⟩
                have h671 : Iv 1 20 z670 := iv_inc ez670 h663 (by decide) (by decide) (by decide) (by decide) (by decide) (by decide)
                refine lv_iinc (v := z670) (lv' := [(7, .int z670), (6, .int z669), (0, .ref (a 0)), (1, .int p0), (2, .int p1), (3, .int p2), (4, .int p3), (5, .int p4)]) hx hb dX10_luck_82 hl (k := 1) rfl ez670.symm (by decide) rfl (fun ls hl => ?_)
                refine lv_goto (tgt := 42) hx hb dX10_luck_85 (by decide) ?_
                exact ih42 z670 z669 s665 _ _ _ (iv_mono (c := 0) (d := 20) h671 (by decide) (by decide)) hBs665 (fr_ca gt42 gs665 (sub_1 (List.mem_of_getElem? (i := 0) rfl) (sub_1 (List.mem_of_getElem? (i := 1) rfl) (sub_1 (List.mem_of_getElem? (i := 2) rfl) (sub_1 (List.mem_of_getElem? (i := 3) rfl) (sub_1 (List.mem_of_getElem? (i := 4) rfl) (sub_1 (List.mem_of_getElem? (i := 5) rfl) sub_0))))))) (Eq.trans qs665_0 qt42_0) (Eq.trans qs665_1 qt42_1) (Eq.trans qs665_2 qt42_2) (Eq.trans qs665_3 qt42_3) (Eq.trans qs665_4 qt42_4) (Eq.trans qs665_5 qt42_5) (Eq.trans qs665_6 qt42_6) (Eq.trans qs665_7 qt42_7) (Eq.trans qs665_8 qt42_8) (Eq.trans qs665_9 qt42_9) (Eq.trans qs665_10 qt42_10) (Eq.trans qs665_11 qt42_11) (Eq.trans qs665_12 qt42_12) (Eq.trans qs665_13 qt42_13) (Eq.trans qs665_14 qt42_14) (Eq.trans qs665_15 qt42_15) hP hD hS (lv_sub hl [0, 1, 2, 3, 4, 5, 6, 7] rfl) (fu_s (lo := 0) (ti_inc ez670 h663 (by decide) (by decide) (by decide) (by decide)) (by decide) hm42)
              · skip
                have h672 : Iv 0 5 z667 := eq_l c668 h16
                refine lv_iconst (v := 1) hx hb dX10_luck_74 (by decide) ?_
                refine lv_goto (tgt := 79) hx hb dX10_luck_75 (by decide) ?_
                refine lv_iadd hx hb dX10_luck_79 ?_
                refine lv_topi (fun z673 ez673 => ?_)
                refine lv_istore (lv' := [(6, .int z673), (7, .int v7_42), (0, .ref (a 0)), (1, .int p0), (2, .int p1), (3, .int p2), (4, .int p3), (5, .int p4)]) hx hb dX10_luck_80 hl (by decide) rfl (fun ls hl => ?_)
                obtain ⟨z674, ez674⟩ : ∃ z9 : Int32, z9 = v7_42 + Int32.ofInt 1 := ⟨_, rfl⟩
                have h675 : Iv 1 20 z674 := iv_inc ez674 h663 (by decide) (by decide) (by decide) (by decide) (by decide) (by decide)
                refine lv_iinc (v := z674) (lv' := [(7, .int z674), (6, .int z673), (0, .ref (a 0)), (1, .int p0), (2, .int p1), (3, .int p2), (4, .int p3), (5, .int p4)]) hx hb dX10_luck_82 hl (k := 1) rfl ez674.symm (by decide) rfl (fun ls hl => ?_)
                refine lv_goto (tgt := 42) hx hb dX10_luck_85 (by decide) ?_
                exact ih42 z674 z673 s665 _ _ _ (iv_mono (c := 0) (d := 20) h675 (by decide) (by decide)) hBs665 (fr_ca gt42 gs665 (sub_1 (List.mem_of_getElem? (i := 0) rfl) (sub_1 (List.mem_of_getElem? (i := 1) rfl) (sub_1 (List.mem_of_getElem? (i := 2) rfl) (sub_1 (List.mem_of_getElem? (i := 3) rfl) (sub_1 (List.mem_of_getElem? (i := 4) rfl) (sub_1 (List.mem_of_getElem? (i := 5) rfl) sub_0))))))) (Eq.trans qs665_0 qt42_0) (Eq.trans qs665_1 qt42_1) (Eq.trans qs665_2 qt42_2) (Eq.trans qs665_3 qt42_3) (Eq.trans qs665_4 qt42_4) (Eq.trans qs665_5 qt42_5) (Eq.trans qs665_6 qt42_6) (Eq.trans qs665_7 qt42_7) (Eq.trans qs665_8 qt42_8) (Eq.trans qs665_9 qt42_9) (Eq.trans qs665_10 qt42_10) (Eq.trans qs665_11 qt42_11) (Eq.trans qs665_12 qt42_12) (Eq.trans qs665_13 qt42_13) (Eq.trans qs665_14 qt42_14) (Eq.trans qs665_15 qt42_15) hP hD hS (lv_sub hl [0, 1, 2, 3, 4, 5, 6, 7] rfl) (fu_s (lo := 0) (ti_inc ez674 h663 (by decide) (by decide) (by decide) (by decide)) (by decide) hm42)
        exact lp42 21 0 0 st _ _ _ (iv_mono (c := 0) (d := 20) (iv_c (by decide) : Iv 0 0 0) (by decide) (by decide)) hB fr_rf rfl rfl rfl rfl rfl rfl rfl rfl rfl rfl rfl rfl rfl rfl rfl rfl hP hD hS (lv_sub hl [0, 1, 2, 3, 4, 5, 6, 7] rfl) (fu_i (iv_mono (c := 0) (d := 20) (iv_c (by decide) : Iv 0 0 0) (by decide) (by decide)) (by decide))
      · skip
        have g676 := g9
        refine lv_if_ne (tgt := 36) hx hb dX10_luck_30 (by decide) (fun c677 => ?_) (fun c677 => ?_)
        · first | exact absurd c677 (by decide) | exact absurd (by decide) c677
        refine lv_bipush (v := (-2)) hx hb dX10_luck_33 (by decide) ?_
        rw [hQ]
        exact W.iret (v := (-2)) hx hb hr (fun t ht hW => ⟨⟨(-2), st, rfl, ⟨hB, fr_rf, rfl, rfl, rfl, rfl, rfl, rfl, rfl, rfl, rfl, rfl, rfl, rfl, rfl, rfl, rfl, rfl, trivial⟩, by rw [ht]; exact hP, va_K.moved hW.alike (hK.sub (tys' := []) [] rfl), by rw [hAe]; exact hD⟩, by rw [hAe]; exact hS.F ht⟩) hS.2.2 dX10_luck_35
    · skip
      have g678 := g9
      have k679 := g678
      refine lv_if_eq (tgt := 33) hx hb dX10_luck_20 (by decide) (fun c680 => ?_) (fun c680 => ?_)
      rotate_left
      · first | exact absurd c680 (by decide) | exact absurd (by decide) c680
      refine lv_bipush (v := (-2)) hx hb dX10_luck_33 (by decide) ?_
      rw [hQ]
      exact W.iret (v := (-2)) hx hb hr (fun t ht hW => ⟨⟨(-2), st, rfl, ⟨hB, fr_rf, rfl, rfl, rfl, rfl, rfl, rfl, rfl, rfl, rfl, rfl, rfl, rfl, rfl, rfl, rfl, rfl, trivial⟩, by rw [ht]; exact hP, va_K.moved hW.alike (hK.sub (tys' := []) [] rfl), by rw [hAe]; exact hD⟩, by rw [hAe]; exact hS.F ht⟩) hS.2.2 dX10_luck_35
  · skip
    have g681 := g9
    refine lv_if_eq (tgt := 33) hx hb dX10_luck_8 (by decide) (fun c682 => ?_) (fun c682 => ?_)
    rotate_left
    · first | exact absurd c682 (by decide) | exact absurd (by decide) c682
    refine lv_bipush (v := (-2)) hx hb dX10_luck_33 (by decide) ?_
    rw [hQ]
    exact W.iret (v := (-2)) hx hb hr (fun t ht hW => ⟨⟨(-2), st, rfl, ⟨hB, fr_rf, rfl, rfl, rfl, rfl, rfl, rfl, rfl, rfl, rfl, rfl, rfl, rfl, rfl, rfl, rfl, rfl, trivial⟩, by rw [ht]; exact hP, va_K.moved hW.alike (hK.sub (tys' := []) [] rfl), by rw [hAe]; exact hD⟩, by rw [hAe]; exact hS.F ht⟩) hS.2.2 dX10_luck_35
