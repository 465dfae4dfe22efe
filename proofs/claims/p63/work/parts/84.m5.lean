set_option maxHeartbeats 4000000 in
set_option maxRecDepth 100000 in
theorem m_X10_canWant (l : Launch) (D : va_G) (k : Nat → ClassId) (a : Nat → Nat) (st : CT) (sl : CL) (p0 : Int32) (p1 : Int64) (sz : Nat) (hB : MB st)  (hw : WOK (st 1)) : Met l yX10_canWant (.code yX10_canWant cX10_canWant 4 (some .boolean) :: TB) (rmw 8 0 0) (va_Pc [.ref (a 0), .int p0, .long p1] (PW D k sz (MWS k a st sl))) (QI D (S := CT) (fun r u => MB u ∧ FR [7, 9, 8, 10, 11] st u ∧ ((r = 1 ∧ Iv 0 2 p0 ∧ ((-1 : Int) ≤ p1.toInt ∧ p1.toInt ≤ (7 : Int))) ∨ (r = 0 ∧ (True)))) (fun u => MWS k a u sl) (fun _ => []) (MWS k a st sl) sz) 0 0 (va_A (MWS k a st sl) sz) := by
  refine Met.ofW (cc := cX10_canWant) (maxL := 4) (ret := (some .boolean)) (by decide) rfl ?_
  intro p e s m args below meth c s₁ B hml hv
  obtain ⟨rfl, hsz, hP, hK, hD0, hN⟩ := hv
  have hx := B.exec
  have hb := B.bytes
  have hr := B.returns
  have hT : ∀ w9 ∈ TB, w9.before ([.ref (a 0), .int p0, .long p1] : List Value).toArray s = true := fun w9 h => atoms_spec (ws := .code yX10_canWant cX10_canWant 4 (some .boolean) :: TB) B.pre w9 (List.mem_cons_of_mem _ h)
  have hown : s.vm.findClass RX10 = some m.cls := findClass_of_methodNamed B.named
  have S : CallFix p m c cX10_canWant 4 s _ TB RX10 := ⟨hx, hb, hml, hown, hT⟩
  subst hsz
  have hD := hD0.self (sz := s.heap.size)
  generalize hAe : va_A (MWS k a st sl) s.heap.size = A at hD ⊢
  have hA : ∀ q : Nat, s.heap.size ≤ q → A q := fun q h => by rw [← hAe]; exact Or.inr h
  have hS : va_S A s.heap s.heap [] := va_S.rf
  have hl := lv_entry ([.ref (a 0), .int p0, .long p1]) (n := 4) (Nat.le_of_ble_eq_true rfl)
  rw [lg_entry_eq]
  generalize (lg_sl ([.ref (a 0), .int p0, .long p1]) ++ List.replicate (4 - (lg_sl ([.ref (a 0), .int p0, .long p1])).length) Slot.unset).toArray = ls at hl ⊢
  have hl : lv_has ls 4 [(0, .ref (a 0)), (1, .int p0), (2, .long p1)] := hl
  refine nameQ (fun Q hQ => ?_)
  refine lv_aload_n hx hb dX10_canWant_0 rfl (lv_at hl 0 rfl) ?_
  refine lv_iload_n hx hb dX10_canWant_1 rfl (lv_at hl 1 rfl) ?_
  refine ro_V (As := [.int p0]) (rest := []) S (m_X10_isCart l D k a st sl  p0 _  hB  hw) lkX10_279 ok_X10_isCart ⟨rfl, rfl, Nat.le_of_ble_eq_true rfl, Nat.le_of_ble_eq_true rfl⟩ (pw_V (ci := 10) (q0 := 0) hK hN rfl mw_0 hP (hD.weaken (fun _ _ _ _ => trivial))) rfl hl.1 rfl (Nat.le_of_ble_eq_true rfl) ⟨Nat.zero_le _, Nat.zero_le _⟩ dX10_canWant_2 (fun r1 er1 => ?_)
  rcases er1 with ⟨rfl, g9⟩ | ⟨rfl, g9⟩
  · skip
    have g2 := g9
    have h3 : Iv 0 2 p0 := g2.1
    refine lv_if_eq (tgt := 24) hx hb dX10_canWant_5 (by decide) (fun c4 => ?_) (fun c4 => ?_)
    · first | exact absurd c4 (by decide) | exact absurd (by decide) c4
    refine lv_lload_n hx hb dX10_canWant_8 rfl (lv_at hl 2 rfl) ?_
    refine lv_ldc2 (v := (-1)) hx hb hown (hT _ t1617) dX10_canWant_9 ?_
    refine W.lcmp hx hb dX10_canWant_12 ?_
    refine lv_topi (fun z5 ez5 => ?_)
    refine lv_if_eq (tgt := 26) hx hb dX10_canWant_13 (by decide) (fun c6 => ?_) (fun c6 => ?_)
    · skip
      have n7 := lc_eq ez5 c6
      have h8 : ((-1) : Int) ≤ p1.toInt ∧ p1.toInt ≤ ((-1) : Int) := ⟨((show ((-1) : Int) ≤ p1.toInt ∧ p1.toInt ≤ ((-1) : Int) by have y1 := (⟨by decide, by decide⟩ : ((-1) : Int) ≤ ((-1) : Int64).toInt ∧ ((-1) : Int64).toInt ≤ ((-1) : Int)); omega)).1, ((show ((-1) : Int) ≤ p1.toInt ∧ p1.toInt ≤ ((-1) : Int) by have y1 := (⟨by decide, by decide⟩ : ((-1) : Int) ≤ ((-1) : Int64).toInt ∧ ((-1) : Int64).toInt ≤ ((-1) : Int)); omega)).2⟩
      refine lv_aload_n hx hb dX10_canWant_26 rfl (lv_at hl 0 rfl) ?_
      refine ca_v hP hD hS hA (fun hDc => run_V (mc := 0) (ms := 0) (As := []) (rest := []) S (m_X10_asItIs l D k a st sl   _  hB  hw) lkX10_273 ok_X10_asItIs ⟨rfl, rfl, Nat.le_of_ble_eq_true rfl, Nat.le_of_ble_eq_true rfl⟩ (pw_V (ci := 10) (q0 := 0) hK hN rfl mw_0 hP hDc) rfl hl.1 rfl (Nat.le_of_ble_eq_true rfl) ⟨Nat.zero_le _, Nat.zero_le _⟩ dX10_canWant_27) (fun s9 H9 locs9 hs9 hP9 hD9 hS9 => ?_)
      clear hP hD hS
      have hS := hS9
      have hP := hP9
      have hD := hD9
      clear hP9 hD9 hS9
      obtain ⟨hBs9, gs9, fs9⟩ := hs9
      have hFs9 : FR [7, 9, 8, 10, 11] st s9 := fr_ca fr_rf gs9 (sub_1 (List.mem_of_getElem? (i := 0) rfl) (sub_1 (List.mem_of_getElem? (i := 1) rfl) (sub_1 (List.mem_of_getElem? (i := 2) rfl) (sub_1 (List.mem_of_getElem? (i := 3) rfl) (sub_1 (List.mem_of_getElem? (i := 4) rfl) sub_0)))))
      refine lv_lload_n hx hb dX10_canWant_30 rfl (lv_at hl 2 rfl) ?_
      refine lv_ldc2 (v := (-1)) hx hb hown (hT _ t1617) dX10_canWant_31 ?_
      refine W.lcmp hx hb dX10_canWant_34 ?_
      refine lv_topi (fun z11 ez11 => ?_)
      refine lv_if_eq (tgt := 53) hx hb dX10_canWant_35 (by decide) (fun c12 => ?_) (fun c12 => ?_)
      · skip
        have n13 := lc_eq ez11 c12
        refine lv_iconst (v := 1) hx hb dX10_canWant_53 (by decide) ?_
        refine lv_goto (tgt := 58) hx hb dX10_canWant_54 (by decide) ?_
        rw [hQ]
        exact W.zret (v := 1) (ty := .boolean) hx hb hr rfl (fun t ht hW => ⟨⟨1, s9, rfl, ⟨hBs9, hFs9, Or.inl ⟨rfl, h3, (show (-1 : Int) ≤ p1.toInt ∧ p1.toInt ≤ (7 : Int) by have y9 := h8; omega)⟩⟩, by rw [ht]; exact hP, va_K.moved hW.alike (hK.sub (tys' := []) [] rfl), by rw [hAe]; exact hD⟩, by rw [hAe]; exact hS.F ht⟩) hS.2.2 dX10_canWant_58
      · skip
        have n14 := lc_neq ez11 c12
        exact absurd (show _ = _ by have y1 := h8; have y2 := (⟨by decide, by decide⟩ : ((-1) : Int) ≤ ((-1) : Int64).toInt ∧ ((-1) : Int64).toInt ≤ ((-1) : Int)); omega) n14
    · skip
      have n15 := lc_neq ez5 c6
      refine lv_aload_n hx hb dX10_canWant_16 rfl (lv_at hl 0 rfl) ?_
      refine lv_lload_n hx hb dX10_canWant_17 rfl (lv_at hl 2 rfl) ?_
      refine ro_V (As := [.long p1]) (rest := []) S (m_X10_isRoad l D k a st sl  p1 _  hB  hw) lkX10_265 ok_X10_isRoad ⟨rfl, rfl, Nat.le_of_ble_eq_true rfl, Nat.le_of_ble_eq_true rfl⟩ (pw_V (ci := 10) (q0 := 0) hK hN rfl mw_0 hP (hD.weaken (fun _ _ _ _ => trivial))) rfl hl.1 rfl (Nat.le_of_ble_eq_true rfl) ⟨Nat.zero_le _, Nat.zero_le _⟩ dX10_canWant_18 (fun r16 er16 => ?_)
      rcases er16 with ⟨rfl, g9⟩ | ⟨rfl, g9⟩
      · skip
        have g17 := g9
        have h18 : (0 : Int) ≤ p1.toInt ∧ p1.toInt ≤ (7 : Int) := ⟨(g17).1, (g17).2⟩
        refine lv_if_ne (tgt := 26) hx hb dX10_canWant_21 (by decide) (fun c19 => ?_) (fun c19 => ?_)
        rotate_left
        · first | exact absurd c19 (by decide) | exact absurd (by decide) c19
        refine lv_aload_n hx hb dX10_canWant_26 rfl (lv_at hl 0 rfl) ?_
        refine ca_v hP hD hS hA (fun hDc => run_V (mc := 0) (ms := 0) (As := []) (rest := []) S (m_X10_asItIs l D k a st sl   _  hB  hw) lkX10_273 ok_X10_asItIs ⟨rfl, rfl, Nat.le_of_ble_eq_true rfl, Nat.le_of_ble_eq_true rfl⟩ (pw_V (ci := 10) (q0 := 0) hK hN rfl mw_0 hP hDc) rfl hl.1 rfl (Nat.le_of_ble_eq_true rfl) ⟨Nat.zero_le _, Nat.zero_le _⟩ dX10_canWant_27) (fun s20 H9 locs9 hs20 hP9 hD9 hS9 => ?_)
        clear hP hD hS
        have hS := hS9
        have hP := hP9
        have hD := hD9
        clear hP9 hD9 hS9
        obtain ⟨hBs20, gs20, fs20⟩ := hs20
        have hFs20 : FR [7, 9, 8, 10, 11] st s20 := fr_ca fr_rf gs20 (sub_1 (List.mem_of_getElem? (i := 0) rfl) (sub_1 (List.mem_of_getElem? (i := 1) rfl) (sub_1 (List.mem_of_getElem? (i := 2) rfl) (sub_1 (List.mem_of_getElem? (i := 3) rfl) (sub_1 (List.mem_of_getElem? (i := 4) rfl) sub_0)))))
        refine lv_lload_n hx hb dX10_canWant_30 rfl (lv_at hl 2 rfl) ?_
        refine lv_ldc2 (v := (-1)) hx hb hown (hT _ t1617) dX10_canWant_31 ?_
        refine W.lcmp hx hb dX10_canWant_34 ?_
        refine lv_topi (fun z22 ez22 => ?_)
        refine lv_if_eq (tgt := 53) hx hb dX10_canWant_35 (by decide) (fun c23 => ?_) (fun c23 => ?_)
        · skip
          have n24 := lc_eq ez22 c23
          exact absurd n24 (by have y1 := h18; have y2 := (⟨by decide, by decide⟩ : ((-1) : Int) ≤ ((-1) : Int64).toInt ∧ ((-1) : Int64).toInt ≤ ((-1) : Int)); omega)
        · skip
          have n25 := lc_neq ez22 c23
          refine lv_aload_n hx hb dX10_canWant_38 rfl (lv_at hl 0 rfl) ?_
          refine lv_lload_n hx hb dX10_canWant_39 rfl (lv_at hl 2 rfl) ?_
          refine lv_l2i hx hb dX10_canWant_40 rfl ?_
          refine lv_topi (fun z26 ez26 => ?_)
          have h27 : Iv 0 7 z26 := l2i_iv ez26 h18 (by decide) (by decide)
          refine lv_aload_n hx hb dX10_canWant_41 rfl (lv_at hl 0 rfl) ?_
          refine va_get (D := D) (ci := 10) (v := .ref (a 10)) (C := RX10) (T := TX10) (N := 38) hx hb hT in_X10 hown hK hP 0 mw_0 rfl 18 (by decide) (hT _ t1280) (fun _ h9 => h9) rfl dX10_canWant_42 ?_
          refine lv_iload_n hx hb dX10_canWant_45 rfl (lv_at hl 1 rfl) ?_
          refine va_iald hx hb hK hP 10 0 mw_10 rfl (iv_in h3 (by decide) (by decide)) dX10_canWant_46 ?_
          refine lv_topi (fun z28 ez28 => ?_)
          refine ro_V (As := [.int z26, .int z28]) (rest := []) S (m_X10_isOf l D k a s20 sl  z26 z28 _  hBs20 h27 (wok_of (hFs20 1 (nm_1 (by decide) (nm_1 (by decide) (nm_1 (by decide) (nm_1 (by decide) (nm_1 (by decide) nm_0)))))) hw)) lkX10_93 ok_X10_isOf ⟨rfl, rfl, Nat.le_of_ble_eq_true rfl, Nat.le_of_ble_eq_true rfl⟩ (pw_V (ci := 10) (q0 := 0) hK hN rfl mw_0 hP (hD.weaken (fun _ _ _ _ => trivial))) rfl hl.1 rfl (Nat.le_of_ble_eq_true rfl) ⟨Nat.zero_le _, Nat.zero_le _⟩ dX10_canWant_47 (fun r29 er29 => ?_)
          rcases er29 with ⟨rfl, g9⟩ | ⟨rfl, g9⟩
          · skip
            have g30 := g9
            have h31 : Iv 0 5 z28 := g30.1
            have k32 := g30.2
            rw [(hFs20 1 (nm_1 (by decide) (nm_1 (by decide) (nm_1 (by decide) (nm_1 (by decide) (nm_1 (by decide) nm_0))))))] at k32
            refine lv_if_eq (tgt := 57) hx hb dX10_canWant_50 (by decide) (fun c33 => ?_) (fun c33 => ?_)
            · first | exact absurd c33 (by decide) | exact absurd (by decide) c33
            refine lv_iconst (v := 1) hx hb dX10_canWant_53 (by decide) ?_
            refine lv_goto (tgt := 58) hx hb dX10_canWant_54 (by decide) ?_
            rw [hQ]
            exact W.zret (v := 1) (ty := .boolean) hx hb hr rfl (fun t ht hW => ⟨⟨1, s20, rfl, ⟨hBs20, hFs20, Or.inl ⟨rfl, h3, (show (-1 : Int) ≤ p1.toInt ∧ p1.toInt ≤ (7 : Int) by have y9 := h18; omega)⟩⟩, by rw [ht]; exact hP, va_K.moved hW.alike (hK.sub (tys' := []) [] rfl), by rw [hAe]; exact hD⟩, by rw [hAe]; exact hS.F ht⟩) hS.2.2 dX10_canWant_58
          · skip
            have g34 := g9
            have k35 := g34
            rw [(hFs20 1 (nm_1 (by decide) (nm_1 (by decide) (nm_1 (by decide) (nm_1 (by decide) (nm_1 (by decide) nm_0))))))] at k35
            refine lv_if_eq (tgt := 57) hx hb dX10_canWant_50 (by decide) (fun c36 => ?_) (fun c36 => ?_)
            rotate_left
            · first | exact absurd c36 (by decide) | exact absurd (by decide) c36
            refine lv_iconst (v := 0) hx hb dX10_canWant_57 (by decide) ?_
            rw [hQ]
            exact W.zret (v := 0) (ty := .boolean) hx hb hr rfl (fun t ht hW => ⟨⟨0, s20, rfl, ⟨hBs20, hFs20, Or.inr ⟨rfl, trivial⟩⟩, by rw [ht]; exact hP, va_K.moved hW.alike (hK.sub (tys' := []) [] rfl), by rw [hAe]; exact hD⟩, by rw [hAe]; exact hS.F ht⟩) hS.2.2 dX10_canWant_58
      · skip
        have g37 := g9
        refine lv_if_ne (tgt := 26) hx hb dX10_canWant_21 (by decide) (fun c38 => ?_) (fun c38 => ?_)
        · first | exact absurd c38 (by decide) | exact absurd (by decide) c38
        refine lv_iconst (v := 0) hx hb dX10_canWant_24 (by decide) ?_
        rw [hQ]
        exact W.zret (v := 0) (ty := .boolean) hx hb hr rfl (fun t ht hW => ⟨⟨0, st, rfl, ⟨hB, fr_rf, Or.inr ⟨rfl, trivial⟩⟩, by rw [ht]; exact hP, va_K.moved hW.alike (hK.sub (tys' := []) [] rfl), by rw [hAe]; exact hD⟩, by rw [hAe]; exact hS.F ht⟩) hS.2.2 dX10_canWant_25
  · skip
    have g39 := g9
    refine lv_if_eq (tgt := 24) hx hb dX10_canWant_5 (by decide) (fun c40 => ?_) (fun c40 => ?_)
    rotate_left
    · first | exact absurd c40 (by decide) | exact absurd (by decide) c40
    refine lv_iconst (v := 0) hx hb dX10_canWant_24 (by decide) ?_
    rw [hQ]
    exact W.zret (v := 0) (ty := .boolean) hx hb hr rfl (fun t ht hW => ⟨⟨0, st, rfl, ⟨hB, fr_rf, Or.inr ⟨rfl, trivial⟩⟩, by rw [ht]; exact hP, va_K.moved hW.alike (hK.sub (tys' := []) [] rfl), by rw [hAe]; exact hD⟩, by rw [hAe]; exact hS.F ht⟩) hS.2.2 dX10_canWant_25
set_option maxHeartbeats 4000000 in
set_option maxRecDepth 100000 in
theorem m_X10_takes_ (l : Launch) (D : va_G) (k : Nat → ClassId) (a : Nat → Nat) (st : CT) (sl : CL) (p0 : Int32) (p1 : Int32) (sz : Nat) (hB : MB st)  (hw : WOK (st 1)) : Met l yX10_takes_ (.code yX10_takes_ cX10_takes_ 3 (some .int) :: TB) (rmw 9 0 0) (va_Pc [.ref (a 0), .int p0, .int p1] (PW D k sz (MWS k a st sl))) (QI D (S := CT) (fun r u => MB u ∧ FR [7, 9, 8, 10, 11] st u ∧ (Iv (-2) 7 r ∧ (True))) (fun u => MWS k a u sl) (fun _ => []) (MWS k a st sl) sz) 0 0 (va_A (MWS k a st sl) sz) := by
  refine Met.ofW (cc := cX10_takes_) (maxL := 3) (ret := (some .int)) (by decide) rfl ?_
  intro p e s m args below meth c s₁ B hml hv
  obtain ⟨rfl, hsz, hP, hK, hD0, hN⟩ := hv
  have hx := B.exec
  have hb := B.bytes
  have hr := B.returns
  have hT : ∀ w9 ∈ TB, w9.before ([.ref (a 0), .int p0, .int p1] : List Value).toArray s = true := fun w9 h => atoms_spec (ws := .code yX10_takes_ cX10_takes_ 3 (some .int) :: TB) B.pre w9 (List.mem_cons_of_mem _ h)
  have hown : s.vm.findClass RX10 = some m.cls := findClass_of_methodNamed B.named
  have S : CallFix p m c cX10_takes_ 3 s _ TB RX10 := ⟨hx, hb, hml, hown, hT⟩
  subst hsz
  have hD := hD0.self (sz := s.heap.size)
  generalize hAe : va_A (MWS k a st sl) s.heap.size = A at hD ⊢
  have hA : ∀ q : Nat, s.heap.size ≤ q → A q := fun q h => by rw [← hAe]; exact Or.inr h
  have hS : va_S A s.heap s.heap [] := va_S.rf
  have hl := lv_entry ([.ref (a 0), .int p0, .int p1]) (n := 3) (Nat.le_of_ble_eq_true rfl)
  rw [lg_entry_eq]
  generalize (lg_sl ([.ref (a 0), .int p0, .int p1]) ++ List.replicate (3 - (lg_sl ([.ref (a 0), .int p0, .int p1])).length) Slot.unset).toArray = ls at hl ⊢
  have hl : lv_has ls 3 [(0, .ref (a 0)), (1, .int p0), (2, .int p1)] := hl
  refine nameQ (fun Q hQ => ?_)
  refine lv_aload_n hx hb dX10_takes__0 rfl (lv_at hl 0 rfl) ?_
  refine lv_iload_n hx hb dX10_takes__1 rfl (lv_at hl 1 rfl) ?_
  refine lv_iload_n hx hb dX10_takes__2 rfl (lv_at hl 2 rfl) ?_
  refine lv_i2l hx hb dX10_takes__3 rfl ?_
  refine ca_i hP hD hS hA (fun hDc => run_V (mc := 0) (ms := 0) (As := [.int p0, .long (p1.toInt64)]) (rest := []) S (m_X10_canWant l D k a st sl  p0 (p1.toInt64) _  hB  hw) lkX10_290 ok_X10_canWant ⟨rfl, rfl, Nat.le_of_ble_eq_true rfl, Nat.le_of_ble_eq_true rfl⟩ (pw_V (ci := 10) (q0 := 0) hK hN rfl mw_0 hP hDc) rfl hl.1 rfl (Nat.le_of_ble_eq_true rfl) ⟨Nat.zero_le _, Nat.zero_le _⟩ dX10_takes__4) (fun r2 s1 H9 locs9 hs1 hP9 hD9 hS9 => ?_)
  clear hP hD hS
  have hS := hS9
  have hP := hP9
  have hD := hD9
  clear hP9 hD9 hS9
  obtain ⟨hBs1, gs1, fs1⟩ := hs1
  have hFs1 : FR [7, 9, 8, 10, 11] st s1 := fr_ca fr_rf gs1 (sub_1 (List.mem_of_getElem? (i := 0) rfl) (sub_1 (List.mem_of_getElem? (i := 1) rfl) (sub_1 (List.mem_of_getElem? (i := 2) rfl) (sub_1 (List.mem_of_getElem? (i := 3) rfl) (sub_1 (List.mem_of_getElem? (i := 4) rfl) sub_0)))))
  rcases fs1 with ⟨rfl, g9⟩ | ⟨rfl, g9⟩
  · skip
    have g3 := g9
    have h4 : Iv 0 2 p0 := g3.1
    have h5 : ((-1) : Int) ≤ (p1.toInt64).toInt ∧ (p1.toInt64).toInt ≤ (7 : Int) := ⟨(g3.2).1, (g3.2).2⟩
    have h6 : Iv (-1) 7 p1 := iv_lv h5
    refine lv_if_eq (tgt := 19) hx hb dX10_takes__7 (by decide) (fun c7 => ?_) (fun c7 => ?_)
    · first | exact absurd c7 (by decide) | exact absurd (by decide) c7
    refine lv_aload_n hx hb dX10_takes__10 rfl (lv_at hl 0 rfl) ?_
    refine lv_iload_n hx hb dX10_takes__11 rfl (lv_at hl 1 rfl) ?_
    refine lv_iload_n hx hb dX10_takes__12 rfl (lv_at hl 2 rfl) ?_
    refine ro_V (As := [.int p0, .int p1]) (rest := []) S (m_X10_turnOf l D k a s1 sl  p0 p1 _  hBs1 h4 (wok_of (hFs1 1 (nm_1 (by decide) (nm_1 (by decide) (nm_1 (by decide) (nm_1 (by decide) (nm_1 (by decide) nm_0)))))) hw)) lkX10_256 ok_X10_turnOf ⟨rfl, rfl, Nat.le_of_ble_eq_true rfl, Nat.le_of_ble_eq_true rfl⟩ (pw_V (ci := 10) (q0 := 0) hK hN rfl mw_0 hP (hD.weaken (fun _ _ _ _ => trivial))) rfl hl.1 rfl (Nat.le_of_ble_eq_true rfl) ⟨Nat.zero_le _, Nat.zero_le _⟩ dX10_takes__13 (fun r8 er8 => ?_)
    have h9 : Iv (-1) 7 r8 := er8.1
    refine lv_goto (tgt := 21) hx hb dX10_takes__16 (by decide) ?_
    rw [hQ]
    exact W.iret (v := r8) hx hb hr (fun t ht hW => ⟨⟨r8, s1, rfl, ⟨hBs1, hFs1, ⟨(iv_mono (c := (-2)) (d := 7) h9 (by decide) (by decide)), trivial⟩⟩, by rw [ht]; exact hP, va_K.moved hW.alike (hK.sub (tys' := []) [] rfl), by rw [hAe]; exact hD⟩, by rw [hAe]; exact hS.F ht⟩) hS.2.2 dX10_takes__21
  · skip
    have g10 := g9
    refine lv_if_eq (tgt := 19) hx hb dX10_takes__7 (by decide) (fun c11 => ?_) (fun c11 => ?_)
    rotate_left
    · first | exact absurd c11 (by decide) | exact absurd (by decide) c11
    refine lv_bipush (v := (-2)) hx hb dX10_takes__19 (by decide) ?_
    rw [hQ]
    exact W.iret (v := (-2)) hx hb hr (fun t ht hW => ⟨⟨(-2), s1, rfl, ⟨hBs1, hFs1, ⟨(iv_mono (c := (-2)) (d := 7) (iv_c (by decide) : Iv (-2) (-2) (-2)) (by decide) (by decide)), trivial⟩⟩, by rw [ht]; exact hP, va_K.moved hW.alike (hK.sub (tys' := []) [] rfl), by rw [hAe]; exact hD⟩, by rw [hAe]; exact hS.F ht⟩) hS.2.2 dX10_takes__21
set_option maxHeartbeats 4000000 in
set_option maxRecDepth 100000 in
theorem m_X10_aside (l : Launch) (D : va_G) (k : Nat → ClassId) (a : Nat → Nat) (st : CT) (sl : CL) (p0 : Int32) (sz : Nat) (hB : MB st)  (hw : WOK (st 1)) : Met l yX10_aside (.code yX10_aside cX10_aside 4 (some .int) :: TB) (rmw 8 0 0) (va_Pc [.ref (a 0), .int p0] (PW D k sz (MWS k a st sl))) (QI D (S := CT) (fun r u => MB u ∧ FR [7, 9, 8, 10, 11] st u ∧ (Iv (-2) 255 r ∧ (True))) (fun u => MWS k a u sl) (fun _ => []) (MWS k a st sl) sz) 0 0 (va_A (MWS k a st sl) sz) := by
  refine Met.ofW (cc := cX10_aside) (maxL := 4) (ret := (some .int)) (by decide) rfl ?_
  intro p e s m args below meth c s₁ B hml hv
  obtain ⟨rfl, hsz, hP, hK, hD0, hN⟩ := hv
  have hx := B.exec
  have hb := B.bytes
  have hr := B.returns
  have hT : ∀ w9 ∈ TB, w9.before ([.ref (a 0), .int p0] : List Value).toArray s = true := fun w9 h => atoms_spec (ws := .code yX10_aside cX10_aside 4 (some .int) :: TB) B.pre w9 (List.mem_cons_of_mem _ h)
  have hown : s.vm.findClass RX10 = some m.cls := findClass_of_methodNamed B.named
  have S : CallFix p m c cX10_aside 4 s _ TB RX10 := ⟨hx, hb, hml, hown, hT⟩
  subst hsz
  have hD := hD0.self (sz := s.heap.size)
  generalize hAe : va_A (MWS k a st sl) s.heap.size = A at hD ⊢
  have hA : ∀ q : Nat, s.heap.size ≤ q → A q := fun q h => by rw [← hAe]; exact Or.inr h
  have hS : va_S A s.heap s.heap [] := va_S.rf
  have hl := lv_entry ([.ref (a 0), .int p0]) (n := 4) (Nat.le_of_ble_eq_true rfl)
  rw [lg_entry_eq]
  generalize (lg_sl ([.ref (a 0), .int p0]) ++ List.replicate (4 - (lg_sl ([.ref (a 0), .int p0])).length) Slot.unset).toArray = ls at hl ⊢
  have hl : lv_has ls 4 [(0, .ref (a 0)), (1, .int p0)] := hl
  refine nameQ (fun Q hQ => ?_)
  refine lv_aload_n hx hb dX10_aside_0 rfl (lv_at hl 0 rfl) ?_
  refine lv_iload_n hx hb dX10_aside_1 rfl (lv_at hl 1 rfl) ?_
  refine ro_V (As := [.int p0]) (rest := []) S (m_X10_isCart l D k a st sl  p0 _  hB  hw) lkX10_279 ok_X10_isCart ⟨rfl, rfl, Nat.le_of_ble_eq_true rfl, Nat.le_of_ble_eq_true rfl⟩ (pw_V (ci := 10) (q0 := 0) hK hN rfl mw_0 hP (hD.weaken (fun _ _ _ _ => trivial))) rfl hl.1 rfl (Nat.le_of_ble_eq_true rfl) ⟨Nat.zero_le _, Nat.zero_le _⟩ dX10_aside_2 (fun r1 er1 => ?_)
  rcases er1 with ⟨rfl, g9⟩ | ⟨rfl, g9⟩
  · skip
    have g2 := g9
    have h3 : Iv 0 2 p0 := g2.1
    refine lv_if_ne (tgt := 11) hx hb dX10_aside_5 (by decide) (fun c4 => ?_) (fun c4 => ?_)
    rotate_left
    · first | exact absurd c4 (by decide) | exact absurd (by decide) c4
    refine lv_aload_n hx hb dX10_aside_11 rfl (lv_at hl 0 rfl) ?_
    refine ca_v hP hD hS hA (fun hDc => run_V (mc := 0) (ms := 0) (As := []) (rest := []) S (m_X10_asItIs l D k a st sl   _  hB  hw) lkX10_273 ok_X10_asItIs ⟨rfl, rfl, Nat.le_of_ble_eq_true rfl, Nat.le_of_ble_eq_true rfl⟩ (pw_V (ci := 10) (q0 := 0) hK hN rfl mw_0 hP hDc) rfl hl.1 rfl (Nat.le_of_ble_eq_true rfl) ⟨Nat.zero_le _, Nat.zero_le _⟩ dX10_aside_12) (fun s5 H9 locs9 hs5 hP9 hD9 hS9 => ?_)
    clear hP hD hS
    have hS := hS9
    have hP := hP9
    have hD := hD9
    clear hP9 hD9 hS9
    obtain ⟨hBs5, gs5, fs5⟩ := hs5
    have hFs5 : FR [7, 9, 8, 10, 11] st s5 := fr_ca fr_rf gs5 (sub_1 (List.mem_of_getElem? (i := 0) rfl) (sub_1 (List.mem_of_getElem? (i := 1) rfl) (sub_1 (List.mem_of_getElem? (i := 2) rfl) (sub_1 (List.mem_of_getElem? (i := 3) rfl) (sub_1 (List.mem_of_getElem? (i := 4) rfl) sub_0)))))
    refine lv_iconst (v := 0) hx hb dX10_aside_15 (by decide) ?_
    refine lv_istore_n (lv' := [(2, .int 0), (0, .ref (a 0)), (1, .int p0)]) hx hb dX10_aside_16 rfl hl (by decide) rfl (fun ls hl => ?_)
    refine lv_iconst (v := 0) hx hb dX10_aside_17 (by decide) ?_
    refine lv_istore_n (lv' := [(3, .int 0), (2, .int 0), (0, .ref (a 0)), (1, .int p0)]) hx hb dX10_aside_18 rfl hl (by decide) rfl (fun ls hl => ?_)
    have lp19 : ∀ (n9_19 : Nat) (v3_19 : Int32) (v2_19 : Int32) (ls : Array Slot), Iv 0 8 v3_19 → Iv 0 255 v2_19 → lv_has ls 4 [(3, .int v3_19), (2, .int v2_19), (0, .ref (a 0)), (1, .int p0)] → (8 : Int) - v3_19.toInt < (n9_19 : Int) → W p l e (rmw 8 0 0) s m ([.ref (a 0), .int p0] : List Value).toArray below meth c H9 locs9 0 0 Q (F0 m 19 ls []) := by
      clear hl
      intro n9_19
      induction n9_19 with
      | zero =>
        intro v3_19 v2_19 ls iv3_19 iv2_19 hl hm19
        exact (fu_0 iv3_19 hm19).elim
      | succ n9_19 ih19 =>
        intro v3_19 v2_19 ls iv3_19 iv2_19 hl hm19
        refine lv_iload_n hx hb dX10_aside_19 rfl (lv_at hl 0 rfl) ?_
        refine lv_aload_n hx hb dX10_aside_20 rfl (lv_at hl 2 rfl) ?_
        refine va_get (D := D) (ci := 10) (v := .ref (a 1)) (C := RX10) (T := TX10) (N := 38) hx hb hT in_X10 hown hK hP 0 mw_0 rfl 1 (by decide) (hT _ t1263) (fun _ h9 => h9) rfl dX10_aside_21 ?_
        refine lv_iconst (v := 2) hx hb dX10_aside_24 (by decide) ?_
        refine va_iald hx hb hK hP 1 0 mw_1 rfl (by unfold vp_in; decide) dX10_aside_25 ?_
        refine k_top (y := (s5 1 2)) rfl ?_
        refine k_top (y := (st 1 2)) (congrFun (hFs5 1 (nm_1 (by decide) (nm_1 (by decide) (nm_1 (by decide) (nm_1 (by decide) (nm_1 (by decide) nm_0)))))) 2) ?_
        have h304 : Iv 0 8 (st 1 2) := (tok_at (hw).1 2 0 8 (by decide) (by decide) (by decide))
        refine lv_icmp_ge (tgt := 69) hx hb dX10_aside_26 (by decide) (fun c305 => ?_) (fun c305 => ?_)
        · skip
          have n306 : (st 1 2).toInt ≤ v3_19.toInt := (i_le c305)
          refine lv_iload_n hx hb dX10_aside_69 rfl (lv_at hl 1 rfl) ?_
          rw [hQ]
          exact W.iret (v := v2_19) hx hb hr (fun t ht hW => ⟨⟨v2_19, s5, rfl, ⟨hBs5, hFs5, ⟨(iv_mono (c := (-2)) (d := 255) iv2_19 (by decide) (by decide)), trivial⟩⟩, by rw [ht]; exact hP, va_K.moved hW.alike (hK.sub (tys' := []) [] rfl), by rw [hAe]; exact hD⟩, by rw [hAe]; exact hS.F ht⟩) hS.2.2 dX10_aside_70
        · skip
          have n307 : v3_19.toInt < (st 1 2).toInt := (i_nle c305)
          have h308 : Iv 0 7 v3_19 := lt_l iv3_19 n307 h304 (by decide)
          have h309 : Iv 1 8 (st 1 2) := lt_r iv3_19 n307 h304 (by decide)
          refine lv_iload_n hx hb dX10_aside_29 rfl (lv_at hl 1 rfl) ?_
          refine lv_aload_n hx hb dX10_aside_30 rfl (lv_at hl 2 rfl) ?_
          refine lv_iload_n hx hb dX10_aside_31 rfl (lv_at hl 0 rfl) ?_
          refine lv_aload_n hx hb dX10_aside_32 rfl (lv_at hl 2 rfl) ?_
          refine va_get (D := D) (ci := 10) (v := .ref (a 10)) (C := RX10) (T := TX10) (N := 38) hx hb hT in_X10 hown hK hP 0 mw_0 rfl 18 (by decide) (hT _ t1280) (fun _ h9 => h9) rfl dX10_aside_33 ?_
          refine lv_iload_n hx hb dX10_aside_36 rfl (lv_at hl 3 rfl) ?_
          refine va_iald hx hb hK hP 10 0 mw_10 rfl (iv_in h3 (by decide) (by decide)) dX10_aside_37 ?_
          refine lv_topi (fun z310 ez310 => ?_)
          refine ro_V (As := [.int v3_19, .int z310]) (rest := [.int v2_19]) S (m_X10_isOf l D k a s5 sl  v3_19 z310 _  hBs5 h308 (wok_of (hFs5 1 (nm_1 (by decide) (nm_1 (by decide) (nm_1 (by decide) (nm_1 (by decide) (nm_1 (by decide) nm_0)))))) hw)) lkX10_93 ok_X10_isOf ⟨rfl, rfl, Nat.le_of_ble_eq_true rfl, Nat.le_of_ble_eq_true rfl⟩ (pw_V (ci := 10) (q0 := 0) hK hN rfl mw_0 hP (hD.weaken (fun _ _ _ _ => trivial))) rfl hl.1 rfl (Nat.le_of_ble_eq_true rfl) ⟨Nat.zero_le _, Nat.zero_le _⟩ dX10_aside_38 (fun r311 er311 => ?_)
          rcases er311 with ⟨rfl, g9⟩ | ⟨rfl, g9⟩
          · skip
            have g312 := g9
            have h313 : Iv 0 5 z310 := g312.1
            have k314 := g312.2
            rw [(hFs5 1 (nm_1 (by decide) (nm_1 (by decide) (nm_1 (by decide) (nm_1 (by decide) (nm_1 (by decide) nm_0))))))] at k314
            refine lv_if_eq (tgt := 60) hx hb dX10_aside_41 (by decide) (fun c315 => ?_) (fun c315 => ?_)
            · first | exact absurd c315 (by decide) | exact absurd (by decide) c315
            refine lv_aload_n hx hb dX10_aside_44 rfl (lv_at hl 2 rfl) ?_
            refine lv_iload_n hx hb dX10_aside_45 rfl (lv_at hl 3 rfl) ?_
            refine lv_iload_n hx hb dX10_aside_46 rfl (lv_at hl 0 rfl) ?_
            refine ro_V (As := [.int p0, .int v3_19]) (rest := [.int v2_19]) S (m_X10_turnOf l D k a s5 sl  p0 v3_19 _  hBs5 h3 (wok_of (hFs5 1 (nm_1 (by decide) (nm_1 (by decide) (nm_1 (by decide) (nm_1 (by decide) (nm_1 (by decide) nm_0)))))) hw)) lkX10_256 ok_X10_turnOf ⟨rfl, rfl, Nat.le_of_ble_eq_true rfl, Nat.le_of_ble_eq_true rfl⟩ (pw_V (ci := 10) (q0 := 0) hK hN rfl mw_0 hP (hD.weaken (fun _ _ _ _ => trivial))) rfl hl.1 rfl (Nat.le_of_ble_eq_true rfl) ⟨Nat.zero_le _, Nat.zero_le _⟩ dX10_aside_47 (fun r316 er316 => ?_)
            have h317 : Iv (-1) 7 r316 := er316.1
            refine lv_iload_n hx hb dX10_aside_50 rfl (lv_at hl 0 rfl) ?_
            refine lv_icmp_eq (tgt := 60) hx hb dX10_aside_51 (by decide) (fun c318 => ?_) (fun c318 => ?_)
            · skip
              have h319 : Iv 0 7 r316 := eq_l c318 h308
              refine lv_iconst (v := 0) hx hb dX10_aside_60 (by decide) ?_
              refine lv_ior hx hb dX10_aside_61 ?_
              refine lv_topi (fun z320 ez320 => ?_)
              have h321 : Iv 0 255 z320 := iv_or 8 ez320 iv2_19 (iv_c (by decide) : Iv 0 0 0) (by decide) (by decide) (by decide) (by decide)
              refine lv_istore_n (lv' := [(2, .int z320), (3, .int v3_19), (0, .ref (a 0)), (1, .int p0)]) hx hb dX10_aside_62 rfl hl (by decide) rfl (fun ls hl => ?_)
              obtain ⟨z322, ez322⟩ : ∃ z9 : Int32, z9 = v3_19 + Int32.ofInt 1 := ⟨_, rfl⟩
              have h323 : Iv 1 8 z322 := iv_inc ez322 h308 (by decide) (by decide) (by decide) (by decide) (by decide) (by decide)
              refine lv_iinc (v := z322) (lv' := [(3, .int z322), (2, .int z320), (0, .ref (a 0)), (1, .int p0)]) hx hb dX10_aside_63 hl (k := 1) rfl ez322.symm (by decide) rfl (fun ls hl => ?_)
              refine lv_goto (tgt := 19) hx hb dX10_aside_66 (by decide) ?_
              exact ih19 z322 z320 _ (iv_mono (c := 0) (d := 8) h323 (by decide) (by decide)) h321 (lv_sub hl [0, 1, 2, 3] rfl) (fu_s (lo := 0) (ti_inc ez322 h308 (by decide) (by decide) (by decide) (by decide)) (by decide) hm19)
            · skip
              refine lv_iconst (v := 1) hx hb dX10_aside_54 (by decide) ?_
              refine lv_iload_n hx hb dX10_aside_55 rfl (lv_at hl 0 rfl) ?_
              refine lv_ishl hx hb dX10_aside_56 ?_
              refine lv_topi (fun z324 ez324 => ?_)
              have h325 : Iv 1 128 z324 := iv_shl 7 ez324 h308 (by decide) (by decide) (by decide)
              refine lv_goto (tgt := 61) hx hb dX10_aside_57 (by decide) ?_
              refine lv_ior hx hb dX10_aside_61 ?_
              refine lv_topi (fun z326 ez326 => ?_)
              have h327 : Iv 0 255 z326 := iv_or 8 ez326 iv2_19 (iv_mono (c := 0) (d := 128) h325 (by decide) (by decide)) (by decide) (by decide) (by decide) (by decide)
              refine lv_istore_n (lv' := [(2, .int z326), (3, .int v3_19), (0, .ref (a 0)), (1, .int p0)]) hx hb dX10_aside_62 rfl hl (by decide) rfl (fun ls hl => ?_)
              obtain ⟨z328, ez328⟩ : ∃ z9 : Int32, z9 = v3_19 + Int32.ofInt 1 := ⟨_, rfl⟩
              have h329 : Iv 1 8 z328 := iv_inc ez328 h308 (by decide) (by decide) (by decide) (by decide) (by decide) (by decide)
              refine lv_iinc (v := z328) (lv' := [(3, .int z328), (2, .int z326), (0, .ref (a 0)), (1, .int p0)]) hx hb dX10_aside_63 hl (k := 1) rfl ez328.symm (by decide) rfl (fun ls hl => ?_)
              refine lv_goto (tgt := 19) hx hb dX10_aside_66 (by decide) ?_
              exact ih19 z328 z326 _ (iv_mono (c := 0) (d := 8) h329 (by decide) (by decide)) h327 (lv_sub hl [0, 1, 2, 3] rfl) (fu_s (lo := 0) (ti_inc ez328 h308 (by decide) (by decide) (by decide) (by decide)) (by decide) hm19)
          · skip
            have g330 := g9
            have k331 := g330
            rw [(hFs5 1 (nm_1 (by decide) (nm_1 (by decide) (nm_1 (by decide) (nm_1 (by decide) (nm_1 (by decide) nm_0))))))] at k331
            refine lv_if_eq (tgt := 60) hx hb dX10_aside_41 (by decide) (fun c332 => ?_) (fun c332 => ?_)
            rotate_left
            · first | exact absurd c332 (by decide) | exact absurd (by decide) c332
            refine lv_iconst (v := 0) hx hb dX10_aside_60 (by decide) ?_
            refine lv_ior hx hb dX10_aside_61 ?_
            refine lv_topi (fun z333 ez333 => ?_)
            have h334 : Iv 0 255 z333 := iv_or 8 ez333 iv2_19 (iv_c (by decide) : Iv 0 0 0) (by decide) (by decide) (by decide) (by decide)
            refine lv_istore_n (lv' := [(2, .int z333), (3, .int v3_19), (0, .ref (a 0)), (1, .int p0)]) hx hb dX10_aside_62 rfl hl (by decide) rfl (fun ls hl => ?_)
            obtain ⟨z335, ez335⟩ : ∃ z9 : Int32, z9 = v3_19 + Int32.ofInt 1 := ⟨_, rfl⟩
            have h336 : Iv 1 8 z335 := iv_inc ez335 h308 (by decide) (by decide) (by decide) (by decide) (by decide) (by decide)
            refine lv_iinc (v := z335) (lv' := [(3, .int z335), (2, .int z333), (0, .ref (a 0)), (1, .int p0)]) hx hb dX10_aside_63 hl (k := 1) rfl ez335.symm (by decide) rfl (fun ls hl => ?_)
            refine lv_goto (tgt := 19) hx hb dX10_aside_66 (by decide) ?_
            exact ih19 z335 z333 _ (iv_mono (c := 0) (d := 8) h336 (by decide) (by decide)) h334 (lv_sub hl [0, 1, 2, 3] rfl) (fu_s (lo := 0) (ti_inc ez335 h308 (by decide) (by decide) (by decide) (by decide)) (by decide) hm19)
    exact lp19 9 0 0 _ (iv_mono (c := 0) (d := 8) (iv_c (by decide) : Iv 0 0 0) (by decide) (by decide)) (iv_mono (c := 0) (d := 255) (iv_c (by decide) : Iv 0 0 0) (by decide) (by decide)) (lv_sub hl [0, 1, 2, 3] rfl) (fu_i (iv_mono (c := 0) (d := 8) (iv_c (by decide) : Iv 0 0 0) (by decide) (by decide)) (by decide))
  · skip
    have g337 := g9
    refine lv_if_ne (tgt := 11) hx hb dX10_aside_5 (by decide) (fun c338 => ?_) (fun c338 => ?_)
    · first | exact absurd c338 (by decide) | exact absurd (by decide) c338
    refine lv_bipush (v := (-2)) hx hb dX10_aside_8 (by decide) ?_
    rw [hQ]
    exact W.iret (v := (-2)) hx hb hr (fun t ht hW => ⟨⟨(-2), st, rfl, ⟨hB, fr_rf, ⟨(iv_mono (c := (-2)) (d := 255) (iv_c (by decide) : Iv (-2) (-2) (-2)) (by decide) (by decide)), trivial⟩⟩, by rw [ht]; exact hP, va_K.moved hW.alike (hK.sub (tys' := []) [] rfl), by rw [hAe]; exact hD⟩, by rw [hAe]; exact hS.F ht⟩) hS.2.2 dX10_aside_10
set_option maxHeartbeats 4000000 in
set_option maxRecDepth 100000 in
theorem m_X10_argue (l : Launch) (D : va_G) (k : Nat → ClassId) (a : Nat → Nat) (st : CT) (sl : CL) (p0 : Int32) (p1 : Int32) (sz : Nat) (hB : MB st)  (hw : WOK (st 1)) : Met l yX10_argue (.code yX10_argue cX10_argue 4 (some .int) :: TB) (rmw 9 0 0) (va_Pc [.ref (a 0), .int p0, .int p1] (PW D k sz (MWS k a st sl))) (QI D (S := CT) (fun r u => MB u ∧ FR [7, 9, 8, 10, 11] st u ∧ (Iv (-2) 40 r ∧ (True))) (fun u => MWS k a u sl) (fun _ => []) (MWS k a st sl) sz) 0 0 (va_A (MWS k a st sl) sz) := by
  refine Met.ofW (cc := cX10_argue) (maxL := 4) (ret := (some .int)) (by decide) rfl ?_
  intro p e s m args below meth c s₁ B hml hv
  obtain ⟨rfl, hsz, hP, hK, hD0, hN⟩ := hv
  have hx := B.exec
  have hb := B.bytes
  have hr := B.returns
  have hT : ∀ w9 ∈ TB, w9.before ([.ref (a 0), .int p0, .int p1] : List Value).toArray s = true := fun w9 h => atoms_spec (ws := .code yX10_argue cX10_argue 4 (some .int) :: TB) B.pre w9 (List.mem_cons_of_mem _ h)
  have hown : s.vm.findClass RX10 = some m.cls := findClass_of_methodNamed B.named
  have S : CallFix p m c cX10_argue 4 s _ TB RX10 := ⟨hx, hb, hml, hown, hT⟩
  subst hsz
  have hD := hD0.self (sz := s.heap.size)
  generalize hAe : va_A (MWS k a st sl) s.heap.size = A at hD ⊢
  have hA : ∀ q : Nat, s.heap.size ≤ q → A q := fun q h => by rw [← hAe]; exact Or.inr h
  have hS : va_S A s.heap s.heap [] := va_S.rf
  have hl := lv_entry ([.ref (a 0), .int p0, .int p1]) (n := 4) (Nat.le_of_ble_eq_true rfl)
  rw [lg_entry_eq]
  generalize (lg_sl ([.ref (a 0), .int p0, .int p1]) ++ List.replicate (4 - (lg_sl ([.ref (a 0), .int p0, .int p1])).length) Slot.unset).toArray = ls at hl ⊢
  have hl : lv_has ls 4 [(0, .ref (a 0)), (1, .int p0), (2, .int p1)] := hl
  refine nameQ (fun Q hQ => ?_)
  refine lv_iload_n hx hb dX10_argue_0 rfl (lv_at hl 2 rfl) ?_
  refine lv_iconst (v := (-1)) hx hb dX10_argue_1 (by decide) ?_
  refine lv_icmp_eq (tgt := 15) hx hb dX10_argue_2 (by decide) (fun c1 => ?_) (fun c1 => ?_)
  · skip
    have h2 : Iv (-1) (-1) p1 := eq_l c1 (iv_c (by decide) : Iv (-1) (-1) (-1))
    refine lv_bipush (v := (-2)) hx hb dX10_argue_15 (by decide) ?_
    rw [hQ]
    exact W.iret (v := (-2)) hx hb hr (fun t ht hW => ⟨⟨(-2), st, rfl, ⟨hB, fr_rf, ⟨(iv_mono (c := (-2)) (d := 40) (iv_c (by decide) : Iv (-2) (-2) (-2)) (by decide) (by decide)), trivial⟩⟩, by rw [ht]; exact hP, va_K.moved hW.alike (hK.sub (tys' := []) [] rfl), by rw [hAe]; exact hD⟩, by rw [hAe]; exact hS.F ht⟩) hS.2.2 dX10_argue_17
  · skip
    refine lv_aload_n hx hb dX10_argue_5 rfl (lv_at hl 0 rfl) ?_
    refine lv_iload_n hx hb dX10_argue_6 rfl (lv_at hl 1 rfl) ?_
    refine lv_iload_n hx hb dX10_argue_7 rfl (lv_at hl 2 rfl) ?_
    refine lv_i2l hx hb dX10_argue_8 rfl ?_
    refine ca_i hP hD hS hA (fun hDc => run_V (mc := 0) (ms := 0) (As := [.int p0, .long (p1.toInt64)]) (rest := []) S (m_X10_canWant l D k a st sl  p0 (p1.toInt64) _  hB  hw) lkX10_290 ok_X10_canWant ⟨rfl, rfl, Nat.le_of_ble_eq_true rfl, Nat.le_of_ble_eq_true rfl⟩ (pw_V (ci := 10) (q0 := 0) hK hN rfl mw_0 hP hDc) rfl hl.1 rfl (Nat.le_of_ble_eq_true rfl) ⟨Nat.zero_le _, Nat.zero_le _⟩ dX10_argue_9) (fun r4 s3 H9 locs9 hs3 hP9 hD9 hS9 => ?_)
    clear hP hD hS
    have hS := hS9
    have hP := hP9
    have hD := hD9
    clear hP9 hD9 hS9
    obtain ⟨hBs3, gs3, fs3⟩ := hs3
    have hFs3 : FR [7, 9, 8, 10, 11] st s3 := fr_ca fr_rf gs3 (sub_1 (List.mem_of_getElem? (i := 0) rfl) (sub_1 (List.mem_of_getElem? (i := 1) rfl) (sub_1 (List.mem_of_getElem? (i := 2) rfl) (sub_1 (List.mem_of_getElem? (i := 3) rfl) (sub_1 (List.mem_of_getElem? (i := 4) rfl) sub_0)))))
    rcases fs3 with ⟨rfl, g9⟩ | ⟨rfl, g9⟩
    · skip
      have g5 := g9
      have h6 : Iv 0 2 p0 := g5.1
      have h7 : ((-1) : Int) ≤ (p1.toInt64).toInt ∧ (p1.toInt64).toInt ≤ (7 : Int) := ⟨(g5.2).1, (g5.2).2⟩
      have h8 : Iv (-1) 7 p1 := iv_lv h7
      refine lv_if_ne (tgt := 18) hx hb dX10_argue_12 (by decide) (fun c9 => ?_) (fun c9 => ?_)
      rotate_left
      · first | exact absurd c9 (by decide) | exact absurd (by decide) c9
      refine lv_iconst (v := 0) hx hb dX10_argue_18 (by decide) ?_
      refine lv_istore_n (lv' := [(3, .int 0), (0, .ref (a 0)), (1, .int p0), (2, .int p1)]) hx hb dX10_argue_19 rfl hl (by decide) rfl (fun ls hl => ?_)
      have lp20 : ∀ (n9_20 : Nat) (v3_20 : Int32) (ls : Array Slot), Iv 0 41 v3_20 → lv_has ls 4 [(3, .int v3_20), (0, .ref (a 0)), (1, .int p0), (2, .int p1)] → (41 : Int) - v3_20.toInt < (n9_20 : Int) → W p l e (rmw 9 0 0) s m ([.ref (a 0), .int p0, .int p1] : List Value).toArray below meth c H9 locs9 0 0 Q (F0 m 20 ls []) := by
        clear hl
        intro n9_20
        induction n9_20 with
        | zero =>
          intro v3_20 ls iv3_20 hl hm20
          exact (fu_0 iv3_20 hm20).elim
        | succ n9_20 ih20 =>
          intro v3_20 ls iv3_20 hl hm20
          refine lv_iload_n hx hb dX10_argue_20 rfl (lv_at hl 0 rfl) ?_
          refine lv_bipush (v := 40) hx hb dX10_argue_21 (by decide) ?_
          refine lv_icmp_gt (tgt := 55) hx hb dX10_argue_23 (by decide) (fun c228 => ?_) (fun c228 => ?_)
          · skip
            have n229 : (40 : Int32).toInt < v3_20.toInt := (i_lt c228)
            have h230 : Iv 41 41 v3_20 := lt_r (iv_c (by decide) : Iv 40 40 40) n229 iv3_20 (by decide)
            refine lv_iconst (v := (-1)) hx hb dX10_argue_55 (by decide) ?_
            rw [hQ]
            exact W.iret (v := (-1)) hx hb hr (fun t ht hW => ⟨⟨(-1), s3, rfl, ⟨hBs3, hFs3, ⟨(iv_mono (c := (-2)) (d := 40) (iv_c (by decide) : Iv (-1) (-1) (-1)) (by decide) (by decide)), trivial⟩⟩, by rw [ht]; exact hP, va_K.moved hW.alike (hK.sub (tys' := []) [] rfl), by rw [hAe]; exact hD⟩, by rw [hAe]; exact hS.F ht⟩) hS.2.2 dX10_argue_56
          · skip
            have n231 : v3_20.toInt ≤ (40 : Int32).toInt := (i_nlt c228)
            have h232 : Iv 0 40 v3_20 := le_l iv3_20 n231 (iv_c (by decide) : Iv 40 40 40) (by decide)
            refine lv_aload_n hx hb dX10_argue_26 rfl (lv_at hl 1 rfl) ?_
            refine lv_aload_n hx hb dX10_argue_27 rfl (lv_at hl 1 rfl) ?_
            refine lv_iload_n hx hb dX10_argue_28 rfl (lv_at hl 2 rfl) ?_
            refine ro_V (As := [.int p0]) (rest := [.ref (a 0)]) S (m_X10_wheelsOf l D k a s3 sl  p0 _  hBs3  (wok_of (hFs3 1 (nm_1 (by decide) (nm_1 (by decide) (nm_1 (by decide) (nm_1 (by decide) (nm_1 (by decide) nm_0)))))) hw)) lkX10_246 ok_X10_wheelsOf ⟨rfl, rfl, Nat.le_of_ble_eq_true rfl, Nat.le_of_ble_eq_true rfl⟩ (pw_V (ci := 10) (q0 := 0) hK hN rfl mw_0 hP (hD.weaken (fun _ _ _ _ => trivial))) rfl hl.1 rfl (Nat.le_of_ble_eq_true rfl) ⟨Nat.zero_le _, Nat.zero_le _⟩ dX10_argue_29 (fun r233 er233 => ?_)
            have h234 : Iv 0 255 r233 := er233.1
            have k235 := er233.2
            refine lv_aload_n hx hb dX10_argue_32 rfl (lv_at hl 1 rfl) ?_
            refine va_get (D := D) (ci := 10) (v := .ref (a 10)) (C := RX10) (T := TX10) (N := 38) hx hb hT in_X10 hown hK hP 0 mw_0 rfl 18 (by decide) (hT _ t1280) (fun _ h9 => h9) rfl dX10_argue_33 ?_
            refine lv_iload_n hx hb dX10_argue_36 rfl (lv_at hl 2 rfl) ?_
            refine va_iald hx hb hK hP 10 0 mw_10 rfl (iv_in h6 (by decide) (by decide)) dX10_argue_37 ?_
            refine lv_topi (fun z236 ez236 => ?_)
            refine lv_iload_n hx hb dX10_argue_38 rfl (lv_at hl 3 rfl) ?_
            refine lv_iload_n hx hb dX10_argue_39 rfl (lv_at hl 0 rfl) ?_
            refine ro_V (As := [.int r233, .int z236, .int p1, .int v3_20]) (rest := []) S (m_X10_turnBy l D k a s3 sl  r233 z236 p1 v3_20 _  hBs3  (wok_of (hFs3 1 (nm_1 (by decide) (nm_1 (by decide) (nm_1 (by decide) (nm_1 (by decide) (nm_1 (by decide) nm_0)))))) hw)) lkX10_249 ok_X10_turnBy ⟨rfl, rfl, Nat.le_of_ble_eq_true rfl, Nat.le_of_ble_eq_true rfl⟩ (pw_V (ci := 10) (q0 := 0) hK hN rfl mw_0 hP (hD.weaken (fun _ _ _ _ => trivial))) rfl hl.1 rfl (Nat.le_of_ble_eq_true rfl) ⟨Nat.zero_le _, Nat.zero_le _⟩ dX10_argue_40 (fun r237 er237 => ?_)
            have h238 : Iv (-1) 7 r237 := er237.1
            refine lv_iload_n hx hb dX10_argue_43 rfl (lv_at hl 3 rfl) ?_
            refine lv_icmp_ne (tgt := 49) hx hb dX10_argue_44 (by decide) (fun c239 => ?_) (fun c239 => ?_)
            · skip
              obtain ⟨z240, ez240⟩ : ∃ z9 : Int32, z9 = v3_20 + Int32.ofInt 1 := ⟨_, rfl⟩
              have h241 : Iv 1 41 z240 := iv_inc ez240 h232 (by decide) (by decide) (by decide) (by decide) (by decide) (by decide)
              refine lv_iinc (v := z240) (lv' := [(3, .int z240), (0, .ref (a 0)), (1, .int p0), (2, .int p1)]) hx hb dX10_argue_49 hl (k := 0) rfl ez240.symm (by decide) rfl (fun ls hl => ?_)
              refine lv_goto (tgt := 20) hx hb dX10_argue_52 (by decide) ?_
              exact ih20 z240 _ (iv_mono (c := 0) (d := 41) h241 (by decide) (by decide)) (lv_sub hl [0, 1, 2, 3] rfl) (fu_s (lo := 0) (ti_inc ez240 h232 (by decide) (by decide) (by decide) (by decide)) (by decide) hm20)
            · skip
              refine lv_iload_n hx hb dX10_argue_47 rfl (lv_at hl 0 rfl) ?_
              rw [hQ]
              exact W.iret (v := v3_20) hx hb hr (fun t ht hW => ⟨⟨v3_20, s3, rfl, ⟨hBs3, hFs3, ⟨(iv_mono (c := (-2)) (d := 40) h232 (by decide) (by decide)), trivial⟩⟩, by rw [ht]; exact hP, va_K.moved hW.alike (hK.sub (tys' := []) [] rfl), by rw [hAe]; exact hD⟩, by rw [hAe]; exact hS.F ht⟩) hS.2.2 dX10_argue_48
      exact lp20 42 0 _ (iv_mono (c := 0) (d := 41) (iv_c (by decide) : Iv 0 0 0) (by decide) (by decide)) (lv_sub hl [0, 1, 2, 3] rfl) (fu_i (iv_mono (c := 0) (d := 41) (iv_c (by decide) : Iv 0 0 0) (by decide) (by decide)) (by decide))
    · skip
      have g242 := g9
      refine lv_if_ne (tgt := 18) hx hb dX10_argue_12 (by decide) (fun c243 => ?_) (fun c243 => ?_)
      · first | exact absurd c243 (by decide) | exact absurd (by decide) c243
      refine lv_bipush (v := (-2)) hx hb dX10_argue_15 (by decide) ?_
      rw [hQ]
      exact W.iret (v := (-2)) hx hb hr (fun t ht hW => ⟨⟨(-2), s3, rfl, ⟨hBs3, hFs3, ⟨(iv_mono (c := (-2)) (d := 40) (iv_c (by decide) : Iv (-2) (-2) (-2)) (by decide) (by decide)), trivial⟩⟩, by rw [ht]; exact hP, va_K.moved hW.alike (hK.sub (tys' := []) [] rfl), by rw [hAe]; exact hD⟩, by rw [hAe]; exact hS.F ht⟩) hS.2.2 dX10_argue_17
