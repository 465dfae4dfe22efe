set_option maxHeartbeats 4000000 in
set_option maxRecDepth 100000 in
theorem s_X2_readLine (l : Launch) (D : va_G) (k : Nat → ClassId) (a : Nat → Nat) (st : CT) (sl : CL) (sz : Nat) (hB : CB st)  : Met l yX2_readLine (.code yX2_readLine cX2_readLine 1 none :: TB) (rmw 8 0 0) (va_Pc [.ref (a 1)] (PX D k sz (CWS k a st sl) NS)) (QV D (S := CT) (fun u => CB u ∧ FR [1, 5, 6, 7, 4, 13, 12, 15, 14, 8, 9, 10] st u ∧ (True)) (fun u => CWS k a u sl) (fun _ => []) (CWS k a st sl) sz) 0 0 (va_A (CWS k a st sl) sz) := by
  refine Met.ofW (cc := cX2_readLine) (maxL := 1) (ret := none) (by decide) rfl ?_
  intro p e s m args below meth c s₁ B hml hv
  obtain ⟨rfl, hsz, hP, hK, hD0, hN, hX⟩ := hv
  have hx := B.exec
  have hb := B.bytes
  have hr := B.returns
  have hT : ∀ w9 ∈ TB, w9.before ([.ref (a 1)] : List Value).toArray s = true := fun w9 h => atoms_spec (ws := .code yX2_readLine cX2_readLine 1 none :: TB) B.pre w9 (List.mem_cons_of_mem _ h)
  have hown : s.vm.findClass RX2 = some m.cls := findClass_of_methodNamed B.named
  have S : CallFix p m c cX2_readLine 1 s _ TB RX2 := ⟨hx, hb, hml, hown, hT⟩
  subst hsz
  have hD := hD0.self (sz := s.heap.size)
  generalize hAe : va_A (CWS k a st sl) s.heap.size = A at hD hX ⊢
  have hA : ∀ q : Nat, s.heap.size ≤ q → A q := fun q h => by rw [← hAe]; exact Or.inr h
  have hS : va_S A s.heap s.heap [] := va_S.rf
  have hl := lv_entry ([.ref (a 1)]) (n := 1) (Nat.le_of_ble_eq_true rfl)
  rw [lg_entry_eq]
  generalize (lg_sl ([.ref (a 1)]) ++ List.replicate (1 - (lg_sl ([.ref (a 1)])).length) Slot.unset).toArray = ls at hl ⊢
  have hl : lv_has ls 1 [(0, .ref (a 1))] := hl
  refine nameQ (fun Q hQ => ?_)
  refine lv_aload_n hx hb dX2_readLine_0 rfl (lv_at hl 0 rfl) ?_
  refine va_get (D := D) (ci := 2) (v := .ref (a 4)) (C := RX2) (T := TX2) (N := 8) hx hb hT in_X2 hown hK hP 1 cw_1 rfl 1 (by decide) (hT _ t274) (fun _ h9 => h9) rfl dX2_readLine_1 ?_
  refine va_get (D := D) (ci := 1) (v := .int (st 4 0)) (C := RX1) (T := TX1) (N := 14) hx hb hT in_X1 hown hK hP 4 cw_4 rfl 0 (by decide) (hT _ t196) (fun _ h9 => h9) rfl dX2_readLine_4 ?_
  refine lv_if_ne (tgt := 17) hx hb dX2_readLine_7 (by decide) (fun c1 => ?_) (fun c1 => ?_)
  · skip
    refine lv_aload_n hx hb dX2_readLine_17 rfl (lv_at hl 0 rfl) ?_
    obtain ⟨w2, vw2, tw2⟩ := hX.2 _ (List.mem_of_getElem? (l := LIT) (i := 3) rfl)
    have vw2 : vk_R RX2 53 "road" w2 s := vw2
    have tw2 : STA A w2 4 (fun j9 => ([114, 111, 97, 100] : List Int32).getD j9 0) s s.heap := tw2
    refine va_ldcS hx hb hown vw2 dX2_readLine_18 ?_
    refine ro_V (As := [.ref w2]) (rest := []) S (s_X2_isWord l D k a st sl   w2 4 (fun j9 => ([114, 111, 97, 100] : List Int32).getD j9 0) _  hB (by decide) ) lkX2_55 ok_X2_isWord ⟨rfl, rfl, Nat.le_of_ble_eq_true rfl, Nat.le_of_ble_eq_true rfl⟩ (px_V (ci := 2) (q0 := 1) nice_NSW hK hN rfl cw_1 hP (hD.weaken (fun _ _ _ _ => trivial)) (show NSW w2 4 (fun j9 => ([114, 111, 97, 100] : List Int32).getD j9 0) A s s.heap from ⟨hX, tw2⟩) hS (px_free hD hS hA)) rfl hl.1 rfl (Nat.le_of_ble_eq_true rfl) ⟨Nat.zero_le _, Nat.zero_le _⟩ dX2_readLine_20 (fun r3 er3 => ?_)
    rcases er3 with ⟨rfl, g9⟩ | ⟨rfl, g9⟩
    · skip
      have g4 := g9
      refine lv_if_eq (tgt := 33) hx hb dX2_readLine_23 (by decide) (fun c5 => ?_) (fun c5 => ?_)
      · first | exact absurd c5 (by decide) | exact absurd (by decide) c5
      refine lv_aload_n hx hb dX2_readLine_26 rfl (lv_at hl 0 rfl) ?_
      refine ca_v hP hD hS hA (fun hDc => run_V (mc := 0) (ms := 0) (As := []) (rest := []) S (s_X2_readRoad l D k a st sl   _  hB  ) lkX2_59 ok_X2_readRoad ⟨rfl, rfl, Nat.le_of_ble_eq_true rfl, Nat.le_of_ble_eq_true rfl⟩ (px_V (ci := 2) (q0 := 1) nice_NS hK hN rfl cw_1 hP hDc hX hS (px_free hD hS hA)) rfl hl.1 rfl (Nat.le_of_ble_eq_true rfl) ⟨Nat.zero_le _, Nat.zero_le _⟩ dX2_readLine_27) (fun s6 H9 locs9 hs6 hP9 hD9 hS9 => ?_)
      clear hP hD hS
      have hS := hS9
      have hP := hP9
      have hD := hD9
      clear hP9 hD9 hS9
      obtain ⟨hBs6, gs6, qs6_0, qs6_1, qs6_2, qs6_3, qs6_4, qs6_5, fs6⟩ := hs6
      have hFs6 : FR [1, 5, 6, 7, 4, 13, 12, 15, 14, 8, 9, 10] st s6 := fr_ca fr_rf gs6 (sub_1 (List.mem_of_getElem? (i := 0) rfl) (sub_1 (List.mem_of_getElem? (i := 1) rfl) (sub_1 (List.mem_of_getElem? (i := 2) rfl) (sub_1 (List.mem_of_getElem? (i := 3) rfl) (sub_1 (List.mem_of_getElem? (i := 4) rfl) sub_0)))))
      refine lv_goto (tgt := 86) hx hb dX2_readLine_30 (by decide) ?_
      refine lv_aload_n hx hb dX2_readLine_86 rfl (lv_at hl 0 rfl) ?_
      refine va_get (D := D) (ci := 2) (v := .int (s6 1 2)) (C := RX2) (T := TX2) (N := 8) hx hb hT in_X2 hown hK hP 1 cw_1 rfl 2 (by decide) (hT _ t276) (fun _ h9 => h9) rfl dX2_readLine_87 ?_
      refine lv_if_ne (tgt := 106) hx hb dX2_readLine_90 (by decide) (fun c8 => ?_) (fun c8 => ?_)
      · skip
        refine lv_aload_n hx hb dX2_readLine_106 rfl (lv_at hl 0 rfl) ?_
        refine va_get (D := D) (ci := 2) (v := .int (s6 1 2)) (C := RX2) (T := TX2) (N := 8) hx hb hT in_X2 hown hK hP 1 cw_1 rfl 2 (by decide) (hT _ t276) (fun _ h9 => h9) rfl dX2_readLine_107 ?_
        refine lv_if_ne (tgt := 130) hx hb dX2_readLine_110 (by decide) (fun c9 => ?_) (fun c9 => ?_)
        · skip
          rw [hQ]
          exact W.vret hx hb hr (fun t ht hW => ⟨⟨s6, rfl, ⟨hBs6, hFs6, trivial⟩, by rw [ht]; exact hP, va_K.moved hW.alike (hK.sub (tys' := []) [] rfl), by rw [hAe]; exact hD⟩, by rw [hAe]; exact hS.F ht⟩) hS.2.2 dX2_readLine_130
        · skip
          have h10 : Iv 0 0 (s6 1 2) := eq_l c9 (iv_c (by decide) : Iv 0 0 0)
          have k11 : (s6 1 2) = 0 := c9
          exact absurd k11 c8
      · skip
        have h12 : Iv 0 0 (s6 1 2) := eq_l c8 (iv_c (by decide) : Iv 0 0 0)
        have k13 : (s6 1 2) = 0 := c8
        refine lv_aload_n hx hb dX2_readLine_93 rfl (lv_at hl 0 rfl) ?_
        refine va_get (D := D) (ci := 2) (v := .int (s6 1 4)) (C := RX2) (T := TX2) (N := 8) hx hb hT in_X2 hown hK hP 1 cw_1 rfl 4 (by decide) (hT _ t280) (fun _ h9 => h9) rfl dX2_readLine_94 ?_
        refine lv_iconst (v := 3) hx hb dX2_readLine_97 (by decide) ?_
        refine lv_icmp_eq (tgt := 106) hx hb dX2_readLine_98 (by decide) (fun c14 => ?_) (fun c14 => ?_)
        · skip
          have h15 : Iv 3 3 (s6 1 4) := eq_l c14 (iv_c (by decide) : Iv 3 3 3)
          refine lv_aload_n hx hb dX2_readLine_106 rfl (lv_at hl 0 rfl) ?_
          refine va_get (D := D) (ci := 2) (v := .int (s6 1 2)) (C := RX2) (T := TX2) (N := 8) hx hb hT in_X2 hown hK hP 1 cw_1 rfl 2 (by decide) (hT _ t276) (fun _ h9 => h9) rfl dX2_readLine_107 ?_
          refine lv_if_ne (tgt := 130) hx hb dX2_readLine_110 (by decide) (fun c16 => ?_) (fun c16 => ?_)
          · skip
            exact (iv_no (ne_lo h12 (show ¬ (s6 1 2) = 0 from c16) (by decide) (Int.le_refl _)) (by decide)).elim
          · skip
            have k17 : (s6 1 2) = 0 := c16
            refine lv_aload_n hx hb dX2_readLine_113 rfl (lv_at hl 0 rfl) ?_
            refine va_get (D := D) (ci := 2) (v := .ref (a 4)) (C := RX2) (T := TX2) (N := 8) hx hb hT in_X2 hown hK hP 1 cw_1 rfl 1 (by decide) (hT _ t274) (fun _ h9 => h9) rfl dX2_readLine_114 ?_
            refine lv_dup hx hb dX2_readLine_117 rfl ?_
            refine va_get (D := D) (ci := 1) (v := .int (s6 4 0)) (C := RX1) (T := TX1) (N := 14) hx hb hT in_X1 hown hK hP 4 cw_4 rfl 0 (by decide) (hT _ t196) (fun _ h9 => h9) rfl dX2_readLine_118 ?_
            refine k_top (y := (st 4 0)) qs6_0 ?_
            refine lv_iconst (v := 1) hx hb dX2_readLine_121 (by decide) ?_
            refine lv_iadd hx hb dX2_readLine_122 ?_
            refine lv_topi (fun z18 ez18 => ?_)
            refine c_put (ci := 1) (C := RX1) (T := TX1) (N := 14) (j := 0) (v := z18) hx hb hT in_X1 tyX1 tyX1_ok nmX1 hown hK hP hD hS cw_4 rfl (by decide) (hT _ t196) (by decide +kernel) (by decide +kernel) rfl rfl (Nat.le_of_ble_eq_true rfl) (cs_4 (upd (s6 4) 0 z18)) dX2_readLine_123 (fun s19 H9 locs9 es19 hP9 hD9 hS9 => ?_)
            clear hP hD hS
            have hS := hS9
            have hP := hP9
            have hD := hD9
            clear hP9 hD9 hS9
            have hBs19 : CB s19 := by rw [es19]; exact cb_sw hBs6 (ki_3_0 (hBs6 4))
            have hFs19 : FR [1, 5, 6, 7, 4, 13, 12, 15, 14, 8, 9, 10] st s19 := fr_sw hFs6 (List.mem_of_getElem? (i := 4) rfl) es19
            refine lv_aload_n hx hb dX2_readLine_126 rfl (lv_at hl 0 rfl) ?_
            refine ca_v hP hD hS hA (fun hDc => run_V (mc := 0) (ms := 0) (As := []) (rest := []) S (s_X2_next l D k a s19 sl   _  hBs19  ) lkX2_38 ok_X2_next ⟨rfl, rfl, Nat.le_of_ble_eq_true rfl, Nat.le_of_ble_eq_true rfl⟩ (pw_V (ci := 2) (q0 := 1) hK hN rfl cw_1 hP hDc) rfl hl.1 rfl (Nat.le_of_ble_eq_true rfl) ⟨Nat.zero_le _, Nat.zero_le _⟩ dX2_readLine_127) (fun s20 H9 locs9 hs20 hP9 hD9 hS9 => ?_)
            clear hP hD hS
            have hS := hS9
            have hP := hP9
            have hD := hD9
            clear hP9 hD9 hS9
            obtain ⟨hBs20, gs20, qs20_0, qs20_1, fs20⟩ := hs20
            have hFs20 : FR [1, 5, 6, 7, 4, 13, 12, 15, 14, 8, 9, 10] st s20 := fr_ca hFs19 gs20 (sub_1 (List.mem_of_getElem? (i := 0) rfl) sub_0)
            rw [hQ]
            exact W.vret hx hb hr (fun t ht hW => ⟨⟨s20, rfl, ⟨hBs20, hFs20, trivial⟩, by rw [ht]; exact hP, va_K.moved hW.alike (hK.sub (tys' := []) [] rfl), by rw [hAe]; exact hD⟩, by rw [hAe]; exact hS.F ht⟩) hS.2.2 dX2_readLine_130
        · skip
          refine lv_aload_n hx hb dX2_readLine_101 rfl (lv_at hl 0 rfl) ?_
          refine lv_iconst (v := 1) hx hb dX2_readLine_102 (by decide) ?_
          refine ca_v hP hD hS hA (fun hDc => run_V (mc := 0) (ms := 0) (As := [.int 1]) (rest := []) S (s_X2_fail l D k a s6 sl  1 _  hBs6 (iv_mono (c := 1) (d := 3) (iv_c (by decide) : Iv 1 1 1) (by decide) (by decide)) ) lkX2_77 ok_X2_fail ⟨rfl, rfl, Nat.le_of_ble_eq_true rfl, Nat.le_of_ble_eq_true rfl⟩ (pw_V (ci := 2) (q0 := 1) hK hN rfl cw_1 hP hDc) rfl hl.1 rfl (Nat.le_of_ble_eq_true rfl) ⟨Nat.zero_le _, Nat.zero_le _⟩ dX2_readLine_103) (fun s22 H9 locs9 hs22 hP9 hD9 hS9 => ?_)
          clear hP hD hS
          have hS := hS9
          have hP := hP9
          have hD := hD9
          clear hP9 hD9 hS9
          obtain ⟨hBs22, gs22, qs22_0, qs22_1, qs22_2, qs22_3, fs22⟩ := hs22
          have hFs22 : FR [1, 5, 6, 7, 4, 13, 12, 15, 14, 8, 9, 10] st s22 := fr_ca hFs6 gs22 (sub_1 (List.mem_of_getElem? (i := 0) rfl) sub_0)
          have k24 := fs22
          refine lv_aload_n hx hb dX2_readLine_106 rfl (lv_at hl 0 rfl) ?_
          refine va_get (D := D) (ci := 2) (v := .int (s22 1 2)) (C := RX2) (T := TX2) (N := 8) hx hb hT in_X2 hown hK hP 1 cw_1 rfl 2 (by decide) (hT _ t276) (fun _ h9 => h9) rfl dX2_readLine_107 ?_
          refine lv_if_ne (tgt := 130) hx hb dX2_readLine_110 (by decide) (fun c25 => ?_) (fun c25 => ?_)
          · skip
            rw [hQ]
            exact W.vret hx hb hr (fun t ht hW => ⟨⟨s22, rfl, ⟨hBs22, hFs22, trivial⟩, by rw [ht]; exact hP, va_K.moved hW.alike (hK.sub (tys' := []) [] rfl), by rw [hAe]; exact hD⟩, by rw [hAe]; exact hS.F ht⟩) hS.2.2 dX2_readLine_130
          · skip
            have h26 : Iv 0 0 (s22 1 2) := eq_l c25 (iv_c (by decide) : Iv 0 0 0)
            have k27 : (s22 1 2) = 0 := c25
            exact absurd k27 k24
    · skip
      have g28 := g9
      refine lv_if_eq (tgt := 33) hx hb dX2_readLine_23 (by decide) (fun c29 => ?_) (fun c29 => ?_)
      rotate_left
      · first | exact absurd c29 (by decide) | exact absurd (by decide) c29
      refine lv_aload_n hx hb dX2_readLine_33 rfl (lv_at hl 0 rfl) ?_
      obtain ⟨w30, vw30, tw30⟩ := hX.2 _ (List.mem_of_getElem? (l := LIT) (i := 6) rfl)
      have vw30 : vk_R RX2 62 "wheel" w30 s := vw30
      have tw30 : STA A w30 5 (fun j9 => ([119, 104, 101, 101, 108] : List Int32).getD j9 0) s s.heap := tw30
      refine va_ldcS hx hb hown vw30 dX2_readLine_34 ?_
      refine ro_V (As := [.ref w30]) (rest := []) S (s_X2_isWord l D k a st sl   w30 5 (fun j9 => ([119, 104, 101, 101, 108] : List Int32).getD j9 0) _  hB (by decide) ) lkX2_55 ok_X2_isWord ⟨rfl, rfl, Nat.le_of_ble_eq_true rfl, Nat.le_of_ble_eq_true rfl⟩ (px_V (ci := 2) (q0 := 1) nice_NSW hK hN rfl cw_1 hP (hD.weaken (fun _ _ _ _ => trivial)) (show NSW w30 5 (fun j9 => ([119, 104, 101, 101, 108] : List Int32).getD j9 0) A s s.heap from ⟨hX, tw30⟩) hS (px_free hD hS hA)) rfl hl.1 rfl (Nat.le_of_ble_eq_true rfl) ⟨Nat.zero_le _, Nat.zero_le _⟩ dX2_readLine_36 (fun r31 er31 => ?_)
      rcases er31 with ⟨rfl, g9⟩ | ⟨rfl, g9⟩
      · skip
        have g32 := g9
        refine lv_if_eq (tgt := 49) hx hb dX2_readLine_39 (by decide) (fun c33 => ?_) (fun c33 => ?_)
        · first | exact absurd c33 (by decide) | exact absurd (by decide) c33
        refine lv_aload_n hx hb dX2_readLine_42 rfl (lv_at hl 0 rfl) ?_
        refine ca_v hP hD hS hA (fun hDc => run_V (mc := 0) (ms := 0) (As := []) (rest := []) S (s_X2_readWheel l D k a st sl   _  hB  ) lkX2_64 ok_X2_readWheel ⟨rfl, rfl, Nat.le_of_ble_eq_true rfl, Nat.le_of_ble_eq_true rfl⟩ (px_V (ci := 2) (q0 := 1) nice_NS hK hN rfl cw_1 hP hDc hX hS (px_free hD hS hA)) rfl hl.1 rfl (Nat.le_of_ble_eq_true rfl) ⟨Nat.zero_le _, Nat.zero_le _⟩ dX2_readLine_43) (fun s34 H9 locs9 hs34 hP9 hD9 hS9 => ?_)
        clear hP hD hS
        have hS := hS9
        have hP := hP9
        have hD := hD9
        clear hP9 hD9 hS9
        obtain ⟨hBs34, gs34, qs34_0, qs34_1, qs34_2, qs34_3, qs34_4, qs34_5, fs34⟩ := hs34
        have hFs34 : FR [1, 5, 6, 7, 4, 13, 12, 15, 14, 8, 9, 10] st s34 := fr_ca fr_rf gs34 (sub_1 (List.mem_of_getElem? (i := 0) rfl) (sub_1 (List.mem_of_getElem? (i := 5) rfl) (sub_1 (List.mem_of_getElem? (i := 4) rfl) (sub_1 (List.mem_of_getElem? (i := 6) rfl) sub_0))))
        refine lv_goto (tgt := 86) hx hb dX2_readLine_46 (by decide) ?_
        refine lv_aload_n hx hb dX2_readLine_86 rfl (lv_at hl 0 rfl) ?_
        refine va_get (D := D) (ci := 2) (v := .int (s34 1 2)) (C := RX2) (T := TX2) (N := 8) hx hb hT in_X2 hown hK hP 1 cw_1 rfl 2 (by decide) (hT _ t276) (fun _ h9 => h9) rfl dX2_readLine_87 ?_
        refine lv_if_ne (tgt := 106) hx hb dX2_readLine_90 (by decide) (fun c36 => ?_) (fun c36 => ?_)
        · skip
          refine lv_aload_n hx hb dX2_readLine_106 rfl (lv_at hl 0 rfl) ?_
          refine va_get (D := D) (ci := 2) (v := .int (s34 1 2)) (C := RX2) (T := TX2) (N := 8) hx hb hT in_X2 hown hK hP 1 cw_1 rfl 2 (by decide) (hT _ t276) (fun _ h9 => h9) rfl dX2_readLine_107 ?_
          refine lv_if_ne (tgt := 130) hx hb dX2_readLine_110 (by decide) (fun c37 => ?_) (fun c37 => ?_)
          · skip
            rw [hQ]
            exact W.vret hx hb hr (fun t ht hW => ⟨⟨s34, rfl, ⟨hBs34, hFs34, trivial⟩, by rw [ht]; exact hP, va_K.moved hW.alike (hK.sub (tys' := []) [] rfl), by rw [hAe]; exact hD⟩, by rw [hAe]; exact hS.F ht⟩) hS.2.2 dX2_readLine_130
          · skip
            have h38 : Iv 0 0 (s34 1 2) := eq_l c37 (iv_c (by decide) : Iv 0 0 0)
            have k39 : (s34 1 2) = 0 := c37
            exact absurd k39 c36
        · skip
          have h40 : Iv 0 0 (s34 1 2) := eq_l c36 (iv_c (by decide) : Iv 0 0 0)
          have k41 : (s34 1 2) = 0 := c36
          refine lv_aload_n hx hb dX2_readLine_93 rfl (lv_at hl 0 rfl) ?_
          refine va_get (D := D) (ci := 2) (v := .int (s34 1 4)) (C := RX2) (T := TX2) (N := 8) hx hb hT in_X2 hown hK hP 1 cw_1 rfl 4 (by decide) (hT _ t280) (fun _ h9 => h9) rfl dX2_readLine_94 ?_
          refine lv_iconst (v := 3) hx hb dX2_readLine_97 (by decide) ?_
          refine lv_icmp_eq (tgt := 106) hx hb dX2_readLine_98 (by decide) (fun c42 => ?_) (fun c42 => ?_)
          · skip
            have h43 : Iv 3 3 (s34 1 4) := eq_l c42 (iv_c (by decide) : Iv 3 3 3)
            refine lv_aload_n hx hb dX2_readLine_106 rfl (lv_at hl 0 rfl) ?_
            refine va_get (D := D) (ci := 2) (v := .int (s34 1 2)) (C := RX2) (T := TX2) (N := 8) hx hb hT in_X2 hown hK hP 1 cw_1 rfl 2 (by decide) (hT _ t276) (fun _ h9 => h9) rfl dX2_readLine_107 ?_
            refine lv_if_ne (tgt := 130) hx hb dX2_readLine_110 (by decide) (fun c44 => ?_) (fun c44 => ?_)
            · skip
              exact (iv_no (ne_lo h40 (show ¬ (s34 1 2) = 0 from c44) (by decide) (Int.le_refl _)) (by decide)).elim
            · skip
              have k45 : (s34 1 2) = 0 := c44
              refine lv_aload_n hx hb dX2_readLine_113 rfl (lv_at hl 0 rfl) ?_
              refine va_get (D := D) (ci := 2) (v := .ref (a 4)) (C := RX2) (T := TX2) (N := 8) hx hb hT in_X2 hown hK hP 1 cw_1 rfl 1 (by decide) (hT _ t274) (fun _ h9 => h9) rfl dX2_readLine_114 ?_
              refine lv_dup hx hb dX2_readLine_117 rfl ?_
              refine va_get (D := D) (ci := 1) (v := .int (s34 4 0)) (C := RX1) (T := TX1) (N := 14) hx hb hT in_X1 hown hK hP 4 cw_4 rfl 0 (by decide) (hT _ t196) (fun _ h9 => h9) rfl dX2_readLine_118 ?_
              refine k_top (y := (st 4 0)) qs34_0 ?_
              refine lv_iconst (v := 1) hx hb dX2_readLine_121 (by decide) ?_
              refine lv_iadd hx hb dX2_readLine_122 ?_
              refine lv_topi (fun z46 ez46 => ?_)
              refine c_put (ci := 1) (C := RX1) (T := TX1) (N := 14) (j := 0) (v := z46) hx hb hT in_X1 tyX1 tyX1_ok nmX1 hown hK hP hD hS cw_4 rfl (by decide) (hT _ t196) (by decide +kernel) (by decide +kernel) rfl rfl (Nat.le_of_ble_eq_true rfl) (cs_4 (upd (s34 4) 0 z46)) dX2_readLine_123 (fun s47 H9 locs9 es47 hP9 hD9 hS9 => ?_)
              clear hP hD hS
              have hS := hS9
              have hP := hP9
              have hD := hD9
              clear hP9 hD9 hS9
              have hBs47 : CB s47 := by rw [es47]; exact cb_sw hBs34 (ki_3_0 (hBs34 4))
              have hFs47 : FR [1, 5, 6, 7, 4, 13, 12, 15, 14, 8, 9, 10] st s47 := fr_sw hFs34 (List.mem_of_getElem? (i := 4) rfl) es47
              refine lv_aload_n hx hb dX2_readLine_126 rfl (lv_at hl 0 rfl) ?_
              refine ca_v hP hD hS hA (fun hDc => run_V (mc := 0) (ms := 0) (As := []) (rest := []) S (s_X2_next l D k a s47 sl   _  hBs47  ) lkX2_38 ok_X2_next ⟨rfl, rfl, Nat.le_of_ble_eq_true rfl, Nat.le_of_ble_eq_true rfl⟩ (pw_V (ci := 2) (q0 := 1) hK hN rfl cw_1 hP hDc) rfl hl.1 rfl (Nat.le_of_ble_eq_true rfl) ⟨Nat.zero_le _, Nat.zero_le _⟩ dX2_readLine_127) (fun s48 H9 locs9 hs48 hP9 hD9 hS9 => ?_)
              clear hP hD hS
              have hS := hS9
              have hP := hP9
              have hD := hD9
              clear hP9 hD9 hS9
              obtain ⟨hBs48, gs48, qs48_0, qs48_1, fs48⟩ := hs48
              have hFs48 : FR [1, 5, 6, 7, 4, 13, 12, 15, 14, 8, 9, 10] st s48 := fr_ca hFs47 gs48 (sub_1 (List.mem_of_getElem? (i := 0) rfl) sub_0)
              rw [hQ]
              exact W.vret hx hb hr (fun t ht hW => ⟨⟨s48, rfl, ⟨hBs48, hFs48, trivial⟩, by rw [ht]; exact hP, va_K.moved hW.alike (hK.sub (tys' := []) [] rfl), by rw [hAe]; exact hD⟩, by rw [hAe]; exact hS.F ht⟩) hS.2.2 dX2_readLine_130
          · skip
            refine lv_aload_n hx hb dX2_readLine_101 rfl (lv_at hl 0 rfl) ?_
            refine lv_iconst (v := 1) hx hb dX2_readLine_102 (by decide) ?_
            refine ca_v hP hD hS hA (fun hDc => run_V (mc := 0) (ms := 0) (As := [.int 1]) (rest := []) S (s_X2_fail l D k a s34 sl  1 _  hBs34 (iv_mono (c := 1) (d := 3) (iv_c (by decide) : Iv 1 1 1) (by decide) (by decide)) ) lkX2_77 ok_X2_fail ⟨rfl, rfl, Nat.le_of_ble_eq_true rfl, Nat.le_of_ble_eq_true rfl⟩ (pw_V (ci := 2) (q0 := 1) hK hN rfl cw_1 hP hDc) rfl hl.1 rfl (Nat.le_of_ble_eq_true rfl) ⟨Nat.zero_le _, Nat.zero_le _⟩ dX2_readLine_103) (fun s50 H9 locs9 hs50 hP9 hD9 hS9 => ?_)
            clear hP hD hS
            have hS := hS9
            have hP := hP9
            have hD := hD9
            clear hP9 hD9 hS9
            obtain ⟨hBs50, gs50, qs50_0, qs50_1, qs50_2, qs50_3, fs50⟩ := hs50
            have hFs50 : FR [1, 5, 6, 7, 4, 13, 12, 15, 14, 8, 9, 10] st s50 := fr_ca hFs34 gs50 (sub_1 (List.mem_of_getElem? (i := 0) rfl) sub_0)
            have k52 := fs50
            refine lv_aload_n hx hb dX2_readLine_106 rfl (lv_at hl 0 rfl) ?_
            refine va_get (D := D) (ci := 2) (v := .int (s50 1 2)) (C := RX2) (T := TX2) (N := 8) hx hb hT in_X2 hown hK hP 1 cw_1 rfl 2 (by decide) (hT _ t276) (fun _ h9 => h9) rfl dX2_readLine_107 ?_
            refine lv_if_ne (tgt := 130) hx hb dX2_readLine_110 (by decide) (fun c53 => ?_) (fun c53 => ?_)
            · skip
              rw [hQ]
              exact W.vret hx hb hr (fun t ht hW => ⟨⟨s50, rfl, ⟨hBs50, hFs50, trivial⟩, by rw [ht]; exact hP, va_K.moved hW.alike (hK.sub (tys' := []) [] rfl), by rw [hAe]; exact hD⟩, by rw [hAe]; exact hS.F ht⟩) hS.2.2 dX2_readLine_130
            · skip
              have h54 : Iv 0 0 (s50 1 2) := eq_l c53 (iv_c (by decide) : Iv 0 0 0)
              have k55 : (s50 1 2) = 0 := c53
              exact absurd k55 k52
      · skip
        have g56 := g9
        refine lv_if_eq (tgt := 49) hx hb dX2_readLine_39 (by decide) (fun c57 => ?_) (fun c57 => ?_)
        rotate_left
        · first | exact absurd c57 (by decide) | exact absurd (by decide) c57
        refine lv_aload_n hx hb dX2_readLine_49 rfl (lv_at hl 0 rfl) ?_
        obtain ⟨w58, vw58, tw58⟩ := hX.2 _ (List.mem_of_getElem? (l := LIT) (i := 9) rfl)
        have vw58 : vk_R RX2 67 "cart" w58 s := vw58
        have tw58 : STA A w58 4 (fun j9 => ([99, 97, 114, 116] : List Int32).getD j9 0) s s.heap := tw58
        refine va_ldcS hx hb hown vw58 dX2_readLine_50 ?_
        refine ro_V (As := [.ref w58]) (rest := []) S (s_X2_isWord l D k a st sl   w58 4 (fun j9 => ([99, 97, 114, 116] : List Int32).getD j9 0) _  hB (by decide) ) lkX2_55 ok_X2_isWord ⟨rfl, rfl, Nat.le_of_ble_eq_true rfl, Nat.le_of_ble_eq_true rfl⟩ (px_V (ci := 2) (q0 := 1) nice_NSW hK hN rfl cw_1 hP (hD.weaken (fun _ _ _ _ => trivial)) (show NSW w58 4 (fun j9 => ([99, 97, 114, 116] : List Int32).getD j9 0) A s s.heap from ⟨hX, tw58⟩) hS (px_free hD hS hA)) rfl hl.1 rfl (Nat.le_of_ble_eq_true rfl) ⟨Nat.zero_le _, Nat.zero_le _⟩ dX2_readLine_52 (fun r59 er59 => ?_)
        rcases er59 with ⟨rfl, g9⟩ | ⟨rfl, g9⟩
        · skip
          have g60 := g9
          refine lv_if_eq (tgt := 65) hx hb dX2_readLine_55 (by decide) (fun c61 => ?_) (fun c61 => ?_)
          · first | exact absurd c61 (by decide) | exact absurd (by decide) c61
          refine lv_aload_n hx hb dX2_readLine_58 rfl (lv_at hl 0 rfl) ?_
          refine ca_v hP hD hS hA (fun hDc => run_V (mc := 0) (ms := 0) (As := []) (rest := []) S (s_X2_readCart l D k a st sl   _  hB  ) lkX2_69 ok_X2_readCart ⟨rfl, rfl, Nat.le_of_ble_eq_true rfl, Nat.le_of_ble_eq_true rfl⟩ (px_V (ci := 2) (q0 := 1) nice_NS hK hN rfl cw_1 hP hDc hX hS (px_free hD hS hA)) rfl hl.1 rfl (Nat.le_of_ble_eq_true rfl) ⟨Nat.zero_le _, Nat.zero_le _⟩ dX2_readLine_59) (fun s62 H9 locs9 hs62 hP9 hD9 hS9 => ?_)
          clear hP hD hS
          have hS := hS9
          have hP := hP9
          have hD := hD9
          clear hP9 hD9 hS9
          obtain ⟨hBs62, gs62, qs62_0, qs62_1, qs62_2, qs62_3, qs62_4, qs62_5, fs62⟩ := hs62
          have hFs62 : FR [1, 5, 6, 7, 4, 13, 12, 15, 14, 8, 9, 10] st s62 := fr_ca fr_rf gs62 (sub_1 (List.mem_of_getElem? (i := 0) rfl) (sub_1 (List.mem_of_getElem? (i := 7) rfl) (sub_1 (List.mem_of_getElem? (i := 4) rfl) (sub_1 (List.mem_of_getElem? (i := 8) rfl) sub_0))))
          refine lv_goto (tgt := 86) hx hb dX2_readLine_62 (by decide) ?_
          refine lv_aload_n hx hb dX2_readLine_86 rfl (lv_at hl 0 rfl) ?_
          refine va_get (D := D) (ci := 2) (v := .int (s62 1 2)) (C := RX2) (T := TX2) (N := 8) hx hb hT in_X2 hown hK hP 1 cw_1 rfl 2 (by decide) (hT _ t276) (fun _ h9 => h9) rfl dX2_readLine_87 ?_
          refine lv_if_ne (tgt := 106) hx hb dX2_readLine_90 (by decide) (fun c64 => ?_) (fun c64 => ?_)
          · skip
            refine lv_aload_n hx hb dX2_readLine_106 rfl (lv_at hl 0 rfl) ?_
            refine va_get (D := D) (ci := 2) (v := .int (s62 1 2)) (C := RX2) (T := TX2) (N := 8) hx hb hT in_X2 hown hK hP 1 cw_1 rfl 2 (by decide) (hT _ t276) (fun _ h9 => h9) rfl dX2_readLine_107 ?_
            refine lv_if_ne (tgt := 130) hx hb dX2_readLine_110 (by decide) (fun c65 => ?_) (fun c65 => ?_)
            · skip
              rw [hQ]
              exact W.vret hx hb hr (fun t ht hW => ⟨⟨s62, rfl, ⟨hBs62, hFs62, trivial⟩, by rw [ht]; exact hP, va_K.moved hW.alike (hK.sub (tys' := []) [] rfl), by rw [hAe]; exact hD⟩, by rw [hAe]; exact hS.F ht⟩) hS.2.2 dX2_readLine_130
            · skip
              have h66 : Iv 0 0 (s62 1 2) := eq_l c65 (iv_c (by decide) : Iv 0 0 0)
              have k67 : (s62 1 2) = 0 := c65
              exact absurd k67 c64
          · skip
            have h68 : Iv 0 0 (s62 1 2) := eq_l c64 (iv_c (by decide) : Iv 0 0 0)
            have k69 : (s62 1 2) = 0 := c64
            refine lv_aload_n hx hb dX2_readLine_93 rfl (lv_at hl 0 rfl) ?_
            refine va_get (D := D) (ci := 2) (v := .int (s62 1 4)) (C := RX2) (T := TX2) (N := 8) hx hb hT in_X2 hown hK hP 1 cw_1 rfl 4 (by decide) (hT _ t280) (fun _ h9 => h9) rfl dX2_readLine_94 ?_
            refine lv_iconst (v := 3) hx hb dX2_readLine_97 (by decide) ?_
            refine lv_icmp_eq (tgt := 106) hx hb dX2_readLine_98 (by decide) (fun c70 => ?_) (fun c70 => ?_)
            · skip
              have h71 : Iv 3 3 (s62 1 4) := eq_l c70 (iv_c (by decide) : Iv 3 3 3)
              refine lv_aload_n hx hb dX2_readLine_106 rfl (lv_at hl 0 rfl) ?_
              refine va_get (D := D) (ci := 2) (v := .int (s62 1 2)) (C := RX2) (T := TX2) (N := 8) hx hb hT in_X2 hown hK hP 1 cw_1 rfl 2 (by decide) (hT _ t276) (fun _ h9 => h9) rfl dX2_readLine_107 ?_
              refine lv_if_ne (tgt := 130) hx hb dX2_readLine_110 (by decide) (fun c72 => ?_) (fun c72 => ?_)
              · skip
                exact (iv_no (ne_lo h68 (show ¬ (s62 1 2) = 0 from c72) (by decide) (Int.le_refl _)) (by decide)).elim
              · skip
                have k73 : (s62 1 2) = 0 := c72
                refine lv_aload_n hx hb dX2_readLine_113 rfl (lv_at hl 0 rfl) ?_
                refine va_get (D := D) (ci := 2) (v := .ref (a 4)) (C := RX2) (T := TX2) (N := 8) hx hb hT in_X2 hown hK hP 1 cw_1 rfl 1 (by decide) (hT _ t274) (fun _ h9 => h9) rfl dX2_readLine_114 ?_
                refine lv_dup hx hb dX2_readLine_117 rfl ?_
                refine va_get (D := D) (ci := 1) (v := .int (s62 4 0)) (C := RX1) (T := TX1) (N := 14) hx hb hT in_X1 hown hK hP 4 cw_4 rfl 0 (by decide) (hT _ t196) (fun _ h9 => h9) rfl dX2_readLine_118 ?_
                refine k_top (y := (st 4 0)) qs62_0 ?_
                refine lv_iconst (v := 1) hx hb dX2_readLine_121 (by decide) ?_
                refine lv_iadd hx hb dX2_readLine_122 ?_
                refine lv_topi (fun z74 ez74 => ?_)
                refine c_put (ci := 1) (C := RX1) (T := TX1) (N := 14) (j := 0) (v := z74) hx hb hT in_X1 tyX1 tyX1_ok nmX1 hown hK hP hD hS cw_4 rfl (by decide) (hT _ t196) (by decide +kernel) (by decide +kernel) rfl rfl (Nat.le_of_ble_eq_true rfl) (cs_4 (upd (s62 4) 0 z74)) dX2_readLine_123 (fun s75 H9 locs9 es75 hP9 hD9 hS9 => ?_)
                clear hP hD hS
                have hS := hS9
                have hP := hP9
                have hD := hD9
                clear hP9 hD9 hS9
                have hBs75 : CB s75 := by rw [es75]; exact cb_sw hBs62 (ki_3_0 (hBs62 4))
                have hFs75 : FR [1, 5, 6, 7, 4, 13, 12, 15, 14, 8, 9, 10] st s75 := fr_sw hFs62 (List.mem_of_getElem? (i := 4) rfl) es75
                refine lv_aload_n hx hb dX2_readLine_126 rfl (lv_at hl 0 rfl) ?_
                refine ca_v hP hD hS hA (fun hDc => run_V (mc := 0) (ms := 0) (As := []) (rest := []) S (s_X2_next l D k a s75 sl   _  hBs75  ) lkX2_38 ok_X2_next ⟨rfl, rfl, Nat.le_of_ble_eq_true rfl, Nat.le_of_ble_eq_true rfl⟩ (pw_V (ci := 2) (q0 := 1) hK hN rfl cw_1 hP hDc) rfl hl.1 rfl (Nat.le_of_ble_eq_true rfl) ⟨Nat.zero_le _, Nat.zero_le _⟩ dX2_readLine_127) (fun s76 H9 locs9 hs76 hP9 hD9 hS9 => ?_)
                clear hP hD hS
                have hS := hS9
                have hP := hP9
                have hD := hD9
                clear hP9 hD9 hS9
                obtain ⟨hBs76, gs76, qs76_0, qs76_1, fs76⟩ := hs76
                have hFs76 : FR [1, 5, 6, 7, 4, 13, 12, 15, 14, 8, 9, 10] st s76 := fr_ca hFs75 gs76 (sub_1 (List.mem_of_getElem? (i := 0) rfl) sub_0)
                rw [hQ]
                exact W.vret hx hb hr (fun t ht hW => ⟨⟨s76, rfl, ⟨hBs76, hFs76, trivial⟩, by rw [ht]; exact hP, va_K.moved hW.alike (hK.sub (tys' := []) [] rfl), by rw [hAe]; exact hD⟩, by rw [hAe]; exact hS.F ht⟩) hS.2.2 dX2_readLine_130
            · skip
              refine lv_aload_n hx hb dX2_readLine_101 rfl (lv_at hl 0 rfl) ?_
              refine lv_iconst (v := 1) hx hb dX2_readLine_102 (by decide) ?_
              refine ca_v hP hD hS hA (fun hDc => run_V (mc := 0) (ms := 0) (As := [.int 1]) (rest := []) S (s_X2_fail l D k a s62 sl  1 _  hBs62 (iv_mono (c := 1) (d := 3) (iv_c (by decide) : Iv 1 1 1) (by decide) (by decide)) ) lkX2_77 ok_X2_fail ⟨rfl, rfl, Nat.le_of_ble_eq_true rfl, Nat.le_of_ble_eq_true rfl⟩ (pw_V (ci := 2) (q0 := 1) hK hN rfl cw_1 hP hDc) rfl hl.1 rfl (Nat.le_of_ble_eq_true rfl) ⟨Nat.zero_le _, Nat.zero_le _⟩ dX2_readLine_103) (fun s78 H9 locs9 hs78 hP9 hD9 hS9 => ?_)
              clear hP hD hS
              have hS := hS9
              have hP := hP9
              have hD := hD9
              clear hP9 hD9 hS9
              obtain ⟨hBs78, gs78, qs78_0, qs78_1, qs78_2, qs78_3, fs78⟩ := hs78
              have hFs78 : FR [1, 5, 6, 7, 4, 13, 12, 15, 14, 8, 9, 10] st s78 := fr_ca hFs62 gs78 (sub_1 (List.mem_of_getElem? (i := 0) rfl) sub_0)
              have k80 := fs78
              refine lv_aload_n hx hb dX2_readLine_106 rfl (lv_at hl 0 rfl) ?_
              refine va_get (D := D) (ci := 2) (v := .int (s78 1 2)) (C := RX2) (T := TX2) (N := 8) hx hb hT in_X2 hown hK hP 1 cw_1 rfl 2 (by decide) (hT _ t276) (fun _ h9 => h9) rfl dX2_readLine_107 ?_
              refine lv_if_ne (tgt := 130) hx hb dX2_readLine_110 (by decide) (fun c81 => ?_) (fun c81 => ?_)
              · skip
                rw [hQ]
                exact W.vret hx hb hr (fun t ht hW => ⟨⟨s78, rfl, ⟨hBs78, hFs78, trivial⟩, by rw [ht]; exact hP, va_K.moved hW.alike (hK.sub (tys' := []) [] rfl), by rw [hAe]; exact hD⟩, by rw [hAe]; exact hS.F ht⟩) hS.2.2 dX2_readLine_130
              · skip
                have h82 : Iv 0 0 (s78 1 2) := eq_l c81 (iv_c (by decide) : Iv 0 0 0)
                have k83 : (s78 1 2) = 0 := c81
                exact absurd k83 k80
        · skip
          have g84 := g9
          refine lv_if_eq (tgt := 65) hx hb dX2_readLine_55 (by decide) (fun c85 => ?_) (fun c85 => ?_)
          rotate_left
          · first | exact absurd c85 (by decide) | exact absurd (by decide) c85
          refine lv_aload_n hx hb dX2_readLine_65 rfl (lv_at hl 0 rfl) ?_
          obtain ⟨w86, vw86, tw86⟩ := hX.2 _ (List.mem_of_getElem? (l := LIT) (i := 12) rfl)
          have vw86 : vk_R RX2 72 "errand" w86 s := vw86
          have tw86 : STA A w86 6 (fun j9 => ([101, 114, 114, 97, 110, 100] : List Int32).getD j9 0) s s.heap := tw86
          refine va_ldcS hx hb hown vw86 dX2_readLine_66 ?_
          refine ro_V (As := [.ref w86]) (rest := []) S (s_X2_isWord l D k a st sl   w86 6 (fun j9 => ([101, 114, 114, 97, 110, 100] : List Int32).getD j9 0) _  hB (by decide) ) lkX2_55 ok_X2_isWord ⟨rfl, rfl, Nat.le_of_ble_eq_true rfl, Nat.le_of_ble_eq_true rfl⟩ (px_V (ci := 2) (q0 := 1) nice_NSW hK hN rfl cw_1 hP (hD.weaken (fun _ _ _ _ => trivial)) (show NSW w86 6 (fun j9 => ([101, 114, 114, 97, 110, 100] : List Int32).getD j9 0) A s s.heap from ⟨hX, tw86⟩) hS (px_free hD hS hA)) rfl hl.1 rfl (Nat.le_of_ble_eq_true rfl) ⟨Nat.zero_le _, Nat.zero_le _⟩ dX2_readLine_68 (fun r87 er87 => ?_)
          rcases er87 with ⟨rfl, g9⟩ | ⟨rfl, g9⟩
          · skip
            have g88 := g9
            refine lv_if_eq (tgt := 81) hx hb dX2_readLine_71 (by decide) (fun c89 => ?_) (fun c89 => ?_)
            · first | exact absurd c89 (by decide) | exact absurd (by decide) c89
            refine lv_aload_n hx hb dX2_readLine_74 rfl (lv_at hl 0 rfl) ?_
            refine ca_v hP hD hS hA (fun hDc => run_V (mc := 0) (ms := 0) (As := []) (rest := []) S (s_X2_readErrand l D k a st sl   _  hB  ) lkX2_74 ok_X2_readErrand ⟨rfl, rfl, Nat.le_of_ble_eq_true rfl, Nat.le_of_ble_eq_true rfl⟩ (px_V (ci := 2) (q0 := 1) nice_NS hK hN rfl cw_1 hP hDc hX hS (px_free hD hS hA)) rfl hl.1 rfl (Nat.le_of_ble_eq_true rfl) ⟨Nat.zero_le _, Nat.zero_le _⟩ dX2_readLine_75) (fun s90 H9 locs9 hs90 hP9 hD9 hS9 => ?_)
            clear hP hD hS
            have hS := hS9
            have hP := hP9
            have hD := hD9
            clear hP9 hD9 hS9
            obtain ⟨hBs90, gs90, qs90_0, qs90_1, qs90_2, qs90_3, qs90_4, qs90_5, fs90⟩ := hs90
            have hFs90 : FR [1, 5, 6, 7, 4, 13, 12, 15, 14, 8, 9, 10] st s90 := fr_ca fr_rf gs90 (sub_1 (List.mem_of_getElem? (i := 0) rfl) (sub_1 (List.mem_of_getElem? (i := 9) rfl) (sub_1 (List.mem_of_getElem? (i := 10) rfl) (sub_1 (List.mem_of_getElem? (i := 11) rfl) (sub_1 (List.mem_of_getElem? (i := 4) rfl) sub_0)))))
            refine lv_goto (tgt := 86) hx hb dX2_readLine_78 (by decide) ?_
            refine lv_aload_n hx hb dX2_readLine_86 rfl (lv_at hl 0 rfl) ?_
            refine va_get (D := D) (ci := 2) (v := .int (s90 1 2)) (C := RX2) (T := TX2) (N := 8) hx hb hT in_X2 hown hK hP 1 cw_1 rfl 2 (by decide) (hT _ t276) (fun _ h9 => h9) rfl dX2_readLine_87 ?_
            refine lv_if_ne (tgt := 106) hx hb dX2_readLine_90 (by decide) (fun c92 => ?_) (fun c92 => ?_)
            · skip
              refine lv_aload_n hx hb dX2_readLine_106 rfl (lv_at hl 0 rfl) ?_
              refine va_get (D := D) (ci := 2) (v := .int (s90 1 2)) (C := RX2) (T := TX2) (N := 8) hx hb hT in_X2 hown hK hP 1 cw_1 rfl 2 (by decide) (hT _ t276) (fun _ h9 => h9) rfl dX2_readLine_107 ?_
              refine lv_if_ne (tgt := 130) hx hb dX2_readLine_110 (by decide) (fun c93 => ?_) (fun c93 => ?_)
              · skip
                rw [hQ]
                exact W.vret hx hb hr (fun t ht hW => ⟨⟨s90, rfl, ⟨hBs90, hFs90, trivial⟩, by rw [ht]; exact hP, va_K.moved hW.alike (hK.sub (tys' := []) [] rfl), by rw [hAe]; exact hD⟩, by rw [hAe]; exact hS.F ht⟩) hS.2.2 dX2_readLine_130
              · skip
                have h94 : Iv 0 0 (s90 1 2) := eq_l c93 (iv_c (by decide) : Iv 0 0 0)
                have k95 : (s90 1 2) = 0 := c93
                exact absurd k95 c92
            · skip
              have h96 : Iv 0 0 (s90 1 2) := eq_l c92 (iv_c (by decide) : Iv 0 0 0)
              have k97 : (s90 1 2) = 0 := c92
              refine lv_aload_n hx hb dX2_readLine_93 rfl (lv_at hl 0 rfl) ?_
              refine va_get (D := D) (ci := 2) (v := .int (s90 1 4)) (C := RX2) (T := TX2) (N := 8) hx hb hT in_X2 hown hK hP 1 cw_1 rfl 4 (by decide) (hT _ t280) (fun _ h9 => h9) rfl dX2_readLine_94 ?_
              refine lv_iconst (v := 3) hx hb dX2_readLine_97 (by decide) ?_
              refine lv_icmp_eq (tgt := 106) hx hb dX2_readLine_98 (by decide) (fun c98 => ?_) (fun c98 => ?_)
              · skip
                have h99 : Iv 3 3 (s90 1 4) := eq_l c98 (iv_c (by decide) : Iv 3 3 3)
                refine lv_aload_n hx hb dX2_readLine_106 rfl (lv_at hl 0 rfl) ?_
                refine va_get (D := D) (ci := 2) (v := .int (s90 1 2)) (C := RX2) (T := TX2) (N := 8) hx hb hT in_X2 hown hK hP 1 cw_1 rfl 2 (by decide) (hT _ t276) (fun _ h9 => h9) rfl dX2_readLine_107 ?_
                refine lv_if_ne (tgt := 130) hx hb dX2_readLine_110 (by decide) (fun c100 => ?_) (fun c100 => ?_)
                · skip
                  exact (iv_no (ne_lo h96 (show ¬ (s90 1 2) = 0 from c100) (by decide) (Int.le_refl _)) (by decide)).elim
                · skip
                  have k101 : (s90 1 2) = 0 := c100
                  refine lv_aload_n hx hb dX2_readLine_113 rfl (lv_at hl 0 rfl) ?_
                  refine va_get (D := D) (ci := 2) (v := .ref (a 4)) (C := RX2) (T := TX2) (N := 8) hx hb hT in_X2 hown hK hP 1 cw_1 rfl 1 (by decide) (hT _ t274) (fun _ h9 => h9) rfl dX2_readLine_114 ?_
                  refine lv_dup hx hb dX2_readLine_117 rfl ?_
                  refine va_get (D := D) (ci := 1) (v := .int (s90 4 0)) (C := RX1) (T := TX1) (N := 14) hx hb hT in_X1 hown hK hP 4 cw_4 rfl 0 (by decide) (hT _ t196) (fun _ h9 => h9) rfl dX2_readLine_118 ?_
                  refine k_top (y := (st 4 0)) qs90_0 ?_
                  refine lv_iconst (v := 1) hx hb dX2_readLine_121 (by decide) ?_
                  refine lv_iadd hx hb dX2_readLine_122 ?_
                  refine lv_topi (fun z102 ez102 => ?_)
                  refine c_put (ci := 1) (C := RX1) (T := TX1) (N := 14) (j := 0) (v := z102) hx hb hT in_X1 tyX1 tyX1_ok nmX1 hown hK hP hD hS cw_4 rfl (by decide) (hT _ t196) (by decide +kernel) (by decide +kernel) rfl rfl (Nat.le_of_ble_eq_true rfl) (cs_4 (upd (s90 4) 0 z102)) dX2_readLine_123 (fun s103 H9 locs9 es103 hP9 hD9 hS9 => ?_)
                  clear hP hD hS
                  have hS := hS9
                  have hP := hP9
                  have hD := hD9
                  clear hP9 hD9 hS9
                  have hBs103 : CB s103 := by rw [es103]; exact cb_sw hBs90 (ki_3_0 (hBs90 4))
                  have hFs103 : FR [1, 5, 6, 7, 4, 13, 12, 15, 14, 8, 9, 10] st s103 := fr_sw hFs90 (List.mem_of_getElem? (i := 4) rfl) es103
                  refine lv_aload_n hx hb dX2_readLine_126 rfl (lv_at hl 0 rfl) ?_
                  refine ca_v hP hD hS hA (fun hDc => run_V (mc := 0) (ms := 0) (As := []) (rest := []) S (s_X2_next l D k a s103 sl   _  hBs103  ) lkX2_38 ok_X2_next ⟨rfl, rfl, Nat.le_of_ble_eq_true rfl, Nat.le_of_ble_eq_true rfl⟩ (pw_V (ci := 2) (q0 := 1) hK hN rfl cw_1 hP hDc) rfl hl.1 rfl (Nat.le_of_ble_eq_true rfl) ⟨Nat.zero_le _, Nat.zero_le _⟩ dX2_readLine_127) (fun s104 H9 locs9 hs104 hP9 hD9 hS9 => ?_)
                  clear hP hD hS
                  have hS := hS9
                  have hP := hP9
                  have hD := hD9
                  clear hP9 hD9 hS9
                  obtain ⟨hBs104, gs104, qs104_0, qs104_1, fs104⟩ := hs104
                  have hFs104 : FR [1, 5, 6, 7, 4, 13, 12, 15, 14, 8, 9, 10] st s104 := fr_ca hFs103 gs104 (sub_1 (List.mem_of_getElem? (i := 0) rfl) sub_0)
                  rw [hQ]
                  exact W.vret hx hb hr (fun t ht hW => ⟨⟨s104, rfl, ⟨hBs104, hFs104, trivial⟩, by rw [ht]; exact hP, va_K.moved hW.alike (hK.sub (tys' := []) [] rfl), by rw [hAe]; exact hD⟩, by rw [hAe]; exact hS.F ht⟩) hS.2.2 dX2_readLine_130
              · skip
                refine lv_aload_n hx hb dX2_readLine_101 rfl (lv_at hl 0 rfl) ?_
                refine lv_iconst (v := 1) hx hb dX2_readLine_102 (by decide) ?_
                refine ca_v hP hD hS hA (fun hDc => run_V (mc := 0) (ms := 0) (As := [.int 1]) (rest := []) S (s_X2_fail l D k a s90 sl  1 _  hBs90 (iv_mono (c := 1) (d := 3) (iv_c (by decide) : Iv 1 1 1) (by decide) (by decide)) ) lkX2_77 ok_X2_fail ⟨rfl, rfl, Nat.le_of_ble_eq_true rfl, Nat.le_of_ble_eq_true rfl⟩ (pw_V (ci := 2) (q0 := 1) hK hN rfl cw_1 hP hDc) rfl hl.1 rfl (Nat.le_of_ble_eq_true rfl) ⟨Nat.zero_le _, Nat.zero_le _⟩ dX2_readLine_103) (fun s106 H9 locs9 hs106 hP9 hD9 hS9 => ?_)
                clear hP hD hS
                have hS := hS9
                have hP := hP9
                have hD := hD9
                clear hP9 hD9 hS9
                obtain ⟨hBs106, gs106, qs106_0, qs106_1, qs106_2, qs106_3, fs106⟩ := hs106
                have hFs106 : FR [1, 5, 6, 7, 4, 13, 12, 15, 14, 8, 9, 10] st s106 := fr_ca hFs90 gs106 (sub_1 (List.mem_of_getElem? (i := 0) rfl) sub_0)
                have k108 := fs106
                refine lv_aload_n hx hb dX2_readLine_106 rfl (lv_at hl 0 rfl) ?_
                refine va_get (D := D) (ci := 2) (v := .int (s106 1 2)) (C := RX2) (T := TX2) (N := 8) hx hb hT in_X2 hown hK hP 1 cw_1 rfl 2 (by decide) (hT _ t276) (fun _ h9 => h9) rfl dX2_readLine_107 ?_
                refine lv_if_ne (tgt := 130) hx hb dX2_readLine_110 (by decide) (fun c109 => ?_) (fun c109 => ?_)
                · skip
                  rw [hQ]
                  exact W.vret hx hb hr (fun t ht hW => ⟨⟨s106, rfl, ⟨hBs106, hFs106, trivial⟩, by rw [ht]; exact hP, va_K.moved hW.alike (hK.sub (tys' := []) [] rfl), by rw [hAe]; exact hD⟩, by rw [hAe]; exact hS.F ht⟩) hS.2.2 dX2_readLine_130
                · skip
                  have h110 : Iv 0 0 (s106 1 2) := eq_l c109 (iv_c (by decide) : Iv 0 0 0)
                  have k111 : (s106 1 2) = 0 := c109
                  exact absurd k111 k108
          · skip
            have g112 := g9
            refine lv_if_eq (tgt := 81) hx hb dX2_readLine_71 (by decide) (fun c113 => ?_) (fun c113 => ?_)
            rotate_left
            · first | exact absurd c113 (by decide) | exact absurd (by decide) c113
            refine lv_aload_n hx hb dX2_readLine_81 rfl (lv_at hl 0 rfl) ?_
            refine lv_iconst (v := 1) hx hb dX2_readLine_82 (by decide) ?_
            refine ca_v hP hD hS hA (fun hDc => run_V (mc := 0) (ms := 0) (As := [.int 1]) (rest := []) S (s_X2_fail l D k a st sl  1 _  hB (iv_mono (c := 1) (d := 3) (iv_c (by decide) : Iv 1 1 1) (by decide) (by decide)) ) lkX2_77 ok_X2_fail ⟨rfl, rfl, Nat.le_of_ble_eq_true rfl, Nat.le_of_ble_eq_true rfl⟩ (pw_V (ci := 2) (q0 := 1) hK hN rfl cw_1 hP hDc) rfl hl.1 rfl (Nat.le_of_ble_eq_true rfl) ⟨Nat.zero_le _, Nat.zero_le _⟩ dX2_readLine_83) (fun s114 H9 locs9 hs114 hP9 hD9 hS9 => ?_)
            clear hP hD hS
            have hS := hS9
            have hP := hP9
            have hD := hD9
            clear hP9 hD9 hS9
            obtain ⟨hBs114, gs114, qs114_0, qs114_1, qs114_2, qs114_3, fs114⟩ := hs114
            have hFs114 : FR [1, 5, 6, 7, 4, 13, 12, 15, 14, 8, 9, 10] st s114 := fr_ca fr_rf gs114 (sub_1 (List.mem_of_getElem? (i := 0) rfl) sub_0)
            have k116 := fs114
            refine lv_aload_n hx hb dX2_readLine_86 rfl (lv_at hl 0 rfl) ?_
            refine va_get (D := D) (ci := 2) (v := .int (s114 1 2)) (C := RX2) (T := TX2) (N := 8) hx hb hT in_X2 hown hK hP 1 cw_1 rfl 2 (by decide) (hT _ t276) (fun _ h9 => h9) rfl dX2_readLine_87 ?_
            refine lv_if_ne (tgt := 106) hx hb dX2_readLine_90 (by decide) (fun c117 => ?_) (fun c117 => ?_)
            · skip
              refine lv_aload_n hx hb dX2_readLine_106 rfl (lv_at hl 0 rfl) ?_
              refine va_get (D := D) (ci := 2) (v := .int (s114 1 2)) (C := RX2) (T := TX2) (N := 8) hx hb hT in_X2 hown hK hP 1 cw_1 rfl 2 (by decide) (hT _ t276) (fun _ h9 => h9) rfl dX2_readLine_107 ?_
              refine lv_if_ne (tgt := 130) hx hb dX2_readLine_110 (by decide) (fun c118 => ?_) (fun c118 => ?_)
              · skip
                rw [hQ]
                exact W.vret hx hb hr (fun t ht hW => ⟨⟨s114, rfl, ⟨hBs114, hFs114, trivial⟩, by rw [ht]; exact hP, va_K.moved hW.alike (hK.sub (tys' := []) [] rfl), by rw [hAe]; exact hD⟩, by rw [hAe]; exact hS.F ht⟩) hS.2.2 dX2_readLine_130
              · skip
                have h119 : Iv 0 0 (s114 1 2) := eq_l c118 (iv_c (by decide) : Iv 0 0 0)
                have k120 : (s114 1 2) = 0 := c118
                exact absurd k120 c117
            · skip
              have h121 : Iv 0 0 (s114 1 2) := eq_l c117 (iv_c (by decide) : Iv 0 0 0)
              have k122 : (s114 1 2) = 0 := c117
              exact absurd k122 k116
  · skip
    have h123 : Iv 0 0 (st 4 0) := eq_l c1 (iv_c (by decide) : Iv 0 0 0)
    refine lv_aload_n hx hb dX2_readLine_10 rfl (lv_at hl 0 rfl) ?_
    refine ca_v hP hD hS hA (fun hDc => run_V (mc := 0) (ms := 0) (As := []) (rest := []) S (s_X2_readLand l D k a st sl   _  hB  ) lkX2_50 ok_X2_readLand ⟨rfl, rfl, Nat.le_of_ble_eq_true rfl, Nat.le_of_ble_eq_true rfl⟩ (px_V (ci := 2) (q0 := 1) nice_NS hK hN rfl cw_1 hP hDc hX hS (px_free hD hS hA)) rfl hl.1 rfl (Nat.le_of_ble_eq_true rfl) ⟨Nat.zero_le _, Nat.zero_le _⟩ dX2_readLine_11) (fun s124 H9 locs9 hs124 hP9 hD9 hS9 => ?_)
    clear hP hD hS
    have hS := hS9
    have hP := hP9
    have hD := hD9
    clear hP9 hD9 hS9
    obtain ⟨hBs124, gs124, qs124_0, qs124_1, qs124_2, qs124_3, qs124_4, fs124⟩ := hs124
    have hFs124 : FR [1, 5, 6, 7, 4, 13, 12, 15, 14, 8, 9, 10] st s124 := fr_ca fr_rf gs124 (sub_1 (List.mem_of_getElem? (i := 0) rfl) (sub_1 (List.mem_of_getElem? (i := 4) rfl) sub_0))
    refine lv_goto (tgt := 86) hx hb dX2_readLine_14 (by decide) ?_
    refine lv_aload_n hx hb dX2_readLine_86 rfl (lv_at hl 0 rfl) ?_
    refine va_get (D := D) (ci := 2) (v := .int (s124 1 2)) (C := RX2) (T := TX2) (N := 8) hx hb hT in_X2 hown hK hP 1 cw_1 rfl 2 (by decide) (hT _ t276) (fun _ h9 => h9) rfl dX2_readLine_87 ?_
    refine lv_if_ne (tgt := 106) hx hb dX2_readLine_90 (by decide) (fun c126 => ?_) (fun c126 => ?_)
    · skip
      refine lv_aload_n hx hb dX2_readLine_106 rfl (lv_at hl 0 rfl) ?_
      refine va_get (D := D) (ci := 2) (v := .int (s124 1 2)) (C := RX2) (T := TX2) (N := 8) hx hb hT in_X2 hown hK hP 1 cw_1 rfl 2 (by decide) (hT _ t276) (fun _ h9 => h9) rfl dX2_readLine_107 ?_
      refine lv_if_ne (tgt := 130) hx hb dX2_readLine_110 (by decide) (fun c127 => ?_) (fun c127 => ?_)
      · skip
        rw [hQ]
        exact W.vret hx hb hr (fun t ht hW => ⟨⟨s124, rfl, ⟨hBs124, hFs124, trivial⟩, by rw [ht]; exact hP, va_K.moved hW.alike (hK.sub (tys' := []) [] rfl), by rw [hAe]; exact hD⟩, by rw [hAe]; exact hS.F ht⟩) hS.2.2 dX2_readLine_130
      · skip
        have h128 : Iv 0 0 (s124 1 2) := eq_l c127 (iv_c (by decide) : Iv 0 0 0)
        have k129 : (s124 1 2) = 0 := c127
        exact absurd k129 c126
    · skip
      have h130 : Iv 0 0 (s124 1 2) := eq_l c126 (iv_c (by decide) : Iv 0 0 0)
      have k131 : (s124 1 2) = 0 := c126
      refine lv_aload_n hx hb dX2_readLine_93 rfl (lv_at hl 0 rfl) ?_
      refine va_get (D := D) (ci := 2) (v := .int (s124 1 4)) (C := RX2) (T := TX2) (N := 8) hx hb hT in_X2 hown hK hP 1 cw_1 rfl 4 (by decide) (hT _ t280) (fun _ h9 => h9) rfl dX2_readLine_94 ?_
      refine lv_iconst (v := 3) hx hb dX2_readLine_97 (by decide) ?_
      refine lv_icmp_eq (tgt := 106) hx hb dX2_readLine_98 (by decide) (fun c132 => ?_) (fun c132 => ?_)
      · skip
        have h133 : Iv 3 3 (s124 1 4) := eq_l c132 (iv_c (by decide) : Iv 3 3 3)
        refine lv_aload_n hx hb dX2_readLine_106 rfl (lv_at hl 0 rfl) ?_
        refine va_get (D := D) (ci := 2) (v := .int (s124 1 2)) (C := RX2) (T := TX2) (N := 8) hx hb hT in_X2 hown hK hP 1 cw_1 rfl 2 (by decide) (hT _ t276) (fun _ h9 => h9) rfl dX2_readLine_107 ?_
        refine lv_if_ne (tgt := 130) hx hb dX2_readLine_110 (by decide) (fun c134 => ?_) (fun c134 => ?_)
        · skip
          exact (iv_no (ne_lo h130 (show ¬ (s124 1 2) = 0 from c134) (by decide) (Int.le_refl _)) (by decide)).elim
        · skip
          have k135 : (s124 1 2) = 0 := c134
          refine lv_aload_n hx hb dX2_readLine_113 rfl (lv_at hl 0 rfl) ?_
          refine va_get (D := D) (ci := 2) (v := .ref (a 4)) (C := RX2) (T := TX2) (N := 8) hx hb hT in_X2 hown hK hP 1 cw_1 rfl 1 (by decide) (hT _ t274) (fun _ h9 => h9) rfl dX2_readLine_114 ?_
          refine lv_dup hx hb dX2_readLine_117 rfl ?_
          refine va_get (D := D) (ci := 1) (v := .int (s124 4 0)) (C := RX1) (T := TX1) (N := 14) hx hb hT in_X1 hown hK hP 4 cw_4 rfl 0 (by decide) (hT _ t196) (fun _ h9 => h9) rfl dX2_readLine_118 ?_
          refine k_top (y := (st 4 0)) qs124_0 ?_
          refine lv_iconst (v := 1) hx hb dX2_readLine_121 (by decide) ?_
          refine lv_iadd hx hb dX2_readLine_122 ?_
          refine lv_topi (fun z136 ez136 => ?_)
          have h137 : Iv 1 1 z136 := iv_add ez136 h123 (iv_c (by decide) : Iv 1 1 1) (by decide) (by decide) (by decide) (by decide)
          refine c_put (ci := 1) (C := RX1) (T := TX1) (N := 14) (j := 0) (v := z136) hx hb hT in_X1 tyX1 tyX1_ok nmX1 hown hK hP hD hS cw_4 rfl (by decide) (hT _ t196) (by decide +kernel) (by decide +kernel) rfl rfl (Nat.le_of_ble_eq_true rfl) (cs_4 (upd (s124 4) 0 z136)) dX2_readLine_123 (fun s138 H9 locs9 es138 hP9 hD9 hS9 => ?_)
          clear hP hD hS
          have hS := hS9
          have hP := hP9
          have hD := hD9
          clear hP9 hD9 hS9
          have hBs138 : CB s138 := by rw [es138]; exact cb_sw hBs124 (ki_3_0 (hBs124 4))
          have hFs138 : FR [1, 5, 6, 7, 4, 13, 12, 15, 14, 8, 9, 10] st s138 := fr_sw hFs124 (List.mem_of_getElem? (i := 4) rfl) es138
          refine lv_aload_n hx hb dX2_readLine_126 rfl (lv_at hl 0 rfl) ?_
          refine ca_v hP hD hS hA (fun hDc => run_V (mc := 0) (ms := 0) (As := []) (rest := []) S (s_X2_next l D k a s138 sl   _  hBs138  ) lkX2_38 ok_X2_next ⟨rfl, rfl, Nat.le_of_ble_eq_true rfl, Nat.le_of_ble_eq_true rfl⟩ (pw_V (ci := 2) (q0 := 1) hK hN rfl cw_1 hP hDc) rfl hl.1 rfl (Nat.le_of_ble_eq_true rfl) ⟨Nat.zero_le _, Nat.zero_le _⟩ dX2_readLine_127) (fun s139 H9 locs9 hs139 hP9 hD9 hS9 => ?_)
          clear hP hD hS
          have hS := hS9
          have hP := hP9
          have hD := hD9
          clear hP9 hD9 hS9
          obtain ⟨hBs139, gs139, qs139_0, qs139_1, fs139⟩ := hs139
          have hFs139 : FR [1, 5, 6, 7, 4, 13, 12, 15, 14, 8, 9, 10] st s139 := fr_ca hFs138 gs139 (sub_1 (List.mem_of_getElem? (i := 0) rfl) sub_0)
          rw [hQ]
          exact W.vret hx hb hr (fun t ht hW => ⟨⟨s139, rfl, ⟨hBs139, hFs139, trivial⟩, by rw [ht]; exact hP, va_K.moved hW.alike (hK.sub (tys' := []) [] rfl), by rw [hAe]; exact hD⟩, by rw [hAe]; exact hS.F ht⟩) hS.2.2 dX2_readLine_130
      · skip
        refine lv_aload_n hx hb dX2_readLine_101 rfl (lv_at hl 0 rfl) ?_
        refine lv_iconst (v := 1) hx hb dX2_readLine_102 (by decide) ?_
        refine ca_v hP hD hS hA (fun hDc => run_V (mc := 0) (ms := 0) (As := [.int 1]) (rest := []) S (s_X2_fail l D k a s124 sl  1 _  hBs124 (iv_mono (c := 1) (d := 3) (iv_c (by decide) : Iv 1 1 1) (by decide) (by decide)) ) lkX2_77 ok_X2_fail ⟨rfl, rfl, Nat.le_of_ble_eq_true rfl, Nat.le_of_ble_eq_true rfl⟩ (pw_V (ci := 2) (q0 := 1) hK hN rfl cw_1 hP hDc) rfl hl.1 rfl (Nat.le_of_ble_eq_true rfl) ⟨Nat.zero_le _, Nat.zero_le _⟩ dX2_readLine_103) (fun s141 H9 locs9 hs141 hP9 hD9 hS9 => ?_)
        clear hP hD hS
        have hS := hS9
        have hP := hP9
        have hD := hD9
        clear hP9 hD9 hS9
        obtain ⟨hBs141, gs141, qs141_0, qs141_1, qs141_2, qs141_3, fs141⟩ := hs141
        have hFs141 : FR [1, 5, 6, 7, 4, 13, 12, 15, 14, 8, 9, 10] st s141 := fr_ca hFs124 gs141 (sub_1 (List.mem_of_getElem? (i := 0) rfl) sub_0)
        have k143 := fs141
        refine lv_aload_n hx hb dX2_readLine_106 rfl (lv_at hl 0 rfl) ?_
        refine va_get (D := D) (ci := 2) (v := .int (s141 1 2)) (C := RX2) (T := TX2) (N := 8) hx hb hT in_X2 hown hK hP 1 cw_1 rfl 2 (by decide) (hT _ t276) (fun _ h9 => h9) rfl dX2_readLine_107 ?_
        refine lv_if_ne (tgt := 130) hx hb dX2_readLine_110 (by decide) (fun c144 => ?_) (fun c144 => ?_)
        · skip
          rw [hQ]
          exact W.vret hx hb hr (fun t ht hW => ⟨⟨s141, rfl, ⟨hBs141, hFs141, trivial⟩, by rw [ht]; exact hP, va_K.moved hW.alike (hK.sub (tys' := []) [] rfl), by rw [hAe]; exact hD⟩, by rw [hAe]; exact hS.F ht⟩) hS.2.2 dX2_readLine_130
        · skip
          have h145 : Iv 0 0 (s141 1 2) := eq_l c144 (iv_c (by decide) : Iv 0 0 0)
          have k146 : (s141 1 2) = 0 := c144
          exact absurd k146 k143
set_option maxHeartbeats 4000000 in
set_option maxRecDepth 100000 in
theorem s_X2_readAll (l : Launch) (D : va_G) (k : Nat → ClassId) (a : Nat → Nat) (st : CT) (sl : CL) (sz : Nat) (hB : CB st)  : Met l yX2_readAll (.code yX2_readAll cX2_readAll 2 (some .boolean) :: TB) (rmw 9 0 0) (va_Pc [.ref (a 1)] (PX D k sz (CWS k a st sl) NS)) (QI D (S := CT) (fun r u => CB u ∧ FR [4, 12, 13, 14, 15, 16, 1, 5, 6, 7, 8, 9, 10] st u ∧ ((r = 1 ∧ (True)) ∨ (r = 0 ∧ (True)))) (fun u => CWS k a u sl) (fun _ => []) (CWS k a st sl) sz) 0 0 (va_A (CWS k a st sl) sz) := by
  refine Met.ofW (cc := cX2_readAll) (maxL := 2) (ret := (some .boolean)) (by decide) rfl ?_
  intro p e s m args below meth c s₁ B hml hv
  obtain ⟨rfl, hsz, hP, hK, hD0, hN, hX⟩ := hv
  have hx := B.exec
  have hb := B.bytes
  have hr := B.returns
  have hT : ∀ w9 ∈ TB, w9.before ([.ref (a 1)] : List Value).toArray s = true := fun w9 h => atoms_spec (ws := .code yX2_readAll cX2_readAll 2 (some .boolean) :: TB) B.pre w9 (List.mem_cons_of_mem _ h)
  have hown : s.vm.findClass RX2 = some m.cls := findClass_of_methodNamed B.named
  have S : CallFix p m c cX2_readAll 2 s _ TB RX2 := ⟨hx, hb, hml, hown, hT⟩
  subst hsz
  have hD := hD0.self (sz := s.heap.size)
  generalize hAe : va_A (CWS k a st sl) s.heap.size = A at hD hX ⊢
  have hA : ∀ q : Nat, s.heap.size ≤ q → A q := fun q h => by rw [← hAe]; exact Or.inr h
  have hS : va_S A s.heap s.heap [] := va_S.rf
  have hl := lv_entry ([.ref (a 1)]) (n := 2) (Nat.le_of_ble_eq_true rfl)
  rw [lg_entry_eq]
  generalize (lg_sl ([.ref (a 1)]) ++ List.replicate (2 - (lg_sl ([.ref (a 1)])).length) Slot.unset).toArray = ls at hl ⊢
  have hl : lv_has ls 2 [(0, .ref (a 1))] := hl
  refine nameQ (fun Q hQ => ?_)
  refine lv_aload_n hx hb dX2_readAll_0 rfl (lv_at hl 0 rfl) ?_
  refine va_get (D := D) (ci := 2) (v := .ref (a 4)) (C := RX2) (T := TX2) (N := 8) hx hb hT in_X2 hown hK hP 1 cw_1 rfl 1 (by decide) (hT _ t274) (fun _ h9 => h9) rfl dX2_readAll_1 ?_
  refine ca_v hP hD hS hA (fun hDc => run_V (mc := 0) (ms := 0) (As := []) (rest := []) S (s_X1_clear l D k a st sl   _  hB  ) lkX2_29 ok_X1_clear ⟨rfl, rfl, Nat.le_of_ble_eq_true rfl, Nat.le_of_ble_eq_true rfl⟩ (pw_V (ci := 1) (q0 := 4) hK hN rfl cw_4 hP hDc) rfl hl.1 rfl (Nat.le_of_ble_eq_true rfl) ⟨Nat.zero_le _, Nat.zero_le _⟩ dX2_readAll_4) (fun s1 H9 locs9 hs1 hP9 hD9 hS9 => ?_)
  clear hP hD hS
  have hS := hS9
  have hP := hP9
  have hD := hD9
  clear hP9 hD9 hS9
  obtain ⟨hBs1, gs1, fs1⟩ := hs1
  have hFs1 : FR [4, 12, 13, 14, 15, 16, 1, 5, 6, 7, 8, 9, 10] st s1 := fr_ca fr_rf gs1 (sub_1 (List.mem_of_getElem? (i := 0) rfl) (sub_1 (List.mem_of_getElem? (i := 1) rfl) (sub_1 (List.mem_of_getElem? (i := 2) rfl) (sub_1 (List.mem_of_getElem? (i := 3) rfl) (sub_1 (List.mem_of_getElem? (i := 4) rfl) (sub_1 (List.mem_of_getElem? (i := 5) rfl) sub_0))))))
  refine lv_aload_n hx hb dX2_readAll_7 rfl (lv_at hl 0 rfl) ?_
  refine lv_iconst (v := 0) hx hb dX2_readAll_8 (by decide) ?_
  refine c_put (ci := 2) (C := RX2) (T := TX2) (N := 8) (j := 2) (v := 0) hx hb hT in_X2 tyX2 tyX2_ok nmX2 hown hK hP hD hS cw_1 rfl (by decide) (hT _ t276) (by decide +kernel) (by decide +kernel) rfl rfl (Nat.le_of_ble_eq_true rfl) (cs_1 (upd (s1 1) 2 0)) dX2_readAll_9 (fun s3 H9 locs9 es3 hP9 hD9 hS9 => ?_)
  clear hP hD hS
  have hS := hS9
  have hP := hP9
  have hD := hD9
  clear hP9 hD9 hS9
  have hBs3 : CB s3 := by rw [es3]; exact cb_sw hBs1 trivial
  have hFs3 : FR [4, 12, 13, 14, 15, 16, 1, 5, 6, 7, 8, 9, 10] st s3 := fr_sw hFs1 (List.mem_of_getElem? (i := 6) rfl) es3
  refine lv_aload_n hx hb dX2_readAll_12 rfl (lv_at hl 0 rfl) ?_
  refine lv_iconst (v := (-1)) hx hb dX2_readAll_13 (by decide) ?_
  refine c_put (ci := 2) (C := RX2) (T := TX2) (N := 8) (j := 3) (v := (-1)) hx hb hT in_X2 tyX2 tyX2_ok nmX2 hown hK hP hD hS cw_1 rfl (by decide) (hT _ t278) (by decide +kernel) (by decide +kernel) rfl rfl (Nat.le_of_ble_eq_true rfl) (cs_1 (upd (s3 1) 3 (-1))) dX2_readAll_14 (fun s4 H9 locs9 es4 hP9 hD9 hS9 => ?_)
  clear hP hD hS
  have hS := hS9
  have hP := hP9
  have hD := hD9
  clear hP9 hD9 hS9
  have hBs4 : CB s4 := by rw [es4]; exact cb_sw hBs3 trivial
  have hFs4 : FR [4, 12, 13, 14, 15, 16, 1, 5, 6, 7, 8, 9, 10] st s4 := fr_sw hFs3 (List.mem_of_getElem? (i := 6) rfl) es4
  refine lv_aload_n hx hb dX2_readAll_17 rfl (lv_at hl 0 rfl) ?_
  refine lv_iconst (v := 0) hx hb dX2_readAll_18 (by decide) ?_
  refine c_put (ci := 2) (C := RX2) (T := TX2) (N := 8) (j := 6) (v := 0) hx hb hT in_X2 tyX2 tyX2_ok nmX2 hown hK hP hD hS cw_1 rfl (by decide) (hT _ t282) (by decide +kernel) (by decide +kernel) rfl rfl (Nat.le_of_ble_eq_true rfl) (cs_1 (upd (s4 1) 6 0)) dX2_readAll_19 (fun s5 H9 locs9 es5 hP9 hD9 hS9 => ?_)
  clear hP hD hS
  have hS := hS9
  have hP := hP9
  have hD := hD9
  clear hP9 hD9 hS9
  have hBs5 : CB s5 := by rw [es5]; exact cb_sw hBs4 trivial
  have hFs5 : FR [4, 12, 13, 14, 15, 16, 1, 5, 6, 7, 8, 9, 10] st s5 := fr_sw hFs4 (List.mem_of_getElem? (i := 6) rfl) es5
  refine lv_aload_n hx hb dX2_readAll_22 rfl (lv_at hl 0 rfl) ?_
  refine ca_v hP hD hS hA (fun hDc => run_V (mc := 0) (ms := 0) (As := []) (rest := []) S (s_X2_next l D k a s5 sl   _  hBs5  ) lkX2_38 ok_X2_next ⟨rfl, rfl, Nat.le_of_ble_eq_true rfl, Nat.le_of_ble_eq_true rfl⟩ (pw_V (ci := 2) (q0 := 1) hK hN rfl cw_1 hP hDc) rfl hl.1 rfl (Nat.le_of_ble_eq_true rfl) ⟨Nat.zero_le _, Nat.zero_le _⟩ dX2_readAll_23) (fun s6 H9 locs9 hs6 hP9 hD9 hS9 => ?_)
  clear hP hD hS
  have hS := hS9
  have hP := hP9
  have hD := hD9
  clear hP9 hD9 hS9
  obtain ⟨hBs6, gs6, qs6_0, qs6_1, fs6⟩ := hs6
  have hFs6 : FR [4, 12, 13, 14, 15, 16, 1, 5, 6, 7, 8, 9, 10] st s6 := fr_ca hFs5 gs6 (sub_1 (List.mem_of_getElem? (i := 6) rfl) sub_0)
  refine lv_iconst (v := 0) hx hb dX2_readAll_26 (by decide) ?_
  refine lv_istore_n (lv' := [(1, .int 0), (0, .ref (a 1))]) hx hb dX2_readAll_27 rfl hl (by decide) rfl (fun ls hl => ?_)
  have lp28 : ∀ (n9_28 : Nat) (v1_28 : Int32) (t28 : CT) (H9 : Heap) (locs9 : List Loc) (ls : Array Slot), Iv 0 1000 v1_28 → CB t28 → FR [1, 5, 6, 7, 4, 13, 12, 15, 14, 8, 9, 10] s6 t28 → va_P D vwCl (CWS k a t28 sl) H9 → va_D A (CWS k a t28 sl) → va_S A s.heap H9 locs9 → lv_has ls 2 [(1, .int v1_28), (0, .ref (a 1))] → (1000 : Int) - v1_28.toInt < (n9_28 : Int) → W p l e (rmw 9 0 0) s m ([.ref (a 1)] : List Value).toArray below meth c H9 locs9 0 0 Q (F0 m 28 ls []) := by
    clear hl hP hD hS
    intro n9_28
    induction n9_28 with
    | zero =>
      intro v1_28 t28 H9 locs9 ls iv1_28 hBt28 gt28 hP hD hS hl hm28
      exact (fu_0 iv1_28 hm28).elim
    | succ n9_28 ih28 =>
      intro v1_28 t28 H9 locs9 ls iv1_28 hBt28 gt28 hP hD hS hl hm28
      have hFt28 : FR [4, 12, 13, 14, 15, 16, 1, 5, 6, 7, 8, 9, 10] st t28 := fr_ca hFs6 gt28 (sub_1 (List.mem_of_getElem? (i := 6) rfl) (sub_1 (List.mem_of_getElem? (i := 7) rfl) (sub_1 (List.mem_of_getElem? (i := 8) rfl) (sub_1 (List.mem_of_getElem? (i := 9) rfl) (sub_1 (List.mem_of_getElem? (i := 0) rfl) (sub_1 (List.mem_of_getElem? (i := 2) rfl) (sub_1 (List.mem_of_getElem? (i := 1) rfl) (sub_1 (List.mem_of_getElem? (i := 4) rfl) (sub_1 (List.mem_of_getElem? (i := 3) rfl) (sub_1 (List.mem_of_getElem? (i := 10) rfl) (sub_1 (List.mem_of_getElem? (i := 11) rfl) (sub_1 (List.mem_of_getElem? (i := 12) rfl) sub_0))))))))))))
      refine lv_iload_n hx hb dX2_readAll_28 rfl (lv_at hl 0 rfl) ?_
      refine lv_sipush (v := 1000) hx hb dX2_readAll_29 (by decide) ?_
      refine lv_icmp_ge (tgt := 59) hx hb dX2_readAll_32 (by decide) (fun c368 => ?_) (fun c368 => ?_)
      · skip
        have n369 : (1000 : Int32).toInt ≤ v1_28.toInt := (i_le c368)
        have h370 : Iv 1000 1000 v1_28 := le_r (iv_c (by decide) : Iv 1000 1000 1000) n369 iv1_28 (by decide)
        refine lv_aload_n hx hb dX2_readAll_59 rfl (lv_at hl 1 rfl) ?_
        refine va_get (D := D) (ci := 2) (v := .int (t28 1 2)) (C := RX2) (T := TX2) (N := 8) hx hb hT in_X2 hown hK hP 1 cw_1 rfl 2 (by decide) (hT _ t276) (fun _ h9 => h9) rfl dX2_readAll_60 ?_
        refine lv_if_ne (tgt := 70) hx hb dX2_readAll_63 (by decide) (fun c371 => ?_) (fun c371 => ?_)
        · skip
          refine lv_iconst (v := 0) hx hb dX2_readAll_70 (by decide) ?_
          rw [hQ]
          exact W.zret (v := 0) (ty := .boolean) hx hb hr rfl (fun t ht hW => ⟨⟨0, t28, rfl, ⟨hBt28, hFt28, Or.inr ⟨rfl, trivial⟩⟩, by rw [ht]; exact hP, va_K.moved hW.alike (hK.sub (tys' := []) [] rfl), by rw [hAe]; exact hD⟩, by rw [hAe]; exact hS.F ht⟩) hS.2.2 dX2_readAll_71
        · skip
          have h372 : Iv 0 0 (t28 1 2) := eq_l c371 (iv_c (by decide) : Iv 0 0 0)
          have k373 : (t28 1 2) = 0 := c371
          refine lv_iconst (v := 1) hx hb dX2_readAll_66 (by decide) ?_
          refine lv_goto (tgt := 71) hx hb dX2_readAll_67 (by decide) ?_
          rw [hQ]
          exact W.zret (v := 1) (ty := .boolean) hx hb hr rfl (fun t ht hW => ⟨⟨1, t28, rfl, ⟨hBt28, hFt28, Or.inl ⟨rfl, trivial⟩⟩, by rw [ht]; exact hP, va_K.moved hW.alike (hK.sub (tys' := []) [] rfl), by rw [hAe]; exact hD⟩, by rw [hAe]; exact hS.F ht⟩) hS.2.2 dX2_readAll_71
      · skip
        have n374 : v1_28.toInt < (1000 : Int32).toInt := (i_nle c368)
        have h375 : Iv 0 999 v1_28 := lt_l iv1_28 n374 (iv_c (by decide) : Iv 1000 1000 1000) (by decide)
        refine lv_aload_n hx hb dX2_readAll_35 rfl (lv_at hl 1 rfl) ?_
        refine va_get (D := D) (ci := 2) (v := .int (t28 1 2)) (C := RX2) (T := TX2) (N := 8) hx hb hT in_X2 hown hK hP 1 cw_1 rfl 2 (by decide) (hT _ t276) (fun _ h9 => h9) rfl dX2_readAll_36 ?_
        refine lv_if_ne (tgt := 59) hx hb dX2_readAll_39 (by decide) (fun c376 => ?_) (fun c376 => ?_)
        · skip
          refine lv_aload_n hx hb dX2_readAll_59 rfl (lv_at hl 1 rfl) ?_
          refine va_get (D := D) (ci := 2) (v := .int (t28 1 2)) (C := RX2) (T := TX2) (N := 8) hx hb hT in_X2 hown hK hP 1 cw_1 rfl 2 (by decide) (hT _ t276) (fun _ h9 => h9) rfl dX2_readAll_60 ?_
          refine lv_if_ne (tgt := 70) hx hb dX2_readAll_63 (by decide) (fun c377 => ?_) (fun c377 => ?_)
          · skip
            refine lv_iconst (v := 0) hx hb dX2_readAll_70 (by decide) ?_
            rw [hQ]
            exact W.zret (v := 0) (ty := .boolean) hx hb hr rfl (fun t ht hW => ⟨⟨0, t28, rfl, ⟨hBt28, hFt28, Or.inr ⟨rfl, trivial⟩⟩, by rw [ht]; exact hP, va_K.moved hW.alike (hK.sub (tys' := []) [] rfl), by rw [hAe]; exact hD⟩, by rw [hAe]; exact hS.F ht⟩) hS.2.2 dX2_readAll_71
          · skip
            have h378 : Iv 0 0 (t28 1 2) := eq_l c377 (iv_c (by decide) : Iv 0 0 0)
            have k379 : (t28 1 2) = 0 := c377
            exact absurd k379 c376
        · skip
          have h380 : Iv 0 0 (t28 1 2) := eq_l c376 (iv_c (by decide) : Iv 0 0 0)
          have k381 : (t28 1 2) = 0 := c376
          refine lv_aload_n hx hb dX2_readAll_42 rfl (lv_at hl 1 rfl) ?_
          refine va_get (D := D) (ci := 2) (v := .int (t28 1 4)) (C := RX2) (T := TX2) (N := 8) hx hb hT in_X2 hown hK hP 1 cw_1 rfl 4 (by decide) (hT _ t280) (fun _ h9 => h9) rfl dX2_readAll_43 ?_
          refine lv_if_eq (tgt := 59) hx hb dX2_readAll_46 (by decide) (fun c382 => ?_) (fun c382 => ?_)
          · skip
            have h383 : Iv 0 0 (t28 1 4) := eq_l c382 (iv_c (by decide) : Iv 0 0 0)
            refine lv_aload_n hx hb dX2_readAll_59 rfl (lv_at hl 1 rfl) ?_
            refine va_get (D := D) (ci := 2) (v := .int (t28 1 2)) (C := RX2) (T := TX2) (N := 8) hx hb hT in_X2 hown hK hP 1 cw_1 rfl 2 (by decide) (hT _ t276) (fun _ h9 => h9) rfl dX2_readAll_60 ?_
            refine lv_if_ne (tgt := 70) hx hb dX2_readAll_63 (by decide) (fun c384 => ?_) (fun c384 => ?_)
            · skip
              exact (iv_no (ne_lo h380 (show ¬ (t28 1 2) = 0 from c384) (by decide) (Int.le_refl _)) (by decide)).elim
            · skip
              have k385 : (t28 1 2) = 0 := c384
              refine lv_iconst (v := 1) hx hb dX2_readAll_66 (by decide) ?_
              refine lv_goto (tgt := 71) hx hb dX2_readAll_67 (by decide) ?_
              rw [hQ]
              exact W.zret (v := 1) (ty := .boolean) hx hb hr rfl (fun t ht hW => ⟨⟨1, t28, rfl, ⟨hBt28, hFt28, Or.inl ⟨rfl, trivial⟩⟩, by rw [ht]; exact hP, va_K.moved hW.alike (hK.sub (tys' := []) [] rfl), by rw [hAe]; exact hD⟩, by rw [hAe]; exact hS.F ht⟩) hS.2.2 dX2_readAll_71
          · skip
            refine lv_aload_n hx hb dX2_readAll_49 rfl (lv_at hl 1 rfl) ?_
            refine ca_v hP hD hS hA (fun hDc => run_V (mc := 0) (ms := 0) (As := []) (rest := []) S (s_X2_readLine l D k a t28 sl   _  hBt28  ) lkX2_44 ok_X2_readLine ⟨rfl, rfl, Nat.le_of_ble_eq_true rfl, Nat.le_of_ble_eq_true rfl⟩ (px_V (ci := 2) (q0 := 1) nice_NS hK hN rfl cw_1 hP hDc hX hS (px_free hD hS hA)) rfl hl.1 rfl (Nat.le_of_ble_eq_true rfl) ⟨Nat.zero_le _, Nat.zero_le _⟩ dX2_readAll_50) (fun s386 H9 locs9 hs386 hP9 hD9 hS9 => ?_)
            clear hP hD hS
            have hS := hS9
            have hP := hP9
            have hD := hD9
            clear hP9 hD9 hS9
            obtain ⟨hBs386, gs386, fs386⟩ := hs386
            have hFs386 : FR [4, 12, 13, 14, 15, 16, 1, 5, 6, 7, 8, 9, 10] st s386 := fr_ca hFt28 gs386 (sub_1 (List.mem_of_getElem? (i := 6) rfl) (sub_1 (List.mem_of_getElem? (i := 7) rfl) (sub_1 (List.mem_of_getElem? (i := 8) rfl) (sub_1 (List.mem_of_getElem? (i := 9) rfl) (sub_1 (List.mem_of_getElem? (i := 0) rfl) (sub_1 (List.mem_of_getElem? (i := 2) rfl) (sub_1 (List.mem_of_getElem? (i := 1) rfl) (sub_1 (List.mem_of_getElem? (i := 4) rfl) (sub_1 (List.mem_of_getElem? (i := 3) rfl) (sub_1 (List.mem_of_getElem? (i := 10) rfl) (sub_1 (List.mem_of_getElem? (i := 11) rfl) (sub_1 (List.mem_of_getElem? (i := 12) rfl) sub_0))))))))))))
            obtain ⟨z388, ez388⟩ : ∃ z9 : Int32, z9 = v1_28 + Int32.ofInt 1 := ⟨_, rfl⟩
            have h389 : Iv 1 1000 z388 := iv_inc ez388 h375 (by decide) (by decide) (by decide) (by decide) (by decide) (by decide)
            refine lv_iinc (v := z388) (lv' := [(1, .int z388), (0, .ref (a 1))]) hx hb dX2_readAll_53 hl (k := 0) rfl ez388.symm (by decide) rfl (fun ls hl => ?_)
            refine lv_goto (tgt := 28) hx hb dX2_readAll_56 (by decide) ?_
            exact ih28 z388 s386 _ _ _ (iv_mono (c := 0) (d := 1000) h389 (by decide) (by decide)) hBs386 (fr_ca gt28 gs386 (sub_1 (List.mem_of_getElem? (i := 0) rfl) (sub_1 (List.mem_of_getElem? (i := 1) rfl) (sub_1 (List.mem_of_getElem? (i := 2) rfl) (sub_1 (List.mem_of_getElem? (i := 3) rfl) (sub_1 (List.mem_of_getElem? (i := 4) rfl) (sub_1 (List.mem_of_getElem? (i := 5) rfl) (sub_1 (List.mem_of_getElem? (i := 6) rfl) (sub_1 (List.mem_of_getElem? (i := 7) rfl) (sub_1 (List.mem_of_getElem? (i := 8) rfl) (sub_1 (List.mem_of_getElem? (i := 9) rfl) (sub_1 (List.mem_of_getElem? (i := 10) rfl) (sub_1 (List.mem_of_getElem? (i := 11) rfl) sub_0))))))))))))) hP hD hS (lv_sub hl [0, 1] rfl) (fu_s (lo := 0) (ti_inc ez388 h375 (by decide) (by decide) (by decide) (by decide)) (by decide) hm28)
  exact lp28 1001 0 s6 _ _ _ (iv_mono (c := 0) (d := 1000) (iv_c (by decide) : Iv 0 0 0) (by decide) (by decide)) hBs6 fr_rf hP hD hS (lv_sub hl [0, 1] rfl) (fu_i (iv_mono (c := 0) (d := 1000) (iv_c (by decide) : Iv 0 0 0) (by decide) (by decide)) (by decide))
set_option maxHeartbeats 4000000 in
set_option maxRecDepth 100000 in
theorem s_X9_land (l : Launch) (D : va_G) (k : Nat → ClassId) (a : Nat → Nat) (st : CT) (sl : CL) (sz : Nat) (hB : CB st)  (hW0 : WI st 17) : Met l yX9_land (.code yX9_land cX9_land 1 (some .int) :: TB) (rmw 10 0 0) (va_Pc [.ref (a 0)] (PX D k sz (CWS k a st sl) NS)) (QI D (S := CT) (fun r u => CB u ∧ FR [4, 12, 13, 14, 15, 16, 1, 5, 6, 7, 8, 9, 10, 18, 19, 20, 21, 22, 23, 24, 26, 27, 28, 29, 30, 32, 33, 34, 35, 36, 17, 2] st u ∧ ((WI u 17))) (fun u => CWS k a u sl) (fun _ => []) (CWS k a st sl) sz) 0 0 (va_A (CWS k a st sl) sz) := by
  refine Met.ofW (cc := cX9_land) (maxL := 1) (ret := (some .int)) (by decide) rfl ?_
  intro p e s m args below meth c s₁ B hml hv
  obtain ⟨rfl, hsz, hP, hK, hD0, hN, hX⟩ := hv
  have hx := B.exec
  have hb := B.bytes
  have hr := B.returns
  have hT : ∀ w9 ∈ TB, w9.before ([.ref (a 0)] : List Value).toArray s = true := fun w9 h => atoms_spec (ws := .code yX9_land cX9_land 1 (some .int) :: TB) B.pre w9 (List.mem_cons_of_mem _ h)
  have hown : s.vm.findClass RX9 = some m.cls := findClass_of_methodNamed B.named
  have S : CallFix p m c cX9_land 1 s _ TB RX9 := ⟨hx, hb, hml, hown, hT⟩
  subst hsz
  have hD := hD0.self (sz := s.heap.size)
  generalize hAe : va_A (CWS k a st sl) s.heap.size = A at hD hX ⊢
  have hA : ∀ q : Nat, s.heap.size ≤ q → A q := fun q h => by rw [← hAe]; exact Or.inr h
  have hS : va_S A s.heap s.heap [] := va_S.rf
  have hl := lv_entry ([.ref (a 0)]) (n := 1) (Nat.le_of_ble_eq_true rfl)
  rw [lg_entry_eq]
  generalize (lg_sl ([.ref (a 0)]) ++ List.replicate (1 - (lg_sl ([.ref (a 0)])).length) Slot.unset).toArray = ls at hl ⊢
  have hl : lv_has ls 1 [(0, .ref (a 0))] := hl
  refine nameQ (fun Q hQ => ?_)
  refine lv_aload_n hx hb dX9_land_0 rfl (lv_at hl 0 rfl) ?_
  refine va_get (D := D) (ci := 9) (v := .ref (a 1)) (C := RX9) (T := TX9) (N := 11) hx hb hT in_X9 hown hK hP 0 cw_0 rfl 1 (by decide) (hT _ t452) (fun _ h9 => h9) rfl dX9_land_1 ?_
  refine ca_i hP hD hS hA (fun hDc => run_V (mc := 0) (ms := 0) (As := []) (rest := []) S (s_X2_readAll l D k a st sl   _  hB  ) lkX9_89 ok_X2_readAll ⟨rfl, rfl, Nat.le_of_ble_eq_true rfl, Nat.le_of_ble_eq_true rfl⟩ (px_V (ci := 2) (q0 := 1) nice_NS hK hN rfl cw_1 hP hDc hX hS (px_free hD hS hA)) rfl hl.1 rfl (Nat.le_of_ble_eq_true rfl) ⟨Nat.zero_le _, Nat.zero_le _⟩ dX9_land_4) (fun r2 s1 H9 locs9 hs1 hP9 hD9 hS9 => ?_)
  clear hP hD hS
  have hS := hS9
  have hP := hP9
  have hD := hD9
  clear hP9 hD9 hS9
  obtain ⟨hBs1, gs1, fs1⟩ := hs1
  have hFs1 : FR [4, 12, 13, 14, 15, 16, 1, 5, 6, 7, 8, 9, 10, 18, 19, 20, 21, 22, 23, 24, 26, 27, 28, 29, 30, 32, 33, 34, 35, 36, 17, 2] st s1 := fr_ca fr_rf gs1 (sub_1 (List.mem_of_getElem? (i := 0) rfl) (sub_1 (List.mem_of_getElem? (i := 1) rfl) (sub_1 (List.mem_of_getElem? (i := 2) rfl) (sub_1 (List.mem_of_getElem? (i := 3) rfl) (sub_1 (List.mem_of_getElem? (i := 4) rfl) (sub_1 (List.mem_of_getElem? (i := 5) rfl) (sub_1 (List.mem_of_getElem? (i := 6) rfl) (sub_1 (List.mem_of_getElem? (i := 7) rfl) (sub_1 (List.mem_of_getElem? (i := 8) rfl) (sub_1 (List.mem_of_getElem? (i := 9) rfl) (sub_1 (List.mem_of_getElem? (i := 10) rfl) (sub_1 (List.mem_of_getElem? (i := 11) rfl) (sub_1 (List.mem_of_getElem? (i := 12) rfl) sub_0)))))))))))))
  rcases fs1 with ⟨rfl, g9⟩ | ⟨rfl, g9⟩
  · skip
    have g3 := g9
    refine lv_if_ne (tgt := 13) hx hb dX9_land_7 (by decide) (fun c4 => ?_) (fun c4 => ?_)
    rotate_left
    · first | exact absurd c4 (by decide) | exact absurd (by decide) c4
    refine lv_aload_n hx hb dX9_land_13 rfl (lv_at hl 0 rfl) ?_
    refine va_get (D := D) (ci := 9) (v := .ref (a 17)) (C := RX9) (T := TX9) (N := 11) hx hb hT in_X9 hown hK hP 0 cw_0 rfl 2 (by decide) (hT _ t453) (fun _ h9 => h9) rfl dX9_land_14 ?_
    refine lv_aload_n hx hb dX9_land_17 rfl (lv_at hl 0 rfl) ?_
    refine va_get (D := D) (ci := 9) (v := .ref (a 1)) (C := RX9) (T := TX9) (N := 11) hx hb hT in_X9 hown hK hP 0 cw_0 rfl 1 (by decide) (hT _ t452) (fun _ h9 => h9) rfl dX9_land_18 ?_
    refine va_get (D := D) (ci := 2) (v := .ref (a 4)) (C := RX2) (T := TX2) (N := 8) hx hb hT in_X2 hown hK hP 1 cw_1 rfl 1 (by decide) (hT _ t275) (fun _ h9 => h9) rfl dX9_land_21 ?_
    refine ca_v hP hD hS hA (fun hDc => run_V (mc := 0) (ms := 0) (As := [.ref (a 4)]) (rest := []) S (s_X8_begin l D k a s1 sl   _  hBs1  ) lkX9_96 ok_X8_begin ⟨rfl, rfl, Nat.le_of_ble_eq_true rfl, Nat.le_of_ble_eq_true rfl⟩ (pw_V (ci := 8) (q0 := 17) hK hN rfl cw_17 hP hDc) rfl hl.1 rfl (Nat.le_of_ble_eq_true rfl) ⟨Nat.zero_le _, Nat.zero_le _⟩ dX9_land_24) (fun s5 H9 locs9 hs5 hP9 hD9 hS9 => ?_)
    clear hP hD hS
    have hS := hS9
    have hP := hP9
    have hD := hD9
    clear hP9 hD9 hS9
    obtain ⟨hBs5, gs5, fs5⟩ := hs5
    have hFs5 : FR [4, 12, 13, 14, 15, 16, 1, 5, 6, 7, 8, 9, 10, 18, 19, 20, 21, 22, 23, 24, 26, 27, 28, 29, 30, 32, 33, 34, 35, 36, 17, 2] st s5 := fr_ca hFs1 gs5 (sub_1 (List.mem_of_getElem? (i := 13) rfl) (sub_1 (List.mem_of_getElem? (i := 14) rfl) (sub_1 (List.mem_of_getElem? (i := 15) rfl) (sub_1 (List.mem_of_getElem? (i := 16) rfl) (sub_1 (List.mem_of_getElem? (i := 17) rfl) (sub_1 (List.mem_of_getElem? (i := 18) rfl) (sub_1 (List.mem_of_getElem? (i := 19) rfl) (sub_1 (List.mem_of_getElem? (i := 20) rfl) (sub_1 (List.mem_of_getElem? (i := 21) rfl) (sub_1 (List.mem_of_getElem? (i := 22) rfl) (sub_1 (List.mem_of_getElem? (i := 23) rfl) (sub_1 (List.mem_of_getElem? (i := 24) rfl) (sub_1 (List.mem_of_getElem? (i := 25) rfl) (sub_1 (List.mem_of_getElem? (i := 26) rfl) (sub_1 (List.mem_of_getElem? (i := 27) rfl) (sub_1 (List.mem_of_getElem? (i := 28) rfl) (sub_1 (List.mem_of_getElem? (i := 29) rfl) (sub_1 (List.mem_of_getElem? (i := 30) rfl) sub_0))))))))))))))))))
    have k7 := fs5
    refine lv_aload_n hx hb dX9_land_27 rfl (lv_at hl 0 rfl) ?_
    refine va_get (D := D) (ci := 9) (v := .ref (a 2)) (C := RX9) (T := TX9) (N := 11) hx hb hT in_X9 hown hK hP 0 cw_0 rfl 0 (by decide) (hT _ t451) (fun _ h9 => h9) rfl dX9_land_28 ?_
    refine lv_iconst (v := 0) hx hb dX9_land_31 (by decide) ?_
    refine c_put (ci := 6) (C := RX6) (T := TX6) (N := 2) (j := 1) (v := 0) hx hb hT in_X6 tyX6 tyX6_ok nmX6 hown hK hP hD hS cw_2 rfl (by decide) (hT _ t145) (by decide +kernel) (by decide +kernel) rfl rfl (Nat.le_of_ble_eq_true rfl) (cs_2 (upd (s5 2) 1 0)) dX9_land_32 (fun s8 H9 locs9 es8 hP9 hD9 hS9 => ?_)
    clear hP hD hS
    have hS := hS9
    have hP := hP9
    have hD := hD9
    clear hP9 hD9 hS9
    have hBs8 : CB s8 := by rw [es8]; exact cb_sw hBs5 (ki_8_1 (hBs5 2) (iv_mono (c := 0) (d := 1000) (iv_c (by decide) : Iv 0 0 0) (by decide) (by decide)))
    have hFs8 : FR [4, 12, 13, 14, 15, 16, 1, 5, 6, 7, 8, 9, 10, 18, 19, 20, 21, 22, 23, 24, 26, 27, 28, 29, 30, 32, 33, 34, 35, 36, 17, 2] st s8 := fr_sw hFs5 (List.mem_of_getElem? (i := 31) rfl) es8
    refine lv_aload_n hx hb dX9_land_35 rfl (lv_at hl 0 rfl) ?_
    refine va_get (D := D) (ci := 9) (v := .ref (a 17)) (C := RX9) (T := TX9) (N := 11) hx hb hT in_X9 hown hK hP 0 cw_0 rfl 2 (by decide) (hT _ t453) (fun _ h9 => h9) rfl dX9_land_36 ?_
    refine va_get (D := D) (ci := 8) (v := .ref (a 18)) (C := RX8) (T := TX8) (N := 6) hx hb hT in_X8 hown hK hP 17 cw_17 rfl 0 (by decide) (hT _ t312) (fun _ h9 => h9) rfl dX9_land_39 ?_
    refine va_get (D := D) (ci := 1) (v := .int (s8 18 0)) (C := RX1) (T := TX1) (N := 14) hx hb hT in_X1 hown hK hP 18 cw_18 rfl 0 (by decide) (hT _ t197) (fun _ h9 => h9) rfl dX9_land_42 ?_
    refine k_top (y := (s5 18 0)) (congrFun (sw_at es8 (by decide)) 0) ?_
    rw [hQ]
    exact W.iret (v := (s5 18 0)) hx hb hr (fun t ht hW => ⟨⟨(s5 18 0), s8, rfl, ⟨hBs8, hFs8, (wi_fr k7 (congrFun (sw_at es8 (by decide)) 2) (sw_at es8 (by decide)) (sw_at es8 (by decide)) (sw_at es8 (by decide)))⟩, by rw [ht]; exact hP, va_K.moved hW.alike (hK.sub (tys' := []) [] rfl), by rw [hAe]; exact hD⟩, by rw [hAe]; exact hS.F ht⟩) hS.2.2 dX9_land_45
  · skip
    have g9 := g9
    refine lv_if_ne (tgt := 13) hx hb dX9_land_7 (by decide) (fun c10 => ?_) (fun c10 => ?_)
    · first | exact absurd c10 (by decide) | exact absurd (by decide) c10
    refine lv_bipush (v := (-4)) hx hb dX9_land_10 (by decide) ?_
    rw [hQ]
    exact W.iret (v := (-4)) hx hb hr (fun t ht hW => ⟨⟨(-4), s1, rfl, ⟨hBs1, hFs1, (wi_fr hW0 (congrFun (gs1 17 (nm_1 (by decide) (nm_1 (by decide) (nm_1 (by decide) (nm_1 (by decide) (nm_1 (by decide) (nm_1 (by decide) (nm_1 (by decide) (nm_1 (by decide) (nm_1 (by decide) (nm_1 (by decide) (nm_1 (by decide) (nm_1 (by decide) (nm_1 (by decide) nm_0)))))))))))))) 2) (hFs1 37 (nm_1 (by decide) (nm_1 (by decide) (nm_1 (by decide) (nm_1 (by decide) (nm_1 (by decide) (nm_1 (by decide) (nm_1 (by decide) (nm_1 (by decide) (nm_1 (by decide) (nm_1 (by decide) (nm_1 (by decide) (nm_1 (by decide) (nm_1 (by decide) (nm_1 (by decide) (nm_1 (by decide) (nm_1 (by decide) (nm_1 (by decide) (nm_1 (by decide) (nm_1 (by decide) (nm_1 (by decide) (nm_1 (by decide) (nm_1 (by decide) (nm_1 (by decide) (nm_1 (by decide) (nm_1 (by decide) (nm_1 (by decide) (nm_1 (by decide) (nm_1 (by decide) (nm_1 (by decide) (nm_1 (by decide) (nm_1 (by decide) (nm_1 (by decide) nm_0))))))))))))))))))))))))))))))))) (hFs1 38 (nm_1 (by decide) (nm_1 (by decide) (nm_1 (by decide) (nm_1 (by decide) (nm_1 (by decide) (nm_1 (by decide) (nm_1 (by decide) (nm_1 (by decide) (nm_1 (by decide) (nm_1 (by decide) (nm_1 (by decide) (nm_1 (by decide) (nm_1 (by decide) (nm_1 (by decide) (nm_1 (by decide) (nm_1 (by decide) (nm_1 (by decide) (nm_1 (by decide) (nm_1 (by decide) (nm_1 (by decide) (nm_1 (by decide) (nm_1 (by decide) (nm_1 (by decide) (nm_1 (by decide) (nm_1 (by decide) (nm_1 (by decide) (nm_1 (by decide) (nm_1 (by decide) (nm_1 (by decide) (nm_1 (by decide) (nm_1 (by decide) (nm_1 (by decide) nm_0))))))))))))))))))))))))))))))))) (hFs1 39 (nm_1 (by decide) (nm_1 (by decide) (nm_1 (by decide) (nm_1 (by decide) (nm_1 (by decide) (nm_1 (by decide) (nm_1 (by decide) (nm_1 (by decide) (nm_1 (by decide) (nm_1 (by decide) (nm_1 (by decide) (nm_1 (by decide) (nm_1 (by decide) (nm_1 (by decide) (nm_1 (by decide) (nm_1 (by decide) (nm_1 (by decide) (nm_1 (by decide) (nm_1 (by decide) (nm_1 (by decide) (nm_1 (by decide) (nm_1 (by decide) (nm_1 (by decide) (nm_1 (by decide) (nm_1 (by decide) (nm_1 (by decide) (nm_1 (by decide) (nm_1 (by decide) (nm_1 (by decide) (nm_1 (by decide) (nm_1 (by decide) (nm_1 (by decide) nm_0))))))))))))))))))))))))))))))))))⟩, by rw [ht]; exact hP, va_K.moved hW.alike (hK.sub (tys' := []) [] rfl), by rw [hAe]; exact hD⟩, by rw [hAe]; exact hS.F ht⟩) hS.2.2 dX9_land_12
