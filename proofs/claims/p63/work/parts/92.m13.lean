set_option maxHeartbeats 4000000 in
set_option maxRecDepth 100000 in
theorem m_X10_asksSeen (l : Launch) (D : va_G) (k : Nat → ClassId) (a : Nat → Nat) (st : CT) (sl : CL) (p0 : Int32) (sz : Nat) (hB : MB st)  (hw : WOK (st 1)) : Met l yX10_asksSeen (.code yX10_asksSeen cX10_asksSeen 3 (some .int) :: TB) (rmw 8 0 0) (va_Pc [.ref (a 0), .int p0] (PW D k sz (MWS k a st sl))) (QI D (S := CT) (fun r u => MB u ∧ FR [7, 9, 8, 10, 11] st u ∧ (Iv (-6) 0 r ∧ ((r = 0 → Iv 0 3 p0 ∧ (st 18 p0.toNatClampNeg).toInt % 2 = 0)))) (fun u => MWS k a u sl) (fun _ => []) (MWS k a st sl) sz) 0 0 (va_A (MWS k a st sl) sz) := by
  refine Met.ofW (cc := cX10_asksSeen) (maxL := 3) (ret := (some .int)) (by decide) rfl ?_
  intro p e s m args below meth c s₁ B hml hv
  obtain ⟨rfl, hsz, hP, hK, hD0, hN⟩ := hv
  have hx := B.exec
  have hb := B.bytes
  have hr := B.returns
  have hT : ∀ w9 ∈ TB, w9.before ([.ref (a 0), .int p0] : List Value).toArray s = true := fun w9 h => atoms_spec (ws := .code yX10_asksSeen cX10_asksSeen 3 (some .int) :: TB) B.pre w9 (List.mem_cons_of_mem _ h)
  have hown : s.vm.findClass RX10 = some m.cls := findClass_of_methodNamed B.named
  have S : CallFix p m c cX10_asksSeen 3 s _ TB RX10 := ⟨hx, hb, hml, hown, hT⟩
  subst hsz
  have hD := hD0.self (sz := s.heap.size)
  generalize hAe : va_A (MWS k a st sl) s.heap.size = A at hD ⊢
  have hA : ∀ q : Nat, s.heap.size ≤ q → A q := fun q h => by rw [← hAe]; exact Or.inr h
  have hS : va_S A s.heap s.heap [] := va_S.rf
  have hl := lv_entry ([.ref (a 0), .int p0]) (n := 3) (Nat.le_of_ble_eq_true rfl)
  rw [lg_entry_eq]
  generalize (lg_sl ([.ref (a 0), .int p0]) ++ List.replicate (3 - (lg_sl ([.ref (a 0), .int p0])).length) Slot.unset).toArray = ls at hl ⊢
  have hl : lv_has ls 3 [(0, .ref (a 0)), (1, .int p0)] := hl
  refine nameQ (fun Q hQ => ?_)
  refine lv_iload_n hx hb dX10_asksSeen_0 rfl (lv_at hl 1 rfl) ?_
  refine ro_S (As := [.int p0]) (rest := []) S (m_X10_isSlot l D k a st sl  p0 _  hB  ) lkX10_300 ok_X10_isSlot ⟨rfl, rfl, Nat.le_of_ble_eq_true rfl, Nat.le_of_ble_eq_true rfl⟩ (pw_S hK hN hP (hD.weaken (fun _ _ _ _ => trivial))) rfl hl.1 rfl (Nat.le_of_ble_eq_true rfl) ⟨Nat.zero_le _, Nat.zero_le _⟩ dX10_asksSeen_1 (fun r1 er1 => ?_)
  rcases er1 with ⟨rfl, g9⟩ | ⟨rfl, g9⟩
  · skip
    have g2 := g9
    have h3 : Iv 0 3 p0 := g2.1
    refine lv_if_eq (tgt := 14) hx hb dX10_asksSeen_4 (by decide) (fun c4 => ?_) (fun c4 => ?_)
    · first | exact absurd c4 (by decide) | exact absurd (by decide) c4
    refine lv_aload_n hx hb dX10_asksSeen_7 rfl (lv_at hl 0 rfl) ?_
    refine ro_V (As := []) (rest := []) S (m_X10_isLand l D k a st sl   _  hB  hw) lkX10_297 ok_X10_isLand ⟨rfl, rfl, Nat.le_of_ble_eq_true rfl, Nat.le_of_ble_eq_true rfl⟩ (pw_V (ci := 10) (q0 := 0) hK hN rfl mw_0 hP (hD.weaken (fun _ _ _ _ => trivial))) rfl hl.1 rfl (Nat.le_of_ble_eq_true rfl) ⟨Nat.zero_le _, Nat.zero_le _⟩ dX10_asksSeen_8 (fun r5 er5 => ?_)
    rcases er5 with ⟨rfl, g9⟩ | ⟨rfl, g9⟩
    · skip
      have g6 := g9
      refine lv_if_ne (tgt := 17) hx hb dX10_asksSeen_11 (by decide) (fun c7 => ?_) (fun c7 => ?_)
      rotate_left
      · first | exact absurd c7 (by decide) | exact absurd (by decide) c7
      refine lv_aload_n hx hb dX10_asksSeen_17 rfl (lv_at hl 0 rfl) ?_
      refine va_get (D := D) (ci := 10) (v := .ref (a 18)) (C := RX10) (T := TX10) (N := 38) hx hb hT in_X10 hown hK hP 0 mw_0 rfl 34 (by decide) (hT _ t1296) (fun _ h9 => h9) rfl dX10_asksSeen_18 ?_
      refine lv_iload_n hx hb dX10_asksSeen_21 rfl (lv_at hl 1 rfl) ?_
      refine va_iald hx hb hK hP 18 0 mw_18 rfl (iv_in h3 (by decide) (by decide)) dX10_asksSeen_22 ?_
      refine k_top (y := (st 18 p0.toNatClampNeg)) rfl ?_
      have h8 : Iv (-1) 60 (st 18 p0.toNatClampNeg) := (rm_18 hB (vp_in_lt (iv_in h3 (by decide) (by decide))))
      refine lv_iconst (v := (-1)) hx hb dX10_asksSeen_23 (by decide) ?_
      refine lv_icmp_ne (tgt := 30) hx hb dX10_asksSeen_24 (by decide) (fun c9 => ?_) (fun c9 => ?_)
      · skip
        have h10 : Iv 0 60 (st 18 p0.toNatClampNeg) := ne_lo h8 (show ¬ (st 18 p0.toNatClampNeg) = (-1) from c9) (by decide) (by decide)
        refine lv_aload_n hx hb dX10_asksSeen_30 rfl (lv_at hl 0 rfl) ?_
        refine va_get (D := D) (ci := 10) (v := .ref (a 18)) (C := RX10) (T := TX10) (N := 38) hx hb hT in_X10 hown hK hP 0 mw_0 rfl 34 (by decide) (hT _ t1296) (fun _ h9 => h9) rfl dX10_asksSeen_31 ?_
        refine lv_iload_n hx hb dX10_asksSeen_34 rfl (lv_at hl 1 rfl) ?_
        refine va_iald hx hb hK hP 18 0 mw_18 rfl (iv_in h3 (by decide) (by decide)) dX10_asksSeen_35 ?_
        refine k_top (y := (st 18 p0.toNatClampNeg)) rfl ?_
        refine lv_iconst (v := 2) hx hb dX10_asksSeen_36 (by decide) ?_
        refine lv_irem hx hb dX10_asksSeen_37 (iv_nz (iv_c (by decide) : Iv 2 2 2) (by decide)) ?_
        refine lv_topi (fun z11 ez11 => ?_)
        have h12 : Iv 0 1 z11 := iv_rem ez11 h10 (y := 2) (k := 2) (by decide) (by decide) (by decide) (by decide)
        refine lv_if_eq (tgt := 44) hx hb dX10_asksSeen_38 (by decide) (fun c13 => ?_) (fun c13 => ?_)
        · skip
          have h14 : Iv 0 0 z11 := eq_l c13 (iv_c (by decide) : Iv 0 0 0)
          have k15 : (st 18 p0.toNatClampNeg).toInt % 2 = 0 := (by have y1 := ti_rem ez11 (y := 2) (k := 2) (by decide) (by decide) (Int.le_trans (by decide) (h10).1); rw [c13] at y1; exact y1.symm)
          refine lv_iconst (v := 0) hx hb dX10_asksSeen_44 (by decide) ?_
          refine lv_istore_n (lv' := [(2, .int 0), (0, .ref (a 0)), (1, .int p0)]) hx hb dX10_asksSeen_45 rfl hl (by decide) rfl (fun ls hl => ?_)
          have lp46 : ∀ (n9_46 : Nat) (v2_46 : Int32) (ls : Array Slot), Iv 0 61 v2_46 → (v2_46.toInt % 2 = 0) → lv_has ls 3 [(2, .int v2_46), (0, .ref (a 0)), (1, .int p0)] → (61 : Int) - v2_46.toInt < (n9_46 : Int) → W p l e (rmw 8 0 0) s m ([.ref (a 0), .int p0] : List Value).toArray below meth c s.heap [] 0 0 Q (F0 m 46 ls []) := by
            clear hl
            intro n9_46
            induction n9_46 with
            | zero =>
              intro v2_46 ls iv2_46 rel46_0 hl hm46
              exact (fu_0 iv2_46 hm46).elim
            | succ n9_46 ih46 =>
              intro v2_46 ls iv2_46 rel46_0 hl hm46
              refine lv_iload_n hx hb dX10_asksSeen_46 rfl (lv_at hl 0 rfl) ?_
              refine lv_aload_n hx hb dX10_asksSeen_47 rfl (lv_at hl 1 rfl) ?_
              refine va_get (D := D) (ci := 10) (v := .ref (a 18)) (C := RX10) (T := TX10) (N := 38) hx hb hT in_X10 hown hK hP 0 mw_0 rfl 34 (by decide) (hT _ t1296) (fun _ h9 => h9) rfl dX10_asksSeen_48 ?_
              refine lv_iload_n hx hb dX10_asksSeen_51 rfl (lv_at hl 2 rfl) ?_
              refine va_iald hx hb hK hP 18 0 mw_18 rfl (iv_in h3 (by decide) (by decide)) dX10_asksSeen_52 ?_
              refine k_top (y := (st 18 p0.toNatClampNeg)) rfl ?_
              refine lv_icmp_ge (tgt := 116) hx hb dX10_asksSeen_53 (by decide) (fun c484 => ?_) (fun c484 => ?_)
              · skip
                have n485 : (st 18 p0.toNatClampNeg).toInt ≤ v2_46.toInt := (i_le c484)
                refine lv_aload_n hx hb dX10_asksSeen_116 rfl (lv_at hl 1 rfl) ?_
                refine ca_v hP hD hS hA (fun hDc => run_V (mc := 0) (ms := 0) (As := []) (rest := []) S (m_X10_asItIs l D k a st sl   _  hB  hw) lkX10_273 ok_X10_asItIs ⟨rfl, rfl, Nat.le_of_ble_eq_true rfl, Nat.le_of_ble_eq_true rfl⟩ (pw_V (ci := 10) (q0 := 0) hK hN rfl mw_0 hP hDc) rfl hl.1 rfl (Nat.le_of_ble_eq_true rfl) ⟨Nat.zero_le _, Nat.zero_le _⟩ dX10_asksSeen_117) (fun s486 H9 locs9 hs486 hP9 hD9 hS9 => ?_)
                clear hP hD hS
                have hS := hS9
                have hP := hP9
                have hD := hD9
                clear hP9 hD9 hS9
                obtain ⟨hBs486, gs486, fs486⟩ := hs486
                have hFs486 : FR [7, 9, 8, 10, 11] st s486 := fr_ca fr_rf gs486 (sub_1 (List.mem_of_getElem? (i := 0) rfl) (sub_1 (List.mem_of_getElem? (i := 1) rfl) (sub_1 (List.mem_of_getElem? (i := 2) rfl) (sub_1 (List.mem_of_getElem? (i := 3) rfl) (sub_1 (List.mem_of_getElem? (i := 4) rfl) sub_0)))))
                refine lv_iconst (v := 0) hx hb dX10_asksSeen_120 (by decide) ?_
                rw [hQ]
                exact W.iret (v := 0) hx hb hr (fun t ht hW => ⟨⟨0, s486, rfl, ⟨hBs486, hFs486, ⟨(iv_mono (c := (-6)) (d := 0) (iv_c (by decide) : Iv 0 0 0) (by decide) (by decide)), (fun _ => ⟨h3, k15⟩)⟩⟩, by rw [ht]; exact hP, va_K.moved hW.alike (hK.sub (tys' := []) [] rfl), by rw [hAe]; exact hD⟩, by rw [hAe]; exact hS.F ht⟩) hS.2.2 dX10_asksSeen_121
              · skip
                have n488 : v2_46.toInt < (st 18 p0.toNatClampNeg).toInt := (i_nle c484)
                have h489 : Iv 0 59 v2_46 := lt_l iv2_46 n488 h10 (by decide)
                have h490 : Iv 1 60 (st 18 p0.toNatClampNeg) := lt_r iv2_46 n488 h10 (by decide)
                refine lv_aload_n hx hb dX10_asksSeen_56 rfl (lv_at hl 1 rfl) ?_
                refine lv_aload_n hx hb dX10_asksSeen_57 rfl (lv_at hl 1 rfl) ?_
                refine lv_iload_n hx hb dX10_asksSeen_58 rfl (lv_at hl 2 rfl) ?_
                refine lv_iload_n hx hb dX10_asksSeen_59 rfl (lv_at hl 0 rfl) ?_
                refine ro_VL (As := [.int p0, .int v2_46]) (rest := [.ref (a 0)]) S (m_X10_numberAt l D k a st sl  p0 v2_46 _  hB h3 h489 ) lkX10_303 ok_X10_numberAt ⟨rfl, rfl, Nat.le_of_ble_eq_true rfl, Nat.le_of_ble_eq_true rfl⟩ (pw_V (ci := 10) (q0 := 0) hK hN rfl mw_0 hP (hD.weaken (fun _ _ _ _ => trivial))) rfl hl.1 rfl (Nat.le_of_ble_eq_true rfl) ⟨Nat.zero_le _, Nat.zero_le _⟩ dX10_asksSeen_60 (fun r491 er491 => ?_)
                subst er491
                refine ro_V (As := [.long (sl 20 (60 * p0 + v2_46).toNatClampNeg)]) (rest := []) S (m_X10_isPlace l D k a st sl  (sl 20 (60 * p0 + v2_46).toNatClampNeg) _  hB  hw) lkX10_282 ok_X10_isPlace ⟨rfl, rfl, Nat.le_of_ble_eq_true rfl, Nat.le_of_ble_eq_true rfl⟩ (pw_V (ci := 10) (q0 := 0) hK hN rfl mw_0 hP (hD.weaken (fun _ _ _ _ => trivial))) rfl hl.1 rfl (Nat.le_of_ble_eq_true rfl) ⟨Nat.zero_le _, Nat.zero_le _⟩ dX10_asksSeen_63 (fun r492 er492 => ?_)
                rcases er492 with ⟨rfl, g9⟩ | ⟨rfl, g9⟩
                · skip
                  have g493 := g9
                  have h494 : (0 : Int) ≤ (sl 20 (60 * p0 + v2_46).toNatClampNeg).toInt ∧ (sl 20 (60 * p0 + v2_46).toNatClampNeg).toInt ≤ (5 : Int) := ⟨(g493).1, (g493).2⟩
                  refine lv_if_eq (tgt := 107) hx hb dX10_asksSeen_66 (by decide) (fun c495 => ?_) (fun c495 => ?_)
                  · first | exact absurd c495 (by decide) | exact absurd (by decide) c495
                  refine lv_aload_n hx hb dX10_asksSeen_69 rfl (lv_at hl 1 rfl) ?_
                  refine lv_aload_n hx hb dX10_asksSeen_70 rfl (lv_at hl 1 rfl) ?_
                  refine lv_iload_n hx hb dX10_asksSeen_71 rfl (lv_at hl 2 rfl) ?_
                  refine lv_iload_n hx hb dX10_asksSeen_72 rfl (lv_at hl 0 rfl) ?_
                  refine lv_iconst (v := 1) hx hb dX10_asksSeen_73 (by decide) ?_
                  refine lv_iadd hx hb dX10_asksSeen_74 ?_
                  refine lv_topi (fun z496 ez496 => ?_)
                  have h497 : Iv 1 60 z496 := iv_add ez496 h489 (iv_c (by decide) : Iv 1 1 1) (by decide) (by decide) (by decide) (by decide)
                  have h498 : Iv 1 59 z496 := (by have y1 := n488; have y2 := k15; have y3 := rel46_0; have y4 := ti_add ez496 h489 (iv_c (by decide) : Iv 1 1 1) (by decide) (by decide); have y5 := (rm_18 hB (j := p0.toNatClampNeg) (iv_cl h3 (by decide) (by decide))).2; obtain ⟨y6, y7⟩ := id (h489); have z9 : (1 : Int32).toInt = 1 := rfl; exact ⟨by omega, by omega⟩)
                  have h499 : Iv 0 58 v2_46 := (by have e9 := ti_add ez496 h489 (iv_c (by decide) : Iv 1 1 1) (by decide) (by decide); obtain ⟨y1, y2⟩ := id (h498); obtain ⟨y3, y4⟩ := id (h489); have y5 : (1 : Int32).toInt = 1 := rfl; exact ⟨by omega, by omega⟩)
                  refine ro_VL (As := [.int p0, .int z496]) (rest := [.ref (a 0)]) S (m_X10_numberAt l D k a st sl  p0 z496 _  hB h3 (iv_mono (c := 0) (d := 59) h498 (by decide) (by decide)) ) lkX10_303 ok_X10_numberAt ⟨rfl, rfl, Nat.le_of_ble_eq_true rfl, Nat.le_of_ble_eq_true rfl⟩ (pw_V (ci := 10) (q0 := 0) hK hN rfl mw_0 hP (hD.weaken (fun _ _ _ _ => trivial))) rfl hl.1 rfl (Nat.le_of_ble_eq_true rfl) ⟨Nat.zero_le _, Nat.zero_le _⟩ dX10_asksSeen_75 (fun r500 er500 => ?_)
                  subst er500
                  refine ro_V (As := [.long (sl 20 (60 * p0 + z496).toNatClampNeg)]) (rest := []) S (m_X10_isRoad l D k a st sl  (sl 20 (60 * p0 + z496).toNatClampNeg) _  hB  hw) lkX10_265 ok_X10_isRoad ⟨rfl, rfl, Nat.le_of_ble_eq_true rfl, Nat.le_of_ble_eq_true rfl⟩ (pw_V (ci := 10) (q0 := 0) hK hN rfl mw_0 hP (hD.weaken (fun _ _ _ _ => trivial))) rfl hl.1 rfl (Nat.le_of_ble_eq_true rfl) ⟨Nat.zero_le _, Nat.zero_le _⟩ dX10_asksSeen_78 (fun r501 er501 => ?_)
                  rcases er501 with ⟨rfl, g9⟩ | ⟨rfl, g9⟩
                  · skip
                    have g502 := g9
                    have h503 : (0 : Int) ≤ (sl 20 (60 * p0 + z496).toNatClampNeg).toInt ∧ (sl 20 (60 * p0 + z496).toNatClampNeg).toInt ≤ (7 : Int) := ⟨(g502).1, (g502).2⟩
                    refine lv_if_eq (tgt := 107) hx hb dX10_asksSeen_81 (by decide) (fun c504 => ?_) (fun c504 => ?_)
                    · first | exact absurd c504 (by decide) | exact absurd (by decide) c504
                    refine lv_aload_n hx hb dX10_asksSeen_84 rfl (lv_at hl 1 rfl) ?_
                    refine lv_aload_n hx hb dX10_asksSeen_85 rfl (lv_at hl 1 rfl) ?_
                    refine lv_iload_n hx hb dX10_asksSeen_86 rfl (lv_at hl 2 rfl) ?_
                    refine lv_iload_n hx hb dX10_asksSeen_87 rfl (lv_at hl 0 rfl) ?_
                    refine lv_iconst (v := 1) hx hb dX10_asksSeen_88 (by decide) ?_
                    refine lv_iadd hx hb dX10_asksSeen_89 ?_
                    refine k_top (y := z496) ez496.symm ?_
                    refine ro_VL (As := [.int p0, .int z496]) (rest := [.ref (a 0)]) S (m_X10_numberAt l D k a st sl  p0 z496 _  hB h3 (iv_mono (c := 0) (d := 59) h498 (by decide) (by decide)) ) lkX10_303 ok_X10_numberAt ⟨rfl, rfl, Nat.le_of_ble_eq_true rfl, Nat.le_of_ble_eq_true rfl⟩ (pw_V (ci := 10) (q0 := 0) hK hN rfl mw_0 hP (hD.weaken (fun _ _ _ _ => trivial))) rfl hl.1 rfl (Nat.le_of_ble_eq_true rfl) ⟨Nat.zero_le _, Nat.zero_le _⟩ dX10_asksSeen_90 (fun r505 er505 => ?_)
                    subst er505
                    refine lv_l2i hx hb dX10_asksSeen_93 rfl ?_
                    refine lv_topi (fun z506 ez506 => ?_)
                    have h507 : Iv 0 7 z506 := l2i_iv ez506 h503 (by decide) (by decide)
                    refine lv_aload_n hx hb dX10_asksSeen_94 rfl (lv_at hl 1 rfl) ?_
                    refine lv_iload_n hx hb dX10_asksSeen_95 rfl (lv_at hl 2 rfl) ?_
                    refine lv_iload_n hx hb dX10_asksSeen_96 rfl (lv_at hl 0 rfl) ?_
                    refine ro_VL (As := [.int p0, .int v2_46]) (rest := [.int z506, .ref (a 0)]) S (m_X10_numberAt l D k a st sl  p0 v2_46 _  hB h3 (iv_mono (c := 0) (d := 59) h499 (by decide) (by decide)) ) lkX10_303 ok_X10_numberAt ⟨rfl, rfl, Nat.le_of_ble_eq_true rfl, Nat.le_of_ble_eq_true rfl⟩ (pw_V (ci := 10) (q0 := 0) hK hN rfl mw_0 hP (hD.weaken (fun _ _ _ _ => trivial))) rfl hl.1 rfl (Nat.le_of_ble_eq_true rfl) ⟨Nat.zero_le _, Nat.zero_le _⟩ dX10_asksSeen_97 (fun r508 er508 => ?_)
                    subst er508
                    refine lv_l2i hx hb dX10_asksSeen_100 rfl ?_
                    refine lv_topi (fun z509 ez509 => ?_)
                    have h510 : Iv 0 5 z509 := l2i_iv ez509 h494 (by decide) (by decide)
                    refine ro_V (As := [.int z506, .int z509]) (rest := []) S (m_X10_isOf l D k a st sl  z506 z509 _  hB h507 hw) lkX10_93 ok_X10_isOf ⟨rfl, rfl, Nat.le_of_ble_eq_true rfl, Nat.le_of_ble_eq_true rfl⟩ (pw_V (ci := 10) (q0 := 0) hK hN rfl mw_0 hP (hD.weaken (fun _ _ _ _ => trivial))) rfl hl.1 rfl (Nat.le_of_ble_eq_true rfl) ⟨Nat.zero_le _, Nat.zero_le _⟩ dX10_asksSeen_101 (fun r511 er511 => ?_)
                    rcases er511 with ⟨rfl, g9⟩ | ⟨rfl, g9⟩
                    · skip
                      have g512 := g9
                      have k513 := g512.2
                      refine lv_if_ne (tgt := 110) hx hb dX10_asksSeen_104 (by decide) (fun c514 => ?_) (fun c514 => ?_)
                      rotate_left
                      · first | exact absurd c514 (by decide) | exact absurd (by decide) c514
                      obtain ⟨z515, ez515⟩ : ∃ z9 : Int32, z9 = v2_46 + Int32.ofInt 2 := ⟨_, rfl⟩
                      have h516 : Iv 2 60 z515 := iv_inc ez515 h499 (by decide) (by decide) (by decide) (by decide) (by decide) (by decide)
                      refine lv_iinc (v := z515) (lv' := [(2, .int z515), (0, .ref (a 0)), (1, .int p0)]) hx hb dX10_asksSeen_110 hl (k := 0) rfl ez515.symm (by decide) rfl (fun ls hl => ?_)
                      refine lv_goto (tgt := 46) hx hb dX10_asksSeen_113 (by decide) ?_
                      exact ih46 z515 _ (iv_mono (c := 0) (d := 61) h516 (by decide) (by decide)) (by have y1 := ti_inc ez515 h499 (by decide) (by decide) (by decide) (by decide); have y2 := rel46_0; omega) (lv_sub hl [0, 1, 2] rfl) (fu_s (lo := 0) (ti_inc ez515 h499 (by decide) (by decide) (by decide) (by decide)) (by decide) hm46)
                    · skip
                      have g517 := g9
                      have k518 := g517
                      refine lv_if_ne (tgt := 110) hx hb dX10_asksSeen_104 (by decide) (fun c519 => ?_) (fun c519 => ?_)
                      · first | exact absurd c519 (by decide) | exact absurd (by decide) c519
                      refine lv_bipush (v := (-2)) hx hb dX10_asksSeen_107 (by decide) ?_
                      rw [hQ]
                      exact W.iret (v := (-2)) hx hb hr (fun t ht hW => ⟨⟨(-2), st, rfl, ⟨hB, fr_rf, ⟨(iv_mono (c := (-6)) (d := 0) (iv_c (by decide) : Iv (-2) (-2) (-2)) (by decide) (by decide)), (fun z9 => absurd z9 (by decide))⟩⟩, by rw [ht]; exact hP, va_K.moved hW.alike (hK.sub (tys' := []) [] rfl), by rw [hAe]; exact hD⟩, by rw [hAe]; exact hS.F ht⟩) hS.2.2 dX10_asksSeen_109
                  · skip
                    have g520 := g9
                    refine lv_if_eq (tgt := 107) hx hb dX10_asksSeen_81 (by decide) (fun c521 => ?_) (fun c521 => ?_)
                    rotate_left
                    · first | exact absurd c521 (by decide) | exact absurd (by decide) c521
                    refine lv_bipush (v := (-2)) hx hb dX10_asksSeen_107 (by decide) ?_
                    rw [hQ]
                    exact W.iret (v := (-2)) hx hb hr (fun t ht hW => ⟨⟨(-2), st, rfl, ⟨hB, fr_rf, ⟨(iv_mono (c := (-6)) (d := 0) (iv_c (by decide) : Iv (-2) (-2) (-2)) (by decide) (by decide)), (fun z9 => absurd z9 (by decide))⟩⟩, by rw [ht]; exact hP, va_K.moved hW.alike (hK.sub (tys' := []) [] rfl), by rw [hAe]; exact hD⟩, by rw [hAe]; exact hS.F ht⟩) hS.2.2 dX10_asksSeen_109
                · skip
                  have g522 := g9
                  refine lv_if_eq (tgt := 107) hx hb dX10_asksSeen_66 (by decide) (fun c523 => ?_) (fun c523 => ?_)
                  rotate_left
                  · first | exact absurd c523 (by decide) | exact absurd (by decide) c523
                  refine lv_bipush (v := (-2)) hx hb dX10_asksSeen_107 (by decide) ?_
                  rw [hQ]
                  exact W.iret (v := (-2)) hx hb hr (fun t ht hW => ⟨⟨(-2), st, rfl, ⟨hB, fr_rf, ⟨(iv_mono (c := (-6)) (d := 0) (iv_c (by decide) : Iv (-2) (-2) (-2)) (by decide) (by decide)), (fun z9 => absurd z9 (by decide))⟩⟩, by rw [ht]; exact hP, va_K.moved hW.alike (hK.sub (tys' := []) [] rfl), by rw [hAe]; exact hD⟩, by rw [hAe]; exact hS.F ht⟩) hS.2.2 dX10_asksSeen_109
          exact lp46 62 0 _ (iv_mono (c := 0) (d := 61) (iv_c (by decide) : Iv 0 0 0) (by decide) (by decide)) (by decide) (lv_sub hl [0, 1, 2] rfl) (fu_i (iv_mono (c := 0) (d := 61) (iv_c (by decide) : Iv 0 0 0) (by decide) (by decide)) (by decide))
        · skip
          have h524 : Iv 1 1 z11 := ne_lo h12 c13 (by decide) (by decide)
          refine lv_bipush (v := (-2)) hx hb dX10_asksSeen_41 (by decide) ?_
          rw [hQ]
          exact W.iret (v := (-2)) hx hb hr (fun t ht hW => ⟨⟨(-2), st, rfl, ⟨hB, fr_rf, ⟨(iv_mono (c := (-6)) (d := 0) (iv_c (by decide) : Iv (-2) (-2) (-2)) (by decide) (by decide)), (fun z9 => absurd z9 (by decide))⟩⟩, by rw [ht]; exact hP, va_K.moved hW.alike (hK.sub (tys' := []) [] rfl), by rw [hAe]; exact hD⟩, by rw [hAe]; exact hS.F ht⟩) hS.2.2 dX10_asksSeen_43
      · skip
        have h525 : Iv (-1) (-1) (st 18 p0.toNatClampNeg) := eq_l c9 (iv_c (by decide) : Iv (-1) (-1) (-1))
        refine lv_bipush (v := (-6)) hx hb dX10_asksSeen_27 (by decide) ?_
        rw [hQ]
        exact W.iret (v := (-6)) hx hb hr (fun t ht hW => ⟨⟨(-6), st, rfl, ⟨hB, fr_rf, ⟨(iv_mono (c := (-6)) (d := 0) (iv_c (by decide) : Iv (-6) (-6) (-6)) (by decide) (by decide)), (fun z9 => absurd z9 (by decide))⟩⟩, by rw [ht]; exact hP, va_K.moved hW.alike (hK.sub (tys' := []) [] rfl), by rw [hAe]; exact hD⟩, by rw [hAe]; exact hS.F ht⟩) hS.2.2 dX10_asksSeen_29
    · skip
      have g526 := g9
      refine lv_if_ne (tgt := 17) hx hb dX10_asksSeen_11 (by decide) (fun c527 => ?_) (fun c527 => ?_)
      · first | exact absurd c527 (by decide) | exact absurd (by decide) c527
      refine lv_bipush (v := (-2)) hx hb dX10_asksSeen_14 (by decide) ?_
      rw [hQ]
      exact W.iret (v := (-2)) hx hb hr (fun t ht hW => ⟨⟨(-2), st, rfl, ⟨hB, fr_rf, ⟨(iv_mono (c := (-6)) (d := 0) (iv_c (by decide) : Iv (-2) (-2) (-2)) (by decide) (by decide)), (fun z9 => absurd z9 (by decide))⟩⟩, by rw [ht]; exact hP, va_K.moved hW.alike (hK.sub (tys' := []) [] rfl), by rw [hAe]; exact hD⟩, by rw [hAe]; exact hS.F ht⟩) hS.2.2 dX10_asksSeen_16
  · skip
    have g528 := g9
    have k529 := g528
    refine lv_if_eq (tgt := 14) hx hb dX10_asksSeen_4 (by decide) (fun c530 => ?_) (fun c530 => ?_)
    rotate_left
    · first | exact absurd c530 (by decide) | exact absurd (by decide) c530
    refine lv_bipush (v := (-2)) hx hb dX10_asksSeen_14 (by decide) ?_
    rw [hQ]
    exact W.iret (v := (-2)) hx hb hr (fun t ht hW => ⟨⟨(-2), st, rfl, ⟨hB, fr_rf, ⟨(iv_mono (c := (-6)) (d := 0) (iv_c (by decide) : Iv (-2) (-2) (-2)) (by decide) (by decide)), (fun z9 => absurd z9 (by decide))⟩⟩, by rw [ht]; exact hP, va_K.moved hW.alike (hK.sub (tys' := []) [] rfl), by rw [hAe]; exact hD⟩, by rw [hAe]; exact hS.F ht⟩) hS.2.2 dX10_asksSeen_16
set_option maxHeartbeats 4000000 in
set_option maxRecDepth 100000 in
theorem m_X10_fitsOf (l : Launch) (D : va_G) (k : Nat → ClassId) (a : Nat → Nat) (st : CT) (sl : CL) (p0 : Int32) (sz : Nat) (hB : MB st) (hp0 : Iv 0 3 p0) (hw : WOK (st 1)) (h2 : (st 18 p0.toNatClampNeg).toInt % 2 = 0) : Met l yX10_fitsOf (.code yX10_fitsOf cX10_fitsOf 6 (some .int) :: TB) (rmk 5) (va_Pc [.ref (a 0), .int p0] (PW D k sz (MWS k a st sl))) (vp_Si (fun r => Iv 0 255 r ∧ (True))) 0 0 (fun _ => False) := by
  refine Met.ofW (cc := cX10_fitsOf) (maxL := 6) (ret := (some .int)) (by decide) rfl ?_
  intro p e s m args below meth c s₁ B hml hv
  obtain ⟨rfl, hsz, hP, hK, hD0, hN⟩ := hv
  have hx := B.exec
  have hb := B.bytes
  have hr := B.returns
  have hT : ∀ w9 ∈ TB, w9.before ([.ref (a 0), .int p0] : List Value).toArray s = true := fun w9 h => atoms_spec (ws := .code yX10_fitsOf cX10_fitsOf 6 (some .int) :: TB) B.pre w9 (List.mem_cons_of_mem _ h)
  have hown : s.vm.findClass RX10 = some m.cls := findClass_of_methodNamed B.named
  have S : CallFix p m c cX10_fitsOf 6 s _ TB RX10 := ⟨hx, hb, hml, hown, hT⟩
  subst hsz
  have hl := lv_entry ([.ref (a 0), .int p0]) (n := 6) (Nat.le_of_ble_eq_true rfl)
  rw [lg_entry_eq]
  generalize (lg_sl ([.ref (a 0), .int p0]) ++ List.replicate (6 - (lg_sl ([.ref (a 0), .int p0])).length) Slot.unset).toArray = ls at hl ⊢
  have hl : lv_has ls 6 [(0, .ref (a 0)), (1, .int p0)] := hl
  refine nameQ (fun Q hQ => ?_)
  refine lv_iconst (v := 0) hx hb dX10_fitsOf_0 (by decide) ?_
  refine lv_istore_n (lv' := [(2, .int 0), (0, .ref (a 0)), (1, .int p0)]) hx hb dX10_fitsOf_1 rfl hl (by decide) rfl (fun ls hl => ?_)
  refine lv_iconst (v := 0) hx hb dX10_fitsOf_2 (by decide) ?_
  refine lv_istore_n (lv' := [(3, .int 0), (2, .int 0), (0, .ref (a 0)), (1, .int p0)]) hx hb dX10_fitsOf_3 rfl hl (by decide) rfl (fun ls hl => ?_)
  have lp4 : ∀ (n9_4 : Nat) (v3_4 : Int32) (v2_4 : Int32) (ls : Array Slot), Iv 0 8 v3_4 → Iv 0 255 v2_4 → lv_has ls 6 [(3, .int v3_4), (2, .int v2_4), (0, .ref (a 0)), (1, .int p0)] → (8 : Int) - v3_4.toInt < (n9_4 : Int) → W p l e (rmk 5) s m ([.ref (a 0), .int p0] : List Value).toArray below meth c s.heap [] 0 0 Q (F0 m 4 ls []) := by
    clear hl
    intro n9_4
    induction n9_4 with
    | zero =>
      intro v3_4 v2_4 ls iv3_4 iv2_4 hl hm4
      exact (fu_0 iv3_4 hm4).elim
    | succ n9_4 ih4 =>
      intro v3_4 v2_4 ls iv3_4 iv2_4 hl hm4
      refine lv_iload_n hx hb dX10_fitsOf_4 rfl (lv_at hl 0 rfl) ?_
      refine lv_aload_n hx hb dX10_fitsOf_5 rfl (lv_at hl 2 rfl) ?_
      refine va_get (D := D) (ci := 10) (v := .ref (a 1)) (C := RX10) (T := TX10) (N := 38) hx hb hT in_X10 hown hK hP 0 mw_0 rfl 1 (by decide) (hT _ t1263) (fun _ h9 => h9) rfl dX10_fitsOf_6 ?_
      refine lv_iconst (v := 3) hx hb dX10_fitsOf_9 (by decide) ?_
      refine va_iald hx hb hK hP 1 0 mw_1 rfl (by unfold vp_in; decide) dX10_fitsOf_10 ?_
      refine k_top (y := (st 1 3)) rfl ?_
      have h3223 : Iv 0 8 (st 1 3) := (tok_at (hw).1 3 0 8 (by decide) (by decide) (by decide))
      refine lv_icmp_ge (tgt := 97) hx hb dX10_fitsOf_11 (by decide) (fun c3224 => ?_) (fun c3224 => ?_)
      · skip
        have n3225 : (st 1 3).toInt ≤ v3_4.toInt := (i_le c3224)
        refine lv_iload_n hx hb dX10_fitsOf_97 rfl (lv_at hl 1 rfl) ?_
        rw [hQ]
        exact W.iret (v := v2_4) hx hb hr (fun t ht hW => ⟨v2_4, rfl, ⟨iv2_4, trivial⟩, ht⟩) (fun _ h9 => by cases h9) dX10_fitsOf_98
      · skip
        have n3226 : v3_4.toInt < (st 1 3).toInt := (i_nle c3224)
        have h3227 : Iv 0 7 v3_4 := lt_l iv3_4 n3226 h3223 (by decide)
        have h3228 : Iv 1 8 (st 1 3) := lt_r iv3_4 n3226 h3223 (by decide)
        refine lv_iconst (v := 1) hx hb dX10_fitsOf_14 (by decide) ?_
        refine lv_istore (lv' := [(4, .int 1), (3, .int v3_4), (2, .int v2_4), (0, .ref (a 0)), (1, .int p0)]) hx hb dX10_fitsOf_15 hl (by decide) rfl (fun ls hl => ?_)
        refine lv_iconst (v := 0) hx hb dX10_fitsOf_17 (by decide) ?_
        refine lv_istore (lv' := [(5, .int 0), (4, .int 1), (3, .int v3_4), (2, .int v2_4), (0, .ref (a 0)), (1, .int p0)]) hx hb dX10_fitsOf_18 hl (by decide) rfl (fun ls hl => ?_)
        have lp20 : ∀ (n9_20 : Nat) (v5_20 : Int32) (v4_20 : Int32) (ls : Array Slot), Iv 0 61 v5_20 → Iv 0 1 v4_20 → (v5_20.toInt % 2 = 0) → lv_has ls 6 [(5, .int v5_20), (4, .int v4_20), (3, .int v3_4), (2, .int v2_4), (0, .ref (a 0)), (1, .int p0)] → (61 : Int) - v5_20.toInt < (n9_20 : Int) → W p l e (rmk 5) s m ([.ref (a 0), .int p0] : List Value).toArray below meth c s.heap [] 0 0 Q (F0 m 20 ls []) := by
          clear hl
          intro n9_20
          induction n9_20 with
          | zero =>
            intro v5_20 v4_20 ls iv5_20 iv4_20 rel20_0 hl hm20
            exact (fu_0 iv5_20 hm20).elim
          | succ n9_20 ih20 =>
            intro v5_20 v4_20 ls iv5_20 iv4_20 rel20_0 hl hm20
            refine lv_iload hx hb dX10_fitsOf_20 (lv_at hl 0 rfl) ?_
            refine lv_aload_n hx hb dX10_fitsOf_22 rfl (lv_at hl 4 rfl) ?_
            refine va_get (D := D) (ci := 10) (v := .ref (a 18)) (C := RX10) (T := TX10) (N := 38) hx hb hT in_X10 hown hK hP 0 mw_0 rfl 34 (by decide) (hT _ t1296) (fun _ h9 => h9) rfl dX10_fitsOf_23 ?_
            refine lv_iload_n hx hb dX10_fitsOf_26 rfl (lv_at hl 5 rfl) ?_
            refine va_iald hx hb hK hP 18 0 mw_18 rfl (iv_in hp0 (by decide) (by decide)) dX10_fitsOf_27 ?_
            refine k_top (y := (st 18 p0.toNatClampNeg)) rfl ?_
            have h3539 : Iv (-1) 60 (st 18 p0.toNatClampNeg) := (rm_18 hB (vp_in_lt (iv_in hp0 (by decide) (by decide))))
            refine lv_icmp_ge (tgt := 76) hx hb dX10_fitsOf_28 (by decide) (fun c3540 => ?_) (fun c3540 => ?_)
            · skip
              have n3541 : (st 18 p0.toNatClampNeg).toInt ≤ v5_20.toInt := (i_le c3540)
              refine lv_iload_n hx hb dX10_fitsOf_76 rfl (lv_at hl 3 rfl) ?_
              refine lv_iload hx hb dX10_fitsOf_77 (lv_at hl 1 rfl) ?_
              refine lv_if_eq (tgt := 88) hx hb dX10_fitsOf_79 (by decide) (fun c3542 => ?_) (fun c3542 => ?_)
              · skip
                have h3543 : Iv 0 0 v4_20 := eq_l c3542 (iv_c (by decide) : Iv 0 0 0)
                refine lv_iconst (v := 0) hx hb dX10_fitsOf_88 (by decide) ?_
                refine lv_ior hx hb dX10_fitsOf_89 ?_
                refine lv_topi (fun z3544 ez3544 => ?_)
                have h3545 : Iv 0 255 z3544 := iv_or 8 ez3544 iv2_4 (iv_c (by decide) : Iv 0 0 0) (by decide) (by decide) (by decide) (by decide)
                refine lv_istore_n (lv' := [(2, .int z3544), (5, .int v5_20), (4, .int v4_20), (3, .int v3_4), (0, .ref (a 0)), (1, .int p0)]) hx hb dX10_fitsOf_90 rfl hl (by decide) rfl (fun ls hl => ?_)
                obtain ⟨z3546, ez3546⟩ : ∃ z9 : Int32, z9 = v3_4 + Int32.ofInt 1 := ⟨_, rfl⟩
                have h3547 : Iv 1 8 z3546 := iv_inc ez3546 h3227 (by decide) (by decide) (by decide) (by decide) (by decide) (by decide)
                refine lv_iinc (v := z3546) (lv' := [(3, .int z3546), (2, .int z3544), (5, .int v5_20), (4, .int v4_20), (0, .ref (a 0)), (1, .int p0)]) hx hb dX10_fitsOf_91 hl (k := 3) rfl ez3546.symm (by decide) rfl (fun ls hl => ?_)
                refine lv_goto (tgt := 4) hx hb dX10_fitsOf_94 (by decide) ?_
                exact ih4 z3546 z3544 _ (iv_mono (c := 0) (d := 8) h3547 (by decide) (by decide)) h3545 (lv_sub hl [0, 1, 4, 5] rfl) (fu_s (lo := 0) (ti_inc ez3546 h3227 (by decide) (by decide) (by decide) (by decide)) (by decide) hm4)
              · skip
                have h3548 : Iv 1 1 v4_20 := ne_lo iv4_20 c3542 (by decide) (by decide)
                refine lv_iconst (v := 1) hx hb dX10_fitsOf_82 (by decide) ?_
                refine lv_iload_n hx hb dX10_fitsOf_83 rfl (lv_at hl 2 rfl) ?_
                refine lv_ishl hx hb dX10_fitsOf_84 ?_
                refine lv_topi (fun z3549 ez3549 => ?_)
                have h3550 : Iv 1 128 z3549 := iv_shl 7 ez3549 h3227 (by decide) (by decide) (by decide)
                refine lv_goto (tgt := 89) hx hb dX10_fitsOf_85 (by decide) ?_
                refine lv_ior hx hb dX10_fitsOf_89 ?_
                refine lv_topi (fun z3551 ez3551 => ?_)
                have h3552 : Iv 0 255 z3551 := iv_or 8 ez3551 iv2_4 (iv_mono (c := 0) (d := 128) h3550 (by decide) (by decide)) (by decide) (by decide) (by decide) (by decide)
                refine lv_istore_n (lv' := [(2, .int z3551), (5, .int v5_20), (4, .int v4_20), (3, .int v3_4), (0, .ref (a 0)), (1, .int p0)]) hx hb dX10_fitsOf_90 rfl hl (by decide) rfl (fun ls hl => ?_)
                obtain ⟨z3553, ez3553⟩ : ∃ z9 : Int32, z9 = v3_4 + Int32.ofInt 1 := ⟨_, rfl⟩
                have h3554 : Iv 1 8 z3553 := iv_inc ez3553 h3227 (by decide) (by decide) (by decide) (by decide) (by decide) (by decide)
                refine lv_iinc (v := z3553) (lv' := [(3, .int z3553), (2, .int z3551), (5, .int v5_20), (4, .int v4_20), (0, .ref (a 0)), (1, .int p0)]) hx hb dX10_fitsOf_91 hl (k := 3) rfl ez3553.symm (by decide) rfl (fun ls hl => ?_)
                refine lv_goto (tgt := 4) hx hb dX10_fitsOf_94 (by decide) ?_
                exact ih4 z3553 z3551 _ (iv_mono (c := 0) (d := 8) h3554 (by decide) (by decide)) h3552 (lv_sub hl [0, 1, 4, 5] rfl) (fu_s (lo := 0) (ti_inc ez3553 h3227 (by decide) (by decide) (by decide) (by decide)) (by decide) hm4)
            · skip
              have n3555 : v5_20.toInt < (st 18 p0.toNatClampNeg).toInt := (i_nle c3540)
              have h3556 : Iv 0 59 v5_20 := lt_l iv5_20 n3555 h3539 (by decide)
              have h3557 : Iv 1 60 (st 18 p0.toNatClampNeg) := lt_r iv5_20 n3555 h3539 (by decide)
              refine lv_iload hx hb dX10_fitsOf_31 (lv_at hl 1 rfl) ?_
              refine lv_if_eq (tgt := 76) hx hb dX10_fitsOf_33 (by decide) (fun c3558 => ?_) (fun c3558 => ?_)
              · skip
                have h3559 : Iv 0 0 v4_20 := eq_l c3558 (iv_c (by decide) : Iv 0 0 0)
                refine lv_iload_n hx hb dX10_fitsOf_76 rfl (lv_at hl 3 rfl) ?_
                refine lv_iload hx hb dX10_fitsOf_77 (lv_at hl 1 rfl) ?_
                refine lv_if_eq (tgt := 88) hx hb dX10_fitsOf_79 (by decide) (fun c3560 => ?_) (fun c3560 => ?_)
                · skip
                  refine lv_iconst (v := 0) hx hb dX10_fitsOf_88 (by decide) ?_
                  refine lv_ior hx hb dX10_fitsOf_89 ?_
                  refine lv_topi (fun z3561 ez3561 => ?_)
                  have h3562 : Iv 0 255 z3561 := iv_or 8 ez3561 iv2_4 (iv_c (by decide) : Iv 0 0 0) (by decide) (by decide) (by decide) (by decide)
                  refine lv_istore_n (lv' := [(2, .int z3561), (5, .int v5_20), (4, .int v4_20), (3, .int v3_4), (0, .ref (a 0)), (1, .int p0)]) hx hb dX10_fitsOf_90 rfl hl (by decide) rfl (fun ls hl => ?_)
                  obtain ⟨z3563, ez3563⟩ : ∃ z9 : Int32, z9 = v3_4 + Int32.ofInt 1 := ⟨_, rfl⟩
                  have h3564 : Iv 1 8 z3563 := iv_inc ez3563 h3227 (by decide) (by decide) (by decide) (by decide) (by decide) (by decide)
                  refine lv_iinc (v := z3563) (lv' := [(3, .int z3563), (2, .int z3561), (5, .int v5_20), (4, .int v4_20), (0, .ref (a 0)), (1, .int p0)]) hx hb dX10_fitsOf_91 hl (k := 3) rfl ez3563.symm (by decide) rfl (fun ls hl => ?_)
                  refine lv_goto (tgt := 4) hx hb dX10_fitsOf_94 (by decide) ?_
                  exact ih4 z3563 z3561 _ (iv_mono (c := 0) (d := 8) h3564 (by decide) (by decide)) h3562 (lv_sub hl [0, 1, 4, 5] rfl) (fu_s (lo := 0) (ti_inc ez3563 h3227 (by decide) (by decide) (by decide) (by decide)) (by decide) hm4)
                · skip
                  exact (iv_no (ne_lo h3559 c3560 (by decide) (Int.le_refl _)) (by decide)).elim
              · skip
                have h3565 : Iv 1 1 v4_20 := ne_lo iv4_20 c3558 (by decide) (by decide)
                refine lv_aload_n hx hb dX10_fitsOf_36 rfl (lv_at hl 4 rfl) ?_
                refine lv_iload_n hx hb dX10_fitsOf_37 rfl (lv_at hl 2 rfl) ?_
                refine lv_aload_n hx hb dX10_fitsOf_38 rfl (lv_at hl 4 rfl) ?_
                refine lv_iload_n hx hb dX10_fitsOf_39 rfl (lv_at hl 5 rfl) ?_
                refine lv_iload hx hb dX10_fitsOf_40 (lv_at hl 0 rfl) ?_
                refine ro_VL (As := [.int p0, .int v5_20]) (rest := [.int v3_4, .ref (a 0)]) S (m_X10_numberAt l D k a st sl  p0 v5_20 _  hB hp0 h3556 ) lkX10_303 ok_X10_numberAt ⟨rfl, rfl, Nat.le_of_ble_eq_true rfl, Nat.le_of_ble_eq_true rfl⟩ (pw_V (ci := 10) (q0 := 0) hK hN rfl mw_0 hP hD0) rfl hl.1 rfl (Nat.le_of_ble_eq_true rfl) ⟨Nat.zero_le _, Nat.zero_le _⟩ dX10_fitsOf_42 (fun r3566 er3566 => ?_)
                subst er3566
                refine lv_l2i hx hb dX10_fitsOf_45 rfl ?_
                refine lv_topi (fun z3567 ez3567 => ?_)
                refine ro_V (As := [.int v3_4, .int z3567]) (rest := []) S (m_X10_aloneIn l D k a st sl  v3_4 z3567 _  hB  hw) lkX10_358 ok_X10_aloneIn ⟨rfl, rfl, Nat.le_of_ble_eq_true rfl, Nat.le_of_ble_eq_true rfl⟩ (pw_V (ci := 10) (q0 := 0) hK hN rfl mw_0 hP hD0) rfl hl.1 rfl (Nat.le_of_ble_eq_true rfl) ⟨Nat.zero_le _, Nat.zero_le _⟩ dX10_fitsOf_46 (fun r3568 er3568 => ?_)
                have h3569 : Iv (-1) 7 r3568 := er3568.1
                refine lv_i2l hx hb dX10_fitsOf_49 rfl ?_
                refine lv_aload_n hx hb dX10_fitsOf_50 rfl (lv_at hl 4 rfl) ?_
                refine lv_iload_n hx hb dX10_fitsOf_51 rfl (lv_at hl 5 rfl) ?_
                refine lv_iload hx hb dX10_fitsOf_52 (lv_at hl 0 rfl) ?_
                refine lv_iconst (v := 1) hx hb dX10_fitsOf_54 (by decide) ?_
                refine lv_iadd hx hb dX10_fitsOf_55 ?_
                refine lv_topi (fun z3570 ez3570 => ?_)
                have h3571 : Iv 1 60 z3570 := iv_add ez3570 h3556 (iv_c (by decide) : Iv 1 1 1) (by decide) (by decide) (by decide) (by decide)
                have h3572 : Iv 1 59 z3570 := (by have y1 := n3555; have y2 := h2; have y3 := rel20_0; have y4 := ti_add ez3570 h3556 (iv_c (by decide) : Iv 1 1 1) (by decide) (by decide); have y5 := (rm_18 hB (j := p0.toNatClampNeg) (iv_cl hp0 (by decide) (by decide))).2; obtain ⟨y6, y7⟩ := id (h3556); have z9 : (1 : Int32).toInt = 1 := rfl; exact ⟨by omega, by omega⟩)
                have h3573 : Iv 0 58 v5_20 := (by have e9 := ti_add ez3570 h3556 (iv_c (by decide) : Iv 1 1 1) (by decide) (by decide); obtain ⟨y1, y2⟩ := id (h3572); obtain ⟨y3, y4⟩ := id (h3556); have y5 : (1 : Int32).toInt = 1 := rfl; exact ⟨by omega, by omega⟩)
                refine ro_VL (As := [.int p0, .int z3570]) (rest := [.long (r3568.toInt64)]) S (m_X10_numberAt l D k a st sl  p0 z3570 _  hB hp0 (iv_mono (c := 0) (d := 59) h3572 (by decide) (by decide)) ) lkX10_303 ok_X10_numberAt ⟨rfl, rfl, Nat.le_of_ble_eq_true rfl, Nat.le_of_ble_eq_true rfl⟩ (pw_V (ci := 10) (q0 := 0) hK hN rfl mw_0 hP hD0) rfl hl.1 rfl (Nat.le_of_ble_eq_true rfl) ⟨Nat.zero_le _, Nat.zero_le _⟩ dX10_fitsOf_56 (fun r3574 er3574 => ?_)
                subst er3574
                refine W.lcmp hx hb dX10_fitsOf_59 ?_
                refine lv_topi (fun z3575 ez3575 => ?_)
                refine lv_if_ne (tgt := 67) hx hb dX10_fitsOf_60 (by decide) (fun c3576 => ?_) (fun c3576 => ?_)
                · skip
                  have n3577 := lc_ne ez3575 c3576
                  refine lv_iconst (v := 0) hx hb dX10_fitsOf_67 (by decide) ?_
                  refine lv_istore (lv' := [(4, .int 0), (5, .int v5_20), (3, .int v3_4), (2, .int v2_4), (0, .ref (a 0)), (1, .int p0)]) hx hb dX10_fitsOf_68 hl (by decide) rfl (fun ls hl => ?_)
                  obtain ⟨z3578, ez3578⟩ : ∃ z9 : Int32, z9 = v5_20 + Int32.ofInt 2 := ⟨_, rfl⟩
                  have h3579 : Iv 2 60 z3578 := iv_inc ez3578 h3573 (by decide) (by decide) (by decide) (by decide) (by decide) (by decide)
                  refine lv_iinc (v := z3578) (lv' := [(5, .int z3578), (4, .int 0), (3, .int v3_4), (2, .int v2_4), (0, .ref (a 0)), (1, .int p0)]) hx hb dX10_fitsOf_70 hl (k := 1) rfl ez3578.symm (by decide) rfl (fun ls hl => ?_)
                  refine lv_goto (tgt := 20) hx hb dX10_fitsOf_73 (by decide) ?_
                  exact ih20 z3578 0 _ (iv_mono (c := 0) (d := 61) h3579 (by decide) (by decide)) (iv_mono (c := 0) (d := 1) (iv_c (by decide) : Iv 0 0 0) (by decide) (by decide)) (by have y1 := ti_inc ez3578 h3573 (by decide) (by decide) (by decide) (by decide); have y2 := rel20_0; omega) (lv_sub hl [0, 1, 2, 3, 4, 5] rfl) (fu_s (lo := 0) (ti_inc ez3578 h3573 (by decide) (by decide) (by decide) (by decide)) (by decide) hm20)
                · skip
                  have n3580 := lc_eq ez3575 c3576
                  refine lv_iconst (v := 1) hx hb dX10_fitsOf_63 (by decide) ?_
                  refine lv_goto (tgt := 68) hx hb dX10_fitsOf_64 (by decide) ?_
                  refine lv_istore (lv' := [(4, .int 1), (5, .int v5_20), (3, .int v3_4), (2, .int v2_4), (0, .ref (a 0)), (1, .int p0)]) hx hb dX10_fitsOf_68 hl (by decide) rfl (fun ls hl => ?_)
                  obtain ⟨z3581, ez3581⟩ : ∃ z9 : Int32, z9 = v5_20 + Int32.ofInt 2 := ⟨_, rfl⟩
                  have h3582 : Iv 2 60 z3581 := iv_inc ez3581 h3573 (by decide) (by decide) (by decide) (by decide) (by decide) (by decide)
                  refine lv_iinc (v := z3581) (lv' := [(5, .int z3581), (4, .int 1), (3, .int v3_4), (2, .int v2_4), (0, .ref (a 0)), (1, .int p0)]) hx hb dX10_fitsOf_70 hl (k := 1) rfl ez3581.symm (by decide) rfl (fun ls hl => ?_)
                  refine lv_goto (tgt := 20) hx hb dX10_fitsOf_73 (by decide) ?_
                  exact ih20 z3581 1 _ (iv_mono (c := 0) (d := 61) h3582 (by decide) (by decide)) (iv_mono (c := 0) (d := 1) (iv_c (by decide) : Iv 1 1 1) (by decide) (by decide)) (by have y1 := ti_inc ez3581 h3573 (by decide) (by decide) (by decide) (by decide); have y2 := rel20_0; omega) (lv_sub hl [0, 1, 2, 3, 4, 5] rfl) (fu_s (lo := 0) (ti_inc ez3581 h3573 (by decide) (by decide) (by decide) (by decide)) (by decide) hm20)
        exact lp20 62 0 1 _ (iv_mono (c := 0) (d := 61) (iv_c (by decide) : Iv 0 0 0) (by decide) (by decide)) (iv_mono (c := 0) (d := 1) (iv_c (by decide) : Iv 1 1 1) (by decide) (by decide)) (by decide) (lv_sub hl [0, 1, 2, 3, 4, 5] rfl) (fu_i (iv_mono (c := 0) (d := 61) (iv_c (by decide) : Iv 0 0 0) (by decide) (by decide)) (by decide))
  exact lp4 9 0 0 _ (iv_mono (c := 0) (d := 8) (iv_c (by decide) : Iv 0 0 0) (by decide) (by decide)) (iv_mono (c := 0) (d := 255) (iv_c (by decide) : Iv 0 0 0) (by decide) (by decide)) (lv_sub hl [0, 1, 2, 3] rfl) (fu_i (iv_mono (c := 0) (d := 8) (iv_c (by decide) : Iv 0 0 0) (by decide) (by decide)) (by decide))
set_option maxHeartbeats 4000000 in
set_option maxRecDepth 100000 in
theorem m_X10_fits (l : Launch) (D : va_G) (k : Nat → ClassId) (a : Nat → Nat) (st : CT) (sl : CL) (p0 : Int32) (sz : Nat) (hB : MB st)  (hw : WOK (st 1)) : Met l yX10_fits (.code yX10_fits cX10_fits 3 (some .int) :: TB) (rmw 9 0 0) (va_Pc [.ref (a 0), .int p0] (PW D k sz (MWS k a st sl))) (QI D (S := CT) (fun r u => MB u ∧ FR [7, 9, 8, 10, 11] st u ∧ (Iv (-6) 255 r ∧ (True))) (fun u => MWS k a u sl) (fun _ => []) (MWS k a st sl) sz) 0 0 (va_A (MWS k a st sl) sz) := by
  refine Met.ofW (cc := cX10_fits) (maxL := 3) (ret := (some .int)) (by decide) rfl ?_
  intro p e s m args below meth c s₁ B hml hv
  obtain ⟨rfl, hsz, hP, hK, hD0, hN⟩ := hv
  have hx := B.exec
  have hb := B.bytes
  have hr := B.returns
  have hT : ∀ w9 ∈ TB, w9.before ([.ref (a 0), .int p0] : List Value).toArray s = true := fun w9 h => atoms_spec (ws := .code yX10_fits cX10_fits 3 (some .int) :: TB) B.pre w9 (List.mem_cons_of_mem _ h)
  have hown : s.vm.findClass RX10 = some m.cls := findClass_of_methodNamed B.named
  have S : CallFix p m c cX10_fits 3 s _ TB RX10 := ⟨hx, hb, hml, hown, hT⟩
  subst hsz
  have hD := hD0.self (sz := s.heap.size)
  generalize hAe : va_A (MWS k a st sl) s.heap.size = A at hD ⊢
  have hA : ∀ q : Nat, s.heap.size ≤ q → A q := fun q h => by rw [← hAe]; exact Or.inr h
  have hS : va_S A s.heap s.heap [] := va_S.rf
  have hl := lv_entry ([.ref (a 0), .int p0]) (n := 3) (Nat.le_of_ble_eq_true rfl)
  rw [lg_entry_eq]
  generalize (lg_sl ([.ref (a 0), .int p0]) ++ List.replicate (3 - (lg_sl ([.ref (a 0), .int p0])).length) Slot.unset).toArray = ls at hl ⊢
  have hl : lv_has ls 3 [(0, .ref (a 0)), (1, .int p0)] := hl
  refine nameQ (fun Q hQ => ?_)
  refine lv_aload_n hx hb dX10_fits_0 rfl (lv_at hl 0 rfl) ?_
  refine lv_iload_n hx hb dX10_fits_1 rfl (lv_at hl 1 rfl) ?_
  refine ca_i hP hD hS hA (fun hDc => run_V (mc := 0) (ms := 0) (As := [.int p0]) (rest := []) S (m_X10_asksSeen l D k a st sl  p0 _  hB  hw) lkX10_361 ok_X10_asksSeen ⟨rfl, rfl, Nat.le_of_ble_eq_true rfl, Nat.le_of_ble_eq_true rfl⟩ (pw_V (ci := 10) (q0 := 0) hK hN rfl mw_0 hP hDc) rfl hl.1 rfl (Nat.le_of_ble_eq_true rfl) ⟨Nat.zero_le _, Nat.zero_le _⟩ dX10_fits_2) (fun r2 s1 H9 locs9 hs1 hP9 hD9 hS9 => ?_)
  clear hP hD hS
  have hS := hS9
  have hP := hP9
  have hD := hD9
  clear hP9 hD9 hS9
  obtain ⟨hBs1, gs1, fs1⟩ := hs1
  have hFs1 : FR [7, 9, 8, 10, 11] st s1 := fr_ca fr_rf gs1 (sub_1 (List.mem_of_getElem? (i := 0) rfl) (sub_1 (List.mem_of_getElem? (i := 1) rfl) (sub_1 (List.mem_of_getElem? (i := 2) rfl) (sub_1 (List.mem_of_getElem? (i := 3) rfl) (sub_1 (List.mem_of_getElem? (i := 4) rfl) sub_0)))))
  have h3 : Iv (-6) 0 r2 := fs1.1
  have k4 := fs1.2
  refine lv_istore_n (lv' := [(2, .int r2), (0, .ref (a 0)), (1, .int p0)]) hx hb dX10_fits_5 rfl hl (by decide) rfl (fun ls hl => ?_)
  refine lv_iload_n hx hb dX10_fits_6 rfl (lv_at hl 0 rfl) ?_
  refine lv_if_ge (tgt := 14) hx hb dX10_fits_7 (by decide) (fun c5 => ?_) (fun c5 => ?_)
  · skip
    have n6 : (0 : Int32).toInt ≤ r2.toInt := (i_le c5)
    have h7 : Iv 0 0 r2 := le_r (iv_c (by decide) : Iv 0 0 0) n6 h3 (by decide)
    have k8 := k4 (iv_eq 0 h7 rfl)
    have h9 : Iv 0 3 p0 := k8.1
    refine lv_aload_n hx hb dX10_fits_14 rfl (lv_at hl 1 rfl) ?_
    refine lv_iload_n hx hb dX10_fits_15 rfl (lv_at hl 2 rfl) ?_
    refine ro_V (As := [.int p0]) (rest := []) S (m_X10_fitsOf l D k a s1 sl  p0 _  hBs1 h9 (wok_of (hFs1 1 (nm_1 (by decide) (nm_1 (by decide) (nm_1 (by decide) (nm_1 (by decide) (nm_1 (by decide) nm_0)))))) hw) (by rw [(hFs1 18 (nm_1 (by decide) (nm_1 (by decide) (nm_1 (by decide) (nm_1 (by decide) (nm_1 (by decide) nm_0))))))]; exact k8.2)) lkX10_364 ok_X10_fitsOf ⟨rfl, rfl, Nat.le_of_ble_eq_true rfl, Nat.le_of_ble_eq_true rfl⟩ (pw_V (ci := 10) (q0 := 0) hK hN rfl mw_0 hP (hD.weaken (fun _ _ _ _ => trivial))) rfl hl.1 rfl (Nat.le_of_ble_eq_true rfl) ⟨Nat.zero_le _, Nat.zero_le _⟩ dX10_fits_16 (fun r10 er10 => ?_)
    have h11 : Iv 0 255 r10 := er10.1
    rw [hQ]
    exact W.iret (v := r10) hx hb hr (fun t ht hW => ⟨⟨r10, s1, rfl, ⟨hBs1, hFs1, ⟨(iv_mono (c := (-6)) (d := 255) h11 (by decide) (by decide)), trivial⟩⟩, by rw [ht]; exact hP, va_K.moved hW.alike (hK.sub (tys' := []) [] rfl), by rw [hAe]; exact hD⟩, by rw [hAe]; exact hS.F ht⟩) hS.2.2 dX10_fits_19
  · skip
    have n12 : r2.toInt < (0 : Int32).toInt := (i_nle c5)
    have h13 : Iv (-6) (-1) r2 := lt_l h3 n12 (iv_c (by decide) : Iv 0 0 0) (by decide)
    refine lv_iload_n hx hb dX10_fits_10 rfl (lv_at hl 0 rfl) ?_
    refine lv_goto (tgt := 19) hx hb dX10_fits_11 (by decide) ?_
    rw [hQ]
    exact W.iret (v := r2) hx hb hr (fun t ht hW => ⟨⟨r2, s1, rfl, ⟨hBs1, hFs1, ⟨(iv_mono (c := (-6)) (d := 255) h13 (by decide) (by decide)), trivial⟩⟩, by rw [ht]; exact hP, va_K.moved hW.alike (hK.sub (tys' := []) [] rfl), by rw [hAe]; exact hD⟩, by rw [hAe]; exact hS.F ht⟩) hS.2.2 dX10_fits_19
set_option maxHeartbeats 4000000 in
set_option maxRecDepth 100000 in
theorem m_X10_worstIn (l : Launch) (D : va_G) (k : Nat → ClassId) (a : Nat → Nat) (st : CT) (sl : CL) (p0 : Int32) (p1 : Int32) (sz : Nat) (hB : MB st)  (hw : WOK (st 1)) : Met l yX10_worstIn (.code yX10_worstIn cX10_worstIn 7 (some .int) :: TB) (rmk 5) (va_Pc [.ref (a 0), .int p0, .int p1] (PW D k sz (MWS k a st sl))) (vp_Si (fun r => Iv 0 2147483647 r ∧ (True))) 0 0 (fun _ => False) := by
  refine Met.ofW (cc := cX10_worstIn) (maxL := 7) (ret := (some .int)) (by decide) rfl ?_
  intro p e s m args below meth c s₁ B hml hv
  obtain ⟨rfl, hsz, hP, hK, hD0, hN⟩ := hv
  have hx := B.exec
  have hb := B.bytes
  have hr := B.returns
  have hT : ∀ w9 ∈ TB, w9.before ([.ref (a 0), .int p0, .int p1] : List Value).toArray s = true := fun w9 h => atoms_spec (ws := .code yX10_worstIn cX10_worstIn 7 (some .int) :: TB) B.pre w9 (List.mem_cons_of_mem _ h)
  have hown : s.vm.findClass RX10 = some m.cls := findClass_of_methodNamed B.named
  have S : CallFix p m c cX10_worstIn 7 s _ TB RX10 := ⟨hx, hb, hml, hown, hT⟩
  subst hsz
  have hl := lv_entry ([.ref (a 0), .int p0, .int p1]) (n := 7) (Nat.le_of_ble_eq_true rfl)
  rw [lg_entry_eq]
  generalize (lg_sl ([.ref (a 0), .int p0, .int p1]) ++ List.replicate (7 - (lg_sl ([.ref (a 0), .int p0, .int p1])).length) Slot.unset).toArray = ls at hl ⊢
  have hl : lv_has ls 7 [(0, .ref (a 0)), (1, .int p0), (2, .int p1)] := hl
  refine nameQ (fun Q hQ => ?_)
  refine lv_iconst (v := 0) hx hb dX10_worstIn_0 (by decide) ?_
  refine lv_istore_n (lv' := [(3, .int 0), (0, .ref (a 0)), (1, .int p0), (2, .int p1)]) hx hb dX10_worstIn_1 rfl hl (by decide) rfl (fun ls hl => ?_)
  refine lv_iconst (v := (-1)) hx hb dX10_worstIn_2 (by decide) ?_
  refine lv_istore (lv' := [(4, .int (-1)), (3, .int 0), (0, .ref (a 0)), (1, .int p0), (2, .int p1)]) hx hb dX10_worstIn_3 hl (by decide) rfl (fun ls hl => ?_)
  have lp5 : ∀ (n9_5 : Nat) (v4_5 : Int32) (v3_5 : Int32) (ls : Array Slot), Iv (-1) 8 v4_5 → Iv 0 2147483647 v3_5 → lv_has ls 7 [(4, .int v4_5), (3, .int v3_5), (0, .ref (a 0)), (1, .int p0), (2, .int p1)] → (8 : Int) - v4_5.toInt < (n9_5 : Int) → W p l e (rmk 5) s m ([.ref (a 0), .int p0, .int p1] : List Value).toArray below meth c s.heap [] 0 0 Q (F0 m 5 ls []) := by
    clear hl
    intro n9_5
    induction n9_5 with
    | zero =>
      intro v4_5 v3_5 ls iv4_5 iv3_5 hl hm5
      exact (fu_0 iv4_5 hm5).elim
    | succ n9_5 ih5 =>
      intro v4_5 v3_5 ls iv4_5 iv3_5 hl hm5
      refine lv_iload hx hb dX10_worstIn_5 (lv_at hl 0 rfl) ?_
      refine lv_aload_n hx hb dX10_worstIn_7 rfl (lv_at hl 2 rfl) ?_
      refine va_get (D := D) (ci := 10) (v := .ref (a 1)) (C := RX10) (T := TX10) (N := 38) hx hb hT in_X10 hown hK hP 0 mw_0 rfl 1 (by decide) (hT _ t1263) (fun _ h9 => h9) rfl dX10_worstIn_8 ?_
      refine lv_iconst (v := 2) hx hb dX10_worstIn_11 (by decide) ?_
      refine va_iald hx hb hK hP 1 0 mw_1 rfl (by unfold vp_in; decide) dX10_worstIn_12 ?_
      refine k_top (y := (st 1 2)) rfl ?_
      have h9759 : Iv 0 8 (st 1 2) := (tok_at (hw).1 2 0 8 (by decide) (by decide) (by decide))
      refine lv_icmp_ge (tgt := 84) hx hb dX10_worstIn_13 (by decide) (fun c9760 => ?_) (fun c9760 => ?_)
      · skip
        have n9761 : (st 1 2).toInt ≤ v4_5.toInt := (i_le c9760)
        have h9762 : Iv 0 8 v4_5 := le_r h9759 n9761 iv4_5 (by decide)
        refine lv_iload_n hx hb dX10_worstIn_84 rfl (lv_at hl 1 rfl) ?_
        rw [hQ]
        exact W.iret (v := v3_5) hx hb hr (fun t ht hW => ⟨v3_5, rfl, ⟨iv3_5, trivial⟩, ht⟩) (fun _ h9 => by cases h9) dX10_worstIn_85
      · skip
        have n9763 : v4_5.toInt < (st 1 2).toInt := (i_nle c9760)
        have h9764 : Iv (-1) 7 v4_5 := lt_l iv4_5 n9763 h9759 (by decide)
        refine lv_iconst (v := 0) hx hb dX10_worstIn_16 (by decide) ?_
        refine lv_istore (lv' := [(5, .int 0), (4, .int v4_5), (3, .int v3_5), (0, .ref (a 0)), (1, .int p0), (2, .int p1)]) hx hb dX10_worstIn_17 hl (by decide) rfl (fun ls hl => ?_)
        refine lv_iconst (v := 0) hx hb dX10_worstIn_19 (by decide) ?_
        refine lv_istore (lv' := [(6, .int 0), (5, .int 0), (4, .int v4_5), (3, .int v3_5), (0, .ref (a 0)), (1, .int p0), (2, .int p1)]) hx hb dX10_worstIn_20 hl (by decide) rfl (fun ls hl => ?_)
        have lp22 : ∀ (n9_22 : Nat) (v6_22 : Int32) (v5_22 : Int32) (ls : Array Slot), Iv 0 8 v6_22 → lv_has ls 7 [(6, .int v6_22), (5, .int v5_22), (4, .int v4_5), (3, .int v3_5), (0, .ref (a 0)), (1, .int p0), (2, .int p1)] → (8 : Int) - v6_22.toInt < (n9_22 : Int) → W p l e (rmk 5) s m ([.ref (a 0), .int p0, .int p1] : List Value).toArray below meth c s.heap [] 0 0 Q (F0 m 22 ls []) := by
          clear hl
          intro n9_22
          induction n9_22 with
          | zero =>
            intro v6_22 v5_22 ls iv6_22 hl hm22
            exact (fu_0 iv6_22 hm22).elim
          | succ n9_22 ih22 =>
            intro v6_22 v5_22 ls iv6_22 hl hm22
            refine lv_iload hx hb dX10_worstIn_22 (lv_at hl 0 rfl) ?_
            refine lv_aload_n hx hb dX10_worstIn_24 rfl (lv_at hl 4 rfl) ?_
            refine va_get (D := D) (ci := 10) (v := .ref (a 1)) (C := RX10) (T := TX10) (N := 38) hx hb hT in_X10 hown hK hP 0 mw_0 rfl 1 (by decide) (hT _ t1263) (fun _ h9 => h9) rfl dX10_worstIn_25 ?_
            refine lv_iconst (v := 3) hx hb dX10_worstIn_28 (by decide) ?_
            refine va_iald hx hb hK hP 1 0 mw_1 rfl (by unfold vp_in; decide) dX10_worstIn_29 ?_
            refine k_top (y := (st 1 3)) rfl ?_
            have h10679 : Iv 0 8 (st 1 3) := (tok_at (hw).1 3 0 8 (by decide) (by decide) (by decide))
            refine lv_icmp_ge (tgt := 71) hx hb dX10_worstIn_30 (by decide) (fun c10680 => ?_) (fun c10680 => ?_)
            · skip
              have n10681 : (st 1 3).toInt ≤ v6_22.toInt := (i_le c10680)
              refine lv_iload_n hx hb dX10_worstIn_71 rfl (lv_at hl 3 rfl) ?_
              refine lv_iload hx hb dX10_worstIn_72 (lv_at hl 1 rfl) ?_
              refine va_mmax hx hb (hml.trans hl.1.symm) hown (hT _ t1800) (hT _ t1070) (hT _ t116) (hT _ t1071) (Nat.le_of_ble_eq_true rfl) (Nat.le_of_ble_eq_true rfl) (Nat.zero_le _) (Nat.zero_le _) dX10_worstIn_74 ?_
              refine lv_topi (fun z10682 ez10682 => ?_)
              have h10683 : Iv 0 2147483647 z10682 := iv_max ez10682 iv3_5 (iv_full v5_22) (by decide) (by decide) (by decide)
              refine lv_istore_n (lv' := [(3, .int z10682), (6, .int v6_22), (5, .int v5_22), (4, .int v4_5), (0, .ref (a 0)), (1, .int p0), (2, .int p1)]) hx hb dX10_worstIn_77 rfl hl (by decide) rfl (fun ls hl => ?_)
              obtain ⟨z10684, ez10684⟩ : ∃ z9 : Int32, z9 = v4_5 + Int32.ofInt 1 := ⟨_, rfl⟩
              have h10685 : Iv 0 8 z10684 := iv_inc ez10684 h9764 (by decide) (by decide) (by decide) (by decide) (by decide) (by decide)
              refine lv_iinc (v := z10684) (lv' := [(4, .int z10684), (3, .int z10682), (6, .int v6_22), (5, .int v5_22), (0, .ref (a 0)), (1, .int p0), (2, .int p1)]) hx hb dX10_worstIn_78 hl (k := 3) rfl ez10684.symm (by decide) rfl (fun ls hl => ?_)
              refine lv_goto (tgt := 5) hx hb dX10_worstIn_81 (by decide) ?_
              exact ih5 z10684 z10682 _ (iv_mono (c := (-1)) (d := 8) h10685 (by decide) (by decide)) h10683 (lv_sub hl [0, 1, 4, 5, 6] rfl) (fu_s (lo := 0) (ti_inc ez10684 h9764 (by decide) (by decide) (by decide) (by decide)) (by decide) hm5)
            · skip
              have n10686 : v6_22.toInt < (st 1 3).toInt := (i_nle c10680)
              have h10687 : Iv 0 7 v6_22 := lt_l iv6_22 n10686 h10679 (by decide)
              have h10688 : Iv 1 8 (st 1 3) := lt_r iv6_22 n10686 h10679 (by decide)
              refine lv_iload hx hb dX10_worstIn_33 (lv_at hl 1 rfl) ?_
              refine lv_iload_n hx hb dX10_worstIn_35 rfl (lv_at hl 5 rfl) ?_
              refine lv_iload hx hb dX10_worstIn_36 (lv_at hl 0 rfl) ?_
              refine ro_S (As := [.int p0, .int v6_22]) (rest := [.int v5_22]) S (m_X10_bit l D k a st sl  p0 v6_22 _  hB  ) lkX10_193 ok_X10_bit ⟨rfl, rfl, Nat.le_of_ble_eq_true rfl, Nat.le_of_ble_eq_true rfl⟩ (pw_S hK hN hP hD0) rfl hl.1 rfl (Nat.le_of_ble_eq_true rfl) ⟨Nat.zero_le _, Nat.zero_le _⟩ dX10_worstIn_38 (fun r10689 er10689 => ?_)
              have h10690 : Iv 0 1 r10689 := er10689.1
              have k10691 := er10689.2
              refine lv_iconst (v := 1) hx hb dX10_worstIn_41 (by decide) ?_
              refine lv_icmp_ne (tgt := 61) hx hb dX10_worstIn_42 (by decide) (fun c10692 => ?_) (fun c10692 => ?_)
              · skip
                have h10693 : Iv 0 0 r10689 := ne_hi h10690 (show ¬ r10689 = 1 from c10692) (by decide) (by decide)
                refine lv_iconst (v := 0) hx hb dX10_worstIn_61 (by decide) ?_
                refine lv_iadd hx hb dX10_worstIn_62 ?_
                refine lv_topi (fun z10694 ez10694 => ?_)
                refine lv_istore (lv' := [(5, .int z10694), (6, .int v6_22), (4, .int v4_5), (3, .int v3_5), (0, .ref (a 0)), (1, .int p0), (2, .int p1)]) hx hb dX10_worstIn_63 hl (by decide) rfl (fun ls hl => ?_)
                obtain ⟨z10695, ez10695⟩ : ∃ z9 : Int32, z9 = v6_22 + Int32.ofInt 1 := ⟨_, rfl⟩
                have h10696 : Iv 1 8 z10695 := iv_inc ez10695 h10687 (by decide) (by decide) (by decide) (by decide) (by decide) (by decide)
                refine lv_iinc (v := z10695) (lv' := [(6, .int z10695), (5, .int z10694), (4, .int v4_5), (3, .int v3_5), (0, .ref (a 0)), (1, .int p0), (2, .int p1)]) hx hb dX10_worstIn_65 hl (k := 1) rfl ez10695.symm (by decide) rfl (fun ls hl => ?_)
                refine lv_goto (tgt := 22) hx hb dX10_worstIn_68 (by decide) ?_
                exact ih22 z10695 z10694 _ (iv_mono (c := 0) (d := 8) h10696 (by decide) (by decide)) (lv_sub hl [0, 1, 2, 3, 4, 5, 6] rfl) (fu_s (lo := 0) (ti_inc ez10695 h10687 (by decide) (by decide) (by decide) (by decide)) (by decide) hm22)
              · skip
                have h10697 : Iv 1 1 r10689 := eq_l c10692 (iv_c (by decide) : Iv 1 1 1)
                refine lv_aload_n hx hb dX10_worstIn_45 rfl (lv_at hl 4 rfl) ?_
                refine lv_iload hx hb dX10_worstIn_46 (lv_at hl 0 rfl) ?_
                refine lv_iload_n hx hb dX10_worstIn_48 rfl (lv_at hl 6 rfl) ?_
                refine ro_V (As := [.int v6_22, .int p1]) (rest := [.int v5_22]) S (m_X10_aloneIn l D k a st sl  v6_22 p1 _  hB  hw) lkX10_358 ok_X10_aloneIn ⟨rfl, rfl, Nat.le_of_ble_eq_true rfl, Nat.le_of_ble_eq_true rfl⟩ (pw_V (ci := 10) (q0 := 0) hK hN rfl mw_0 hP hD0) rfl hl.1 rfl (Nat.le_of_ble_eq_true rfl) ⟨Nat.zero_le _, Nat.zero_le _⟩ dX10_worstIn_49 (fun r10698 er10698 => ?_)
                have h10699 : Iv (-1) 7 r10698 := er10698.1
                refine lv_iload hx hb dX10_worstIn_52 (lv_at hl 2 rfl) ?_
                refine lv_icmp_ne (tgt := 61) hx hb dX10_worstIn_54 (by decide) (fun c10700 => ?_) (fun c10700 => ?_)
                · skip
                  refine lv_iconst (v := 0) hx hb dX10_worstIn_61 (by decide) ?_
                  refine lv_iadd hx hb dX10_worstIn_62 ?_
                  refine lv_topi (fun z10701 ez10701 => ?_)
                  refine lv_istore (lv' := [(5, .int z10701), (6, .int v6_22), (4, .int v4_5), (3, .int v3_5), (0, .ref (a 0)), (1, .int p0), (2, .int p1)]) hx hb dX10_worstIn_63 hl (by decide) rfl (fun ls hl => ?_)
                  obtain ⟨z10702, ez10702⟩ : ∃ z9 : Int32, z9 = v6_22 + Int32.ofInt 1 := ⟨_, rfl⟩
                  have h10703 : Iv 1 8 z10702 := iv_inc ez10702 h10687 (by decide) (by decide) (by decide) (by decide) (by decide) (by decide)
                  refine lv_iinc (v := z10702) (lv' := [(6, .int z10702), (5, .int z10701), (4, .int v4_5), (3, .int v3_5), (0, .ref (a 0)), (1, .int p0), (2, .int p1)]) hx hb dX10_worstIn_65 hl (k := 1) rfl ez10702.symm (by decide) rfl (fun ls hl => ?_)
                  refine lv_goto (tgt := 22) hx hb dX10_worstIn_68 (by decide) ?_
                  exact ih22 z10702 z10701 _ (iv_mono (c := 0) (d := 8) h10703 (by decide) (by decide)) (lv_sub hl [0, 1, 2, 3, 4, 5, 6] rfl) (fu_s (lo := 0) (ti_inc ez10702 h10687 (by decide) (by decide) (by decide) (by decide)) (by decide) hm22)
                · skip
                  refine lv_iconst (v := 1) hx hb dX10_worstIn_57 (by decide) ?_
                  refine lv_goto (tgt := 62) hx hb dX10_worstIn_58 (by decide) ?_
                  refine lv_iadd hx hb dX10_worstIn_62 ?_
                  refine lv_topi (fun z10704 ez10704 => ?_)
                  refine lv_istore (lv' := [(5, .int z10704), (6, .int v6_22), (4, .int v4_5), (3, .int v3_5), (0, .ref (a 0)), (1, .int p0), (2, .int p1)]) hx hb dX10_worstIn_63 hl (by decide) rfl (fun ls hl => ?_)
                  obtain ⟨z10705, ez10705⟩ : ∃ z9 : Int32, z9 = v6_22 + Int32.ofInt 1 := ⟨_, rfl⟩
                  have h10706 : Iv 1 8 z10705 := iv_inc ez10705 h10687 (by decide) (by decide) (by decide) (by decide) (by decide) (by decide)
                  refine lv_iinc (v := z10705) (lv' := [(6, .int z10705), (5, .int z10704), (4, .int v4_5), (3, .int v3_5), (0, .ref (a 0)), (1, .int p0), (2, .int p1)]) hx hb dX10_worstIn_65 hl (k := 1) rfl ez10705.symm (by decide) rfl (fun ls hl => ?_)
                  refine lv_goto (tgt := 22) hx hb dX10_worstIn_68 (by decide) ?_
                  exact ih22 z10705 z10704 _ (iv_mono (c := 0) (d := 8) h10706 (by decide) (by decide)) (lv_sub hl [0, 1, 2, 3, 4, 5, 6] rfl) (fu_s (lo := 0) (ti_inc ez10705 h10687 (by decide) (by decide) (by decide) (by decide)) (by decide) hm22)
        exact lp22 9 0 0 _ (iv_mono (c := 0) (d := 8) (iv_c (by decide) : Iv 0 0 0) (by decide) (by decide)) (lv_sub hl [0, 1, 2, 3, 4, 5, 6] rfl) (fu_i (iv_mono (c := 0) (d := 8) (iv_c (by decide) : Iv 0 0 0) (by decide) (by decide)) (by decide))
  exact lp5 10 (-1) 0 _ (iv_mono (c := (-1)) (d := 8) (iv_c (by decide) : Iv (-1) (-1) (-1)) (by decide) (by decide)) (iv_mono (c := 0) (d := 2147483647) (iv_c (by decide) : Iv 0 0 0) (by decide) (by decide)) (lv_sub hl [0, 1, 2, 3, 4] rfl) (fu_i (iv_mono (c := (-1)) (d := 8) (iv_c (by decide) : Iv (-1) (-1) (-1)) (by decide) (by decide)) (by decide))
set_option maxHeartbeats 4000000 in
set_option maxRecDepth 100000 in
theorem m_X10_askOf (l : Launch) (D : va_G) (k : Nat → ClassId) (a : Nat → Nat) (st : CT) (sl : CL) (p0 : Int32) (sz : Nat) (hB : MB st) (hp0 : Iv 0 3 p0) (hw : WOK (st 1)) (h2 : (st 18 p0.toNatClampNeg).toInt % 2 = 0) : Met l yX10_askOf (.code yX10_askOf cX10_askOf 6 (some .int) :: TB) (rmw 6 0 0) (va_Pc [.ref (a 0), .int p0] (PW D k sz (MWS k a st sl))) (QI D (S := CT) (fun r u => MB u ∧ FR [0] st u ∧ u 0 0 = st 0 0 ∧ u 0 5 = st 0 5 ∧ u 0 7 = st 0 7 ∧ u 0 8 = st 0 8 ∧ u 0 9 = st 0 9 ∧ u 0 10 = st 0 10 ∧ u 0 11 = st 0 11 ∧ u 0 12 = st 0 12 ∧ u 0 13 = st 0 13 ∧ u 0 20 = st 0 20 ∧ u 0 21 = st 0 21 ∧ u 0 22 = st 0 22 ∧ u 0 26 = st 0 26 ∧ u 0 27 = st 0 27 ∧ u 0 29 = st 0 29 ∧ u 0 33 = st 0 33 ∧ (Iv (-1) 5 r ∧ (True))) (fun u => MWS k a u sl) (fun _ => []) (MWS k a st sl) sz) 0 0 (va_A (MWS k a st sl) sz) := by
  refine Met.ofW (cc := cX10_askOf) (maxL := 6) (ret := (some .int)) (by decide) rfl ?_
  intro p e s m args below meth c s₁ B hml hv
  obtain ⟨rfl, hsz, hP, hK, hD0, hN⟩ := hv
  have hx := B.exec
  have hb := B.bytes
  have hr := B.returns
  have hT : ∀ w9 ∈ TB, w9.before ([.ref (a 0), .int p0] : List Value).toArray s = true := fun w9 h => atoms_spec (ws := .code yX10_askOf cX10_askOf 6 (some .int) :: TB) B.pre w9 (List.mem_cons_of_mem _ h)
  have hown : s.vm.findClass RX10 = some m.cls := findClass_of_methodNamed B.named
  have S : CallFix p m c cX10_askOf 6 s _ TB RX10 := ⟨hx, hb, hml, hown, hT⟩
  subst hsz
  have hD := hD0.self (sz := s.heap.size)
  generalize hAe : va_A (MWS k a st sl) s.heap.size = A at hD ⊢
  have hA : ∀ q : Nat, s.heap.size ≤ q → A q := fun q h => by rw [← hAe]; exact Or.inr h
  have hS : va_S A s.heap s.heap [] := va_S.rf
  have hl := lv_entry ([.ref (a 0), .int p0]) (n := 6) (Nat.le_of_ble_eq_true rfl)
  rw [lg_entry_eq]
  generalize (lg_sl ([.ref (a 0), .int p0]) ++ List.replicate (6 - (lg_sl ([.ref (a 0), .int p0])).length) Slot.unset).toArray = ls at hl ⊢
  have hl : lv_has ls 6 [(0, .ref (a 0)), (1, .int p0)] := hl
  refine nameQ (fun Q hQ => ?_)
  refine lv_aload_n hx hb dX10_askOf_0 rfl (lv_at hl 0 rfl) ?_
  refine lv_iload_n hx hb dX10_askOf_1 rfl (lv_at hl 1 rfl) ?_
  refine ro_V (As := [.int p0]) (rest := []) S (m_X10_fitsOf l D k a st sl  p0 _  hB hp0 hw h2) lkX10_364 ok_X10_fitsOf ⟨rfl, rfl, Nat.le_of_ble_eq_true rfl, Nat.le_of_ble_eq_true rfl⟩ (pw_V (ci := 10) (q0 := 0) hK hN rfl mw_0 hP (hD.weaken (fun _ _ _ _ => trivial))) rfl hl.1 rfl (Nat.le_of_ble_eq_true rfl) ⟨Nat.zero_le _, Nat.zero_le _⟩ dX10_askOf_2 (fun r1 er1 => ?_)
  have h2 : Iv 0 255 r1 := er1.1
  refine lv_istore_n (lv' := [(2, .int r1), (0, .ref (a 0)), (1, .int p0)]) hx hb dX10_askOf_5 rfl hl (by decide) rfl (fun ls hl => ?_)
  refine lv_aload_n hx hb dX10_askOf_6 rfl (lv_at hl 1 rfl) ?_
  refine lv_iload_n hx hb dX10_askOf_7 rfl (lv_at hl 0 rfl) ?_
  refine ro_S (As := [.int r1]) (rest := [.ref (a 0)]) S (m_X10_bits l D k a st sl  r1 _  hB  ) lkX10_190 ok_X10_bits ⟨rfl, rfl, Nat.le_of_ble_eq_true rfl, Nat.le_of_ble_eq_true rfl⟩ (pw_S hK hN hP (hD.weaken (fun _ _ _ _ => trivial))) rfl hl.1 rfl (Nat.le_of_ble_eq_true rfl) ⟨Nat.zero_le _, Nat.zero_le _⟩ dX10_askOf_8 (fun r3 er3 => ?_)
  have k4 := er3
  refine c_put (ci := 10) (C := RX10) (T := TX10) (N := 38) (j := 31) (v := r3) hx hb hT in_X10 tyX10 tyX10_ok nmX10 hown hK hP hD hS mw_0 rfl (by decide) (hT _ t1293) (by decide +kernel) (by decide +kernel) rfl rfl (Nat.le_of_ble_eq_true rfl) (ms_0 (upd (st 0) 31 r3)) dX10_askOf_11 (fun s5 H9 locs9 es5 hP9 hD9 hS9 => ?_)
  clear hP hD hS
  have hS := hS9
  have hP := hP9
  have hD := hD9
  clear hP9 hD9 hS9
  have hBs5 : MB s5 := by rw [es5]; exact mb_sw hB (mi_1_31 (hB 0))
  have hFs5 : FR [0] st s5 := fr_sw fr_rf (List.mem_of_getElem? (i := 0) rfl) es5
  refine lv_iconst (v := (-1)) hx hb dX10_askOf_14 (by decide) ?_
  refine lv_istore_n (lv' := [(3, .int (-1)), (2, .int r1), (0, .ref (a 0)), (1, .int p0)]) hx hb dX10_askOf_15 rfl hl (by decide) rfl (fun ls hl => ?_)
  refine lv_iconst (v := 0) hx hb dX10_askOf_16 (by decide) ?_
  refine lv_istore (lv' := [(4, .int 0), (3, .int (-1)), (2, .int r1), (0, .ref (a 0)), (1, .int p0)]) hx hb dX10_askOf_17 hl (by decide) rfl (fun ls hl => ?_)
  have lp19 : ∀ (n9_19 : Nat) (v4_19 : Int32) (v3_19 : Int32) (t19 : CT) (H9 : Heap) (locs9 : List Loc) (ls : Array Slot), Iv 0 6 v4_19 → Iv (-1) 5 v3_19 → MB t19 → FR [0] s5 t19 → t19 0 0 = s5 0 0 → t19 0 5 = s5 0 5 → t19 0 7 = s5 0 7 → t19 0 8 = s5 0 8 → t19 0 9 = s5 0 9 → t19 0 10 = s5 0 10 → t19 0 11 = s5 0 11 → t19 0 12 = s5 0 12 → t19 0 13 = s5 0 13 → t19 0 20 = s5 0 20 → t19 0 21 = s5 0 21 → t19 0 22 = s5 0 22 → t19 0 26 = s5 0 26 → t19 0 27 = s5 0 27 → t19 0 29 = s5 0 29 → t19 0 33 = s5 0 33 → va_P D vwCl (MWS k a t19 sl) H9 → va_D A (MWS k a t19 sl) → va_S A s.heap H9 locs9 → lv_has ls 6 [(4, .int v4_19), (3, .int v3_19), (2, .int r1), (0, .ref (a 0)), (1, .int p0)] → (6 : Int) - v4_19.toInt < (n9_19 : Int) → W p l e (rmw 6 0 0) s m ([.ref (a 0), .int p0] : List Value).toArray below meth c H9 locs9 0 0 Q (F0 m 19 ls []) := by
    clear hl hP hD hS
    intro n9_19
    induction n9_19 with
    | zero =>
      intro v4_19 v3_19 t19 H9 locs9 ls iv4_19 iv3_19 hBt19 gt19 qt19_0 qt19_1 qt19_2 qt19_3 qt19_4 qt19_5 qt19_6 qt19_7 qt19_8 qt19_9 qt19_10 qt19_11 qt19_12 qt19_13 qt19_14 qt19_15 hP hD hS hl hm19
      exact (fu_0 iv4_19 hm19).elim
    | succ n9_19 ih19 =>
      intro v4_19 v3_19 t19 H9 locs9 ls iv4_19 iv3_19 hBt19 gt19 qt19_0 qt19_1 qt19_2 qt19_3 qt19_4 qt19_5 qt19_6 qt19_7 qt19_8 qt19_9 qt19_10 qt19_11 qt19_12 qt19_13 qt19_14 qt19_15 hP hD hS hl hm19
      have hFt19 : FR [0] st t19 := fr_ca hFs5 gt19 (sub_1 (List.mem_of_getElem? (i := 0) rfl) sub_0)
      refine lv_iload hx hb dX10_askOf_19 (lv_at hl 0 rfl) ?_
      refine lv_aload_n hx hb dX10_askOf_21 rfl (lv_at hl 3 rfl) ?_
      refine va_get (D := D) (ci := 10) (v := .ref (a 1)) (C := RX10) (T := TX10) (N := 38) hx hb hT in_X10 hown hK hP 0 mw_0 rfl 1 (by decide) (hT _ t1263) (fun _ h9 => h9) rfl dX10_askOf_22 ?_
      refine lv_iconst (v := 0) hx hb dX10_askOf_25 (by decide) ?_
      refine va_iald hx hb hK hP 1 0 mw_1 rfl (by unfold vp_in; decide) dX10_askOf_26 ?_
      refine k_top (y := (t19 1 0)) rfl ?_
      refine k_top (y := (st 1 0)) (congrFun (hFt19 1 (nm_1 (by decide) nm_0)) 0) ?_
      have h132 : Iv 0 6 (st 1 0) := (tok_at (hw).1 0 0 6 (by decide) (by decide) (by decide))
      refine lv_icmp_ge (tgt := 66) hx hb dX10_askOf_27 (by decide) (fun c133 => ?_) (fun c133 => ?_)
      · skip
        have n134 : (st 1 0).toInt ≤ v4_19.toInt := (i_le c133)
        refine lv_iload_n hx hb dX10_askOf_66 rfl (lv_at hl 1 rfl) ?_
        rw [hQ]
        exact W.iret (v := v3_19) hx hb hr (fun t ht hW => ⟨⟨v3_19, t19, rfl, ⟨hBt19, hFt19, (Eq.trans qt19_0 (congrFun (sw_it es5) 0)), (Eq.trans qt19_1 (congrFun (sw_it es5) 5)), (Eq.trans qt19_2 (congrFun (sw_it es5) 7)), (Eq.trans qt19_3 (congrFun (sw_it es5) 8)), (Eq.trans qt19_4 (congrFun (sw_it es5) 9)), (Eq.trans qt19_5 (congrFun (sw_it es5) 10)), (Eq.trans qt19_6 (congrFun (sw_it es5) 11)), (Eq.trans qt19_7 (congrFun (sw_it es5) 12)), (Eq.trans qt19_8 (congrFun (sw_it es5) 13)), (Eq.trans qt19_9 (congrFun (sw_it es5) 20)), (Eq.trans qt19_10 (congrFun (sw_it es5) 21)), (Eq.trans qt19_11 (congrFun (sw_it es5) 22)), (Eq.trans qt19_12 (congrFun (sw_it es5) 26)), (Eq.trans qt19_13 (congrFun (sw_it es5) 27)), (Eq.trans qt19_14 (congrFun (sw_it es5) 29)), (Eq.trans qt19_15 (congrFun (sw_it es5) 33)), ⟨iv3_19, trivial⟩⟩, by rw [ht]; exact hP, va_K.moved hW.alike (hK.sub (tys' := []) [] rfl), by rw [hAe]; exact hD⟩, by rw [hAe]; exact hS.F ht⟩) hS.2.2 dX10_askOf_67
      · skip
        have n135 : v4_19.toInt < (st 1 0).toInt := (i_nle c133)
        have h136 : Iv 0 5 v4_19 := lt_l iv4_19 n135 h132 (by decide)
        have h137 : Iv 1 6 (st 1 0) := lt_r iv4_19 n135 h132 (by decide)
        refine lv_aload_n hx hb dX10_askOf_30 rfl (lv_at hl 3 rfl) ?_
        refine lv_iload_n hx hb dX10_askOf_31 rfl (lv_at hl 2 rfl) ?_
        refine lv_iload hx hb dX10_askOf_32 (lv_at hl 0 rfl) ?_
        refine ro_V (As := [.int r1, .int v4_19]) (rest := []) S (m_X10_worstIn l D k a t19 sl  r1 v4_19 _  hBt19  (wok_of (hFt19 1 (nm_1 (by decide) nm_0)) hw)) lkX10_373 ok_X10_worstIn ⟨rfl, rfl, Nat.le_of_ble_eq_true rfl, Nat.le_of_ble_eq_true rfl⟩ (pw_V (ci := 10) (q0 := 0) hK hN rfl mw_0 hP (hD.weaken (fun _ _ _ _ => trivial))) rfl hl.1 rfl (Nat.le_of_ble_eq_true rfl) ⟨Nat.zero_le _, Nat.zero_le _⟩ dX10_askOf_34 (fun r138 er138 => ?_)
        have h139 : Iv 0 2147483647 r138 := er138.1
        refine lv_istore (lv' := [(5, .int r138), (4, .int v4_19), (3, .int v3_19), (2, .int r1), (0, .ref (a 0)), (1, .int p0)]) hx hb dX10_askOf_37 hl (by decide) rfl (fun ls hl => ?_)
        refine lv_iload hx hb dX10_askOf_39 (lv_at hl 0 rfl) ?_
        refine lv_aload_n hx hb dX10_askOf_41 rfl (lv_at hl 4 rfl) ?_
        refine va_get (D := D) (ci := 10) (v := .int (t19 0 31)) (C := RX10) (T := TX10) (N := 38) hx hb hT in_X10 hown hK hP 0 mw_0 rfl 31 (by decide) (hT _ t1293) (fun _ h9 => h9) rfl dX10_askOf_42 ?_
        refine lv_icmp_lt (tgt := 51) hx hb dX10_askOf_45 (by decide) (fun c140 => ?_) (fun c140 => ?_)
        · skip
          have n141 : r138.toInt < (t19 0 31).toInt := (i_lt c140)
          have h142 : Iv 0 2147483646 r138 := lt_l h139 n141 (iv_full (t19 0 31)) (by decide)
          have h143 : Iv 1 2147483647 (t19 0 31) := lt_r h139 n141 (iv_full (t19 0 31)) (by decide)
          refine lv_aload_n hx hb dX10_askOf_51 rfl (lv_at hl 4 rfl) ?_
          refine lv_iload hx hb dX10_askOf_52 (lv_at hl 0 rfl) ?_
          refine c_put (ci := 10) (C := RX10) (T := TX10) (N := 38) (j := 31) (v := r138) hx hb hT in_X10 tyX10 tyX10_ok nmX10 hown hK hP hD hS mw_0 rfl (by decide) (hT _ t1293) (by decide +kernel) (by decide +kernel) rfl rfl (Nat.le_of_ble_eq_true rfl) (ms_0 (upd (t19 0) 31 r138)) dX10_askOf_54 (fun s144 H9 locs9 es144 hP9 hD9 hS9 => ?_)
          clear hP hD hS
          have hS := hS9
          have hP := hP9
          have hD := hD9
          clear hP9 hD9 hS9
          have hBs144 : MB s144 := by rw [es144]; exact mb_sw hBt19 (mi_1_31 (hBt19 0))
          have hFs144 : FR [0] st s144 := fr_sw hFt19 (List.mem_of_getElem? (i := 0) rfl) es144
          refine lv_iload hx hb dX10_askOf_57 (lv_at hl 1 rfl) ?_
          refine lv_istore_n (lv' := [(3, .int v4_19), (5, .int r138), (4, .int v4_19), (2, .int r1), (0, .ref (a 0)), (1, .int p0)]) hx hb dX10_askOf_59 rfl hl (by decide) rfl (fun ls hl => ?_)
          obtain ⟨z145, ez145⟩ : ∃ z9 : Int32, z9 = v4_19 + Int32.ofInt 1 := ⟨_, rfl⟩
          have h146 : Iv 1 6 z145 := iv_inc ez145 h136 (by decide) (by decide) (by decide) (by decide) (by decide) (by decide)
          refine lv_iinc (v := z145) (lv' := [(4, .int z145), (3, .int v4_19), (5, .int r138), (2, .int r1), (0, .ref (a 0)), (1, .int p0)]) hx hb dX10_askOf_60 hl (k := 2) rfl ez145.symm (by decide) rfl (fun ls hl => ?_)
          refine lv_goto (tgt := 19) hx hb dX10_askOf_63 (by decide) ?_
          exact ih19 z145 v4_19 s144 _ _ _ (iv_mono (c := 0) (d := 6) h146 (by decide) (by decide)) (iv_mono (c := (-1)) (d := 5) h136 (by decide) (by decide)) hBs144 (fr_sw gt19 (List.mem_of_getElem? (i := 0) rfl) es144) (Eq.trans (Eq.trans (congrFun (sw_it es144) 0) (Eq.trans qt19_0 (congrFun (sw_it es5) 0))) (Eq.symm (congrFun (sw_it es5) 0))) (Eq.trans (Eq.trans (congrFun (sw_it es144) 5) (Eq.trans qt19_1 (congrFun (sw_it es5) 5))) (Eq.symm (congrFun (sw_it es5) 5))) (Eq.trans (Eq.trans (congrFun (sw_it es144) 7) (Eq.trans qt19_2 (congrFun (sw_it es5) 7))) (Eq.symm (congrFun (sw_it es5) 7))) (Eq.trans (Eq.trans (congrFun (sw_it es144) 8) (Eq.trans qt19_3 (congrFun (sw_it es5) 8))) (Eq.symm (congrFun (sw_it es5) 8))) (Eq.trans (Eq.trans (congrFun (sw_it es144) 9) (Eq.trans qt19_4 (congrFun (sw_it es5) 9))) (Eq.symm (congrFun (sw_it es5) 9))) (Eq.trans (Eq.trans (congrFun (sw_it es144) 10) (Eq.trans qt19_5 (congrFun (sw_it es5) 10))) (Eq.symm (congrFun (sw_it es5) 10))) (Eq.trans (Eq.trans (congrFun (sw_it es144) 11) (Eq.trans qt19_6 (congrFun (sw_it es5) 11))) (Eq.symm (congrFun (sw_it es5) 11))) (Eq.trans (Eq.trans (congrFun (sw_it es144) 12) (Eq.trans qt19_7 (congrFun (sw_it es5) 12))) (Eq.symm (congrFun (sw_it es5) 12))) (Eq.trans (Eq.trans (congrFun (sw_it es144) 13) (Eq.trans qt19_8 (congrFun (sw_it es5) 13))) (Eq.symm (congrFun (sw_it es5) 13))) (Eq.trans (Eq.trans (congrFun (sw_it es144) 20) (Eq.trans qt19_9 (congrFun (sw_it es5) 20))) (Eq.symm (congrFun (sw_it es5) 20))) (Eq.trans (Eq.trans (congrFun (sw_it es144) 21) (Eq.trans qt19_10 (congrFun (sw_it es5) 21))) (Eq.symm (congrFun (sw_it es5) 21))) (Eq.trans (Eq.trans (congrFun (sw_it es144) 22) (Eq.trans qt19_11 (congrFun (sw_it es5) 22))) (Eq.symm (congrFun (sw_it es5) 22))) (Eq.trans (Eq.trans (congrFun (sw_it es144) 26) (Eq.trans qt19_12 (congrFun (sw_it es5) 26))) (Eq.symm (congrFun (sw_it es5) 26))) (Eq.trans (Eq.trans (congrFun (sw_it es144) 27) (Eq.trans qt19_13 (congrFun (sw_it es5) 27))) (Eq.symm (congrFun (sw_it es5) 27))) (Eq.trans (Eq.trans (congrFun (sw_it es144) 29) (Eq.trans qt19_14 (congrFun (sw_it es5) 29))) (Eq.symm (congrFun (sw_it es5) 29))) (Eq.trans (Eq.trans (congrFun (sw_it es144) 33) (Eq.trans qt19_15 (congrFun (sw_it es5) 33))) (Eq.symm (congrFun (sw_it es5) 33))) hP hD hS (lv_sub hl [0, 1, 3, 4, 5] rfl) (fu_s (lo := 0) (ti_inc ez145 h136 (by decide) (by decide) (by decide) (by decide)) (by decide) hm19)
        · skip
          have n147 : (t19 0 31).toInt ≤ r138.toInt := (i_nlt c140)
          refine lv_goto (tgt := 60) hx hb dX10_askOf_48 (by decide) ?_
          obtain ⟨z148, ez148⟩ : ∃ z9 : Int32, z9 = v4_19 + Int32.ofInt 1 := ⟨_, rfl⟩
          have h149 : Iv 1 6 z148 := iv_inc ez148 h136 (by decide) (by decide) (by decide) (by decide) (by decide) (by decide)
          refine lv_iinc (v := z148) (lv' := [(4, .int z148), (5, .int r138), (3, .int v3_19), (2, .int r1), (0, .ref (a 0)), (1, .int p0)]) hx hb dX10_askOf_60 hl (k := 1) rfl ez148.symm (by decide) rfl (fun ls hl => ?_)
          refine lv_goto (tgt := 19) hx hb dX10_askOf_63 (by decide) ?_
          exact ih19 z148 v3_19 t19 _ _ _ (iv_mono (c := 0) (d := 6) h149 (by decide) (by decide)) iv3_19 hBt19 gt19 (Eq.trans (Eq.trans qt19_0 (congrFun (sw_it es5) 0)) (Eq.symm (congrFun (sw_it es5) 0))) (Eq.trans (Eq.trans qt19_1 (congrFun (sw_it es5) 5)) (Eq.symm (congrFun (sw_it es5) 5))) (Eq.trans (Eq.trans qt19_2 (congrFun (sw_it es5) 7)) (Eq.symm (congrFun (sw_it es5) 7))) (Eq.trans (Eq.trans qt19_3 (congrFun (sw_it es5) 8)) (Eq.symm (congrFun (sw_it es5) 8))) (Eq.trans (Eq.trans qt19_4 (congrFun (sw_it es5) 9)) (Eq.symm (congrFun (sw_it es5) 9))) (Eq.trans (Eq.trans qt19_5 (congrFun (sw_it es5) 10)) (Eq.symm (congrFun (sw_it es5) 10))) (Eq.trans (Eq.trans qt19_6 (congrFun (sw_it es5) 11)) (Eq.symm (congrFun (sw_it es5) 11))) (Eq.trans (Eq.trans qt19_7 (congrFun (sw_it es5) 12)) (Eq.symm (congrFun (sw_it es5) 12))) (Eq.trans (Eq.trans qt19_8 (congrFun (sw_it es5) 13)) (Eq.symm (congrFun (sw_it es5) 13))) (Eq.trans (Eq.trans qt19_9 (congrFun (sw_it es5) 20)) (Eq.symm (congrFun (sw_it es5) 20))) (Eq.trans (Eq.trans qt19_10 (congrFun (sw_it es5) 21)) (Eq.symm (congrFun (sw_it es5) 21))) (Eq.trans (Eq.trans qt19_11 (congrFun (sw_it es5) 22)) (Eq.symm (congrFun (sw_it es5) 22))) (Eq.trans (Eq.trans qt19_12 (congrFun (sw_it es5) 26)) (Eq.symm (congrFun (sw_it es5) 26))) (Eq.trans (Eq.trans qt19_13 (congrFun (sw_it es5) 27)) (Eq.symm (congrFun (sw_it es5) 27))) (Eq.trans (Eq.trans qt19_14 (congrFun (sw_it es5) 29)) (Eq.symm (congrFun (sw_it es5) 29))) (Eq.trans (Eq.trans qt19_15 (congrFun (sw_it es5) 33)) (Eq.symm (congrFun (sw_it es5) 33))) hP hD hS (lv_sub hl [0, 2, 3, 4, 5] rfl) (fu_s (lo := 0) (ti_inc ez148 h136 (by decide) (by decide) (by decide) (by decide)) (by decide) hm19)
  exact lp19 7 0 (-1) s5 _ _ _ (iv_mono (c := 0) (d := 6) (iv_c (by decide) : Iv 0 0 0) (by decide) (by decide)) (iv_mono (c := (-1)) (d := 5) (iv_c (by decide) : Iv (-1) (-1) (-1)) (by decide) (by decide)) hBs5 fr_rf rfl rfl rfl rfl rfl rfl rfl rfl rfl rfl rfl rfl rfl rfl rfl rfl hP hD hS (lv_sub hl [0, 1, 2, 3, 4] rfl) (fu_i (iv_mono (c := 0) (d := 6) (iv_c (by decide) : Iv 0 0 0) (by decide) (by decide)) (by decide))
set_option maxHeartbeats 4000000 in
set_option maxRecDepth 100000 in
theorem m_X10_ask (l : Launch) (D : va_G) (k : Nat → ClassId) (a : Nat → Nat) (st : CT) (sl : CL) (p0 : Int32) (sz : Nat) (hB : MB st)  (hw : WOK (st 1)) : Met l yX10_ask (.code yX10_ask cX10_ask 3 (some .int) :: TB) (rmw 9 0 0) (va_Pc [.ref (a 0), .int p0] (PW D k sz (MWS k a st sl))) (QI D (S := CT) (fun r u => MB u ∧ FR [7, 9, 8, 10, 11, 0] st u ∧ u 0 0 = st 0 0 ∧ u 0 5 = st 0 5 ∧ u 0 7 = st 0 7 ∧ u 0 8 = st 0 8 ∧ u 0 9 = st 0 9 ∧ u 0 10 = st 0 10 ∧ u 0 11 = st 0 11 ∧ u 0 12 = st 0 12 ∧ u 0 13 = st 0 13 ∧ u 0 20 = st 0 20 ∧ u 0 21 = st 0 21 ∧ u 0 22 = st 0 22 ∧ u 0 26 = st 0 26 ∧ u 0 27 = st 0 27 ∧ u 0 29 = st 0 29 ∧ u 0 33 = st 0 33 ∧ (Iv (-6) 5 r ∧ (True))) (fun u => MWS k a u sl) (fun _ => []) (MWS k a st sl) sz) 0 0 (va_A (MWS k a st sl) sz) := by
  refine Met.ofW (cc := cX10_ask) (maxL := 3) (ret := (some .int)) (by decide) rfl ?_
  intro p e s m args below meth c s₁ B hml hv
  obtain ⟨rfl, hsz, hP, hK, hD0, hN⟩ := hv
  have hx := B.exec
  have hb := B.bytes
  have hr := B.returns
  have hT : ∀ w9 ∈ TB, w9.before ([.ref (a 0), .int p0] : List Value).toArray s = true := fun w9 h => atoms_spec (ws := .code yX10_ask cX10_ask 3 (some .int) :: TB) B.pre w9 (List.mem_cons_of_mem _ h)
  have hown : s.vm.findClass RX10 = some m.cls := findClass_of_methodNamed B.named
  have S : CallFix p m c cX10_ask 3 s _ TB RX10 := ⟨hx, hb, hml, hown, hT⟩
  subst hsz
  have hD := hD0.self (sz := s.heap.size)
  generalize hAe : va_A (MWS k a st sl) s.heap.size = A at hD ⊢
  have hA : ∀ q : Nat, s.heap.size ≤ q → A q := fun q h => by rw [← hAe]; exact Or.inr h
  have hS : va_S A s.heap s.heap [] := va_S.rf
  have hl := lv_entry ([.ref (a 0), .int p0]) (n := 3) (Nat.le_of_ble_eq_true rfl)
  rw [lg_entry_eq]
  generalize (lg_sl ([.ref (a 0), .int p0]) ++ List.replicate (3 - (lg_sl ([.ref (a 0), .int p0])).length) Slot.unset).toArray = ls at hl ⊢
  have hl : lv_has ls 3 [(0, .ref (a 0)), (1, .int p0)] := hl
  refine nameQ (fun Q hQ => ?_)
  refine lv_aload_n hx hb dX10_ask_0 rfl (lv_at hl 0 rfl) ?_
  refine lv_iload_n hx hb dX10_ask_1 rfl (lv_at hl 1 rfl) ?_
  refine ca_i hP hD hS hA (fun hDc => run_V (mc := 0) (ms := 0) (As := [.int p0]) (rest := []) S (m_X10_asksSeen l D k a st sl  p0 _  hB  hw) lkX10_361 ok_X10_asksSeen ⟨rfl, rfl, Nat.le_of_ble_eq_true rfl, Nat.le_of_ble_eq_true rfl⟩ (pw_V (ci := 10) (q0 := 0) hK hN rfl mw_0 hP hDc) rfl hl.1 rfl (Nat.le_of_ble_eq_true rfl) ⟨Nat.zero_le _, Nat.zero_le _⟩ dX10_ask_2) (fun r2 s1 H9 locs9 hs1 hP9 hD9 hS9 => ?_)
  clear hP hD hS
  have hS := hS9
  have hP := hP9
  have hD := hD9
  clear hP9 hD9 hS9
  obtain ⟨hBs1, gs1, fs1⟩ := hs1
  have hFs1 : FR [7, 9, 8, 10, 11, 0] st s1 := fr_ca fr_rf gs1 (sub_1 (List.mem_of_getElem? (i := 0) rfl) (sub_1 (List.mem_of_getElem? (i := 1) rfl) (sub_1 (List.mem_of_getElem? (i := 2) rfl) (sub_1 (List.mem_of_getElem? (i := 3) rfl) (sub_1 (List.mem_of_getElem? (i := 4) rfl) sub_0)))))
  have h3 : Iv (-6) 0 r2 := fs1.1
  have k4 := fs1.2
  refine lv_istore_n (lv' := [(2, .int r2), (0, .ref (a 0)), (1, .int p0)]) hx hb dX10_ask_5 rfl hl (by decide) rfl (fun ls hl => ?_)
  refine lv_iload_n hx hb dX10_ask_6 rfl (lv_at hl 0 rfl) ?_
  refine lv_if_ge (tgt := 14) hx hb dX10_ask_7 (by decide) (fun c5 => ?_) (fun c5 => ?_)
  · skip
    have n6 : (0 : Int32).toInt ≤ r2.toInt := (i_le c5)
    have h7 : Iv 0 0 r2 := le_r (iv_c (by decide) : Iv 0 0 0) n6 h3 (by decide)
    have k8 := k4 (iv_eq 0 h7 rfl)
    have h9 : Iv 0 3 p0 := k8.1
    refine lv_aload_n hx hb dX10_ask_14 rfl (lv_at hl 1 rfl) ?_
    refine lv_iload_n hx hb dX10_ask_15 rfl (lv_at hl 2 rfl) ?_
    refine ca_i hP hD hS hA (fun hDc => run_V (mc := 0) (ms := 0) (As := [.int p0]) (rest := []) S (m_X10_askOf l D k a s1 sl  p0 _  hBs1 h9 (wok_of (hFs1 1 (nm_1 (by decide) (nm_1 (by decide) (nm_1 (by decide) (nm_1 (by decide) (nm_1 (by decide) (nm_1 (by decide) nm_0))))))) hw) (by rw [(hFs1 18 (nm_1 (by decide) (nm_1 (by decide) (nm_1 (by decide) (nm_1 (by decide) (nm_1 (by decide) (nm_1 (by decide) nm_0)))))))]; exact k8.2)) lkX10_376 ok_X10_askOf ⟨rfl, rfl, Nat.le_of_ble_eq_true rfl, Nat.le_of_ble_eq_true rfl⟩ (pw_V (ci := 10) (q0 := 0) hK hN rfl mw_0 hP hDc) rfl hl.1 rfl (Nat.le_of_ble_eq_true rfl) ⟨Nat.zero_le _, Nat.zero_le _⟩ dX10_ask_16) (fun r11 s10 H9 locs9 hs10 hP9 hD9 hS9 => ?_)
    clear hP hD hS
    have hS := hS9
    have hP := hP9
    have hD := hD9
    clear hP9 hD9 hS9
    obtain ⟨hBs10, gs10, qs10_0, qs10_1, qs10_2, qs10_3, qs10_4, qs10_5, qs10_6, qs10_7, qs10_8, qs10_9, qs10_10, qs10_11, qs10_12, qs10_13, qs10_14, qs10_15, fs10⟩ := hs10
    have hFs10 : FR [7, 9, 8, 10, 11, 0] st s10 := fr_ca hFs1 gs10 (sub_1 (List.mem_of_getElem? (i := 5) rfl) sub_0)
    have h12 : Iv (-1) 5 r11 := fs10.1
    rw [hQ]
    exact W.iret (v := r11) hx hb hr (fun t ht hW => ⟨⟨r11, s10, rfl, ⟨hBs10, hFs10, (Eq.trans qs10_0 (congrFun (gs1 0 (nm_1 (by decide) (nm_1 (by decide) (nm_1 (by decide) (nm_1 (by decide) (nm_1 (by decide) nm_0)))))) 0)), (Eq.trans qs10_1 (congrFun (gs1 0 (nm_1 (by decide) (nm_1 (by decide) (nm_1 (by decide) (nm_1 (by decide) (nm_1 (by decide) nm_0)))))) 5)), (Eq.trans qs10_2 (congrFun (gs1 0 (nm_1 (by decide) (nm_1 (by decide) (nm_1 (by decide) (nm_1 (by decide) (nm_1 (by decide) nm_0)))))) 7)), (Eq.trans qs10_3 (congrFun (gs1 0 (nm_1 (by decide) (nm_1 (by decide) (nm_1 (by decide) (nm_1 (by decide) (nm_1 (by decide) nm_0)))))) 8)), (Eq.trans qs10_4 (congrFun (gs1 0 (nm_1 (by decide) (nm_1 (by decide) (nm_1 (by decide) (nm_1 (by decide) (nm_1 (by decide) nm_0)))))) 9)), (Eq.trans qs10_5 (congrFun (gs1 0 (nm_1 (by decide) (nm_1 (by decide) (nm_1 (by decide) (nm_1 (by decide) (nm_1 (by decide) nm_0)))))) 10)), (Eq.trans qs10_6 (congrFun (gs1 0 (nm_1 (by decide) (nm_1 (by decide) (nm_1 (by decide) (nm_1 (by decide) (nm_1 (by decide) nm_0)))))) 11)), (Eq.trans qs10_7 (congrFun (gs1 0 (nm_1 (by decide) (nm_1 (by decide) (nm_1 (by decide) (nm_1 (by decide) (nm_1 (by decide) nm_0)))))) 12)), (Eq.trans qs10_8 (congrFun (gs1 0 (nm_1 (by decide) (nm_1 (by decide) (nm_1 (by decide) (nm_1 (by decide) (nm_1 (by decide) nm_0)))))) 13)), (Eq.trans qs10_9 (congrFun (gs1 0 (nm_1 (by decide) (nm_1 (by decide) (nm_1 (by decide) (nm_1 (by decide) (nm_1 (by decide) nm_0)))))) 20)), (Eq.trans qs10_10 (congrFun (gs1 0 (nm_1 (by decide) (nm_1 (by decide) (nm_1 (by decide) (nm_1 (by decide) (nm_1 (by decide) nm_0)))))) 21)), (Eq.trans qs10_11 (congrFun (gs1 0 (nm_1 (by decide) (nm_1 (by decide) (nm_1 (by decide) (nm_1 (by decide) (nm_1 (by decide) nm_0)))))) 22)), (Eq.trans qs10_12 (congrFun (gs1 0 (nm_1 (by decide) (nm_1 (by decide) (nm_1 (by decide) (nm_1 (by decide) (nm_1 (by decide) nm_0)))))) 26)), (Eq.trans qs10_13 (congrFun (gs1 0 (nm_1 (by decide) (nm_1 (by decide) (nm_1 (by decide) (nm_1 (by decide) (nm_1 (by decide) nm_0)))))) 27)), (Eq.trans qs10_14 (congrFun (gs1 0 (nm_1 (by decide) (nm_1 (by decide) (nm_1 (by decide) (nm_1 (by decide) (nm_1 (by decide) nm_0)))))) 29)), (Eq.trans qs10_15 (congrFun (gs1 0 (nm_1 (by decide) (nm_1 (by decide) (nm_1 (by decide) (nm_1 (by decide) (nm_1 (by decide) nm_0)))))) 33)), ⟨(iv_mono (c := (-6)) (d := 5) h12 (by decide) (by decide)), trivial⟩⟩, by rw [ht]; exact hP, va_K.moved hW.alike (hK.sub (tys' := []) [] rfl), by rw [hAe]; exact hD⟩, by rw [hAe]; exact hS.F ht⟩) hS.2.2 dX10_ask_19
  · skip
    have n13 : r2.toInt < (0 : Int32).toInt := (i_nle c5)
    have h14 : Iv (-6) (-1) r2 := lt_l h3 n13 (iv_c (by decide) : Iv 0 0 0) (by decide)
    refine lv_iload_n hx hb dX10_ask_10 rfl (lv_at hl 0 rfl) ?_
    refine lv_goto (tgt := 19) hx hb dX10_ask_11 (by decide) ?_
    rw [hQ]
    exact W.iret (v := r2) hx hb hr (fun t ht hW => ⟨⟨r2, s1, rfl, ⟨hBs1, hFs1, (congrFun (gs1 0 (nm_1 (by decide) (nm_1 (by decide) (nm_1 (by decide) (nm_1 (by decide) (nm_1 (by decide) nm_0)))))) 0), (congrFun (gs1 0 (nm_1 (by decide) (nm_1 (by decide) (nm_1 (by decide) (nm_1 (by decide) (nm_1 (by decide) nm_0)))))) 5), (congrFun (gs1 0 (nm_1 (by decide) (nm_1 (by decide) (nm_1 (by decide) (nm_1 (by decide) (nm_1 (by decide) nm_0)))))) 7), (congrFun (gs1 0 (nm_1 (by decide) (nm_1 (by decide) (nm_1 (by decide) (nm_1 (by decide) (nm_1 (by decide) nm_0)))))) 8), (congrFun (gs1 0 (nm_1 (by decide) (nm_1 (by decide) (nm_1 (by decide) (nm_1 (by decide) (nm_1 (by decide) nm_0)))))) 9), (congrFun (gs1 0 (nm_1 (by decide) (nm_1 (by decide) (nm_1 (by decide) (nm_1 (by decide) (nm_1 (by decide) nm_0)))))) 10), (congrFun (gs1 0 (nm_1 (by decide) (nm_1 (by decide) (nm_1 (by decide) (nm_1 (by decide) (nm_1 (by decide) nm_0)))))) 11), (congrFun (gs1 0 (nm_1 (by decide) (nm_1 (by decide) (nm_1 (by decide) (nm_1 (by decide) (nm_1 (by decide) nm_0)))))) 12), (congrFun (gs1 0 (nm_1 (by decide) (nm_1 (by decide) (nm_1 (by decide) (nm_1 (by decide) (nm_1 (by decide) nm_0)))))) 13), (congrFun (gs1 0 (nm_1 (by decide) (nm_1 (by decide) (nm_1 (by decide) (nm_1 (by decide) (nm_1 (by decide) nm_0)))))) 20), (congrFun (gs1 0 (nm_1 (by decide) (nm_1 (by decide) (nm_1 (by decide) (nm_1 (by decide) (nm_1 (by decide) nm_0)))))) 21), (congrFun (gs1 0 (nm_1 (by decide) (nm_1 (by decide) (nm_1 (by decide) (nm_1 (by decide) (nm_1 (by decide) nm_0)))))) 22), (congrFun (gs1 0 (nm_1 (by decide) (nm_1 (by decide) (nm_1 (by decide) (nm_1 (by decide) (nm_1 (by decide) nm_0)))))) 26), (congrFun (gs1 0 (nm_1 (by decide) (nm_1 (by decide) (nm_1 (by decide) (nm_1 (by decide) (nm_1 (by decide) nm_0)))))) 27), (congrFun (gs1 0 (nm_1 (by decide) (nm_1 (by decide) (nm_1 (by decide) (nm_1 (by decide) (nm_1 (by decide) nm_0)))))) 29), (congrFun (gs1 0 (nm_1 (by decide) (nm_1 (by decide) (nm_1 (by decide) (nm_1 (by decide) (nm_1 (by decide) nm_0)))))) 33), ⟨(iv_mono (c := (-6)) (d := 5) h14 (by decide) (by decide)), trivial⟩⟩, by rw [ht]; exact hP, va_K.moved hW.alike (hK.sub (tys' := []) [] rfl), by rw [hAe]; exact hD⟩, by rw [hAe]; exact hS.F ht⟩) hS.2.2 dX10_ask_19
set_option maxHeartbeats 4000000 in
set_option maxRecDepth 100000 in
theorem m_X10_leaves (l : Launch) (D : va_G) (k : Nat → ClassId) (a : Nat → Nat) (st : CT) (sl : CL) (p0 : Int32) (sz : Nat) (hB : MB st)  (hw : WOK (st 1)) : Met l yX10_leaves (.code yX10_leaves cX10_leaves 3 (some .int) :: TB) (rmw 9 0 0) (va_Pc [.ref (a 0), .int p0] (PW D k sz (MWS k a st sl))) (QI D (S := CT) (fun r u => MB u ∧ FR [7, 9, 8, 10, 11, 0] st u ∧ u 0 0 = st 0 0 ∧ u 0 5 = st 0 5 ∧ u 0 7 = st 0 7 ∧ u 0 8 = st 0 8 ∧ u 0 9 = st 0 9 ∧ u 0 10 = st 0 10 ∧ u 0 11 = st 0 11 ∧ u 0 12 = st 0 12 ∧ u 0 13 = st 0 13 ∧ u 0 20 = st 0 20 ∧ u 0 21 = st 0 21 ∧ u 0 22 = st 0 22 ∧ u 0 26 = st 0 26 ∧ u 0 27 = st 0 27 ∧ u 0 29 = st 0 29 ∧ u 0 33 = st 0 33 ∧ ((True))) (fun u => MWS k a u sl) (fun _ => []) (MWS k a st sl) sz) 0 0 (va_A (MWS k a st sl) sz) := by
  refine Met.ofW (cc := cX10_leaves) (maxL := 3) (ret := (some .int)) (by decide) rfl ?_
  intro p e s m args below meth c s₁ B hml hv
  obtain ⟨rfl, hsz, hP, hK, hD0, hN⟩ := hv
  have hx := B.exec
  have hb := B.bytes
  have hr := B.returns
  have hT : ∀ w9 ∈ TB, w9.before ([.ref (a 0), .int p0] : List Value).toArray s = true := fun w9 h => atoms_spec (ws := .code yX10_leaves cX10_leaves 3 (some .int) :: TB) B.pre w9 (List.mem_cons_of_mem _ h)
  have hown : s.vm.findClass RX10 = some m.cls := findClass_of_methodNamed B.named
  have S : CallFix p m c cX10_leaves 3 s _ TB RX10 := ⟨hx, hb, hml, hown, hT⟩
  subst hsz
  have hD := hD0.self (sz := s.heap.size)
  generalize hAe : va_A (MWS k a st sl) s.heap.size = A at hD ⊢
  have hA : ∀ q : Nat, s.heap.size ≤ q → A q := fun q h => by rw [← hAe]; exact Or.inr h
  have hS : va_S A s.heap s.heap [] := va_S.rf
  have hl := lv_entry ([.ref (a 0), .int p0]) (n := 3) (Nat.le_of_ble_eq_true rfl)
  rw [lg_entry_eq]
  generalize (lg_sl ([.ref (a 0), .int p0]) ++ List.replicate (3 - (lg_sl ([.ref (a 0), .int p0])).length) Slot.unset).toArray = ls at hl ⊢
  have hl : lv_has ls 3 [(0, .ref (a 0)), (1, .int p0)] := hl
  refine nameQ (fun Q hQ => ?_)
  refine lv_aload_n hx hb dX10_leaves_0 rfl (lv_at hl 0 rfl) ?_
  refine lv_iload_n hx hb dX10_leaves_1 rfl (lv_at hl 1 rfl) ?_
  refine ca_i hP hD hS hA (fun hDc => run_V (mc := 0) (ms := 0) (As := [.int p0]) (rest := []) S (m_X10_asksSeen l D k a st sl  p0 _  hB  hw) lkX10_361 ok_X10_asksSeen ⟨rfl, rfl, Nat.le_of_ble_eq_true rfl, Nat.le_of_ble_eq_true rfl⟩ (pw_V (ci := 10) (q0 := 0) hK hN rfl mw_0 hP hDc) rfl hl.1 rfl (Nat.le_of_ble_eq_true rfl) ⟨Nat.zero_le _, Nat.zero_le _⟩ dX10_leaves_2) (fun r2 s1 H9 locs9 hs1 hP9 hD9 hS9 => ?_)
  clear hP hD hS
  have hS := hS9
  have hP := hP9
  have hD := hD9
  clear hP9 hD9 hS9
  obtain ⟨hBs1, gs1, fs1⟩ := hs1
  have hFs1 : FR [7, 9, 8, 10, 11, 0] st s1 := fr_ca fr_rf gs1 (sub_1 (List.mem_of_getElem? (i := 0) rfl) (sub_1 (List.mem_of_getElem? (i := 1) rfl) (sub_1 (List.mem_of_getElem? (i := 2) rfl) (sub_1 (List.mem_of_getElem? (i := 3) rfl) (sub_1 (List.mem_of_getElem? (i := 4) rfl) sub_0)))))
  have h3 : Iv (-6) 0 r2 := fs1.1
  have k4 := fs1.2
  refine lv_istore_n (lv' := [(2, .int r2), (0, .ref (a 0)), (1, .int p0)]) hx hb dX10_leaves_5 rfl hl (by decide) rfl (fun ls hl => ?_)
  refine lv_iload_n hx hb dX10_leaves_6 rfl (lv_at hl 0 rfl) ?_
  refine lv_if_ge (tgt := 12) hx hb dX10_leaves_7 (by decide) (fun c5 => ?_) (fun c5 => ?_)
  · skip
    have n6 : (0 : Int32).toInt ≤ r2.toInt := (i_le c5)
    have h7 : Iv 0 0 r2 := le_r (iv_c (by decide) : Iv 0 0 0) n6 h3 (by decide)
    have k8 := k4 (iv_eq 0 h7 rfl)
    have h9 : Iv 0 3 p0 := k8.1
    refine lv_aload_n hx hb dX10_leaves_12 rfl (lv_at hl 1 rfl) ?_
    refine lv_iload_n hx hb dX10_leaves_13 rfl (lv_at hl 2 rfl) ?_
    refine ca_i hP hD hS hA (fun hDc => run_V (mc := 0) (ms := 0) (As := [.int p0]) (rest := []) S (m_X10_askOf l D k a s1 sl  p0 _  hBs1 h9 (wok_of (hFs1 1 (nm_1 (by decide) (nm_1 (by decide) (nm_1 (by decide) (nm_1 (by decide) (nm_1 (by decide) (nm_1 (by decide) nm_0))))))) hw) (by rw [(hFs1 18 (nm_1 (by decide) (nm_1 (by decide) (nm_1 (by decide) (nm_1 (by decide) (nm_1 (by decide) (nm_1 (by decide) nm_0)))))))]; exact k8.2)) lkX10_376 ok_X10_askOf ⟨rfl, rfl, Nat.le_of_ble_eq_true rfl, Nat.le_of_ble_eq_true rfl⟩ (pw_V (ci := 10) (q0 := 0) hK hN rfl mw_0 hP hDc) rfl hl.1 rfl (Nat.le_of_ble_eq_true rfl) ⟨Nat.zero_le _, Nat.zero_le _⟩ dX10_leaves_14) (fun r11 s10 H9 locs9 hs10 hP9 hD9 hS9 => ?_)
    clear hP hD hS
    have hS := hS9
    have hP := hP9
    have hD := hD9
    clear hP9 hD9 hS9
    obtain ⟨hBs10, gs10, qs10_0, qs10_1, qs10_2, qs10_3, qs10_4, qs10_5, qs10_6, qs10_7, qs10_8, qs10_9, qs10_10, qs10_11, qs10_12, qs10_13, qs10_14, qs10_15, fs10⟩ := hs10
    have hFs10 : FR [7, 9, 8, 10, 11, 0] st s10 := fr_ca hFs1 gs10 (sub_1 (List.mem_of_getElem? (i := 5) rfl) sub_0)
    have h12 : Iv (-1) 5 r11 := fs10.1
    refine lv_pop hx hb dX10_leaves_17 rfl ?_
    refine lv_aload_n hx hb dX10_leaves_18 rfl (lv_at hl 1 rfl) ?_
    refine va_get (D := D) (ci := 10) (v := .int (s10 0 31)) (C := RX10) (T := TX10) (N := 38) hx hb hT in_X10 hown hK hP 0 mw_0 rfl 31 (by decide) (hT _ t1293) (fun _ h9 => h9) rfl dX10_leaves_19 ?_
    rw [hQ]
    exact W.iret (v := (s10 0 31)) hx hb hr (fun t ht hW => ⟨⟨(s10 0 31), s10, rfl, ⟨hBs10, hFs10, (Eq.trans qs10_0 (congrFun (gs1 0 (nm_1 (by decide) (nm_1 (by decide) (nm_1 (by decide) (nm_1 (by decide) (nm_1 (by decide) nm_0)))))) 0)), (Eq.trans qs10_1 (congrFun (gs1 0 (nm_1 (by decide) (nm_1 (by decide) (nm_1 (by decide) (nm_1 (by decide) (nm_1 (by decide) nm_0)))))) 5)), (Eq.trans qs10_2 (congrFun (gs1 0 (nm_1 (by decide) (nm_1 (by decide) (nm_1 (by decide) (nm_1 (by decide) (nm_1 (by decide) nm_0)))))) 7)), (Eq.trans qs10_3 (congrFun (gs1 0 (nm_1 (by decide) (nm_1 (by decide) (nm_1 (by decide) (nm_1 (by decide) (nm_1 (by decide) nm_0)))))) 8)), (Eq.trans qs10_4 (congrFun (gs1 0 (nm_1 (by decide) (nm_1 (by decide) (nm_1 (by decide) (nm_1 (by decide) (nm_1 (by decide) nm_0)))))) 9)), (Eq.trans qs10_5 (congrFun (gs1 0 (nm_1 (by decide) (nm_1 (by decide) (nm_1 (by decide) (nm_1 (by decide) (nm_1 (by decide) nm_0)))))) 10)), (Eq.trans qs10_6 (congrFun (gs1 0 (nm_1 (by decide) (nm_1 (by decide) (nm_1 (by decide) (nm_1 (by decide) (nm_1 (by decide) nm_0)))))) 11)), (Eq.trans qs10_7 (congrFun (gs1 0 (nm_1 (by decide) (nm_1 (by decide) (nm_1 (by decide) (nm_1 (by decide) (nm_1 (by decide) nm_0)))))) 12)), (Eq.trans qs10_8 (congrFun (gs1 0 (nm_1 (by decide) (nm_1 (by decide) (nm_1 (by decide) (nm_1 (by decide) (nm_1 (by decide) nm_0)))))) 13)), (Eq.trans qs10_9 (congrFun (gs1 0 (nm_1 (by decide) (nm_1 (by decide) (nm_1 (by decide) (nm_1 (by decide) (nm_1 (by decide) nm_0)))))) 20)), (Eq.trans qs10_10 (congrFun (gs1 0 (nm_1 (by decide) (nm_1 (by decide) (nm_1 (by decide) (nm_1 (by decide) (nm_1 (by decide) nm_0)))))) 21)), (Eq.trans qs10_11 (congrFun (gs1 0 (nm_1 (by decide) (nm_1 (by decide) (nm_1 (by decide) (nm_1 (by decide) (nm_1 (by decide) nm_0)))))) 22)), (Eq.trans qs10_12 (congrFun (gs1 0 (nm_1 (by decide) (nm_1 (by decide) (nm_1 (by decide) (nm_1 (by decide) (nm_1 (by decide) nm_0)))))) 26)), (Eq.trans qs10_13 (congrFun (gs1 0 (nm_1 (by decide) (nm_1 (by decide) (nm_1 (by decide) (nm_1 (by decide) (nm_1 (by decide) nm_0)))))) 27)), (Eq.trans qs10_14 (congrFun (gs1 0 (nm_1 (by decide) (nm_1 (by decide) (nm_1 (by decide) (nm_1 (by decide) (nm_1 (by decide) nm_0)))))) 29)), (Eq.trans qs10_15 (congrFun (gs1 0 (nm_1 (by decide) (nm_1 (by decide) (nm_1 (by decide) (nm_1 (by decide) (nm_1 (by decide) nm_0)))))) 33)), trivial⟩, by rw [ht]; exact hP, va_K.moved hW.alike (hK.sub (tys' := []) [] rfl), by rw [hAe]; exact hD⟩, by rw [hAe]; exact hS.F ht⟩) hS.2.2 dX10_leaves_22
  · skip
    have n13 : r2.toInt < (0 : Int32).toInt := (i_nle c5)
    have h14 : Iv (-6) (-1) r2 := lt_l h3 n13 (iv_c (by decide) : Iv 0 0 0) (by decide)
    refine lv_iload_n hx hb dX10_leaves_10 rfl (lv_at hl 0 rfl) ?_
    rw [hQ]
    exact W.iret (v := r2) hx hb hr (fun t ht hW => ⟨⟨r2, s1, rfl, ⟨hBs1, hFs1, (congrFun (gs1 0 (nm_1 (by decide) (nm_1 (by decide) (nm_1 (by decide) (nm_1 (by decide) (nm_1 (by decide) nm_0)))))) 0), (congrFun (gs1 0 (nm_1 (by decide) (nm_1 (by decide) (nm_1 (by decide) (nm_1 (by decide) (nm_1 (by decide) nm_0)))))) 5), (congrFun (gs1 0 (nm_1 (by decide) (nm_1 (by decide) (nm_1 (by decide) (nm_1 (by decide) (nm_1 (by decide) nm_0)))))) 7), (congrFun (gs1 0 (nm_1 (by decide) (nm_1 (by decide) (nm_1 (by decide) (nm_1 (by decide) (nm_1 (by decide) nm_0)))))) 8), (congrFun (gs1 0 (nm_1 (by decide) (nm_1 (by decide) (nm_1 (by decide) (nm_1 (by decide) (nm_1 (by decide) nm_0)))))) 9), (congrFun (gs1 0 (nm_1 (by decide) (nm_1 (by decide) (nm_1 (by decide) (nm_1 (by decide) (nm_1 (by decide) nm_0)))))) 10), (congrFun (gs1 0 (nm_1 (by decide) (nm_1 (by decide) (nm_1 (by decide) (nm_1 (by decide) (nm_1 (by decide) nm_0)))))) 11), (congrFun (gs1 0 (nm_1 (by decide) (nm_1 (by decide) (nm_1 (by decide) (nm_1 (by decide) (nm_1 (by decide) nm_0)))))) 12), (congrFun (gs1 0 (nm_1 (by decide) (nm_1 (by decide) (nm_1 (by decide) (nm_1 (by decide) (nm_1 (by decide) nm_0)))))) 13), (congrFun (gs1 0 (nm_1 (by decide) (nm_1 (by decide) (nm_1 (by decide) (nm_1 (by decide) (nm_1 (by decide) nm_0)))))) 20), (congrFun (gs1 0 (nm_1 (by decide) (nm_1 (by decide) (nm_1 (by decide) (nm_1 (by decide) (nm_1 (by decide) nm_0)))))) 21), (congrFun (gs1 0 (nm_1 (by decide) (nm_1 (by decide) (nm_1 (by decide) (nm_1 (by decide) (nm_1 (by decide) nm_0)))))) 22), (congrFun (gs1 0 (nm_1 (by decide) (nm_1 (by decide) (nm_1 (by decide) (nm_1 (by decide) (nm_1 (by decide) nm_0)))))) 26), (congrFun (gs1 0 (nm_1 (by decide) (nm_1 (by decide) (nm_1 (by decide) (nm_1 (by decide) (nm_1 (by decide) nm_0)))))) 27), (congrFun (gs1 0 (nm_1 (by decide) (nm_1 (by decide) (nm_1 (by decide) (nm_1 (by decide) (nm_1 (by decide) nm_0)))))) 29), (congrFun (gs1 0 (nm_1 (by decide) (nm_1 (by decide) (nm_1 (by decide) (nm_1 (by decide) (nm_1 (by decide) nm_0)))))) 33), trivial⟩, by rw [ht]; exact hP, va_K.moved hW.alike (hK.sub (tys' := []) [] rfl), by rw [hAe]; exact hD⟩, by rw [hAe]; exact hS.F ht⟩) hS.2.2 dX10_leaves_11
set_option maxHeartbeats 4000000 in
set_option maxRecDepth 100000 in
theorem m_X10_votes (l : Launch) (D : va_G) (k : Nat → ClassId) (a : Nat → Nat) (st : CT) (sl : CL) (p0 : Int32) (p1 : Int32) (sz : Nat) (hB : MB st)  (hw : WOK (st 1)) : Met l yX10_votes (.code yX10_votes cX10_votes 5 (some .int) :: TB) (rmw 8 0 0) (va_Pc [.ref (a 0), .int p0, .int p1] (PW D k sz (MWS k a st sl))) (QI D (S := CT) (fun r u => MB u ∧ FR [7, 9, 8, 10, 11] st u ∧ (Iv (-2) 255 r ∧ (True))) (fun u => MWS k a u sl) (fun _ => []) (MWS k a st sl) sz) 0 0 (va_A (MWS k a st sl) sz) := by
  refine Met.ofW (cc := cX10_votes) (maxL := 5) (ret := (some .int)) (by decide) rfl ?_
  intro p e s m args below meth c s₁ B hml hv
  obtain ⟨rfl, hsz, hP, hK, hD0, hN⟩ := hv
  have hx := B.exec
  have hb := B.bytes
  have hr := B.returns
  have hT : ∀ w9 ∈ TB, w9.before ([.ref (a 0), .int p0, .int p1] : List Value).toArray s = true := fun w9 h => atoms_spec (ws := .code yX10_votes cX10_votes 5 (some .int) :: TB) B.pre w9 (List.mem_cons_of_mem _ h)
  have hown : s.vm.findClass RX10 = some m.cls := findClass_of_methodNamed B.named
  have S : CallFix p m c cX10_votes 5 s _ TB RX10 := ⟨hx, hb, hml, hown, hT⟩
  subst hsz
  have hD := hD0.self (sz := s.heap.size)
  generalize hAe : va_A (MWS k a st sl) s.heap.size = A at hD ⊢
  have hA : ∀ q : Nat, s.heap.size ≤ q → A q := fun q h => by rw [← hAe]; exact Or.inr h
  have hS : va_S A s.heap s.heap [] := va_S.rf
  have hl := lv_entry ([.ref (a 0), .int p0, .int p1]) (n := 5) (Nat.le_of_ble_eq_true rfl)
  rw [lg_entry_eq]
  generalize (lg_sl ([.ref (a 0), .int p0, .int p1]) ++ List.replicate (5 - (lg_sl ([.ref (a 0), .int p0, .int p1])).length) Slot.unset).toArray = ls at hl ⊢
  have hl : lv_has ls 5 [(0, .ref (a 0)), (1, .int p0), (2, .int p1)] := hl
  refine nameQ (fun Q hQ => ?_)
  refine lv_aload_n hx hb dX10_votes_0 rfl (lv_at hl 0 rfl) ?_
  refine lv_iload_n hx hb dX10_votes_1 rfl (lv_at hl 1 rfl) ?_
  refine lv_i2l hx hb dX10_votes_2 rfl ?_
  refine ro_V (As := [.long (p0.toInt64)]) (rest := []) S (m_X10_isPlace l D k a st sl  (p0.toInt64) _  hB  hw) lkX10_282 ok_X10_isPlace ⟨rfl, rfl, Nat.le_of_ble_eq_true rfl, Nat.le_of_ble_eq_true rfl⟩ (pw_V (ci := 10) (q0 := 0) hK hN rfl mw_0 hP (hD.weaken (fun _ _ _ _ => trivial))) rfl hl.1 rfl (Nat.le_of_ble_eq_true rfl) ⟨Nat.zero_le _, Nat.zero_le _⟩ dX10_votes_3 (fun r1 er1 => ?_)
  rcases er1 with ⟨rfl, g9⟩ | ⟨rfl, g9⟩
  · skip
    have g2 := g9
    have h3 : (0 : Int) ≤ (p0.toInt64).toInt ∧ (p0.toInt64).toInt ≤ (5 : Int) := ⟨(g2).1, (g2).2⟩
    have h4 : Iv 0 5 p0 := iv_lv h3
    refine lv_if_eq (tgt := 27) hx hb dX10_votes_6 (by decide) (fun c5 => ?_) (fun c5 => ?_)
    · first | exact absurd c5 (by decide) | exact absurd (by decide) c5
    refine lv_aload_n hx hb dX10_votes_9 rfl (lv_at hl 0 rfl) ?_
    refine lv_iload_n hx hb dX10_votes_10 rfl (lv_at hl 2 rfl) ?_
    refine lv_i2l hx hb dX10_votes_11 rfl ?_
    refine ro_V (As := [.long (p1.toInt64)]) (rest := []) S (m_X10_isRoad l D k a st sl  (p1.toInt64) _  hB  hw) lkX10_265 ok_X10_isRoad ⟨rfl, rfl, Nat.le_of_ble_eq_true rfl, Nat.le_of_ble_eq_true rfl⟩ (pw_V (ci := 10) (q0 := 0) hK hN rfl mw_0 hP (hD.weaken (fun _ _ _ _ => trivial))) rfl hl.1 rfl (Nat.le_of_ble_eq_true rfl) ⟨Nat.zero_le _, Nat.zero_le _⟩ dX10_votes_12 (fun r6 er6 => ?_)
    rcases er6 with ⟨rfl, g9⟩ | ⟨rfl, g9⟩
    · skip
      have g7 := g9
      have h8 : (0 : Int) ≤ (p1.toInt64).toInt ∧ (p1.toInt64).toInt ≤ (7 : Int) := ⟨(g7).1, (g7).2⟩
      have h9 : Iv 0 7 p1 := iv_lv h8
      refine lv_if_eq (tgt := 27) hx hb dX10_votes_15 (by decide) (fun c10 => ?_) (fun c10 => ?_)
      · first | exact absurd c10 (by decide) | exact absurd (by decide) c10
      refine lv_aload_n hx hb dX10_votes_18 rfl (lv_at hl 0 rfl) ?_
      refine lv_iload_n hx hb dX10_votes_19 rfl (lv_at hl 2 rfl) ?_
      refine lv_iload_n hx hb dX10_votes_20 rfl (lv_at hl 1 rfl) ?_
      refine ro_V (As := [.int p1, .int p0]) (rest := []) S (m_X10_isOf l D k a st sl  p1 p0 _  hB h9 hw) lkX10_93 ok_X10_isOf ⟨rfl, rfl, Nat.le_of_ble_eq_true rfl, Nat.le_of_ble_eq_true rfl⟩ (pw_V (ci := 10) (q0 := 0) hK hN rfl mw_0 hP (hD.weaken (fun _ _ _ _ => trivial))) rfl hl.1 rfl (Nat.le_of_ble_eq_true rfl) ⟨Nat.zero_le _, Nat.zero_le _⟩ dX10_votes_21 (fun r11 er11 => ?_)
      rcases er11 with ⟨rfl, g9⟩ | ⟨rfl, g9⟩
      · skip
        have g12 := g9
        have k13 := g12.2
        refine lv_if_ne (tgt := 30) hx hb dX10_votes_24 (by decide) (fun c14 => ?_) (fun c14 => ?_)
        rotate_left
        · first | exact absurd c14 (by decide) | exact absurd (by decide) c14
        refine lv_aload_n hx hb dX10_votes_30 rfl (lv_at hl 0 rfl) ?_
        refine ca_v hP hD hS hA (fun hDc => run_V (mc := 0) (ms := 0) (As := []) (rest := []) S (m_X10_asItIs l D k a st sl   _  hB  hw) lkX10_273 ok_X10_asItIs ⟨rfl, rfl, Nat.le_of_ble_eq_true rfl, Nat.le_of_ble_eq_true rfl⟩ (pw_V (ci := 10) (q0 := 0) hK hN rfl mw_0 hP hDc) rfl hl.1 rfl (Nat.le_of_ble_eq_true rfl) ⟨Nat.zero_le _, Nat.zero_le _⟩ dX10_votes_31) (fun s15 H9 locs9 hs15 hP9 hD9 hS9 => ?_)
        clear hP hD hS
        have hS := hS9
        have hP := hP9
        have hD := hD9
        clear hP9 hD9 hS9
        obtain ⟨hBs15, gs15, fs15⟩ := hs15
        have hFs15 : FR [7, 9, 8, 10, 11] st s15 := fr_ca fr_rf gs15 (sub_1 (List.mem_of_getElem? (i := 0) rfl) (sub_1 (List.mem_of_getElem? (i := 1) rfl) (sub_1 (List.mem_of_getElem? (i := 2) rfl) (sub_1 (List.mem_of_getElem? (i := 3) rfl) (sub_1 (List.mem_of_getElem? (i := 4) rfl) sub_0)))))
        refine lv_iconst (v := 0) hx hb dX10_votes_34 (by decide) ?_
        refine lv_istore_n (lv' := [(3, .int 0), (0, .ref (a 0)), (1, .int p0), (2, .int p1)]) hx hb dX10_votes_35 rfl hl (by decide) rfl (fun ls hl => ?_)
        refine lv_iconst (v := 0) hx hb dX10_votes_36 (by decide) ?_
        refine lv_istore (lv' := [(4, .int 0), (3, .int 0), (0, .ref (a 0)), (1, .int p0), (2, .int p1)]) hx hb dX10_votes_37 hl (by decide) rfl (fun ls hl => ?_)
        have lp39 : ∀ (n9_39 : Nat) (v4_39 : Int32) (v3_39 : Int32) (ls : Array Slot), Iv 0 8 v4_39 → Iv 0 255 v3_39 → lv_has ls 5 [(4, .int v4_39), (3, .int v3_39), (0, .ref (a 0)), (1, .int p0), (2, .int p1)] → (8 : Int) - v4_39.toInt < (n9_39 : Int) → W p l e (rmw 8 0 0) s m ([.ref (a 0), .int p0, .int p1] : List Value).toArray below meth c H9 locs9 0 0 Q (F0 m 39 ls []) := by
          clear hl
          intro n9_39
          induction n9_39 with
          | zero =>
            intro v4_39 v3_39 ls iv4_39 iv3_39 hl hm39
            exact (fu_0 iv4_39 hm39).elim
          | succ n9_39 ih39 =>
            intro v4_39 v3_39 ls iv4_39 iv3_39 hl hm39
            refine lv_iload hx hb dX10_votes_39 (lv_at hl 0 rfl) ?_
            refine lv_aload_n hx hb dX10_votes_41 rfl (lv_at hl 2 rfl) ?_
            refine va_get (D := D) (ci := 10) (v := .ref (a 1)) (C := RX10) (T := TX10) (N := 38) hx hb hT in_X10 hown hK hP 0 mw_0 rfl 1 (by decide) (hT _ t1263) (fun _ h9 => h9) rfl dX10_votes_42 ?_
            refine lv_iconst (v := 3) hx hb dX10_votes_45 (by decide) ?_
            refine va_iald hx hb hK hP 1 0 mw_1 rfl (by unfold vp_in; decide) dX10_votes_46 ?_
            refine k_top (y := (s15 1 3)) rfl ?_
            refine k_top (y := (st 1 3)) (congrFun (hFs15 1 (nm_1 (by decide) (nm_1 (by decide) (nm_1 (by decide) (nm_1 (by decide) (nm_1 (by decide) nm_0)))))) 3) ?_
            have h197 : Iv 0 8 (st 1 3) := (tok_at (hw).1 3 0 8 (by decide) (by decide) (by decide))
            refine lv_icmp_ge (tgt := 78) hx hb dX10_votes_47 (by decide) (fun c198 => ?_) (fun c198 => ?_)
            · skip
              have n199 : (st 1 3).toInt ≤ v4_39.toInt := (i_le c198)
              refine lv_iload_n hx hb dX10_votes_78 rfl (lv_at hl 1 rfl) ?_
              rw [hQ]
              exact W.iret (v := v3_39) hx hb hr (fun t ht hW => ⟨⟨v3_39, s15, rfl, ⟨hBs15, hFs15, ⟨(iv_mono (c := (-2)) (d := 255) iv3_39 (by decide) (by decide)), trivial⟩⟩, by rw [ht]; exact hP, va_K.moved hW.alike (hK.sub (tys' := []) [] rfl), by rw [hAe]; exact hD⟩, by rw [hAe]; exact hS.F ht⟩) hS.2.2 dX10_votes_79
            · skip
              have n200 : v4_39.toInt < (st 1 3).toInt := (i_nle c198)
              have h201 : Iv 0 7 v4_39 := lt_l iv4_39 n200 h197 (by decide)
              have h202 : Iv 1 8 (st 1 3) := lt_r iv4_39 n200 h197 (by decide)
              refine lv_iload_n hx hb dX10_votes_50 rfl (lv_at hl 1 rfl) ?_
              refine lv_aload_n hx hb dX10_votes_51 rfl (lv_at hl 2 rfl) ?_
              refine lv_iload hx hb dX10_votes_52 (lv_at hl 0 rfl) ?_
              refine lv_iload_n hx hb dX10_votes_54 rfl (lv_at hl 3 rfl) ?_
              refine ro_V (As := [.int v4_39, .int p0]) (rest := [.int v3_39]) S (m_X10_aloneIn l D k a s15 sl  v4_39 p0 _  hBs15  (wok_of (hFs15 1 (nm_1 (by decide) (nm_1 (by decide) (nm_1 (by decide) (nm_1 (by decide) (nm_1 (by decide) nm_0)))))) hw)) lkX10_358 ok_X10_aloneIn ⟨rfl, rfl, Nat.le_of_ble_eq_true rfl, Nat.le_of_ble_eq_true rfl⟩ (pw_V (ci := 10) (q0 := 0) hK hN rfl mw_0 hP (hD.weaken (fun _ _ _ _ => trivial))) rfl hl.1 rfl (Nat.le_of_ble_eq_true rfl) ⟨Nat.zero_le _, Nat.zero_le _⟩ dX10_votes_55 (fun r203 er203 => ?_)
              have h204 : Iv (-1) 7 r203 := er203.1
              refine lv_iload_n hx hb dX10_votes_58 rfl (lv_at hl 4 rfl) ?_
              refine lv_icmp_ne (tgt := 69) hx hb dX10_votes_59 (by decide) (fun c205 => ?_) (fun c205 => ?_)
              · skip
                refine lv_iconst (v := 0) hx hb dX10_votes_69 (by decide) ?_
                refine lv_ior hx hb dX10_votes_70 ?_
                refine lv_topi (fun z206 ez206 => ?_)
                have h207 : Iv 0 255 z206 := iv_or 8 ez206 iv3_39 (iv_c (by decide) : Iv 0 0 0) (by decide) (by decide) (by decide) (by decide)
                refine lv_istore_n (lv' := [(3, .int z206), (4, .int v4_39), (0, .ref (a 0)), (1, .int p0), (2, .int p1)]) hx hb dX10_votes_71 rfl hl (by decide) rfl (fun ls hl => ?_)
                obtain ⟨z208, ez208⟩ : ∃ z9 : Int32, z9 = v4_39 + Int32.ofInt 1 := ⟨_, rfl⟩
                have h209 : Iv 1 8 z208 := iv_inc ez208 h201 (by decide) (by decide) (by decide) (by decide) (by decide) (by decide)
                refine lv_iinc (v := z208) (lv' := [(4, .int z208), (3, .int z206), (0, .ref (a 0)), (1, .int p0), (2, .int p1)]) hx hb dX10_votes_72 hl (k := 1) rfl ez208.symm (by decide) rfl (fun ls hl => ?_)
                refine lv_goto (tgt := 39) hx hb dX10_votes_75 (by decide) ?_
                exact ih39 z208 z206 _ (iv_mono (c := 0) (d := 8) h209 (by decide) (by decide)) h207 (lv_sub hl [0, 1, 2, 3, 4] rfl) (fu_s (lo := 0) (ti_inc ez208 h201 (by decide) (by decide) (by decide) (by decide)) (by decide) hm39)
              · skip
                have h210 : Iv 0 7 r203 := eq_l c205 h9
                refine lv_iconst (v := 1) hx hb dX10_votes_62 (by decide) ?_
                refine lv_iload hx hb dX10_votes_63 (lv_at hl 0 rfl) ?_
                refine lv_ishl hx hb dX10_votes_65 ?_
                refine lv_topi (fun z211 ez211 => ?_)
                have h212 : Iv 1 128 z211 := iv_shl 7 ez211 h201 (by decide) (by decide) (by decide)
                refine lv_goto (tgt := 70) hx hb dX10_votes_66 (by decide) ?_
                refine lv_ior hx hb dX10_votes_70 ?_
                refine lv_topi (fun z213 ez213 => ?_)
                have h214 : Iv 0 255 z213 := iv_or 8 ez213 iv3_39 (iv_mono (c := 0) (d := 128) h212 (by decide) (by decide)) (by decide) (by decide) (by decide) (by decide)
                refine lv_istore_n (lv' := [(3, .int z213), (4, .int v4_39), (0, .ref (a 0)), (1, .int p0), (2, .int p1)]) hx hb dX10_votes_71 rfl hl (by decide) rfl (fun ls hl => ?_)
                obtain ⟨z215, ez215⟩ : ∃ z9 : Int32, z9 = v4_39 + Int32.ofInt 1 := ⟨_, rfl⟩
                have h216 : Iv 1 8 z215 := iv_inc ez215 h201 (by decide) (by decide) (by decide) (by decide) (by decide) (by decide)
                refine lv_iinc (v := z215) (lv' := [(4, .int z215), (3, .int z213), (0, .ref (a 0)), (1, .int p0), (2, .int p1)]) hx hb dX10_votes_72 hl (k := 1) rfl ez215.symm (by decide) rfl (fun ls hl => ?_)
                refine lv_goto (tgt := 39) hx hb dX10_votes_75 (by decide) ?_
                exact ih39 z215 z213 _ (iv_mono (c := 0) (d := 8) h216 (by decide) (by decide)) h214 (lv_sub hl [0, 1, 2, 3, 4] rfl) (fu_s (lo := 0) (ti_inc ez215 h201 (by decide) (by decide) (by decide) (by decide)) (by decide) hm39)
        exact lp39 9 0 0 _ (iv_mono (c := 0) (d := 8) (iv_c (by decide) : Iv 0 0 0) (by decide) (by decide)) (iv_mono (c := 0) (d := 255) (iv_c (by decide) : Iv 0 0 0) (by decide) (by decide)) (lv_sub hl [0, 1, 2, 3, 4] rfl) (fu_i (iv_mono (c := 0) (d := 8) (iv_c (by decide) : Iv 0 0 0) (by decide) (by decide)) (by decide))
      · skip
        have g217 := g9
        have k218 := g217
        refine lv_if_ne (tgt := 30) hx hb dX10_votes_24 (by decide) (fun c219 => ?_) (fun c219 => ?_)
        · first | exact absurd c219 (by decide) | exact absurd (by decide) c219
        refine lv_bipush (v := (-2)) hx hb dX10_votes_27 (by decide) ?_
        rw [hQ]
        exact W.iret (v := (-2)) hx hb hr (fun t ht hW => ⟨⟨(-2), st, rfl, ⟨hB, fr_rf, ⟨(iv_mono (c := (-2)) (d := 255) (iv_c (by decide) : Iv (-2) (-2) (-2)) (by decide) (by decide)), trivial⟩⟩, by rw [ht]; exact hP, va_K.moved hW.alike (hK.sub (tys' := []) [] rfl), by rw [hAe]; exact hD⟩, by rw [hAe]; exact hS.F ht⟩) hS.2.2 dX10_votes_29
    · skip
      have g220 := g9
      refine lv_if_eq (tgt := 27) hx hb dX10_votes_15 (by decide) (fun c221 => ?_) (fun c221 => ?_)
      rotate_left
      · first | exact absurd c221 (by decide) | exact absurd (by decide) c221
      refine lv_bipush (v := (-2)) hx hb dX10_votes_27 (by decide) ?_
      rw [hQ]
      exact W.iret (v := (-2)) hx hb hr (fun t ht hW => ⟨⟨(-2), st, rfl, ⟨hB, fr_rf, ⟨(iv_mono (c := (-2)) (d := 255) (iv_c (by decide) : Iv (-2) (-2) (-2)) (by decide) (by decide)), trivial⟩⟩, by rw [ht]; exact hP, va_K.moved hW.alike (hK.sub (tys' := []) [] rfl), by rw [hAe]; exact hD⟩, by rw [hAe]; exact hS.F ht⟩) hS.2.2 dX10_votes_29
  · skip
    have g222 := g9
    refine lv_if_eq (tgt := 27) hx hb dX10_votes_6 (by decide) (fun c223 => ?_) (fun c223 => ?_)
    rotate_left
    · first | exact absurd c223 (by decide) | exact absurd (by decide) c223
    refine lv_bipush (v := (-2)) hx hb dX10_votes_27 (by decide) ?_
    rw [hQ]
    exact W.iret (v := (-2)) hx hb hr (fun t ht hW => ⟨⟨(-2), st, rfl, ⟨hB, fr_rf, ⟨(iv_mono (c := (-2)) (d := 255) (iv_c (by decide) : Iv (-2) (-2) (-2)) (by decide) (by decide)), trivial⟩⟩, by rw [ht]; exact hP, va_K.moved hW.alike (hK.sub (tys' := []) [] rfl), by rw [hAe]; exact hD⟩, by rw [hAe]; exact hS.F ht⟩) hS.2.2 dX10_votes_29
