set_option maxHeartbeats 4000000 in
set_option maxRecDepth 100000 in
theorem m_X10_dues (l : Launch) (D : va_G) (k : Nat → ClassId) (a : Nat → Nat) (st : CT) (sl : CL) (sz : Nat) (hB : MB st)  (hw : WOK (st 1)) : Met l yX10_dues (.code yX10_dues cX10_dues 3 (some .int) :: TB) (rmw 8 0 0) (va_Pc [.ref (a 0)] (PW D k sz (MWS k a st sl))) (QI D (S := CT) (fun r u => MB u ∧ FR [7, 9, 8, 10, 11, 0, 12, 13, 14] st u ∧ u 0 0 = st 0 0 ∧ u 0 5 = st 0 5 ∧ u 0 7 = st 0 7 ∧ u 0 8 = st 0 8 ∧ u 0 9 = st 0 9 ∧ u 0 10 = st 0 10 ∧ u 0 11 = st 0 11 ∧ u 0 12 = st 0 12 ∧ u 0 13 = st 0 13 ∧ u 0 20 = st 0 20 ∧ u 0 21 = st 0 21 ∧ u 0 22 = st 0 22 ∧ u 0 29 = st 0 29 ∧ u 0 31 = st 0 31 ∧ u 0 33 = st 0 33 ∧ (Iv (-2) 63 r ∧ (True))) (fun u => MWS k a u sl) (fun _ => []) (MWS k a st sl) sz) 0 0 (va_A (MWS k a st sl) sz) := by
  refine Met.ofW (cc := cX10_dues) (maxL := 3) (ret := (some .int)) (by decide) rfl ?_
  intro p e s m args below meth c s₁ B hml hv
  obtain ⟨rfl, hsz, hP, hK, hD0, hN⟩ := hv
  have hx := B.exec
  have hb := B.bytes
  have hr := B.returns
  have hT : ∀ w9 ∈ TB, w9.before ([.ref (a 0)] : List Value).toArray s = true := fun w9 h => atoms_spec (ws := .code yX10_dues cX10_dues 3 (some .int) :: TB) B.pre w9 (List.mem_cons_of_mem _ h)
  have hown : s.vm.findClass RX10 = some m.cls := findClass_of_methodNamed B.named
  have S : CallFix p m c cX10_dues 3 s _ TB RX10 := ⟨hx, hb, hml, hown, hT⟩
  subst hsz
  have hD := hD0.self (sz := s.heap.size)
  generalize hAe : va_A (MWS k a st sl) s.heap.size = A at hD ⊢
  have hA : ∀ q : Nat, s.heap.size ≤ q → A q := fun q h => by rw [← hAe]; exact Or.inr h
  have hS : va_S A s.heap s.heap [] := va_S.rf
  have hl := lv_entry ([.ref (a 0)]) (n := 3) (Nat.le_of_ble_eq_true rfl)
  rw [lg_entry_eq]
  generalize (lg_sl ([.ref (a 0)]) ++ List.replicate (3 - (lg_sl ([.ref (a 0)])).length) Slot.unset).toArray = ls at hl ⊢
  have hl : lv_has ls 3 [(0, .ref (a 0))] := hl
  refine nameQ (fun Q hQ => ?_)
  refine lv_aload_n hx hb dX10_dues_0 rfl (lv_at hl 0 rfl) ?_
  refine ro_V (As := []) (rest := []) S (m_X10_isLand l D k a st sl   _  hB  hw) lkX10_297 ok_X10_isLand ⟨rfl, rfl, Nat.le_of_ble_eq_true rfl, Nat.le_of_ble_eq_true rfl⟩ (pw_V (ci := 10) (q0 := 0) hK hN rfl mw_0 hP (hD.weaken (fun _ _ _ _ => trivial))) rfl hl.1 rfl (Nat.le_of_ble_eq_true rfl) ⟨Nat.zero_le _, Nat.zero_le _⟩ dX10_dues_1 (fun r1 er1 => ?_)
  rcases er1 with ⟨rfl, g9⟩ | ⟨rfl, g9⟩
  · skip
    have g2 := g9
    refine lv_if_ne (tgt := 10) hx hb dX10_dues_4 (by decide) (fun c3 => ?_) (fun c3 => ?_)
    rotate_left
    · first | exact absurd c3 (by decide) | exact absurd (by decide) c3
    refine lv_iconst (v := 0) hx hb dX10_dues_10 (by decide) ?_
    refine lv_istore_n (lv' := [(1, .int 0), (0, .ref (a 0))]) hx hb dX10_dues_11 rfl hl (by decide) rfl (fun ls hl => ?_)
    refine lv_iconst (v := 0) hx hb dX10_dues_12 (by decide) ?_
    refine lv_istore_n (lv' := [(2, .int 0), (1, .int 0), (0, .ref (a 0))]) hx hb dX10_dues_13 rfl hl (by decide) rfl (fun ls hl => ?_)
    have lp14 : ∀ (n9_14 : Nat) (v2_14 : Int32) (v1_14 : Int32) (t14 : CT) (H9 : Heap) (locs9 : List Loc) (ls : Array Slot), Iv 0 6 v2_14 → Iv 0 63 v1_14 → MB t14 → FR [7, 9, 8, 10, 11, 0, 12, 13, 14] st t14 → t14 0 0 = st 0 0 → t14 0 5 = st 0 5 → t14 0 7 = st 0 7 → t14 0 8 = st 0 8 → t14 0 9 = st 0 9 → t14 0 10 = st 0 10 → t14 0 11 = st 0 11 → t14 0 12 = st 0 12 → t14 0 13 = st 0 13 → t14 0 20 = st 0 20 → t14 0 21 = st 0 21 → t14 0 22 = st 0 22 → t14 0 29 = st 0 29 → t14 0 31 = st 0 31 → t14 0 33 = st 0 33 → va_P D vwCl (MWS k a t14 sl) H9 → va_D A (MWS k a t14 sl) → va_S A s.heap H9 locs9 → lv_has ls 3 [(2, .int v2_14), (1, .int v1_14), (0, .ref (a 0))] → (6 : Int) - v2_14.toInt < (n9_14 : Int) → W p l e (rmw 8 0 0) s m ([.ref (a 0)] : List Value).toArray below meth c H9 locs9 0 0 Q (F0 m 14 ls []) := by
      clear hl hP hD hS
      intro n9_14
      induction n9_14 with
      | zero =>
        intro v2_14 v1_14 t14 H9 locs9 ls iv2_14 iv1_14 hBt14 gt14 qt14_0 qt14_1 qt14_2 qt14_3 qt14_4 qt14_5 qt14_6 qt14_7 qt14_8 qt14_9 qt14_10 qt14_11 qt14_12 qt14_13 qt14_14 hP hD hS hl hm14
        exact (fu_0 iv2_14 hm14).elim
      | succ n9_14 ih14 =>
        intro v2_14 v1_14 t14 H9 locs9 ls iv2_14 iv1_14 hBt14 gt14 qt14_0 qt14_1 qt14_2 qt14_3 qt14_4 qt14_5 qt14_6 qt14_7 qt14_8 qt14_9 qt14_10 qt14_11 qt14_12 qt14_13 qt14_14 hP hD hS hl hm14
        have hFt14 : FR [7, 9, 8, 10, 11, 0, 12, 13, 14] st t14 := fr_ca fr_rf gt14 (sub_1 (List.mem_of_getElem? (i := 0) rfl) (sub_1 (List.mem_of_getElem? (i := 1) rfl) (sub_1 (List.mem_of_getElem? (i := 2) rfl) (sub_1 (List.mem_of_getElem? (i := 3) rfl) (sub_1 (List.mem_of_getElem? (i := 4) rfl) (sub_1 (List.mem_of_getElem? (i := 5) rfl) (sub_1 (List.mem_of_getElem? (i := 6) rfl) (sub_1 (List.mem_of_getElem? (i := 7) rfl) (sub_1 (List.mem_of_getElem? (i := 8) rfl) sub_0)))))))))
        refine lv_iload_n hx hb dX10_dues_14 rfl (lv_at hl 0 rfl) ?_
        refine lv_aload_n hx hb dX10_dues_15 rfl (lv_at hl 2 rfl) ?_
        refine va_get (D := D) (ci := 10) (v := .ref (a 1)) (C := RX10) (T := TX10) (N := 38) hx hb hT in_X10 hown hK hP 0 mw_0 rfl 1 (by decide) (hT _ t1263) (fun _ h9 => h9) rfl dX10_dues_16 ?_
        refine lv_iconst (v := 5) hx hb dX10_dues_19 (by decide) ?_
        refine va_iald hx hb hK hP 1 0 mw_1 rfl (by unfold vp_in; decide) dX10_dues_20 ?_
        refine k_top (y := (t14 1 5)) rfl ?_
        refine k_top (y := (st 1 5)) (congrFun (hFt14 1 (nm_1 (by decide) (nm_1 (by decide) (nm_1 (by decide) (nm_1 (by decide) (nm_1 (by decide) (nm_1 (by decide) (nm_1 (by decide) (nm_1 (by decide) (nm_1 (by decide) nm_0)))))))))) 5) ?_
        have h256 : Iv 0 6 (st 1 5) := (tok_at (hw).1 5 0 6 (by decide) (by decide) (by decide))
        refine lv_icmp_ge (tgt := 88) hx hb dX10_dues_21 (by decide) (fun c257 => ?_) (fun c257 => ?_)
        · skip
          have n258 : (st 1 5).toInt ≤ v2_14.toInt := (i_le c257)
          refine lv_iload_n hx hb dX10_dues_88 rfl (lv_at hl 1 rfl) ?_
          rw [hQ]
          exact W.iret (v := v1_14) hx hb hr (fun t ht hW => ⟨⟨v1_14, t14, rfl, ⟨hBt14, hFt14, qt14_0, qt14_1, qt14_2, qt14_3, qt14_4, qt14_5, qt14_6, qt14_7, qt14_8, qt14_9, qt14_10, qt14_11, qt14_12, qt14_13, qt14_14, ⟨(iv_mono (c := (-2)) (d := 63) iv1_14 (by decide) (by decide)), trivial⟩⟩, by rw [ht]; exact hP, va_K.moved hW.alike (hK.sub (tys' := []) [] rfl), by rw [hAe]; exact hD⟩, by rw [hAe]; exact hS.F ht⟩) hS.2.2 dX10_dues_89
        · skip
          have n259 : v2_14.toInt < (st 1 5).toInt := (i_nle c257)
          have h260 : Iv 0 5 v2_14 := lt_l iv2_14 n259 h256 (by decide)
          have h261 : Iv 1 6 (st 1 5) := lt_r iv2_14 n259 h256 (by decide)
          refine lv_aload_n hx hb dX10_dues_24 rfl (lv_at hl 2 rfl) ?_
          refine ca_v hP hD hS hA (fun hDc => run_V (mc := 0) (ms := 0) (As := []) (rest := []) S (m_X10_asItIs l D k a t14 sl   _  hBt14  (wok_of (hFt14 1 (nm_1 (by decide) (nm_1 (by decide) (nm_1 (by decide) (nm_1 (by decide) (nm_1 (by decide) (nm_1 (by decide) (nm_1 (by decide) (nm_1 (by decide) (nm_1 (by decide) nm_0)))))))))) hw)) lkX10_273 ok_X10_asItIs ⟨rfl, rfl, Nat.le_of_ble_eq_true rfl, Nat.le_of_ble_eq_true rfl⟩ (pw_V (ci := 10) (q0 := 0) hK hN rfl mw_0 hP hDc) rfl hl.1 rfl (Nat.le_of_ble_eq_true rfl) ⟨Nat.zero_le _, Nat.zero_le _⟩ dX10_dues_25) (fun s262 H9 locs9 hs262 hP9 hD9 hS9 => ?_)
          clear hP hD hS
          have hS := hS9
          have hP := hP9
          have hD := hD9
          clear hP9 hD9 hS9
          obtain ⟨hBs262, gs262, fs262⟩ := hs262
          have hFs262 : FR [7, 9, 8, 10, 11, 0, 12, 13, 14] st s262 := fr_ca hFt14 gs262 (sub_1 (List.mem_of_getElem? (i := 0) rfl) (sub_1 (List.mem_of_getElem? (i := 1) rfl) (sub_1 (List.mem_of_getElem? (i := 2) rfl) (sub_1 (List.mem_of_getElem? (i := 3) rfl) (sub_1 (List.mem_of_getElem? (i := 4) rfl) sub_0)))))
          refine lv_iload_n hx hb dX10_dues_28 rfl (lv_at hl 1 rfl) ?_
          refine lv_aload_n hx hb dX10_dues_29 rfl (lv_at hl 2 rfl) ?_
          refine lv_aload_n hx hb dX10_dues_30 rfl (lv_at hl 2 rfl) ?_
          refine va_get (D := D) (ci := 10) (v := .ref (a 1)) (C := RX10) (T := TX10) (N := 38) hx hb hT in_X10 hown hK hP 0 mw_0 rfl 1 (by decide) (hT _ t1263) (fun _ h9 => h9) rfl dX10_dues_31 ?_
          refine lv_bipush (v := 110) hx hb dX10_dues_34 (by decide) ?_
          refine lv_iconst (v := 3) hx hb dX10_dues_36 (by decide) ?_
          refine lv_iload_n hx hb dX10_dues_37 rfl (lv_at hl 0 rfl) ?_
          refine lv_imul hx hb dX10_dues_38 ?_
          refine lv_topi (fun z264 ez264 => ?_)
          have h265 : Iv 0 15 z264 := iv_mull ez264 h260 (k := 3) (by decide) (by decide) (by decide) (by decide) (by decide) (by decide)
          refine lv_iadd hx hb dX10_dues_39 ?_
          refine lv_topi (fun z266 ez266 => ?_)
          have h267 : Iv 110 125 z266 := iv_add ez266 (iv_c (by decide) : Iv 110 110 110) h265 (by decide) (by decide) (by decide) (by decide)
          refine va_iald hx hb hK hP 1 0 mw_1 rfl (iv_in h267 (by decide) (by decide)) dX10_dues_40 ?_
          refine lv_topi (fun z268 ez268 => ?_)
          refine lv_aload_n hx hb dX10_dues_41 rfl (lv_at hl 2 rfl) ?_
          refine va_get (D := D) (ci := 10) (v := .ref (a 1)) (C := RX10) (T := TX10) (N := 38) hx hb hT in_X10 hown hK hP 0 mw_0 rfl 1 (by decide) (hT _ t1263) (fun _ h9 => h9) rfl dX10_dues_42 ?_
          refine lv_bipush (v := 110) hx hb dX10_dues_45 (by decide) ?_
          refine lv_iconst (v := 3) hx hb dX10_dues_47 (by decide) ?_
          refine lv_iload_n hx hb dX10_dues_48 rfl (lv_at hl 0 rfl) ?_
          refine lv_imul hx hb dX10_dues_49 ?_
          refine k_top (y := z264) ez264.symm ?_
          refine lv_iadd hx hb dX10_dues_50 ?_
          refine k_top (y := z266) ez266.symm ?_
          refine lv_iconst (v := 1) hx hb dX10_dues_51 (by decide) ?_
          refine lv_iadd hx hb dX10_dues_52 ?_
          refine lv_topi (fun z269 ez269 => ?_)
          have h270 : Iv 111 126 z269 := iv_add ez269 h267 (iv_c (by decide) : Iv 1 1 1) (by decide) (by decide) (by decide) (by decide)
          refine va_iald hx hb hK hP 1 0 mw_1 rfl (iv_in h270 (by decide) (by decide)) dX10_dues_53 ?_
          refine lv_topi (fun z271 ez271 => ?_)
          have h272 : Iv 0 2 z268 := (by rw [ez268, (hFs262 1 (nm_1 (by decide) (nm_1 (by decide) (nm_1 (by decide) (nm_1 (by decide) (nm_1 (by decide) (nm_1 (by decide) (nm_1 (by decide) (nm_1 (by decide) (nm_1 (by decide) nm_0))))))))))]; exact tok_bd hw.1 (bd_c h260 (by have _c220 : (110 : Int32).toInt = 110 := rfl; have _c6 : (3 : Int32).toInt = 3 := rfl; have _ez264 := ti_mull ez264 h260 (k := 3) (by decide) (by decide) (by decide) (by decide); have _ez266 := ti_add ez266 (iv_c (by decide) : Iv 110 110 110) h265 (by decide) (by decide); omega)))
          refine ca_i hP hD hS hA (fun hDc => run_V (mc := 0) (ms := 0) (As := [.int z268, .int z271]) (rest := [.int v1_14]) S (m_X10_wayOf l D k a s262 sl  z268 z271 _  hBs262 h272 (wok_of (hFs262 1 (nm_1 (by decide) (nm_1 (by decide) (nm_1 (by decide) (nm_1 (by decide) (nm_1 (by decide) (nm_1 (by decide) (nm_1 (by decide) (nm_1 (by decide) (nm_1 (by decide) nm_0)))))))))) hw)) lkX10_338 ok_X10_wayOf ⟨rfl, rfl, Nat.le_of_ble_eq_true rfl, Nat.le_of_ble_eq_true rfl⟩ (pw_V (ci := 10) (q0 := 0) hK hN rfl mw_0 hP hDc) rfl hl.1 rfl (Nat.le_of_ble_eq_true rfl) ⟨Nat.zero_le _, Nat.zero_le _⟩ dX10_dues_54) (fun r274 s273 H9 locs9 hs273 hP9 hD9 hS9 => ?_)
          clear hP hD hS
          have hS := hS9
          have hP := hP9
          have hD := hD9
          clear hP9 hD9 hS9
          obtain ⟨hBs273, gs273, qs273_0, qs273_1, qs273_2, qs273_3, qs273_4, qs273_5, qs273_6, qs273_7, qs273_8, qs273_9, qs273_10, qs273_11, qs273_12, qs273_13, qs273_14, fs273⟩ := hs273
          have hFs273 : FR [7, 9, 8, 10, 11, 0, 12, 13, 14] st s273 := fr_ca hFs262 gs273 (sub_1 (List.mem_of_getElem? (i := 4) rfl) (sub_1 (List.mem_of_getElem? (i := 5) rfl) (sub_1 (List.mem_of_getElem? (i := 6) rfl) (sub_1 (List.mem_of_getElem? (i := 7) rfl) (sub_1 (List.mem_of_getElem? (i := 0) rfl) (sub_1 (List.mem_of_getElem? (i := 2) rfl) (sub_1 (List.mem_of_getElem? (i := 3) rfl) (sub_1 (List.mem_of_getElem? (i := 8) rfl) sub_0))))))))
          refine lv_aload_n hx hb dX10_dues_57 rfl (lv_at hl 2 rfl) ?_
          refine va_get (D := D) (ci := 10) (v := .ref (a 1)) (C := RX10) (T := TX10) (N := 38) hx hb hT in_X10 hown hK hP 0 mw_0 rfl 1 (by decide) (hT _ t1263) (fun _ h9 => h9) rfl dX10_dues_58 ?_
          refine lv_bipush (v := 110) hx hb dX10_dues_61 (by decide) ?_
          refine lv_iconst (v := 3) hx hb dX10_dues_63 (by decide) ?_
          refine lv_iload_n hx hb dX10_dues_64 rfl (lv_at hl 0 rfl) ?_
          refine lv_imul hx hb dX10_dues_65 ?_
          refine k_top (y := z264) ez264.symm ?_
          refine lv_iadd hx hb dX10_dues_66 ?_
          refine k_top (y := z266) ez266.symm ?_
          refine lv_iconst (v := 2) hx hb dX10_dues_67 (by decide) ?_
          refine lv_iadd hx hb dX10_dues_68 ?_
          refine lv_topi (fun z275 ez275 => ?_)
          have h276 : Iv 112 127 z275 := iv_add ez275 h267 (iv_c (by decide) : Iv 2 2 2) (by decide) (by decide) (by decide) (by decide)
          refine va_iald hx hb hK hP 1 0 mw_1 rfl (iv_in h276 (by decide) (by decide)) dX10_dues_69 ?_
          refine lv_topi (fun z277 ez277 => ?_)
          refine lv_icmp_gt (tgt := 79) hx hb dX10_dues_70 (by decide) (fun c278 => ?_) (fun c278 => ?_)
          · skip
            have n279 : z277.toInt < r274.toInt := (i_lt c278)
            have h280 : Iv (-2147483648) 2147483646 z277 := lt_l (iv_full z277) n279 (iv_full r274) (by decide)
            have h281 : Iv (-2147483647) 2147483647 r274 := lt_r (iv_full z277) n279 (iv_full r274) (by decide)
            refine lv_iconst (v := 0) hx hb dX10_dues_79 (by decide) ?_
            refine lv_ior hx hb dX10_dues_80 ?_
            refine lv_topi (fun z282 ez282 => ?_)
            have h283 : Iv 0 63 z282 := iv_or 6 ez282 iv1_14 (iv_c (by decide) : Iv 0 0 0) (by decide) (by decide) (by decide) (by decide)
            refine lv_istore_n (lv' := [(1, .int z282), (2, .int v2_14), (0, .ref (a 0))]) hx hb dX10_dues_81 rfl hl (by decide) rfl (fun ls hl => ?_)
            obtain ⟨z284, ez284⟩ : ∃ z9 : Int32, z9 = v2_14 + Int32.ofInt 1 := ⟨_, rfl⟩
            have h285 : Iv 1 6 z284 := iv_inc ez284 h260 (by decide) (by decide) (by decide) (by decide) (by decide) (by decide)
            refine lv_iinc (v := z284) (lv' := [(2, .int z284), (1, .int z282), (0, .ref (a 0))]) hx hb dX10_dues_82 hl (k := 1) rfl ez284.symm (by decide) rfl (fun ls hl => ?_)
            refine lv_goto (tgt := 14) hx hb dX10_dues_85 (by decide) ?_
            exact ih14 z284 z282 s273 _ _ _ (iv_mono (c := 0) (d := 6) h285 (by decide) (by decide)) h283 hBs273 (fr_ca (fr_ca gt14 gs262 (sub_1 (List.mem_of_getElem? (i := 0) rfl) (sub_1 (List.mem_of_getElem? (i := 1) rfl) (sub_1 (List.mem_of_getElem? (i := 2) rfl) (sub_1 (List.mem_of_getElem? (i := 3) rfl) (sub_1 (List.mem_of_getElem? (i := 4) rfl) sub_0)))))) gs273 (sub_1 (List.mem_of_getElem? (i := 4) rfl) (sub_1 (List.mem_of_getElem? (i := 5) rfl) (sub_1 (List.mem_of_getElem? (i := 6) rfl) (sub_1 (List.mem_of_getElem? (i := 7) rfl) (sub_1 (List.mem_of_getElem? (i := 0) rfl) (sub_1 (List.mem_of_getElem? (i := 2) rfl) (sub_1 (List.mem_of_getElem? (i := 3) rfl) (sub_1 (List.mem_of_getElem? (i := 8) rfl) sub_0))))))))) (Eq.trans qs273_0 (Eq.trans (congrFun (gs262 0 (nm_1 (by decide) (nm_1 (by decide) (nm_1 (by decide) (nm_1 (by decide) (nm_1 (by decide) nm_0)))))) 0) qt14_0)) (Eq.trans qs273_1 (Eq.trans (congrFun (gs262 0 (nm_1 (by decide) (nm_1 (by decide) (nm_1 (by decide) (nm_1 (by decide) (nm_1 (by decide) nm_0)))))) 5) qt14_1)) (Eq.trans qs273_2 (Eq.trans (congrFun (gs262 0 (nm_1 (by decide) (nm_1 (by decide) (nm_1 (by decide) (nm_1 (by decide) (nm_1 (by decide) nm_0)))))) 7) qt14_2)) (Eq.trans qs273_3 (Eq.trans (congrFun (gs262 0 (nm_1 (by decide) (nm_1 (by decide) (nm_1 (by decide) (nm_1 (by decide) (nm_1 (by decide) nm_0)))))) 8) qt14_3)) (Eq.trans qs273_4 (Eq.trans (congrFun (gs262 0 (nm_1 (by decide) (nm_1 (by decide) (nm_1 (by decide) (nm_1 (by decide) (nm_1 (by decide) nm_0)))))) 9) qt14_4)) (Eq.trans qs273_5 (Eq.trans (congrFun (gs262 0 (nm_1 (by decide) (nm_1 (by decide) (nm_1 (by decide) (nm_1 (by decide) (nm_1 (by decide) nm_0)))))) 10) qt14_5)) (Eq.trans qs273_6 (Eq.trans (congrFun (gs262 0 (nm_1 (by decide) (nm_1 (by decide) (nm_1 (by decide) (nm_1 (by decide) (nm_1 (by decide) nm_0)))))) 11) qt14_6)) (Eq.trans qs273_7 (Eq.trans (congrFun (gs262 0 (nm_1 (by decide) (nm_1 (by decide) (nm_1 (by decide) (nm_1 (by decide) (nm_1 (by decide) nm_0)))))) 12) qt14_7)) (Eq.trans qs273_8 (Eq.trans (congrFun (gs262 0 (nm_1 (by decide) (nm_1 (by decide) (nm_1 (by decide) (nm_1 (by decide) (nm_1 (by decide) nm_0)))))) 13) qt14_8)) (Eq.trans qs273_9 (Eq.trans (congrFun (gs262 0 (nm_1 (by decide) (nm_1 (by decide) (nm_1 (by decide) (nm_1 (by decide) (nm_1 (by decide) nm_0)))))) 20) qt14_9)) (Eq.trans qs273_10 (Eq.trans (congrFun (gs262 0 (nm_1 (by decide) (nm_1 (by decide) (nm_1 (by decide) (nm_1 (by decide) (nm_1 (by decide) nm_0)))))) 21) qt14_10)) (Eq.trans qs273_11 (Eq.trans (congrFun (gs262 0 (nm_1 (by decide) (nm_1 (by decide) (nm_1 (by decide) (nm_1 (by decide) (nm_1 (by decide) nm_0)))))) 22) qt14_11)) (Eq.trans qs273_12 (Eq.trans (congrFun (gs262 0 (nm_1 (by decide) (nm_1 (by decide) (nm_1 (by decide) (nm_1 (by decide) (nm_1 (by decide) nm_0)))))) 29) qt14_12)) (Eq.trans qs273_13 (Eq.trans (congrFun (gs262 0 (nm_1 (by decide) (nm_1 (by decide) (nm_1 (by decide) (nm_1 (by decide) (nm_1 (by decide) nm_0)))))) 31) qt14_13)) (Eq.trans qs273_14 (Eq.trans (congrFun (gs262 0 (nm_1 (by decide) (nm_1 (by decide) (nm_1 (by decide) (nm_1 (by decide) (nm_1 (by decide) nm_0)))))) 33) qt14_14)) hP hD hS (lv_sub hl [0, 1, 2] rfl) (fu_s (lo := 0) (ti_inc ez284 h260 (by decide) (by decide) (by decide) (by decide)) (by decide) hm14)
          · skip
            have n286 : r274.toInt ≤ z277.toInt := (i_nlt c278)
            refine lv_iconst (v := 1) hx hb dX10_dues_73 (by decide) ?_
            refine lv_iload_n hx hb dX10_dues_74 rfl (lv_at hl 0 rfl) ?_
            refine lv_ishl hx hb dX10_dues_75 ?_
            refine lv_topi (fun z287 ez287 => ?_)
            have h288 : Iv 1 32 z287 := iv_shl 5 ez287 h260 (by decide) (by decide) (by decide)
            refine lv_goto (tgt := 80) hx hb dX10_dues_76 (by decide) ?_
            refine lv_ior hx hb dX10_dues_80 ?_
            refine lv_topi (fun z289 ez289 => ?_)
            have h290 : Iv 0 63 z289 := iv_or 6 ez289 iv1_14 (iv_mono (c := 0) (d := 32) h288 (by decide) (by decide)) (by decide) (by decide) (by decide) (by decide)
            refine lv_istore_n (lv' := [(1, .int z289), (2, .int v2_14), (0, .ref (a 0))]) hx hb dX10_dues_81 rfl hl (by decide) rfl (fun ls hl => ?_)
            obtain ⟨z291, ez291⟩ : ∃ z9 : Int32, z9 = v2_14 + Int32.ofInt 1 := ⟨_, rfl⟩
            have h292 : Iv 1 6 z291 := iv_inc ez291 h260 (by decide) (by decide) (by decide) (by decide) (by decide) (by decide)
            refine lv_iinc (v := z291) (lv' := [(2, .int z291), (1, .int z289), (0, .ref (a 0))]) hx hb dX10_dues_82 hl (k := 1) rfl ez291.symm (by decide) rfl (fun ls hl => ?_)
            refine lv_goto (tgt := 14) hx hb dX10_dues_85 (by decide) ?_
            exact ih14 z291 z289 s273 _ _ _ (iv_mono (c := 0) (d := 6) h292 (by decide) (by decide)) h290 hBs273 (fr_ca (fr_ca gt14 gs262 (sub_1 (List.mem_of_getElem? (i := 0) rfl) (sub_1 (List.mem_of_getElem? (i := 1) rfl) (sub_1 (List.mem_of_getElem? (i := 2) rfl) (sub_1 (List.mem_of_getElem? (i := 3) rfl) (sub_1 (List.mem_of_getElem? (i := 4) rfl) sub_0)))))) gs273 (sub_1 (List.mem_of_getElem? (i := 4) rfl) (sub_1 (List.mem_of_getElem? (i := 5) rfl) (sub_1 (List.mem_of_getElem? (i := 6) rfl) (sub_1 (List.mem_of_getElem? (i := 7) rfl) (sub_1 (List.mem_of_getElem? (i := 0) rfl) (sub_1 (List.mem_of_getElem? (i := 2) rfl) (sub_1 (List.mem_of_getElem? (i := 3) rfl) (sub_1 (List.mem_of_getElem? (i := 8) rfl) sub_0))))))))) (Eq.trans qs273_0 (Eq.trans (congrFun (gs262 0 (nm_1 (by decide) (nm_1 (by decide) (nm_1 (by decide) (nm_1 (by decide) (nm_1 (by decide) nm_0)))))) 0) qt14_0)) (Eq.trans qs273_1 (Eq.trans (congrFun (gs262 0 (nm_1 (by decide) (nm_1 (by decide) (nm_1 (by decide) (nm_1 (by decide) (nm_1 (by decide) nm_0)))))) 5) qt14_1)) (Eq.trans qs273_2 (Eq.trans (congrFun (gs262 0 (nm_1 (by decide) (nm_1 (by decide) (nm_1 (by decide) (nm_1 (by decide) (nm_1 (by decide) nm_0)))))) 7) qt14_2)) (Eq.trans qs273_3 (Eq.trans (congrFun (gs262 0 (nm_1 (by decide) (nm_1 (by decide) (nm_1 (by decide) (nm_1 (by decide) (nm_1 (by decide) nm_0)))))) 8) qt14_3)) (Eq.trans qs273_4 (Eq.trans (congrFun (gs262 0 (nm_1 (by decide) (nm_1 (by decide) (nm_1 (by decide) (nm_1 (by decide) (nm_1 (by decide) nm_0)))))) 9) qt14_4)) (Eq.trans qs273_5 (Eq.trans (congrFun (gs262 0 (nm_1 (by decide) (nm_1 (by decide) (nm_1 (by decide) (nm_1 (by decide) (nm_1 (by decide) nm_0)))))) 10) qt14_5)) (Eq.trans qs273_6 (Eq.trans (congrFun (gs262 0 (nm_1 (by decide) (nm_1 (by decide) (nm_1 (by decide) (nm_1 (by decide) (nm_1 (by decide) nm_0)))))) 11) qt14_6)) (Eq.trans qs273_7 (Eq.trans (congrFun (gs262 0 (nm_1 (by decide) (nm_1 (by decide) (nm_1 (by decide) (nm_1 (by decide) (nm_1 (by decide) nm_0)))))) 12) qt14_7)) (Eq.trans qs273_8 (Eq.trans (congrFun (gs262 0 (nm_1 (by decide) (nm_1 (by decide) (nm_1 (by decide) (nm_1 (by decide) (nm_1 (by decide) nm_0)))))) 13) qt14_8)) (Eq.trans qs273_9 (Eq.trans (congrFun (gs262 0 (nm_1 (by decide) (nm_1 (by decide) (nm_1 (by decide) (nm_1 (by decide) (nm_1 (by decide) nm_0)))))) 20) qt14_9)) (Eq.trans qs273_10 (Eq.trans (congrFun (gs262 0 (nm_1 (by decide) (nm_1 (by decide) (nm_1 (by decide) (nm_1 (by decide) (nm_1 (by decide) nm_0)))))) 21) qt14_10)) (Eq.trans qs273_11 (Eq.trans (congrFun (gs262 0 (nm_1 (by decide) (nm_1 (by decide) (nm_1 (by decide) (nm_1 (by decide) (nm_1 (by decide) nm_0)))))) 22) qt14_11)) (Eq.trans qs273_12 (Eq.trans (congrFun (gs262 0 (nm_1 (by decide) (nm_1 (by decide) (nm_1 (by decide) (nm_1 (by decide) (nm_1 (by decide) nm_0)))))) 29) qt14_12)) (Eq.trans qs273_13 (Eq.trans (congrFun (gs262 0 (nm_1 (by decide) (nm_1 (by decide) (nm_1 (by decide) (nm_1 (by decide) (nm_1 (by decide) nm_0)))))) 31) qt14_13)) (Eq.trans qs273_14 (Eq.trans (congrFun (gs262 0 (nm_1 (by decide) (nm_1 (by decide) (nm_1 (by decide) (nm_1 (by decide) (nm_1 (by decide) nm_0)))))) 33) qt14_14)) hP hD hS (lv_sub hl [0, 1, 2] rfl) (fu_s (lo := 0) (ti_inc ez291 h260 (by decide) (by decide) (by decide) (by decide)) (by decide) hm14)
    exact lp14 7 0 0 st _ _ _ (iv_mono (c := 0) (d := 6) (iv_c (by decide) : Iv 0 0 0) (by decide) (by decide)) (iv_mono (c := 0) (d := 63) (iv_c (by decide) : Iv 0 0 0) (by decide) (by decide)) hB fr_rf rfl rfl rfl rfl rfl rfl rfl rfl rfl rfl rfl rfl rfl rfl rfl hP hD hS (lv_sub hl [0, 1, 2] rfl) (fu_i (iv_mono (c := 0) (d := 6) (iv_c (by decide) : Iv 0 0 0) (by decide) (by decide)) (by decide))
  · skip
    have g293 := g9
    refine lv_if_ne (tgt := 10) hx hb dX10_dues_4 (by decide) (fun c294 => ?_) (fun c294 => ?_)
    · first | exact absurd c294 (by decide) | exact absurd (by decide) c294
    refine lv_bipush (v := (-2)) hx hb dX10_dues_7 (by decide) ?_
    rw [hQ]
    exact W.iret (v := (-2)) hx hb hr (fun t ht hW => ⟨⟨(-2), st, rfl, ⟨hB, fr_rf, rfl, rfl, rfl, rfl, rfl, rfl, rfl, rfl, rfl, rfl, rfl, rfl, rfl, rfl, rfl, ⟨(iv_mono (c := (-2)) (d := 63) (iv_c (by decide) : Iv (-2) (-2) (-2)) (by decide) (by decide)), trivial⟩⟩, by rw [ht]; exact hP, va_K.moved hW.alike (hK.sub (tys' := []) [] rfl), by rw [hAe]; exact hD⟩, by rw [hAe]; exact hS.F ht⟩) hS.2.2 dX10_dues_9
set_option maxHeartbeats 4000000 in
set_option maxRecDepth 100000 in
theorem m_X10_chooseOf (l : Launch) (D : va_G) (k : Nat → ClassId) (a : Nat → Nat) (st : CT) (sl : CL) (p0 : Int32) (p1 : Int32) (sz : Nat) (hB : MB st) (hp0 : Iv 0 2 p0) (hw : WOK (st 1)) : Met l yX10_chooseOf (.code yX10_chooseOf cX10_chooseOf 8 (some .int) :: TB) (rmw 8 0 0) (va_Pc [.ref (a 0), .int p0, .int p1] (PW D k sz (MWS k a st sl))) (QI D (S := CT) (fun r u => MB u ∧ FR [7, 9, 8, 10, 11, 0, 12, 13, 14] st u ∧ u 0 0 = st 0 0 ∧ u 0 5 = st 0 5 ∧ u 0 7 = st 0 7 ∧ u 0 8 = st 0 8 ∧ u 0 9 = st 0 9 ∧ u 0 10 = st 0 10 ∧ u 0 11 = st 0 11 ∧ u 0 12 = st 0 12 ∧ u 0 13 = st 0 13 ∧ u 0 20 = st 0 20 ∧ u 0 21 = st 0 21 ∧ u 0 22 = st 0 22 ∧ u 0 31 = st 0 31 ∧ u 0 33 = st 0 33 ∧ (Iv (-2147483648) 1000000000 r ∧ (True))) (fun u => MWS k a u sl) (fun _ => []) (MWS k a st sl) sz) 0 0 (va_A (MWS k a st sl) sz) := by
  refine Met.ofW (cc := cX10_chooseOf) (maxL := 8) (ret := (some .int)) (by decide) rfl ?_
  intro p e s m args below meth c s₁ B hml hv
  obtain ⟨rfl, hsz, hP, hK, hD0, hN⟩ := hv
  have hx := B.exec
  have hb := B.bytes
  have hr := B.returns
  have hT : ∀ w9 ∈ TB, w9.before ([.ref (a 0), .int p0, .int p1] : List Value).toArray s = true := fun w9 h => atoms_spec (ws := .code yX10_chooseOf cX10_chooseOf 8 (some .int) :: TB) B.pre w9 (List.mem_cons_of_mem _ h)
  have hown : s.vm.findClass RX10 = some m.cls := findClass_of_methodNamed B.named
  have S : CallFix p m c cX10_chooseOf 8 s _ TB RX10 := ⟨hx, hb, hml, hown, hT⟩
  subst hsz
  have hD := hD0.self (sz := s.heap.size)
  generalize hAe : va_A (MWS k a st sl) s.heap.size = A at hD ⊢
  have hA : ∀ q : Nat, s.heap.size ≤ q → A q := fun q h => by rw [← hAe]; exact Or.inr h
  have hS : va_S A s.heap s.heap [] := va_S.rf
  have hl := lv_entry ([.ref (a 0), .int p0, .int p1]) (n := 8) (Nat.le_of_ble_eq_true rfl)
  rw [lg_entry_eq]
  generalize (lg_sl ([.ref (a 0), .int p0, .int p1]) ++ List.replicate (8 - (lg_sl ([.ref (a 0), .int p0, .int p1])).length) Slot.unset).toArray = ls at hl ⊢
  have hl : lv_has ls 8 [(0, .ref (a 0)), (1, .int p0), (2, .int p1)] := hl
  refine nameQ (fun Q hQ => ?_)
  refine lv_aload_n hx hb dX10_chooseOf_0 rfl (lv_at hl 0 rfl) ?_
  refine ca_v hP hD hS hA (fun hDc => run_V (mc := 0) (ms := 0) (As := []) (rest := []) S (m_X10_asItIs l D k a st sl   _  hB  hw) lkX10_273 ok_X10_asItIs ⟨rfl, rfl, Nat.le_of_ble_eq_true rfl, Nat.le_of_ble_eq_true rfl⟩ (pw_V (ci := 10) (q0 := 0) hK hN rfl mw_0 hP hDc) rfl hl.1 rfl (Nat.le_of_ble_eq_true rfl) ⟨Nat.zero_le _, Nat.zero_le _⟩ dX10_chooseOf_1) (fun s1 H9 locs9 hs1 hP9 hD9 hS9 => ?_)
  clear hP hD hS
  have hS := hS9
  have hP := hP9
  have hD := hD9
  clear hP9 hD9 hS9
  obtain ⟨hBs1, gs1, fs1⟩ := hs1
  have hFs1 : FR [7, 9, 8, 10, 11, 0, 12, 13, 14] st s1 := fr_ca fr_rf gs1 (sub_1 (List.mem_of_getElem? (i := 0) rfl) (sub_1 (List.mem_of_getElem? (i := 1) rfl) (sub_1 (List.mem_of_getElem? (i := 2) rfl) (sub_1 (List.mem_of_getElem? (i := 3) rfl) (sub_1 (List.mem_of_getElem? (i := 4) rfl) sub_0)))))
  refine lv_aload_n hx hb dX10_chooseOf_4 rfl (lv_at hl 0 rfl) ?_
  refine lv_iload_n hx hb dX10_chooseOf_5 rfl (lv_at hl 1 rfl) ?_
  refine ro_V (As := [.int p0]) (rest := []) S (m_X10_wheelsOf l D k a s1 sl  p0 _  hBs1  (wok_of (hFs1 1 (nm_1 (by decide) (nm_1 (by decide) (nm_1 (by decide) (nm_1 (by decide) (nm_1 (by decide) (nm_1 (by decide) (nm_1 (by decide) (nm_1 (by decide) (nm_1 (by decide) nm_0)))))))))) hw)) lkX10_246 ok_X10_wheelsOf ⟨rfl, rfl, Nat.le_of_ble_eq_true rfl, Nat.le_of_ble_eq_true rfl⟩ (pw_V (ci := 10) (q0 := 0) hK hN rfl mw_0 hP (hD.weaken (fun _ _ _ _ => trivial))) rfl hl.1 rfl (Nat.le_of_ble_eq_true rfl) ⟨Nat.zero_le _, Nat.zero_le _⟩ dX10_chooseOf_6 (fun r3 er3 => ?_)
  have h4 : Iv 0 255 r3 := er3.1
  have k5 := er3.2
  refine lv_istore_n (lv' := [(3, .int r3), (0, .ref (a 0)), (1, .int p0), (2, .int p1)]) hx hb dX10_chooseOf_9 rfl hl (by decide) rfl (fun ls hl => ?_)
  refine lv_aload_n hx hb dX10_chooseOf_10 rfl (lv_at hl 1 rfl) ?_
  refine lv_iconst (v := (-1)) hx hb dX10_chooseOf_11 (by decide) ?_
  refine ro_V (As := [.int (-1)]) (rest := []) S (m_X10_wheelsOf l D k a s1 sl  (-1) _  hBs1  (wok_of (hFs1 1 (nm_1 (by decide) (nm_1 (by decide) (nm_1 (by decide) (nm_1 (by decide) (nm_1 (by decide) (nm_1 (by decide) (nm_1 (by decide) (nm_1 (by decide) (nm_1 (by decide) nm_0)))))))))) hw)) lkX10_246 ok_X10_wheelsOf ⟨rfl, rfl, Nat.le_of_ble_eq_true rfl, Nat.le_of_ble_eq_true rfl⟩ (pw_V (ci := 10) (q0 := 0) hK hN rfl mw_0 hP (hD.weaken (fun _ _ _ _ => trivial))) rfl hl.1 rfl (Nat.le_of_ble_eq_true rfl) ⟨Nat.zero_le _, Nat.zero_le _⟩ dX10_chooseOf_12 (fun r6 er6 => ?_)
  have h7 : Iv 0 255 r6 := er6.1
  have k8 := er6.2
  refine lv_istore (lv' := [(4, .int r6), (3, .int r3), (0, .ref (a 0)), (1, .int p0), (2, .int p1)]) hx hb dX10_chooseOf_15 hl (by decide) rfl (fun ls hl => ?_)
  refine lv_ldcw (v := 1000000000) hx hb hown (hT _ t1702) dX10_chooseOf_17 ?_
  refine lv_istore (lv' := [(5, .int 1000000000), (4, .int r6), (3, .int r3), (0, .ref (a 0)), (1, .int p0), (2, .int p1)]) hx hb dX10_chooseOf_20 hl (by decide) rfl (fun ls hl => ?_)
  refine lv_aload_n hx hb dX10_chooseOf_22 rfl (lv_at hl 3 rfl) ?_
  refine lv_iconst (v := (-1)) hx hb dX10_chooseOf_23 (by decide) ?_
  refine c_put (ci := 10) (C := RX10) (T := TX10) (N := 38) (j := 29) (v := (-1)) hx hb hT in_X10 tyX10 tyX10_ok nmX10 hown hK hP hD hS mw_0 rfl (by decide) (hT _ t1291) (by decide +kernel) (by decide +kernel) rfl rfl (Nat.le_of_ble_eq_true rfl) (ms_0 (upd (s1 0) 29 (-1))) dX10_chooseOf_24 (fun s9 H9 locs9 es9 hP9 hD9 hS9 => ?_)
  clear hP hD hS
  have hS := hS9
  have hP := hP9
  have hD := hD9
  clear hP9 hD9 hS9
  have hBs9 : MB s9 := by rw [es9]; exact mb_sw hBs1 (mi_1_29 (hBs1 0))
  have hFs9 : FR [7, 9, 8, 10, 11, 0, 12, 13, 14] st s9 := fr_sw hFs1 (List.mem_of_getElem? (i := 5) rfl) es9
  refine lv_iconst (v := 0) hx hb dX10_chooseOf_27 (by decide) ?_
  refine lv_istore (lv' := [(6, .int 0), (5, .int 1000000000), (4, .int r6), (3, .int r3), (0, .ref (a 0)), (1, .int p0), (2, .int p1)]) hx hb dX10_chooseOf_28 hl (by decide) rfl (fun ls hl => ?_)
  have lp30 : ∀ (n9_30 : Nat) (v6_30 : Int32) (v5_30 : Int32) (t30 : CT) (H9 : Heap) (locs9 : List Loc) (ls : Array Slot), Iv 0 256 v6_30 → Iv (-2147483648) 1000000000 v5_30 → MB t30 → FR [7, 9, 8, 10, 11, 0, 12, 13, 14] s9 t30 → t30 0 0 = s9 0 0 → t30 0 5 = s9 0 5 → t30 0 7 = s9 0 7 → t30 0 8 = s9 0 8 → t30 0 9 = s9 0 9 → t30 0 10 = s9 0 10 → t30 0 11 = s9 0 11 → t30 0 12 = s9 0 12 → t30 0 13 = s9 0 13 → t30 0 20 = s9 0 20 → t30 0 21 = s9 0 21 → t30 0 22 = s9 0 22 → t30 0 31 = s9 0 31 → t30 0 33 = s9 0 33 → va_P D vwCl (MWS k a t30 sl) H9 → va_D A (MWS k a t30 sl) → va_S A s.heap H9 locs9 → lv_has ls 8 [(6, .int v6_30), (5, .int v5_30), (4, .int r6), (3, .int r3), (0, .ref (a 0)), (1, .int p0), (2, .int p1)] → (256 : Int) - v6_30.toInt < (n9_30 : Int) → W p l e (rmw 8 0 0) s m ([.ref (a 0), .int p0, .int p1] : List Value).toArray below meth c H9 locs9 0 0 Q (F0 m 30 ls []) := by
    clear hl hP hD hS
    intro n9_30
    induction n9_30 with
    | zero =>
      intro v6_30 v5_30 t30 H9 locs9 ls iv6_30 iv5_30 hBt30 gt30 qt30_0 qt30_1 qt30_2 qt30_3 qt30_4 qt30_5 qt30_6 qt30_7 qt30_8 qt30_9 qt30_10 qt30_11 qt30_12 qt30_13 hP hD hS hl hm30
      exact (fu_0 iv6_30 hm30).elim
    | succ n9_30 ih30 =>
      intro v6_30 v5_30 t30 H9 locs9 ls iv6_30 iv5_30 hBt30 gt30 qt30_0 qt30_1 qt30_2 qt30_3 qt30_4 qt30_5 qt30_6 qt30_7 qt30_8 qt30_9 qt30_10 qt30_11 qt30_12 qt30_13 hP hD hS hl hm30
      have hFt30 : FR [7, 9, 8, 10, 11, 0, 12, 13, 14] st t30 := fr_ca hFs9 gt30 (sub_1 (List.mem_of_getElem? (i := 0) rfl) (sub_1 (List.mem_of_getElem? (i := 1) rfl) (sub_1 (List.mem_of_getElem? (i := 2) rfl) (sub_1 (List.mem_of_getElem? (i := 3) rfl) (sub_1 (List.mem_of_getElem? (i := 4) rfl) (sub_1 (List.mem_of_getElem? (i := 5) rfl) (sub_1 (List.mem_of_getElem? (i := 6) rfl) (sub_1 (List.mem_of_getElem? (i := 7) rfl) (sub_1 (List.mem_of_getElem? (i := 8) rfl) sub_0)))))))))
      refine lv_iload hx hb dX10_chooseOf_30 (lv_at hl 0 rfl) ?_
      refine lv_iconst (v := 1) hx hb dX10_chooseOf_32 (by decide) ?_
      refine lv_aload_n hx hb dX10_chooseOf_33 rfl (lv_at hl 4 rfl) ?_
      refine va_get (D := D) (ci := 10) (v := .ref (a 1)) (C := RX10) (T := TX10) (N := 38) hx hb hT in_X10 hown hK hP 0 mw_0 rfl 1 (by decide) (hT _ t1263) (fun _ h9 => h9) rfl dX10_chooseOf_34 ?_
      refine lv_iconst (v := 3) hx hb dX10_chooseOf_37 (by decide) ?_
      refine va_iald hx hb hK hP 1 0 mw_1 rfl (by unfold vp_in; decide) dX10_chooseOf_38 ?_
      refine k_top (y := (t30 1 3)) rfl ?_
      refine k_top (y := (st 1 3)) (congrFun (hFt30 1 (nm_1 (by decide) (nm_1 (by decide) (nm_1 (by decide) (nm_1 (by decide) (nm_1 (by decide) (nm_1 (by decide) (nm_1 (by decide) (nm_1 (by decide) (nm_1 (by decide) nm_0)))))))))) 3) ?_
      have h8656 : Iv 0 8 (st 1 3) := (tok_at (hw).1 3 0 8 (by decide) (by decide) (by decide))
      refine lv_ishl hx hb dX10_chooseOf_39 ?_
      refine lv_topi (fun z8657 ez8657 => ?_)
      have h8658 : Iv 1 256 z8657 := iv_shl 8 ez8657 h8656 (by decide) (by decide) (by decide)
      refine lv_icmp_ge (tgt := 164) hx hb dX10_chooseOf_40 (by decide) (fun c8659 => ?_) (fun c8659 => ?_)
      · skip
        have n8660 : z8657.toInt ≤ v6_30.toInt := (i_le c8659)
        have h8661 : Iv 1 256 v6_30 := le_r h8658 n8660 iv6_30 (by decide)
        refine lv_iload hx hb dX10_chooseOf_164 (lv_at hl 1 rfl) ?_
        rw [hQ]
        exact W.iret (v := v5_30) hx hb hr (fun t ht hW => ⟨⟨v5_30, t30, rfl, ⟨hBt30, hFt30, (Eq.trans qt30_0 (Eq.trans (congrFun (sw_it es9) 0) (congrFun (gs1 0 (nm_1 (by decide) (nm_1 (by decide) (nm_1 (by decide) (nm_1 (by decide) (nm_1 (by decide) nm_0)))))) 0))), (Eq.trans qt30_1 (Eq.trans (congrFun (sw_it es9) 5) (congrFun (gs1 0 (nm_1 (by decide) (nm_1 (by decide) (nm_1 (by decide) (nm_1 (by decide) (nm_1 (by decide) nm_0)))))) 5))), (Eq.trans qt30_2 (Eq.trans (congrFun (sw_it es9) 7) (congrFun (gs1 0 (nm_1 (by decide) (nm_1 (by decide) (nm_1 (by decide) (nm_1 (by decide) (nm_1 (by decide) nm_0)))))) 7))), (Eq.trans qt30_3 (Eq.trans (congrFun (sw_it es9) 8) (congrFun (gs1 0 (nm_1 (by decide) (nm_1 (by decide) (nm_1 (by decide) (nm_1 (by decide) (nm_1 (by decide) nm_0)))))) 8))), (Eq.trans qt30_4 (Eq.trans (congrFun (sw_it es9) 9) (congrFun (gs1 0 (nm_1 (by decide) (nm_1 (by decide) (nm_1 (by decide) (nm_1 (by decide) (nm_1 (by decide) nm_0)))))) 9))), (Eq.trans qt30_5 (Eq.trans (congrFun (sw_it es9) 10) (congrFun (gs1 0 (nm_1 (by decide) (nm_1 (by decide) (nm_1 (by decide) (nm_1 (by decide) (nm_1 (by decide) nm_0)))))) 10))), (Eq.trans qt30_6 (Eq.trans (congrFun (sw_it es9) 11) (congrFun (gs1 0 (nm_1 (by decide) (nm_1 (by decide) (nm_1 (by decide) (nm_1 (by decide) (nm_1 (by decide) nm_0)))))) 11))), (Eq.trans qt30_7 (Eq.trans (congrFun (sw_it es9) 12) (congrFun (gs1 0 (nm_1 (by decide) (nm_1 (by decide) (nm_1 (by decide) (nm_1 (by decide) (nm_1 (by decide) nm_0)))))) 12))), (Eq.trans qt30_8 (Eq.trans (congrFun (sw_it es9) 13) (congrFun (gs1 0 (nm_1 (by decide) (nm_1 (by decide) (nm_1 (by decide) (nm_1 (by decide) (nm_1 (by decide) nm_0)))))) 13))), (Eq.trans qt30_9 (Eq.trans (congrFun (sw_it es9) 20) (congrFun (gs1 0 (nm_1 (by decide) (nm_1 (by decide) (nm_1 (by decide) (nm_1 (by decide) (nm_1 (by decide) nm_0)))))) 20))), (Eq.trans qt30_10 (Eq.trans (congrFun (sw_it es9) 21) (congrFun (gs1 0 (nm_1 (by decide) (nm_1 (by decide) (nm_1 (by decide) (nm_1 (by decide) (nm_1 (by decide) nm_0)))))) 21))), (Eq.trans qt30_11 (Eq.trans (congrFun (sw_it es9) 22) (congrFun (gs1 0 (nm_1 (by decide) (nm_1 (by decide) (nm_1 (by decide) (nm_1 (by decide) (nm_1 (by decide) nm_0)))))) 22))), (Eq.trans qt30_12 (Eq.trans (congrFun (sw_it es9) 31) (congrFun (gs1 0 (nm_1 (by decide) (nm_1 (by decide) (nm_1 (by decide) (nm_1 (by decide) (nm_1 (by decide) nm_0)))))) 31))), (Eq.trans qt30_13 (Eq.trans (congrFun (sw_it es9) 33) (congrFun (gs1 0 (nm_1 (by decide) (nm_1 (by decide) (nm_1 (by decide) (nm_1 (by decide) (nm_1 (by decide) nm_0)))))) 33))), ⟨iv5_30, trivial⟩⟩, by rw [ht]; exact hP, va_K.moved hW.alike (hK.sub (tys' := []) [] rfl), by rw [hAe]; exact hD⟩, by rw [hAe]; exact hS.F ht⟩) hS.2.2 dX10_chooseOf_166
      · skip
        have n8662 : v6_30.toInt < z8657.toInt := (i_nle c8659)
        have h8663 : Iv 0 255 v6_30 := lt_l iv6_30 n8662 h8658 (by decide)
        refine lv_iload hx hb dX10_chooseOf_43 (lv_at hl 0 rfl) ?_
        refine lv_iload_n hx hb dX10_chooseOf_45 rfl (lv_at hl 3 rfl) ?_
        refine lv_iload hx hb dX10_chooseOf_46 (lv_at hl 2 rfl) ?_
        refine lv_ior hx hb dX10_chooseOf_48 ?_
        refine lv_topi (fun z8664 ez8664 => ?_)
        have h8665 : Iv 0 255 z8664 := iv_or 8 ez8664 h4 h7 (by decide) (by decide) (by decide) (by decide)
        refine lv_iconst (v := (-1)) hx hb dX10_chooseOf_49 (by decide) ?_
        refine lv_ixor hx hb dX10_chooseOf_50 ?_
        refine lv_topi (fun z8666 ez8666 => ?_)
        refine lv_iand hx hb dX10_chooseOf_51 ?_
        refine lv_topi (fun z8667 ez8667 => ?_)
        have h8668 : Iv 0 255 z8667 := iv_andl ez8667 h8663
        refine lv_if_ne (tgt := 158) hx hb dX10_chooseOf_52 (by decide) (fun c8669 => ?_) (fun c8669 => ?_)
        · skip
          have h8670 : Iv 1 255 z8667 := ne_lo h8668 (show ¬ z8667 = 0 from c8669) (by decide) (by decide)
          obtain ⟨z8671, ez8671⟩ : ∃ z9 : Int32, z9 = v6_30 + Int32.ofInt 1 := ⟨_, rfl⟩
          have h8672 : Iv 1 256 z8671 := iv_inc ez8671 h8663 (by decide) (by decide) (by decide) (by decide) (by decide) (by decide)
          refine lv_iinc (v := z8671) (lv' := [(6, .int z8671), (5, .int v5_30), (4, .int r6), (3, .int r3), (0, .ref (a 0)), (1, .int p0), (2, .int p1)]) hx hb dX10_chooseOf_158 hl (k := 0) rfl ez8671.symm (by decide) rfl (fun ls hl => ?_)
          refine lv_goto (tgt := 30) hx hb dX10_chooseOf_161 (by decide) ?_
          exact ih30 z8671 v5_30 t30 _ _ _ (iv_mono (c := 0) (d := 256) h8672 (by decide) (by decide)) iv5_30 hBt30 gt30 (Eq.trans (Eq.trans qt30_0 (Eq.trans (congrFun (sw_it es9) 0) (congrFun (gs1 0 (nm_1 (by decide) (nm_1 (by decide) (nm_1 (by decide) (nm_1 (by decide) (nm_1 (by decide) nm_0)))))) 0))) (Eq.symm (Eq.trans (congrFun (sw_it es9) 0) (congrFun (gs1 0 (nm_1 (by decide) (nm_1 (by decide) (nm_1 (by decide) (nm_1 (by decide) (nm_1 (by decide) nm_0)))))) 0)))) (Eq.trans (Eq.trans qt30_1 (Eq.trans (congrFun (sw_it es9) 5) (congrFun (gs1 0 (nm_1 (by decide) (nm_1 (by decide) (nm_1 (by decide) (nm_1 (by decide) (nm_1 (by decide) nm_0)))))) 5))) (Eq.symm (Eq.trans (congrFun (sw_it es9) 5) (congrFun (gs1 0 (nm_1 (by decide) (nm_1 (by decide) (nm_1 (by decide) (nm_1 (by decide) (nm_1 (by decide) nm_0)))))) 5)))) (Eq.trans (Eq.trans qt30_2 (Eq.trans (congrFun (sw_it es9) 7) (congrFun (gs1 0 (nm_1 (by decide) (nm_1 (by decide) (nm_1 (by decide) (nm_1 (by decide) (nm_1 (by decide) nm_0)))))) 7))) (Eq.symm (Eq.trans (congrFun (sw_it es9) 7) (congrFun (gs1 0 (nm_1 (by decide) (nm_1 (by decide) (nm_1 (by decide) (nm_1 (by decide) (nm_1 (by decide) nm_0)))))) 7)))) (Eq.trans (Eq.trans qt30_3 (Eq.trans (congrFun (sw_it es9) 8) (congrFun (gs1 0 (nm_1 (by decide) (nm_1 (by decide) (nm_1 (by decide) (nm_1 (by decide) (nm_1 (by decide) nm_0)))))) 8))) (Eq.symm (Eq.trans (congrFun (sw_it es9) 8) (congrFun (gs1 0 (nm_1 (by decide) (nm_1 (by decide) (nm_1 (by decide) (nm_1 (by decide) (nm_1 (by decide) nm_0)))))) 8)))) (Eq.trans (Eq.trans qt30_4 (Eq.trans (congrFun (sw_it es9) 9) (congrFun (gs1 0 (nm_1 (by decide) (nm_1 (by decide) (nm_1 (by decide) (nm_1 (by decide) (nm_1 (by decide) nm_0)))))) 9))) (Eq.symm (Eq.trans (congrFun (sw_it es9) 9) (congrFun (gs1 0 (nm_1 (by decide) (nm_1 (by decide) (nm_1 (by decide) (nm_1 (by decide) (nm_1 (by decide) nm_0)))))) 9)))) (Eq.trans (Eq.trans qt30_5 (Eq.trans (congrFun (sw_it es9) 10) (congrFun (gs1 0 (nm_1 (by decide) (nm_1 (by decide) (nm_1 (by decide) (nm_1 (by decide) (nm_1 (by decide) nm_0)))))) 10))) (Eq.symm (Eq.trans (congrFun (sw_it es9) 10) (congrFun (gs1 0 (nm_1 (by decide) (nm_1 (by decide) (nm_1 (by decide) (nm_1 (by decide) (nm_1 (by decide) nm_0)))))) 10)))) (Eq.trans (Eq.trans qt30_6 (Eq.trans (congrFun (sw_it es9) 11) (congrFun (gs1 0 (nm_1 (by decide) (nm_1 (by decide) (nm_1 (by decide) (nm_1 (by decide) (nm_1 (by decide) nm_0)))))) 11))) (Eq.symm (Eq.trans (congrFun (sw_it es9) 11) (congrFun (gs1 0 (nm_1 (by decide) (nm_1 (by decide) (nm_1 (by decide) (nm_1 (by decide) (nm_1 (by decide) nm_0)))))) 11)))) (Eq.trans (Eq.trans qt30_7 (Eq.trans (congrFun (sw_it es9) 12) (congrFun (gs1 0 (nm_1 (by decide) (nm_1 (by decide) (nm_1 (by decide) (nm_1 (by decide) (nm_1 (by decide) nm_0)))))) 12))) (Eq.symm (Eq.trans (congrFun (sw_it es9) 12) (congrFun (gs1 0 (nm_1 (by decide) (nm_1 (by decide) (nm_1 (by decide) (nm_1 (by decide) (nm_1 (by decide) nm_0)))))) 12)))) (Eq.trans (Eq.trans qt30_8 (Eq.trans (congrFun (sw_it es9) 13) (congrFun (gs1 0 (nm_1 (by decide) (nm_1 (by decide) (nm_1 (by decide) (nm_1 (by decide) (nm_1 (by decide) nm_0)))))) 13))) (Eq.symm (Eq.trans (congrFun (sw_it es9) 13) (congrFun (gs1 0 (nm_1 (by decide) (nm_1 (by decide) (nm_1 (by decide) (nm_1 (by decide) (nm_1 (by decide) nm_0)))))) 13)))) (Eq.trans (Eq.trans qt30_9 (Eq.trans (congrFun (sw_it es9) 20) (congrFun (gs1 0 (nm_1 (by decide) (nm_1 (by decide) (nm_1 (by decide) (nm_1 (by decide) (nm_1 (by decide) nm_0)))))) 20))) (Eq.symm (Eq.trans (congrFun (sw_it es9) 20) (congrFun (gs1 0 (nm_1 (by decide) (nm_1 (by decide) (nm_1 (by decide) (nm_1 (by decide) (nm_1 (by decide) nm_0)))))) 20)))) (Eq.trans (Eq.trans qt30_10 (Eq.trans (congrFun (sw_it es9) 21) (congrFun (gs1 0 (nm_1 (by decide) (nm_1 (by decide) (nm_1 (by decide) (nm_1 (by decide) (nm_1 (by decide) nm_0)))))) 21))) (Eq.symm (Eq.trans (congrFun (sw_it es9) 21) (congrFun (gs1 0 (nm_1 (by decide) (nm_1 (by decide) (nm_1 (by decide) (nm_1 (by decide) (nm_1 (by decide) nm_0)))))) 21)))) (Eq.trans (Eq.trans qt30_11 (Eq.trans (congrFun (sw_it es9) 22) (congrFun (gs1 0 (nm_1 (by decide) (nm_1 (by decide) (nm_1 (by decide) (nm_1 (by decide) (nm_1 (by decide) nm_0)))))) 22))) (Eq.symm (Eq.trans (congrFun (sw_it es9) 22) (congrFun (gs1 0 (nm_1 (by decide) (nm_1 (by decide) (nm_1 (by decide) (nm_1 (by decide) (nm_1 (by decide) nm_0)))))) 22)))) (Eq.trans (Eq.trans qt30_12 (Eq.trans (congrFun (sw_it es9) 31) (congrFun (gs1 0 (nm_1 (by decide) (nm_1 (by decide) (nm_1 (by decide) (nm_1 (by decide) (nm_1 (by decide) nm_0)))))) 31))) (Eq.symm (Eq.trans (congrFun (sw_it es9) 31) (congrFun (gs1 0 (nm_1 (by decide) (nm_1 (by decide) (nm_1 (by decide) (nm_1 (by decide) (nm_1 (by decide) nm_0)))))) 31)))) (Eq.trans (Eq.trans qt30_13 (Eq.trans (congrFun (sw_it es9) 33) (congrFun (gs1 0 (nm_1 (by decide) (nm_1 (by decide) (nm_1 (by decide) (nm_1 (by decide) (nm_1 (by decide) nm_0)))))) 33))) (Eq.symm (Eq.trans (congrFun (sw_it es9) 33) (congrFun (gs1 0 (nm_1 (by decide) (nm_1 (by decide) (nm_1 (by decide) (nm_1 (by decide) (nm_1 (by decide) nm_0)))))) 33)))) hP hD hS (lv_sub hl [0, 1, 2, 3, 4, 5, 6] rfl) (fu_s (lo := 0) (ti_inc ez8671 h8663 (by decide) (by decide) (by decide) (by decide)) (by decide) hm30)
        · skip
          have h8673 : Iv 0 0 z8667 := eq_l c8669 (iv_c (by decide) : Iv 0 0 0)
          refine lv_iload hx hb dX10_chooseOf_55 (lv_at hl 0 rfl) ?_
          refine ro_S (As := [.int v6_30]) (rest := []) S (m_X10_bits l D k a t30 sl  v6_30 _  hBt30  ) lkX10_190 ok_X10_bits ⟨rfl, rfl, Nat.le_of_ble_eq_true rfl, Nat.le_of_ble_eq_true rfl⟩ (pw_S hK hN hP (hD.weaken (fun _ _ _ _ => trivial))) rfl hl.1 rfl (Nat.le_of_ble_eq_true rfl) ⟨Nat.zero_le _, Nat.zero_le _⟩ dX10_chooseOf_57 (fun r8674 er8674 => ?_)
          have k8675 := er8674
          refine lv_iload_n hx hb dX10_chooseOf_60 rfl (lv_at hl 3 rfl) ?_
          refine ro_S (As := [.int r3]) (rest := [.int r8674]) S (m_X10_bits l D k a t30 sl  r3 _  hBt30  ) lkX10_190 ok_X10_bits ⟨rfl, rfl, Nat.le_of_ble_eq_true rfl, Nat.le_of_ble_eq_true rfl⟩ (pw_S hK hN hP (hD.weaken (fun _ _ _ _ => trivial))) rfl hl.1 rfl (Nat.le_of_ble_eq_true rfl) ⟨Nat.zero_le _, Nat.zero_le _⟩ dX10_chooseOf_61 (fun r8676 er8676 => ?_)
          have k8677 := er8676
          refine lv_icmp_eq (tgt := 70) hx hb dX10_chooseOf_64 (by decide) (fun c8678 => ?_) (fun c8678 => ?_)
          · skip
            refine lv_aload_n hx hb dX10_chooseOf_70 rfl (lv_at hl 4 rfl) ?_
            refine ca_v hP hD hS hA (fun hDc => run_V (mc := 0) (ms := 0) (As := []) (rest := []) S (m_X10_asItIs l D k a t30 sl   _  hBt30  (wok_of (hFt30 1 (nm_1 (by decide) (nm_1 (by decide) (nm_1 (by decide) (nm_1 (by decide) (nm_1 (by decide) (nm_1 (by decide) (nm_1 (by decide) (nm_1 (by decide) (nm_1 (by decide) nm_0)))))))))) hw)) lkX10_273 ok_X10_asItIs ⟨rfl, rfl, Nat.le_of_ble_eq_true rfl, Nat.le_of_ble_eq_true rfl⟩ (pw_V (ci := 10) (q0 := 0) hK hN rfl mw_0 hP hDc) rfl hl.1 rfl (Nat.le_of_ble_eq_true rfl) ⟨Nat.zero_le _, Nat.zero_le _⟩ dX10_chooseOf_71) (fun s8679 H9 locs9 hs8679 hP9 hD9 hS9 => ?_)
            clear hP hD hS
            have hS := hS9
            have hP := hP9
            have hD := hD9
            clear hP9 hD9 hS9
            obtain ⟨hBs8679, gs8679, fs8679⟩ := hs8679
            have hFs8679 : FR [7, 9, 8, 10, 11, 0, 12, 13, 14] st s8679 := fr_ca hFt30 gs8679 (sub_1 (List.mem_of_getElem? (i := 0) rfl) (sub_1 (List.mem_of_getElem? (i := 1) rfl) (sub_1 (List.mem_of_getElem? (i := 2) rfl) (sub_1 (List.mem_of_getElem? (i := 3) rfl) (sub_1 (List.mem_of_getElem? (i := 4) rfl) sub_0)))))
            refine lv_iconst (v := 0) hx hb dX10_chooseOf_74 (by decide) ?_
            refine lv_istore (lv' := [(7, .int 0), (6, .int v6_30), (5, .int v5_30), (4, .int r6), (3, .int r3), (0, .ref (a 0)), (1, .int p0), (2, .int p1)]) hx hb dX10_chooseOf_75 hl (by decide) rfl (fun ls hl => ?_)
            have lp77 : ∀ (n9_77 : Nat) (v7_77 : Int32) (t77 : CT) (H9 : Heap) (locs9 : List Loc) (ls : Array Slot), Iv 0 8 v7_77 → MB t77 → FR [9] s8679 t77 → va_P D vwCl (MWS k a t77 sl) H9 → va_D A (MWS k a t77 sl) → va_S A s.heap H9 locs9 → lv_has ls 8 [(7, .int v7_77), (6, .int v6_30), (5, .int v5_30), (4, .int r6), (3, .int r3), (0, .ref (a 0)), (1, .int p0), (2, .int p1)] → (8 : Int) - v7_77.toInt < (n9_77 : Int) → W p l e (rmw 8 0 0) s m ([.ref (a 0), .int p0, .int p1] : List Value).toArray below meth c H9 locs9 0 0 Q (F0 m 77 ls []) := by
              clear hl hP hD hS
              intro n9_77
              induction n9_77 with
              | zero =>
                intro v7_77 t77 H9 locs9 ls iv7_77 hBt77 gt77 hP hD hS hl hm77
                exact (fu_0 iv7_77 hm77).elim
              | succ n9_77 ih77 =>
                intro v7_77 t77 H9 locs9 ls iv7_77 hBt77 gt77 hP hD hS hl hm77
                have hFt77 : FR [7, 9, 8, 10, 11, 0, 12, 13, 14] st t77 := fr_ca hFs8679 gt77 (sub_1 (List.mem_of_getElem? (i := 1) rfl) sub_0)
                refine lv_iload hx hb dX10_chooseOf_77 (lv_at hl 0 rfl) ?_
                refine lv_aload_n hx hb dX10_chooseOf_79 rfl (lv_at hl 5 rfl) ?_
                refine va_get (D := D) (ci := 10) (v := .ref (a 1)) (C := RX10) (T := TX10) (N := 38) hx hb hT in_X10 hown hK hP 0 mw_0 rfl 1 (by decide) (hT _ t1263) (fun _ h9 => h9) rfl dX10_chooseOf_80 ?_
                refine lv_iconst (v := 3) hx hb dX10_chooseOf_83 (by decide) ?_
                refine va_iald hx hb hK hP 1 0 mw_1 rfl (by unfold vp_in; decide) dX10_chooseOf_84 ?_
                refine k_top (y := (t77 1 3)) rfl ?_
                refine k_top (y := (st 1 3)) (congrFun (hFt77 1 (nm_1 (by decide) (nm_1 (by decide) (nm_1 (by decide) (nm_1 (by decide) (nm_1 (by decide) (nm_1 (by decide) (nm_1 (by decide) (nm_1 (by decide) (nm_1 (by decide) nm_0)))))))))) 3) ?_
                refine lv_icmp_ge (tgt := 130) hx hb dX10_chooseOf_85 (by decide) (fun c8924 => ?_) (fun c8924 => ?_)
                · skip
                  have n8925 : (st 1 3).toInt ≤ v7_77.toInt := (i_le c8924)
                  refine lv_aload_n hx hb dX10_chooseOf_130 rfl (lv_at hl 5 rfl) ?_
                  refine lv_iload_n hx hb dX10_chooseOf_131 rfl (lv_at hl 6 rfl) ?_
                  refine lv_iload_n hx hb dX10_chooseOf_132 rfl (lv_at hl 7 rfl) ?_
                  refine ca_i hP hD hS hA (fun hDc => run_V (mc := 0) (ms := 0) (As := [.int p0, .int p1]) (rest := []) S (m_X10_wayOf l D k a t77 sl  p0 p1 _  hBt77 hp0 (wok_of (hFt77 1 (nm_1 (by decide) (nm_1 (by decide) (nm_1 (by decide) (nm_1 (by decide) (nm_1 (by decide) (nm_1 (by decide) (nm_1 (by decide) (nm_1 (by decide) (nm_1 (by decide) nm_0)))))))))) hw)) lkX10_338 ok_X10_wayOf ⟨rfl, rfl, Nat.le_of_ble_eq_true rfl, Nat.le_of_ble_eq_true rfl⟩ (pw_V (ci := 10) (q0 := 0) hK hN rfl mw_0 hP hDc) rfl hl.1 rfl (Nat.le_of_ble_eq_true rfl) ⟨Nat.zero_le _, Nat.zero_le _⟩ dX10_chooseOf_133) (fun r8927 s8926 H9 locs9 hs8926 hP9 hD9 hS9 => ?_)
                  clear hP hD hS
                  have hS := hS9
                  have hP := hP9
                  have hD := hD9
                  clear hP9 hD9 hS9
                  obtain ⟨hBs8926, gs8926, qs8926_0, qs8926_1, qs8926_2, qs8926_3, qs8926_4, qs8926_5, qs8926_6, qs8926_7, qs8926_8, qs8926_9, qs8926_10, qs8926_11, qs8926_12, qs8926_13, qs8926_14, fs8926⟩ := hs8926
                  have hFs8926 : FR [7, 9, 8, 10, 11, 0, 12, 13, 14] st s8926 := fr_ca hFt77 gs8926 (sub_1 (List.mem_of_getElem? (i := 4) rfl) (sub_1 (List.mem_of_getElem? (i := 5) rfl) (sub_1 (List.mem_of_getElem? (i := 6) rfl) (sub_1 (List.mem_of_getElem? (i := 7) rfl) (sub_1 (List.mem_of_getElem? (i := 0) rfl) (sub_1 (List.mem_of_getElem? (i := 2) rfl) (sub_1 (List.mem_of_getElem? (i := 3) rfl) (sub_1 (List.mem_of_getElem? (i := 8) rfl) sub_0))))))))
                  refine lv_istore (lv' := [(7, .int r8927), (6, .int v6_30), (5, .int v5_30), (4, .int r6), (3, .int r3), (0, .ref (a 0)), (1, .int p0), (2, .int p1)]) hx hb dX10_chooseOf_136 hl (by decide) rfl (fun ls hl => ?_)
                  refine lv_iload hx hb dX10_chooseOf_138 (lv_at hl 0 rfl) ?_
                  refine lv_iload hx hb dX10_chooseOf_140 (lv_at hl 2 rfl) ?_
                  refine lv_icmp_lt (tgt := 148) hx hb dX10_chooseOf_142 (by decide) (fun c8928 => ?_) (fun c8928 => ?_)
                  · skip
                    have n8929 : r8927.toInt < v5_30.toInt := (i_lt c8928)
                    have h8930 : Iv (-2147483648) 999999999 r8927 := lt_l (iv_full r8927) n8929 iv5_30 (by decide)
                    have h8931 : Iv (-2147483647) 1000000000 v5_30 := lt_r (iv_full r8927) n8929 iv5_30 (by decide)
                    refine lv_iload hx hb dX10_chooseOf_148 (lv_at hl 0 rfl) ?_
                    refine lv_istore (lv' := [(5, .int r8927), (7, .int r8927), (6, .int v6_30), (4, .int r6), (3, .int r3), (0, .ref (a 0)), (1, .int p0), (2, .int p1)]) hx hb dX10_chooseOf_150 hl (by decide) rfl (fun ls hl => ?_)
                    refine lv_aload_n hx hb dX10_chooseOf_152 rfl (lv_at hl 5 rfl) ?_
                    refine lv_iload hx hb dX10_chooseOf_153 (lv_at hl 2 rfl) ?_
                    refine c_put (ci := 10) (C := RX10) (T := TX10) (N := 38) (j := 29) (v := v6_30) hx hb hT in_X10 tyX10 tyX10_ok nmX10 hown hK hP hD hS mw_0 rfl (by decide) (hT _ t1291) (by decide +kernel) (by decide +kernel) rfl rfl (Nat.le_of_ble_eq_true rfl) (ms_0 (upd (s8926 0) 29 v6_30)) dX10_chooseOf_155 (fun s8932 H9 locs9 es8932 hP9 hD9 hS9 => ?_)
                    clear hP hD hS
                    have hS := hS9
                    have hP := hP9
                    have hD := hD9
                    clear hP9 hD9 hS9
                    have hBs8932 : MB s8932 := by rw [es8932]; exact mb_sw hBs8926 (mi_1_29 (hBs8926 0))
                    have hFs8932 : FR [7, 9, 8, 10, 11, 0, 12, 13, 14] st s8932 := fr_sw hFs8926 (List.mem_of_getElem? (i := 5) rfl) es8932
                    obtain ⟨z8933, ez8933⟩ : ∃ z9 : Int32, z9 = v6_30 + Int32.ofInt 1 := ⟨_, rfl⟩
                    have h8934 : Iv 1 256 z8933 := iv_inc ez8933 h8663 (by decide) (by decide) (by decide) (by decide) (by decide) (by decide)
                    refine lv_iinc (v := z8933) (lv' := [(6, .int z8933), (5, .int r8927), (7, .int r8927), (4, .int r6), (3, .int r3), (0, .ref (a 0)), (1, .int p0), (2, .int p1)]) hx hb dX10_chooseOf_158 hl (k := 2) rfl ez8933.symm (by decide) rfl (fun ls hl => ?_)
                    refine lv_goto (tgt := 30) hx hb dX10_chooseOf_161 (by decide) ?_
                    exact ih30 z8933 r8927 s8932 _ _ _ (iv_mono (c := 0) (d := 256) h8934 (by decide) (by decide)) (iv_mono (c := (-2147483648)) (d := 1000000000) h8930 (by decide) (by decide)) hBs8932 (fr_sw (fr_ca (fr_ca (fr_ca gt30 gs8679 (sub_1 (List.mem_of_getElem? (i := 0) rfl) (sub_1 (List.mem_of_getElem? (i := 1) rfl) (sub_1 (List.mem_of_getElem? (i := 2) rfl) (sub_1 (List.mem_of_getElem? (i := 3) rfl) (sub_1 (List.mem_of_getElem? (i := 4) rfl) sub_0)))))) gt77 (sub_1 (List.mem_of_getElem? (i := 1) rfl) sub_0)) gs8926 (sub_1 (List.mem_of_getElem? (i := 4) rfl) (sub_1 (List.mem_of_getElem? (i := 5) rfl) (sub_1 (List.mem_of_getElem? (i := 6) rfl) (sub_1 (List.mem_of_getElem? (i := 7) rfl) (sub_1 (List.mem_of_getElem? (i := 0) rfl) (sub_1 (List.mem_of_getElem? (i := 2) rfl) (sub_1 (List.mem_of_getElem? (i := 3) rfl) (sub_1 (List.mem_of_getElem? (i := 8) rfl) sub_0))))))))) (List.mem_of_getElem? (i := 5) rfl) es8932) (Eq.trans (Eq.trans (congrFun (sw_it es8932) 0) (Eq.trans qs8926_0 (Eq.trans (congrFun (gt77 0 (nm_1 (by decide) nm_0)) 0) (Eq.trans (congrFun (gs8679 0 (nm_1 (by decide) (nm_1 (by decide) (nm_1 (by decide) (nm_1 (by decide) (nm_1 (by decide) nm_0)))))) 0) (Eq.trans qt30_0 (Eq.trans (congrFun (sw_it es9) 0) (congrFun (gs1 0 (nm_1 (by decide) (nm_1 (by decide) (nm_1 (by decide) (nm_1 (by decide) (nm_1 (by decide) nm_0)))))) 0))))))) (Eq.symm (Eq.trans (congrFun (sw_it es9) 0) (congrFun (gs1 0 (nm_1 (by decide) (nm_1 (by decide) (nm_1 (by decide) (nm_1 (by decide) (nm_1 (by decide) nm_0)))))) 0)))) (Eq.trans (Eq.trans (congrFun (sw_it es8932) 5) (Eq.trans qs8926_1 (Eq.trans (congrFun (gt77 0 (nm_1 (by decide) nm_0)) 5) (Eq.trans (congrFun (gs8679 0 (nm_1 (by decide) (nm_1 (by decide) (nm_1 (by decide) (nm_1 (by decide) (nm_1 (by decide) nm_0)))))) 5) (Eq.trans qt30_1 (Eq.trans (congrFun (sw_it es9) 5) (congrFun (gs1 0 (nm_1 (by decide) (nm_1 (by decide) (nm_1 (by decide) (nm_1 (by decide) (nm_1 (by decide) nm_0)))))) 5))))))) (Eq.symm (Eq.trans (congrFun (sw_it es9) 5) (congrFun (gs1 0 (nm_1 (by decide) (nm_1 (by decide) (nm_1 (by decide) (nm_1 (by decide) (nm_1 (by decide) nm_0)))))) 5)))) (Eq.trans (Eq.trans (congrFun (sw_it es8932) 7) (Eq.trans qs8926_2 (Eq.trans (congrFun (gt77 0 (nm_1 (by decide) nm_0)) 7) (Eq.trans (congrFun (gs8679 0 (nm_1 (by decide) (nm_1 (by decide) (nm_1 (by decide) (nm_1 (by decide) (nm_1 (by decide) nm_0)))))) 7) (Eq.trans qt30_2 (Eq.trans (congrFun (sw_it es9) 7) (congrFun (gs1 0 (nm_1 (by decide) (nm_1 (by decide) (nm_1 (by decide) (nm_1 (by decide) (nm_1 (by decide) nm_0)))))) 7))))))) (Eq.symm (Eq.trans (congrFun (sw_it es9) 7) (congrFun (gs1 0 (nm_1 (by decide) (nm_1 (by decide) (nm_1 (by decide) (nm_1 (by decide) (nm_1 (by decide) nm_0)))))) 7)))) (Eq.trans (Eq.trans (congrFun (sw_it es8932) 8) (Eq.trans qs8926_3 (Eq.trans (congrFun (gt77 0 (nm_1 (by decide) nm_0)) 8) (Eq.trans (congrFun (gs8679 0 (nm_1 (by decide) (nm_1 (by decide) (nm_1 (by decide) (nm_1 (by decide) (nm_1 (by decide) nm_0)))))) 8) (Eq.trans qt30_3 (Eq.trans (congrFun (sw_it es9) 8) (congrFun (gs1 0 (nm_1 (by decide) (nm_1 (by decide) (nm_1 (by decide) (nm_1 (by decide) (nm_1 (by decide) nm_0)))))) 8))))))) (Eq.symm (Eq.trans (congrFun (sw_it es9) 8) (congrFun (gs1 0 (nm_1 (by decide) (nm_1 (by decide) (nm_1 (by decide) (nm_1 (by decide) (nm_1 (by decide) nm_0)))))) 8)))) (Eq.trans (Eq.trans (congrFun (sw_it es8932) 9) (Eq.trans qs8926_4 (Eq.trans (congrFun (gt77 0 (nm_1 (by decide) nm_0)) 9) (Eq.trans (congrFun (gs8679 0 (nm_1 (by decide) (nm_1 (by decide) (nm_1 (by decide) (nm_1 (by decide) (nm_1 (by decide) nm_0)))))) 9) (Eq.trans qt30_4 (Eq.trans (congrFun (sw_it es9) 9) (congrFun (gs1 0 (nm_1 (by decide) (nm_1 (by decide) (nm_1 (by decide) (nm_1 (by decide) (nm_1 (by decide) nm_0)))))) 9))))))) (Eq.symm (Eq.trans (congrFun (sw_it es9) 9) (congrFun (gs1 0 (nm_1 (by decide) (nm_1 (by decide) (nm_1 (by decide) (nm_1 (by decide) (nm_1 (by decide) nm_0)))))) 9)))) (Eq.trans (Eq.trans (congrFun (sw_it es8932) 10) (Eq.trans qs8926_5 (Eq.trans (congrFun (gt77 0 (nm_1 (by decide) nm_0)) 10) (Eq.trans (congrFun (gs8679 0 (nm_1 (by decide) (nm_1 (by decide) (nm_1 (by decide) (nm_1 (by decide) (nm_1 (by decide) nm_0)))))) 10) (Eq.trans qt30_5 (Eq.trans (congrFun (sw_it es9) 10) (congrFun (gs1 0 (nm_1 (by decide) (nm_1 (by decide) (nm_1 (by decide) (nm_1 (by decide) (nm_1 (by decide) nm_0)))))) 10))))))) (Eq.symm (Eq.trans (congrFun (sw_it es9) 10) (congrFun (gs1 0 (nm_1 (by decide) (nm_1 (by decide) (nm_1 (by decide) (nm_1 (by decide) (nm_1 (by decide) nm_0)))))) 10)))) (Eq.trans (Eq.trans (congrFun (sw_it es8932) 11) (Eq.trans qs8926_6 (Eq.trans (congrFun (gt77 0 (nm_1 (by decide) nm_0)) 11) (Eq.trans (congrFun (gs8679 0 (nm_1 (by decide) (nm_1 (by decide) (nm_1 (by decide) (nm_1 (by decide) (nm_1 (by decide) nm_0)))))) 11) (Eq.trans qt30_6 (Eq.trans (congrFun (sw_it es9) 11) (congrFun (gs1 0 (nm_1 (by decide) (nm_1 (by decide) (nm_1 (by decide) (nm_1 (by decide) (nm_1 (by decide) nm_0)))))) 11))))))) (Eq.symm (Eq.trans (congrFun (sw_it es9) 11) (congrFun (gs1 0 (nm_1 (by decide) (nm_1 (by decide) (nm_1 (by decide) (nm_1 (by decide) (nm_1 (by decide) nm_0)))))) 11)))) (Eq.trans (Eq.trans (congrFun (sw_it es8932) 12) (Eq.trans qs8926_7 (Eq.trans (congrFun (gt77 0 (nm_1 (by decide) nm_0)) 12) (Eq.trans (congrFun (gs8679 0 (nm_1 (by decide) (nm_1 (by decide) (nm_1 (by decide) (nm_1 (by decide) (nm_1 (by decide) nm_0)))))) 12) (Eq.trans qt30_7 (Eq.trans (congrFun (sw_it es9) 12) (congrFun (gs1 0 (nm_1 (by decide) (nm_1 (by decide) (nm_1 (by decide) (nm_1 (by decide) (nm_1 (by decide) nm_0)))))) 12))))))) (Eq.symm (Eq.trans (congrFun (sw_it es9) 12) (congrFun (gs1 0 (nm_1 (by decide) (nm_1 (by decide) (nm_1 (by decide) (nm_1 (by decide) (nm_1 (by decide) nm_0)))))) 12)))) (Eq.trans (Eq.trans (congrFun (sw_it es8932) 13) (Eq.trans qs8926_8 (Eq.trans (congrFun (gt77 0 (nm_1 (by decide) nm_0)) 13) (Eq.trans (congrFun (gs8679 0 (nm_1 (by decide) (nm_1 (by decide) (nm_1 (by decide) (nm_1 (by decide) (nm_1 (by decide) nm_0)))))) 13) (Eq.trans qt30_8 (Eq.trans (congrFun (sw_it es9) 13) (congrFun (gs1 0 (nm_1 (by decide) (nm_1 (by decide) (nm_1 (by decide) (nm_1 (by decide) (nm_1 (by decide) nm_0)))))) 13))))))) (Eq.symm (Eq.trans (congrFun (sw_it es9) 13) (congrFun (gs1 0 (nm_1 (by decide) (nm_1 (by decide) (nm_1 (by decide) (nm_1 (by decide) (nm_1 (by decide) nm_0)))))) 13)))) (Eq.trans (Eq.trans (congrFun (sw_it es8932) 20) (Eq.trans qs8926_9 (Eq.trans (congrFun (gt77 0 (nm_1 (by decide) nm_0)) 20) (Eq.trans (congrFun (gs8679 0 (nm_1 (by decide) (nm_1 (by decide) (nm_1 (by decide) (nm_1 (by decide) (nm_1 (by decide) nm_0)))))) 20) (Eq.trans qt30_9 (Eq.trans (congrFun (sw_it es9) 20) (congrFun (gs1 0 (nm_1 (by decide) (nm_1 (by decide) (nm_1 (by decide) (nm_1 (by decide) (nm_1 (by decide) nm_0)))))) 20))))))) (Eq.symm (Eq.trans (congrFun (sw_it es9) 20) (congrFun (gs1 0 (nm_1 (by decide) (nm_1 (by decide) (nm_1 (by decide) (nm_1 (by decide) (nm_1 (by decide) nm_0)))))) 20)))) (Eq.trans (Eq.trans (congrFun (sw_it es8932) 21) (Eq.trans qs8926_10 (Eq.trans (congrFun (gt77 0 (nm_1 (by decide) nm_0)) 21) (Eq.trans (congrFun (gs8679 0 (nm_1 (by decide) (nm_1 (by decide) (nm_1 (by decide) (nm_1 (by decide) (nm_1 (by decide) nm_0)))))) 21) (Eq.trans qt30_10 (Eq.trans (congrFun (sw_it es9) 21) (congrFun (gs1 0 (nm_1 (by decide) (nm_1 (by decide) (nm_1 (by decide) (nm_1 (by decide) (nm_1 (by decide) nm_0)))))) 21))))))) (Eq.symm (Eq.trans (congrFun (sw_it es9) 21) (congrFun (gs1 0 (nm_1 (by decide) (nm_1 (by decide) (nm_1 (by decide) (nm_1 (by decide) (nm_1 (by decide) nm_0)))))) 21)))) (Eq.trans (Eq.trans (congrFun (sw_it es8932) 22) (Eq.trans qs8926_11 (Eq.trans (congrFun (gt77 0 (nm_1 (by decide) nm_0)) 22) (Eq.trans (congrFun (gs8679 0 (nm_1 (by decide) (nm_1 (by decide) (nm_1 (by decide) (nm_1 (by decide) (nm_1 (by decide) nm_0)))))) 22) (Eq.trans qt30_11 (Eq.trans (congrFun (sw_it es9) 22) (congrFun (gs1 0 (nm_1 (by decide) (nm_1 (by decide) (nm_1 (by decide) (nm_1 (by decide) (nm_1 (by decide) nm_0)))))) 22))))))) (Eq.symm (Eq.trans (congrFun (sw_it es9) 22) (congrFun (gs1 0 (nm_1 (by decide) (nm_1 (by decide) (nm_1 (by decide) (nm_1 (by decide) (nm_1 (by decide) nm_0)))))) 22)))) (Eq.trans (Eq.trans (congrFun (sw_it es8932) 31) (Eq.trans qs8926_13 (Eq.trans (congrFun (gt77 0 (nm_1 (by decide) nm_0)) 31) (Eq.trans (congrFun (gs8679 0 (nm_1 (by decide) (nm_1 (by decide) (nm_1 (by decide) (nm_1 (by decide) (nm_1 (by decide) nm_0)))))) 31) (Eq.trans qt30_12 (Eq.trans (congrFun (sw_it es9) 31) (congrFun (gs1 0 (nm_1 (by decide) (nm_1 (by decide) (nm_1 (by decide) (nm_1 (by decide) (nm_1 (by decide) nm_0)))))) 31))))))) (Eq.symm (Eq.trans (congrFun (sw_it es9) 31) (congrFun (gs1 0 (nm_1 (by decide) (nm_1 (by decide) (nm_1 (by decide) (nm_1 (by decide) (nm_1 (by decide) nm_0)))))) 31)))) (Eq.trans (Eq.trans (congrFun (sw_it es8932) 33) (Eq.trans qs8926_14 (Eq.trans (congrFun (gt77 0 (nm_1 (by decide) nm_0)) 33) (Eq.trans (congrFun (gs8679 0 (nm_1 (by decide) (nm_1 (by decide) (nm_1 (by decide) (nm_1 (by decide) (nm_1 (by decide) nm_0)))))) 33) (Eq.trans qt30_13 (Eq.trans (congrFun (sw_it es9) 33) (congrFun (gs1 0 (nm_1 (by decide) (nm_1 (by decide) (nm_1 (by decide) (nm_1 (by decide) (nm_1 (by decide) nm_0)))))) 33))))))) (Eq.symm (Eq.trans (congrFun (sw_it es9) 33) (congrFun (gs1 0 (nm_1 (by decide) (nm_1 (by decide) (nm_1 (by decide) (nm_1 (by decide) (nm_1 (by decide) nm_0)))))) 33)))) hP hD hS (lv_sub hl [0, 1, 3, 4, 5, 6, 7] rfl) (fu_s (lo := 0) (ti_inc ez8933 h8663 (by decide) (by decide) (by decide) (by decide)) (by decide) hm30)
                  · skip
                    have n8935 : v5_30.toInt ≤ r8927.toInt := (i_nlt c8928)
                    refine lv_goto (tgt := 158) hx hb dX10_chooseOf_145 (by decide) ?_
                    obtain ⟨z8936, ez8936⟩ : ∃ z9 : Int32, z9 = v6_30 + Int32.ofInt 1 := ⟨_, rfl⟩
                    have h8937 : Iv 1 256 z8936 := iv_inc ez8936 h8663 (by decide) (by decide) (by decide) (by decide) (by decide) (by decide)
                    refine lv_iinc (v := z8936) (lv' := [(6, .int z8936), (7, .int r8927), (5, .int v5_30), (4, .int r6), (3, .int r3), (0, .ref (a 0)), (1, .int p0), (2, .int p1)]) hx hb dX10_chooseOf_158 hl (k := 1) rfl ez8936.symm (by decide) rfl (fun ls hl => ?_)
                    refine lv_goto (tgt := 30) hx hb dX10_chooseOf_161 (by decide) ?_
                    exact ih30 z8936 v5_30 s8926 _ _ _ (iv_mono (c := 0) (d := 256) h8937 (by decide) (by decide)) iv5_30 hBs8926 (fr_ca (fr_ca (fr_ca gt30 gs8679 (sub_1 (List.mem_of_getElem? (i := 0) rfl) (sub_1 (List.mem_of_getElem? (i := 1) rfl) (sub_1 (List.mem_of_getElem? (i := 2) rfl) (sub_1 (List.mem_of_getElem? (i := 3) rfl) (sub_1 (List.mem_of_getElem? (i := 4) rfl) sub_0)))))) gt77 (sub_1 (List.mem_of_getElem? (i := 1) rfl) sub_0)) gs8926 (sub_1 (List.mem_of_getElem? (i := 4) rfl) (sub_1 (List.mem_of_getElem? (i := 5) rfl) (sub_1 (List.mem_of_getElem? (i := 6) rfl) (sub_1 (List.mem_of_getElem? (i := 7) rfl) (sub_1 (List.mem_of_getElem? (i := 0) rfl) (sub_1 (List.mem_of_getElem? (i := 2) rfl) (sub_1 (List.mem_of_getElem? (i := 3) rfl) (sub_1 (List.mem_of_getElem? (i := 8) rfl) sub_0))))))))) (Eq.trans (Eq.trans qs8926_0 (Eq.trans (congrFun (gt77 0 (nm_1 (by decide) nm_0)) 0) (Eq.trans (congrFun (gs8679 0 (nm_1 (by decide) (nm_1 (by decide) (nm_1 (by decide) (nm_1 (by decide) (nm_1 (by decide) nm_0)))))) 0) (Eq.trans qt30_0 (Eq.trans (congrFun (sw_it es9) 0) (congrFun (gs1 0 (nm_1 (by decide) (nm_1 (by decide) (nm_1 (by decide) (nm_1 (by decide) (nm_1 (by decide) nm_0)))))) 0)))))) (Eq.symm (Eq.trans (congrFun (sw_it es9) 0) (congrFun (gs1 0 (nm_1 (by decide) (nm_1 (by decide) (nm_1 (by decide) (nm_1 (by decide) (nm_1 (by decide) nm_0)))))) 0)))) (Eq.trans (Eq.trans qs8926_1 (Eq.trans (congrFun (gt77 0 (nm_1 (by decide) nm_0)) 5) (Eq.trans (congrFun (gs8679 0 (nm_1 (by decide) (nm_1 (by decide) (nm_1 (by decide) (nm_1 (by decide) (nm_1 (by decide) nm_0)))))) 5) (Eq.trans qt30_1 (Eq.trans (congrFun (sw_it es9) 5) (congrFun (gs1 0 (nm_1 (by decide) (nm_1 (by decide) (nm_1 (by decide) (nm_1 (by decide) (nm_1 (by decide) nm_0)))))) 5)))))) (Eq.symm (Eq.trans (congrFun (sw_it es9) 5) (congrFun (gs1 0 (nm_1 (by decide) (nm_1 (by decide) (nm_1 (by decide) (nm_1 (by decide) (nm_1 (by decide) nm_0)))))) 5)))) (Eq.trans (Eq.trans qs8926_2 (Eq.trans (congrFun (gt77 0 (nm_1 (by decide) nm_0)) 7) (Eq.trans (congrFun (gs8679 0 (nm_1 (by decide) (nm_1 (by decide) (nm_1 (by decide) (nm_1 (by decide) (nm_1 (by decide) nm_0)))))) 7) (Eq.trans qt30_2 (Eq.trans (congrFun (sw_it es9) 7) (congrFun (gs1 0 (nm_1 (by decide) (nm_1 (by decide) (nm_1 (by decide) (nm_1 (by decide) (nm_1 (by decide) nm_0)))))) 7)))))) (Eq.symm (Eq.trans (congrFun (sw_it es9) 7) (congrFun (gs1 0 (nm_1 (by decide) (nm_1 (by decide) (nm_1 (by decide) (nm_1 (by decide) (nm_1 (by decide) nm_0)))))) 7)))) (Eq.trans (Eq.trans qs8926_3 (Eq.trans (congrFun (gt77 0 (nm_1 (by decide) nm_0)) 8) (Eq.trans (congrFun (gs8679 0 (nm_1 (by decide) (nm_1 (by decide) (nm_1 (by decide) (nm_1 (by decide) (nm_1 (by decide) nm_0)))))) 8) (Eq.trans qt30_3 (Eq.trans (congrFun (sw_it es9) 8) (congrFun (gs1 0 (nm_1 (by decide) (nm_1 (by decide) (nm_1 (by decide) (nm_1 (by decide) (nm_1 (by decide) nm_0)))))) 8)))))) (Eq.symm (Eq.trans (congrFun (sw_it es9) 8) (congrFun (gs1 0 (nm_1 (by decide) (nm_1 (by decide) (nm_1 (by decide) (nm_1 (by decide) (nm_1 (by decide) nm_0)))))) 8)))) (Eq.trans (Eq.trans qs8926_4 (Eq.trans (congrFun (gt77 0 (nm_1 (by decide) nm_0)) 9) (Eq.trans (congrFun (gs8679 0 (nm_1 (by decide) (nm_1 (by decide) (nm_1 (by decide) (nm_1 (by decide) (nm_1 (by decide) nm_0)))))) 9) (Eq.trans qt30_4 (Eq.trans (congrFun (sw_it es9) 9) (congrFun (gs1 0 (nm_1 (by decide) (nm_1 (by decide) (nm_1 (by decide) (nm_1 (by decide) (nm_1 (by decide) nm_0)))))) 9)))))) (Eq.symm (Eq.trans (congrFun (sw_it es9) 9) (congrFun (gs1 0 (nm_1 (by decide) (nm_1 (by decide) (nm_1 (by decide) (nm_1 (by decide) (nm_1 (by decide) nm_0)))))) 9)))) (Eq.trans (Eq.trans qs8926_5 (Eq.trans (congrFun (gt77 0 (nm_1 (by decide) nm_0)) 10) (Eq.trans (congrFun (gs8679 0 (nm_1 (by decide) (nm_1 (by decide) (nm_1 (by decide) (nm_1 (by decide) (nm_1 (by decide) nm_0)))))) 10) (Eq.trans qt30_5 (Eq.trans (congrFun (sw_it es9) 10) (congrFun (gs1 0 (nm_1 (by decide) (nm_1 (by decide) (nm_1 (by decide) (nm_1 (by decide) (nm_1 (by decide) nm_0)))))) 10)))))) (Eq.symm (Eq.trans (congrFun (sw_it es9) 10) (congrFun (gs1 0 (nm_1 (by decide) (nm_1 (by decide) (nm_1 (by decide) (nm_1 (by decide) (nm_1 (by decide) nm_0)))))) 10)))) (Eq.trans (Eq.trans qs8926_6 (Eq.trans (congrFun (gt77 0 (nm_1 (by decide) nm_0)) 11) (Eq.trans (congrFun (gs8679 0 (nm_1 (by decide) (nm_1 (by decide) (nm_1 (by decide) (nm_1 (by decide) (nm_1 (by decide) nm_0)))))) 11) (Eq.trans qt30_6 (Eq.trans (congrFun (sw_it es9) 11) (congrFun (gs1 0 (nm_1 (by decide) (nm_1 (by decide) (nm_1 (by decide) (nm_1 (by decide) (nm_1 (by decide) nm_0)))))) 11)))))) (Eq.symm (Eq.trans (congrFun (sw_it es9) 11) (congrFun (gs1 0 (nm_1 (by decide) (nm_1 (by decide) (nm_1 (by decide) (nm_1 (by decide) (nm_1 (by decide) nm_0)))))) 11)))) (Eq.trans (Eq.trans qs8926_7 (Eq.trans (congrFun (gt77 0 (nm_1 (by decide) nm_0)) 12) (Eq.trans (congrFun (gs8679 0 (nm_1 (by decide) (nm_1 (by decide) (nm_1 (by decide) (nm_1 (by decide) (nm_1 (by decide) nm_0)))))) 12) (Eq.trans qt30_7 (Eq.trans (congrFun (sw_it es9) 12) (congrFun (gs1 0 (nm_1 (by decide) (nm_1 (by decide) (nm_1 (by decide) (nm_1 (by decide) (nm_1 (by decide) nm_0)))))) 12)))))) (Eq.symm (Eq.trans (congrFun (sw_it es9) 12) (congrFun (gs1 0 (nm_1 (by decide) (nm_1 (by decide) (nm_1 (by decide) (nm_1 (by decide) (nm_1 (by decide) nm_0)))))) 12)))) (Eq.trans (Eq.trans qs8926_8 (Eq.trans (congrFun (gt77 0 (nm_1 (by decide) nm_0)) 13) (Eq.trans (congrFun (gs8679 0 (nm_1 (by decide) (nm_1 (by decide) (nm_1 (by decide) (nm_1 (by decide) (nm_1 (by decide) nm_0)))))) 13) (Eq.trans qt30_8 (Eq.trans (congrFun (sw_it es9) 13) (congrFun (gs1 0 (nm_1 (by decide) (nm_1 (by decide) (nm_1 (by decide) (nm_1 (by decide) (nm_1 (by decide) nm_0)))))) 13)))))) (Eq.symm (Eq.trans (congrFun (sw_it es9) 13) (congrFun (gs1 0 (nm_1 (by decide) (nm_1 (by decide) (nm_1 (by decide) (nm_1 (by decide) (nm_1 (by decide) nm_0)))))) 13)))) (Eq.trans (Eq.trans qs8926_9 (Eq.trans (congrFun (gt77 0 (nm_1 (by decide) nm_0)) 20) (Eq.trans (congrFun (gs8679 0 (nm_1 (by decide) (nm_1 (by decide) (nm_1 (by decide) (nm_1 (by decide) (nm_1 (by decide) nm_0)))))) 20) (Eq.trans qt30_9 (Eq.trans (congrFun (sw_it es9) 20) (congrFun (gs1 0 (nm_1 (by decide) (nm_1 (by decide) (nm_1 (by decide) (nm_1 (by decide) (nm_1 (by decide) nm_0)))))) 20)))))) (Eq.symm (Eq.trans (congrFun (sw_it es9) 20) (congrFun (gs1 0 (nm_1 (by decide) (nm_1 (by decide) (nm_1 (by decide) (nm_1 (by decide) (nm_1 (by decide) nm_0)))))) 20)))) (Eq.trans (Eq.trans qs8926_10 (Eq.trans (congrFun (gt77 0 (nm_1 (by decide) nm_0)) 21) (Eq.trans (congrFun (gs8679 0 (nm_1 (by decide) (nm_1 (by decide) (nm_1 (by decide) (nm_1 (by decide) (nm_1 (by decide) nm_0)))))) 21) (Eq.trans qt30_10 (Eq.trans (congrFun (sw_it es9) 21) (congrFun (gs1 0 (nm_1 (by decide) (nm_1 (by decide) (nm_1 (by decide) (nm_1 (by decide) (nm_1 (by decide) nm_0)))))) 21)))))) (Eq.symm (Eq.trans (congrFun (sw_it es9) 21) (congrFun (gs1 0 (nm_1 (by decide) (nm_1 (by decide) (nm_1 (by decide) (nm_1 (by decide) (nm_1 (by decide) nm_0)))))) 21)))) (Eq.trans (Eq.trans qs8926_11 (Eq.trans (congrFun (gt77 0 (nm_1 (by decide) nm_0)) 22) (Eq.trans (congrFun (gs8679 0 (nm_1 (by decide) (nm_1 (by decide) (nm_1 (by decide) (nm_1 (by decide) (nm_1 (by decide) nm_0)))))) 22) (Eq.trans qt30_11 (Eq.trans (congrFun (sw_it es9) 22) (congrFun (gs1 0 (nm_1 (by decide) (nm_1 (by decide) (nm_1 (by decide) (nm_1 (by decide) (nm_1 (by decide) nm_0)))))) 22)))))) (Eq.symm (Eq.trans (congrFun (sw_it es9) 22) (congrFun (gs1 0 (nm_1 (by decide) (nm_1 (by decide) (nm_1 (by decide) (nm_1 (by decide) (nm_1 (by decide) nm_0)))))) 22)))) (Eq.trans (Eq.trans qs8926_13 (Eq.trans (congrFun (gt77 0 (nm_1 (by decide) nm_0)) 31) (Eq.trans (congrFun (gs8679 0 (nm_1 (by decide) (nm_1 (by decide) (nm_1 (by decide) (nm_1 (by decide) (nm_1 (by decide) nm_0)))))) 31) (Eq.trans qt30_12 (Eq.trans (congrFun (sw_it es9) 31) (congrFun (gs1 0 (nm_1 (by decide) (nm_1 (by decide) (nm_1 (by decide) (nm_1 (by decide) (nm_1 (by decide) nm_0)))))) 31)))))) (Eq.symm (Eq.trans (congrFun (sw_it es9) 31) (congrFun (gs1 0 (nm_1 (by decide) (nm_1 (by decide) (nm_1 (by decide) (nm_1 (by decide) (nm_1 (by decide) nm_0)))))) 31)))) (Eq.trans (Eq.trans qs8926_14 (Eq.trans (congrFun (gt77 0 (nm_1 (by decide) nm_0)) 33) (Eq.trans (congrFun (gs8679 0 (nm_1 (by decide) (nm_1 (by decide) (nm_1 (by decide) (nm_1 (by decide) (nm_1 (by decide) nm_0)))))) 33) (Eq.trans qt30_13 (Eq.trans (congrFun (sw_it es9) 33) (congrFun (gs1 0 (nm_1 (by decide) (nm_1 (by decide) (nm_1 (by decide) (nm_1 (by decide) (nm_1 (by decide) nm_0)))))) 33)))))) (Eq.symm (Eq.trans (congrFun (sw_it es9) 33) (congrFun (gs1 0 (nm_1 (by decide) (nm_1 (by decide) (nm_1 (by decide) (nm_1 (by decide) (nm_1 (by decide) nm_0)))))) 33)))) hP hD hS (lv_sub hl [0, 2, 3, 4, 5, 6, 7] rfl) (fu_s (lo := 0) (ti_inc ez8936 h8663 (by decide) (by decide) (by decide) (by decide)) (by decide) hm30)
                · skip
                  have n8938 : v7_77.toInt < (st 1 3).toInt := (i_nle c8924)
                  have h8939 : Iv 0 7 v7_77 := lt_l iv7_77 n8938 h8656 (by decide)
                  have h8940 : Iv 1 8 (st 1 3) := lt_r iv7_77 n8938 h8656 (by decide)
                  refine lv_iload_n hx hb dX10_chooseOf_88 rfl (lv_at hl 4 rfl) ?_
                  refine lv_iload hx hb dX10_chooseOf_89 (lv_at hl 3 rfl) ?_
                  refine lv_ior hx hb dX10_chooseOf_91 ?_
                  refine lv_topi (fun z8941 ez8941 => ?_)
                  have h8942 : Iv 0 255 z8941 := iv_or 8 ez8941 h4 h7 (by decide) (by decide) (by decide) (by decide)
                  refine lv_iload hx hb dX10_chooseOf_92 (lv_at hl 0 rfl) ?_
                  refine ro_S (As := [.int z8941, .int v7_77]) (rest := []) S (m_X10_bit l D k a t77 sl  z8941 v7_77 _  hBt77  ) lkX10_193 ok_X10_bit ⟨rfl, rfl, Nat.le_of_ble_eq_true rfl, Nat.le_of_ble_eq_true rfl⟩ (pw_S hK hN hP (hD.weaken (fun _ _ _ _ => trivial))) rfl hl.1 rfl (Nat.le_of_ble_eq_true rfl) ⟨Nat.zero_le _, Nat.zero_le _⟩ dX10_chooseOf_94 (fun r8943 er8943 => ?_)
                  have h8944 : Iv 0 1 r8943 := er8943.1
                  have k8945 := er8943.2
                  refine lv_iconst (v := 1) hx hb dX10_chooseOf_97 (by decide) ?_
                  refine lv_icmp_ne (tgt := 124) hx hb dX10_chooseOf_98 (by decide) (fun c8946 => ?_) (fun c8946 => ?_)
                  · skip
                    have h8947 : Iv 0 0 r8943 := ne_hi h8944 (show ¬ r8943 = 1 from c8946) (by decide) (by decide)
                    obtain ⟨z8948, ez8948⟩ : ∃ z9 : Int32, z9 = v7_77 + Int32.ofInt 1 := ⟨_, rfl⟩
                    have h8949 : Iv 1 8 z8948 := iv_inc ez8948 h8939 (by decide) (by decide) (by decide) (by decide) (by decide) (by decide)
                    refine lv_iinc (v := z8948) (lv' := [(7, .int z8948), (6, .int v6_30), (5, .int v5_30), (4, .int r6), (3, .int r3), (0, .ref (a 0)), (1, .int p0), (2, .int p1)]) hx hb dX10_chooseOf_124 hl (k := 0) rfl ez8948.symm (by decide) rfl (fun ls hl => ?_)
                    refine lv_goto (tgt := 77) hx hb dX10_chooseOf_127 (by decide) ?_
                    exact ih77 z8948 t77 _ _ _ (iv_mono (c := 0) (d := 8) h8949 (by decide) (by decide)) hBt77 gt77 hP hD hS (lv_sub hl [0, 1, 2, 3, 4, 5, 6, 7] rfl) (fu_s (lo := 0) (ti_inc ez8948 h8939 (by decide) (by decide) (by decide) (by decide)) (by decide) hm77)
                  · skip
                    have h8950 : Iv 1 1 r8943 := eq_l c8946 (iv_c (by decide) : Iv 1 1 1)
                    refine lv_aload_n hx hb dX10_chooseOf_101 rfl (lv_at hl 5 rfl) ?_
                    refine va_get (D := D) (ci := 10) (v := .ref (a 9)) (C := RX10) (T := TX10) (N := 38) hx hb hT in_X10 hown hK hP 0 mw_0 rfl 17 (by decide) (hT _ t1279) (fun _ h9 => h9) rfl dX10_chooseOf_102 ?_
                    refine lv_iload hx hb dX10_chooseOf_105 (lv_at hl 0 rfl) ?_
                    refine lv_iload hx hb dX10_chooseOf_107 (lv_at hl 1 rfl) ?_
                    refine lv_iload hx hb dX10_chooseOf_109 (lv_at hl 0 rfl) ?_
                    refine ro_S (As := [.int v6_30, .int v7_77]) (rest := [.int v7_77, .ref (a 9)]) S (m_X10_bit l D k a t77 sl  v6_30 v7_77 _  hBt77  ) lkX10_193 ok_X10_bit ⟨rfl, rfl, Nat.le_of_ble_eq_true rfl, Nat.le_of_ble_eq_true rfl⟩ (pw_S hK hN hP (hD.weaken (fun _ _ _ _ => trivial))) rfl hl.1 rfl (Nat.le_of_ble_eq_true rfl) ⟨Nat.zero_le _, Nat.zero_le _⟩ dX10_chooseOf_111 (fun r8951 er8951 => ?_)
                    have h8952 : Iv 0 1 r8951 := er8951.1
                    have k8953 := er8951.2
                    refine lv_iconst (v := 1) hx hb dX10_chooseOf_114 (by decide) ?_
                    refine lv_icmp_ne (tgt := 122) hx hb dX10_chooseOf_115 (by decide) (fun c8954 => ?_) (fun c8954 => ?_)
                    · skip
                      have h8955 : Iv 0 0 r8951 := ne_hi h8952 (show ¬ r8951 = 1 from c8954) (by decide) (by decide)
                      refine lv_iconst (v := (-1)) hx hb dX10_chooseOf_122 (by decide) ?_
                      refine c_ist hx hb hK hP hD hS mw_9 ms_9 (iv_in h8939 (by decide) (by decide)) dX10_chooseOf_123 (fun s8956 H9 locs9 es8956 hP9 hD9 hS9 => ?_)
                      clear hP hD hS
                      have hS := hS9
                      have hP := hP9
                      have hD := hD9
                      clear hP9 hD9 hS9
                      have hBs8956 : MB s8956 := by rw [es8956]; exact mb_sw hBt77 trivial
                      have hFs8956 : FR [7, 9, 8, 10, 11, 0, 12, 13, 14] st s8956 := fr_sw hFt77 (List.mem_of_getElem? (i := 1) rfl) es8956
                      obtain ⟨z8957, ez8957⟩ : ∃ z9 : Int32, z9 = v7_77 + Int32.ofInt 1 := ⟨_, rfl⟩
                      have h8958 : Iv 1 8 z8957 := iv_inc ez8957 h8939 (by decide) (by decide) (by decide) (by decide) (by decide) (by decide)
                      refine lv_iinc (v := z8957) (lv' := [(7, .int z8957), (6, .int v6_30), (5, .int v5_30), (4, .int r6), (3, .int r3), (0, .ref (a 0)), (1, .int p0), (2, .int p1)]) hx hb dX10_chooseOf_124 hl (k := 0) rfl ez8957.symm (by decide) rfl (fun ls hl => ?_)
                      refine lv_goto (tgt := 77) hx hb dX10_chooseOf_127 (by decide) ?_
                      exact ih77 z8957 s8956 _ _ _ (iv_mono (c := 0) (d := 8) h8958 (by decide) (by decide)) hBs8956 (fr_sw gt77 (List.mem_of_getElem? (i := 0) rfl) es8956) hP hD hS (lv_sub hl [0, 1, 2, 3, 4, 5, 6, 7] rfl) (fu_s (lo := 0) (ti_inc ez8957 h8939 (by decide) (by decide) (by decide) (by decide)) (by decide) hm77)
                    · skip
                      have h8959 : Iv 1 1 r8951 := eq_l c8954 (iv_c (by decide) : Iv 1 1 1)
                      refine lv_iload_n hx hb dX10_chooseOf_118 rfl (lv_at hl 6 rfl) ?_
                      refine lv_goto (tgt := 123) hx hb dX10_chooseOf_119 (by decide) ?_
                      refine c_ist hx hb hK hP hD hS mw_9 ms_9 (iv_in h8939 (by decide) (by decide)) dX10_chooseOf_123 (fun s8960 H9 locs9 es8960 hP9 hD9 hS9 => ?_)
                      clear hP hD hS
                      have hS := hS9
                      have hP := hP9
                      have hD := hD9
                      clear hP9 hD9 hS9
                      have hBs8960 : MB s8960 := by rw [es8960]; exact mb_sw hBt77 trivial
                      have hFs8960 : FR [7, 9, 8, 10, 11, 0, 12, 13, 14] st s8960 := fr_sw hFt77 (List.mem_of_getElem? (i := 1) rfl) es8960
                      obtain ⟨z8961, ez8961⟩ : ∃ z9 : Int32, z9 = v7_77 + Int32.ofInt 1 := ⟨_, rfl⟩
                      have h8962 : Iv 1 8 z8961 := iv_inc ez8961 h8939 (by decide) (by decide) (by decide) (by decide) (by decide) (by decide)
                      refine lv_iinc (v := z8961) (lv' := [(7, .int z8961), (6, .int v6_30), (5, .int v5_30), (4, .int r6), (3, .int r3), (0, .ref (a 0)), (1, .int p0), (2, .int p1)]) hx hb dX10_chooseOf_124 hl (k := 0) rfl ez8961.symm (by decide) rfl (fun ls hl => ?_)
                      refine lv_goto (tgt := 77) hx hb dX10_chooseOf_127 (by decide) ?_
                      exact ih77 z8961 s8960 _ _ _ (iv_mono (c := 0) (d := 8) h8962 (by decide) (by decide)) hBs8960 (fr_sw gt77 (List.mem_of_getElem? (i := 0) rfl) es8960) hP hD hS (lv_sub hl [0, 1, 2, 3, 4, 5, 6, 7] rfl) (fu_s (lo := 0) (ti_inc ez8961 h8939 (by decide) (by decide) (by decide) (by decide)) (by decide) hm77)
            exact lp77 9 0 s8679 _ _ _ (iv_mono (c := 0) (d := 8) (iv_c (by decide) : Iv 0 0 0) (by decide) (by decide)) hBs8679 fr_rf hP hD hS (lv_sub hl [0, 1, 2, 3, 4, 5, 6, 7] rfl) (fu_i (iv_mono (c := 0) (d := 8) (iv_c (by decide) : Iv 0 0 0) (by decide) (by decide)) (by decide))
          · skip
            refine lv_goto (tgt := 158) hx hb dX10_chooseOf_67 (by decide) ?_
            obtain ⟨z8963, ez8963⟩ : ∃ z9 : Int32, z9 = v6_30 + Int32.ofInt 1 := ⟨_, rfl⟩
            have h8964 : Iv 1 256 z8963 := iv_inc ez8963 h8663 (by decide) (by decide) (by decide) (by decide) (by decide) (by decide)
            refine lv_iinc (v := z8963) (lv' := [(6, .int z8963), (5, .int v5_30), (4, .int r6), (3, .int r3), (0, .ref (a 0)), (1, .int p0), (2, .int p1)]) hx hb dX10_chooseOf_158 hl (k := 0) rfl ez8963.symm (by decide) rfl (fun ls hl => ?_)
            refine lv_goto (tgt := 30) hx hb dX10_chooseOf_161 (by decide) ?_
            exact ih30 z8963 v5_30 t30 _ _ _ (iv_mono (c := 0) (d := 256) h8964 (by decide) (by decide)) iv5_30 hBt30 gt30 (Eq.trans (Eq.trans qt30_0 (Eq.trans (congrFun (sw_it es9) 0) (congrFun (gs1 0 (nm_1 (by decide) (nm_1 (by decide) (nm_1 (by decide) (nm_1 (by decide) (nm_1 (by decide) nm_0)))))) 0))) (Eq.symm (Eq.trans (congrFun (sw_it es9) 0) (congrFun (gs1 0 (nm_1 (by decide) (nm_1 (by decide) (nm_1 (by decide) (nm_1 (by decide) (nm_1 (by decide) nm_0)))))) 0)))) (Eq.trans (Eq.trans qt30_1 (Eq.trans (congrFun (sw_it es9) 5) (congrFun (gs1 0 (nm_1 (by decide) (nm_1 (by decide) (nm_1 (by decide) (nm_1 (by decide) (nm_1 (by decide) nm_0)))))) 5))) (Eq.symm (Eq.trans (congrFun (sw_it es9) 5) (congrFun (gs1 0 (nm_1 (by decide) (nm_1 (by decide) (nm_1 (by decide) (nm_1 (by decide) (nm_1 (by decide) nm_0)))))) 5)))) (Eq.trans (Eq.trans qt30_2 (Eq.trans (congrFun (sw_it es9) 7) (congrFun (gs1 0 (nm_1 (by decide) (nm_1 (by decide) (nm_1 (by decide) (nm_1 (by decide) (nm_1 (by decide) nm_0)))))) 7))) (Eq.symm (Eq.trans (congrFun (sw_it es9) 7) (congrFun (gs1 0 (nm_1 (by decide) (nm_1 (by decide) (nm_1 (by decide) (nm_1 (by decide) (nm_1 (by decide) nm_0)))))) 7)))) (Eq.trans (Eq.trans qt30_3 (Eq.trans (congrFun (sw_it es9) 8) (congrFun (gs1 0 (nm_1 (by decide) (nm_1 (by decide) (nm_1 (by decide) (nm_1 (by decide) (nm_1 (by decide) nm_0)))))) 8))) (Eq.symm (Eq.trans (congrFun (sw_it es9) 8) (congrFun (gs1 0 (nm_1 (by decide) (nm_1 (by decide) (nm_1 (by decide) (nm_1 (by decide) (nm_1 (by decide) nm_0)))))) 8)))) (Eq.trans (Eq.trans qt30_4 (Eq.trans (congrFun (sw_it es9) 9) (congrFun (gs1 0 (nm_1 (by decide) (nm_1 (by decide) (nm_1 (by decide) (nm_1 (by decide) (nm_1 (by decide) nm_0)))))) 9))) (Eq.symm (Eq.trans (congrFun (sw_it es9) 9) (congrFun (gs1 0 (nm_1 (by decide) (nm_1 (by decide) (nm_1 (by decide) (nm_1 (by decide) (nm_1 (by decide) nm_0)))))) 9)))) (Eq.trans (Eq.trans qt30_5 (Eq.trans (congrFun (sw_it es9) 10) (congrFun (gs1 0 (nm_1 (by decide) (nm_1 (by decide) (nm_1 (by decide) (nm_1 (by decide) (nm_1 (by decide) nm_0)))))) 10))) (Eq.symm (Eq.trans (congrFun (sw_it es9) 10) (congrFun (gs1 0 (nm_1 (by decide) (nm_1 (by decide) (nm_1 (by decide) (nm_1 (by decide) (nm_1 (by decide) nm_0)))))) 10)))) (Eq.trans (Eq.trans qt30_6 (Eq.trans (congrFun (sw_it es9) 11) (congrFun (gs1 0 (nm_1 (by decide) (nm_1 (by decide) (nm_1 (by decide) (nm_1 (by decide) (nm_1 (by decide) nm_0)))))) 11))) (Eq.symm (Eq.trans (congrFun (sw_it es9) 11) (congrFun (gs1 0 (nm_1 (by decide) (nm_1 (by decide) (nm_1 (by decide) (nm_1 (by decide) (nm_1 (by decide) nm_0)))))) 11)))) (Eq.trans (Eq.trans qt30_7 (Eq.trans (congrFun (sw_it es9) 12) (congrFun (gs1 0 (nm_1 (by decide) (nm_1 (by decide) (nm_1 (by decide) (nm_1 (by decide) (nm_1 (by decide) nm_0)))))) 12))) (Eq.symm (Eq.trans (congrFun (sw_it es9) 12) (congrFun (gs1 0 (nm_1 (by decide) (nm_1 (by decide) (nm_1 (by decide) (nm_1 (by decide) (nm_1 (by decide) nm_0)))))) 12)))) (Eq.trans (Eq.trans qt30_8 (Eq.trans (congrFun (sw_it es9) 13) (congrFun (gs1 0 (nm_1 (by decide) (nm_1 (by decide) (nm_1 (by decide) (nm_1 (by decide) (nm_1 (by decide) nm_0)))))) 13))) (Eq.symm (Eq.trans (congrFun (sw_it es9) 13) (congrFun (gs1 0 (nm_1 (by decide) (nm_1 (by decide) (nm_1 (by decide) (nm_1 (by decide) (nm_1 (by decide) nm_0)))))) 13)))) (Eq.trans (Eq.trans qt30_9 (Eq.trans (congrFun (sw_it es9) 20) (congrFun (gs1 0 (nm_1 (by decide) (nm_1 (by decide) (nm_1 (by decide) (nm_1 (by decide) (nm_1 (by decide) nm_0)))))) 20))) (Eq.symm (Eq.trans (congrFun (sw_it es9) 20) (congrFun (gs1 0 (nm_1 (by decide) (nm_1 (by decide) (nm_1 (by decide) (nm_1 (by decide) (nm_1 (by decide) nm_0)))))) 20)))) (Eq.trans (Eq.trans qt30_10 (Eq.trans (congrFun (sw_it es9) 21) (congrFun (gs1 0 (nm_1 (by decide) (nm_1 (by decide) (nm_1 (by decide) (nm_1 (by decide) (nm_1 (by decide) nm_0)))))) 21))) (Eq.symm (Eq.trans (congrFun (sw_it es9) 21) (congrFun (gs1 0 (nm_1 (by decide) (nm_1 (by decide) (nm_1 (by decide) (nm_1 (by decide) (nm_1 (by decide) nm_0)))))) 21)))) (Eq.trans (Eq.trans qt30_11 (Eq.trans (congrFun (sw_it es9) 22) (congrFun (gs1 0 (nm_1 (by decide) (nm_1 (by decide) (nm_1 (by decide) (nm_1 (by decide) (nm_1 (by decide) nm_0)))))) 22))) (Eq.symm (Eq.trans (congrFun (sw_it es9) 22) (congrFun (gs1 0 (nm_1 (by decide) (nm_1 (by decide) (nm_1 (by decide) (nm_1 (by decide) (nm_1 (by decide) nm_0)))))) 22)))) (Eq.trans (Eq.trans qt30_12 (Eq.trans (congrFun (sw_it es9) 31) (congrFun (gs1 0 (nm_1 (by decide) (nm_1 (by decide) (nm_1 (by decide) (nm_1 (by decide) (nm_1 (by decide) nm_0)))))) 31))) (Eq.symm (Eq.trans (congrFun (sw_it es9) 31) (congrFun (gs1 0 (nm_1 (by decide) (nm_1 (by decide) (nm_1 (by decide) (nm_1 (by decide) (nm_1 (by decide) nm_0)))))) 31)))) (Eq.trans (Eq.trans qt30_13 (Eq.trans (congrFun (sw_it es9) 33) (congrFun (gs1 0 (nm_1 (by decide) (nm_1 (by decide) (nm_1 (by decide) (nm_1 (by decide) (nm_1 (by decide) nm_0)))))) 33))) (Eq.symm (Eq.trans (congrFun (sw_it es9) 33) (congrFun (gs1 0 (nm_1 (by decide) (nm_1 (by decide) (nm_1 (by decide) (nm_1 (by decide) (nm_1 (by decide) nm_0)))))) 33)))) hP hD hS (lv_sub hl [0, 1, 2, 3, 4, 5, 6] rfl) (fu_s (lo := 0) (ti_inc ez8963 h8663 (by decide) (by decide) (by decide) (by decide)) (by decide) hm30)
  exact lp30 257 0 1000000000 s9 _ _ _ (iv_mono (c := 0) (d := 256) (iv_c (by decide) : Iv 0 0 0) (by decide) (by decide)) (iv_mono (c := (-2147483648)) (d := 1000000000) (iv_c (by decide) : Iv 1000000000 1000000000 1000000000) (by decide) (by decide)) hBs9 fr_rf rfl rfl rfl rfl rfl rfl rfl rfl rfl rfl rfl rfl rfl rfl hP hD hS (lv_sub hl [0, 1, 2, 3, 4, 5, 6] rfl) (fu_i (iv_mono (c := 0) (d := 256) (iv_c (by decide) : Iv 0 0 0) (by decide) (by decide)) (by decide))
set_option maxHeartbeats 4000000 in
set_option maxRecDepth 100000 in
theorem m_X10_choose (l : Launch) (D : va_G) (k : Nat → ClassId) (a : Nat → Nat) (st : CT) (sl : CL) (p0 : Int32) (p1 : Int32) (sz : Nat) (hB : MB st)  (hw : WOK (st 1)) : Met l yX10_choose (.code yX10_choose cX10_choose 4 (some .int) :: TB) (rmw 9 0 0) (va_Pc [.ref (a 0), .int p0, .int p1] (PW D k sz (MWS k a st sl))) (QI D (S := CT) (fun r u => MB u ∧ FR [7, 9, 8, 10, 11, 0, 12, 13, 14] st u ∧ u 0 0 = st 0 0 ∧ u 0 5 = st 0 5 ∧ u 0 7 = st 0 7 ∧ u 0 8 = st 0 8 ∧ u 0 9 = st 0 9 ∧ u 0 10 = st 0 10 ∧ u 0 11 = st 0 11 ∧ u 0 12 = st 0 12 ∧ u 0 13 = st 0 13 ∧ u 0 20 = st 0 20 ∧ u 0 21 = st 0 21 ∧ u 0 22 = st 0 22 ∧ u 0 31 = st 0 31 ∧ u 0 33 = st 0 33 ∧ (Iv (-2147483648) 999999999 r ∧ (True))) (fun u => MWS k a u sl) (fun _ => []) (MWS k a st sl) sz) 0 0 (va_A (MWS k a st sl) sz) := by
  refine Met.ofW (cc := cX10_choose) (maxL := 4) (ret := (some .int)) (by decide) rfl ?_
  intro p e s m args below meth c s₁ B hml hv
  obtain ⟨rfl, hsz, hP, hK, hD0, hN⟩ := hv
  have hx := B.exec
  have hb := B.bytes
  have hr := B.returns
  have hT : ∀ w9 ∈ TB, w9.before ([.ref (a 0), .int p0, .int p1] : List Value).toArray s = true := fun w9 h => atoms_spec (ws := .code yX10_choose cX10_choose 4 (some .int) :: TB) B.pre w9 (List.mem_cons_of_mem _ h)
  have hown : s.vm.findClass RX10 = some m.cls := findClass_of_methodNamed B.named
  have S : CallFix p m c cX10_choose 4 s _ TB RX10 := ⟨hx, hb, hml, hown, hT⟩
  subst hsz
  have hD := hD0.self (sz := s.heap.size)
  generalize hAe : va_A (MWS k a st sl) s.heap.size = A at hD ⊢
  have hA : ∀ q : Nat, s.heap.size ≤ q → A q := fun q h => by rw [← hAe]; exact Or.inr h
  have hS : va_S A s.heap s.heap [] := va_S.rf
  have hl := lv_entry ([.ref (a 0), .int p0, .int p1]) (n := 4) (Nat.le_of_ble_eq_true rfl)
  rw [lg_entry_eq]
  generalize (lg_sl ([.ref (a 0), .int p0, .int p1]) ++ List.replicate (4 - (lg_sl ([.ref (a 0), .int p0, .int p1])).length) Slot.unset).toArray = ls at hl ⊢
  have hl : lv_has ls 4 [(0, .ref (a 0)), (1, .int p0), (2, .int p1)] := hl
  refine nameQ (fun Q hQ => ?_)
  refine lv_aload_n hx hb dX10_choose_0 rfl (lv_at hl 0 rfl) ?_
  refine lv_iload_n hx hb dX10_choose_1 rfl (lv_at hl 1 rfl) ?_
  refine ro_V (As := [.int p0]) (rest := []) S (m_X10_isCart l D k a st sl  p0 _  hB  hw) lkX10_279 ok_X10_isCart ⟨rfl, rfl, Nat.le_of_ble_eq_true rfl, Nat.le_of_ble_eq_true rfl⟩ (pw_V (ci := 10) (q0 := 0) hK hN rfl mw_0 hP (hD.weaken (fun _ _ _ _ => trivial))) rfl hl.1 rfl (Nat.le_of_ble_eq_true rfl) ⟨Nat.zero_le _, Nat.zero_le _⟩ dX10_choose_2 (fun r1 er1 => ?_)
  rcases er1 with ⟨rfl, g9⟩ | ⟨rfl, g9⟩
  · skip
    have g2 := g9
    have h3 : Iv 0 2 p0 := g2.1
    refine lv_if_eq (tgt := 17) hx hb dX10_choose_5 (by decide) (fun c4 => ?_) (fun c4 => ?_)
    · first | exact absurd c4 (by decide) | exact absurd (by decide) c4
    refine lv_aload_n hx hb dX10_choose_8 rfl (lv_at hl 0 rfl) ?_
    refine lv_iload_n hx hb dX10_choose_9 rfl (lv_at hl 2 rfl) ?_
    refine lv_i2l hx hb dX10_choose_10 rfl ?_
    refine ro_V (As := [.long (p1.toInt64)]) (rest := []) S (m_X10_isPlace l D k a st sl  (p1.toInt64) _  hB  hw) lkX10_282 ok_X10_isPlace ⟨rfl, rfl, Nat.le_of_ble_eq_true rfl, Nat.le_of_ble_eq_true rfl⟩ (pw_V (ci := 10) (q0 := 0) hK hN rfl mw_0 hP (hD.weaken (fun _ _ _ _ => trivial))) rfl hl.1 rfl (Nat.le_of_ble_eq_true rfl) ⟨Nat.zero_le _, Nat.zero_le _⟩ dX10_choose_11 (fun r5 er5 => ?_)
    rcases er5 with ⟨rfl, g9⟩ | ⟨rfl, g9⟩
    · skip
      have g6 := g9
      have h7 : (0 : Int) ≤ (p1.toInt64).toInt ∧ (p1.toInt64).toInt ≤ (5 : Int) := ⟨(g6).1, (g6).2⟩
      have h8 : Iv 0 5 p1 := iv_lv h7
      refine lv_if_ne (tgt := 20) hx hb dX10_choose_14 (by decide) (fun c9 => ?_) (fun c9 => ?_)
      rotate_left
      · first | exact absurd c9 (by decide) | exact absurd (by decide) c9
      refine lv_aload_n hx hb dX10_choose_20 rfl (lv_at hl 0 rfl) ?_
      refine lv_iload_n hx hb dX10_choose_21 rfl (lv_at hl 1 rfl) ?_
      refine lv_iload_n hx hb dX10_choose_22 rfl (lv_at hl 2 rfl) ?_
      refine ca_i hP hD hS hA (fun hDc => run_V (mc := 0) (ms := 0) (As := [.int p0, .int p1]) (rest := []) S (m_X10_chooseOf l D k a st sl  p0 p1 _  hB h3 hw) lkX10_344 ok_X10_chooseOf ⟨rfl, rfl, Nat.le_of_ble_eq_true rfl, Nat.le_of_ble_eq_true rfl⟩ (pw_V (ci := 10) (q0 := 0) hK hN rfl mw_0 hP hDc) rfl hl.1 rfl (Nat.le_of_ble_eq_true rfl) ⟨Nat.zero_le _, Nat.zero_le _⟩ dX10_choose_23) (fun r11 s10 H9 locs9 hs10 hP9 hD9 hS9 => ?_)
      clear hP hD hS
      have hS := hS9
      have hP := hP9
      have hD := hD9
      clear hP9 hD9 hS9
      obtain ⟨hBs10, gs10, qs10_0, qs10_1, qs10_2, qs10_3, qs10_4, qs10_5, qs10_6, qs10_7, qs10_8, qs10_9, qs10_10, qs10_11, qs10_12, qs10_13, fs10⟩ := hs10
      have hFs10 : FR [7, 9, 8, 10, 11, 0, 12, 13, 14] st s10 := fr_ca fr_rf gs10 (sub_1 (List.mem_of_getElem? (i := 0) rfl) (sub_1 (List.mem_of_getElem? (i := 1) rfl) (sub_1 (List.mem_of_getElem? (i := 2) rfl) (sub_1 (List.mem_of_getElem? (i := 3) rfl) (sub_1 (List.mem_of_getElem? (i := 4) rfl) (sub_1 (List.mem_of_getElem? (i := 5) rfl) (sub_1 (List.mem_of_getElem? (i := 6) rfl) (sub_1 (List.mem_of_getElem? (i := 7) rfl) (sub_1 (List.mem_of_getElem? (i := 8) rfl) sub_0)))))))))
      have h12 : Iv (-2147483648) 1000000000 r11 := fs10.1
      refine lv_istore_n (lv' := [(3, .int r11), (0, .ref (a 0)), (1, .int p0), (2, .int p1)]) hx hb dX10_choose_26 rfl hl (by decide) rfl (fun ls hl => ?_)
      refine lv_iload_n hx hb dX10_choose_27 rfl (lv_at hl 0 rfl) ?_
      refine lv_ldcw (v := 1000000000) hx hb hown (hT _ t1702) dX10_choose_28 ?_
      refine lv_icmp_ne (tgt := 38) hx hb dX10_choose_31 (by decide) (fun c13 => ?_) (fun c13 => ?_)
      · skip
        have h14 : Iv (-2147483648) 999999999 r11 := ne_hi h12 (show ¬ r11 = 1000000000 from c13) (by decide) (by decide)
        refine lv_iload_n hx hb dX10_choose_38 rfl (lv_at hl 0 rfl) ?_
        rw [hQ]
        exact W.iret (v := r11) hx hb hr (fun t ht hW => ⟨⟨r11, s10, rfl, ⟨hBs10, hFs10, qs10_0, qs10_1, qs10_2, qs10_3, qs10_4, qs10_5, qs10_6, qs10_7, qs10_8, qs10_9, qs10_10, qs10_11, qs10_12, qs10_13, ⟨h14, trivial⟩⟩, by rw [ht]; exact hP, va_K.moved hW.alike (hK.sub (tys' := []) [] rfl), by rw [hAe]; exact hD⟩, by rw [hAe]; exact hS.F ht⟩) hS.2.2 dX10_choose_39
      · skip
        have h15 : Iv 1000000000 1000000000 r11 := eq_l c13 (iv_c (by decide) : Iv 1000000000 1000000000 1000000000)
        refine lv_iconst (v := (-1)) hx hb dX10_choose_34 (by decide) ?_
        refine lv_goto (tgt := 39) hx hb dX10_choose_35 (by decide) ?_
        rw [hQ]
        exact W.iret (v := (-1)) hx hb hr (fun t ht hW => ⟨⟨(-1), s10, rfl, ⟨hBs10, hFs10, qs10_0, qs10_1, qs10_2, qs10_3, qs10_4, qs10_5, qs10_6, qs10_7, qs10_8, qs10_9, qs10_10, qs10_11, qs10_12, qs10_13, ⟨(iv_mono (c := (-2147483648)) (d := 999999999) (iv_c (by decide) : Iv (-1) (-1) (-1)) (by decide) (by decide)), trivial⟩⟩, by rw [ht]; exact hP, va_K.moved hW.alike (hK.sub (tys' := []) [] rfl), by rw [hAe]; exact hD⟩, by rw [hAe]; exact hS.F ht⟩) hS.2.2 dX10_choose_39
    · skip
      have g16 := g9
      refine lv_if_ne (tgt := 20) hx hb dX10_choose_14 (by decide) (fun c17 => ?_) (fun c17 => ?_)
      · first | exact absurd c17 (by decide) | exact absurd (by decide) c17
      refine lv_bipush (v := (-2)) hx hb dX10_choose_17 (by decide) ?_
      rw [hQ]
      exact W.iret (v := (-2)) hx hb hr (fun t ht hW => ⟨⟨(-2), st, rfl, ⟨hB, fr_rf, rfl, rfl, rfl, rfl, rfl, rfl, rfl, rfl, rfl, rfl, rfl, rfl, rfl, rfl, ⟨(iv_mono (c := (-2147483648)) (d := 999999999) (iv_c (by decide) : Iv (-2) (-2) (-2)) (by decide) (by decide)), trivial⟩⟩, by rw [ht]; exact hP, va_K.moved hW.alike (hK.sub (tys' := []) [] rfl), by rw [hAe]; exact hD⟩, by rw [hAe]; exact hS.F ht⟩) hS.2.2 dX10_choose_19
  · skip
    have g18 := g9
    refine lv_if_eq (tgt := 17) hx hb dX10_choose_5 (by decide) (fun c19 => ?_) (fun c19 => ?_)
    rotate_left
    · first | exact absurd c19 (by decide) | exact absurd (by decide) c19
    refine lv_bipush (v := (-2)) hx hb dX10_choose_17 (by decide) ?_
    rw [hQ]
    exact W.iret (v := (-2)) hx hb hr (fun t ht hW => ⟨⟨(-2), st, rfl, ⟨hB, fr_rf, rfl, rfl, rfl, rfl, rfl, rfl, rfl, rfl, rfl, rfl, rfl, rfl, rfl, rfl, ⟨(iv_mono (c := (-2147483648)) (d := 999999999) (iv_c (by decide) : Iv (-2) (-2) (-2)) (by decide) (by decide)), trivial⟩⟩, by rw [ht]; exact hP, va_K.moved hW.alike (hK.sub (tys' := []) [] rfl), by rw [hAe]; exact hD⟩, by rw [hAe]; exact hS.F ht⟩) hS.2.2 dX10_choose_19
set_option maxHeartbeats 4000000 in
set_option maxRecDepth 100000 in
theorem m_X10_chosen (l : Launch) (D : va_G) (k : Nat → ClassId) (a : Nat → Nat) (st : CT) (sl : CL) (p0 : Int32) (p1 : Int32) (sz : Nat) (hB : MB st)  (hw : WOK (st 1)) : Met l yX10_chosen (.code yX10_chosen cX10_chosen 3 (some .int) :: TB) (rmw 9 0 0) (va_Pc [.ref (a 0), .int p0, .int p1] (PW D k sz (MWS k a st sl))) (QI D (S := CT) (fun r u => MB u ∧ FR [7, 9, 8, 10, 11, 0, 12, 13, 14] st u ∧ u 0 0 = st 0 0 ∧ u 0 5 = st 0 5 ∧ u 0 7 = st 0 7 ∧ u 0 8 = st 0 8 ∧ u 0 9 = st 0 9 ∧ u 0 10 = st 0 10 ∧ u 0 11 = st 0 11 ∧ u 0 12 = st 0 12 ∧ u 0 13 = st 0 13 ∧ u 0 20 = st 0 20 ∧ u 0 21 = st 0 21 ∧ u 0 22 = st 0 22 ∧ u 0 31 = st 0 31 ∧ u 0 33 = st 0 33 ∧ ((True))) (fun u => MWS k a u sl) (fun _ => []) (MWS k a st sl) sz) 0 0 (va_A (MWS k a st sl) sz) := by
  refine Met.ofW (cc := cX10_chosen) (maxL := 3) (ret := (some .int)) (by decide) rfl ?_
  intro p e s m args below meth c s₁ B hml hv
  obtain ⟨rfl, hsz, hP, hK, hD0, hN⟩ := hv
  have hx := B.exec
  have hb := B.bytes
  have hr := B.returns
  have hT : ∀ w9 ∈ TB, w9.before ([.ref (a 0), .int p0, .int p1] : List Value).toArray s = true := fun w9 h => atoms_spec (ws := .code yX10_chosen cX10_chosen 3 (some .int) :: TB) B.pre w9 (List.mem_cons_of_mem _ h)
  have hown : s.vm.findClass RX10 = some m.cls := findClass_of_methodNamed B.named
  have S : CallFix p m c cX10_chosen 3 s _ TB RX10 := ⟨hx, hb, hml, hown, hT⟩
  subst hsz
  have hD := hD0.self (sz := s.heap.size)
  generalize hAe : va_A (MWS k a st sl) s.heap.size = A at hD ⊢
  have hA : ∀ q : Nat, s.heap.size ≤ q → A q := fun q h => by rw [← hAe]; exact Or.inr h
  have hS : va_S A s.heap s.heap [] := va_S.rf
  have hl := lv_entry ([.ref (a 0), .int p0, .int p1]) (n := 3) (Nat.le_of_ble_eq_true rfl)
  rw [lg_entry_eq]
  generalize (lg_sl ([.ref (a 0), .int p0, .int p1]) ++ List.replicate (3 - (lg_sl ([.ref (a 0), .int p0, .int p1])).length) Slot.unset).toArray = ls at hl ⊢
  have hl : lv_has ls 3 [(0, .ref (a 0)), (1, .int p0), (2, .int p1)] := hl
  refine nameQ (fun Q hQ => ?_)
  refine lv_aload_n hx hb dX10_chosen_0 rfl (lv_at hl 0 rfl) ?_
  refine lv_iload_n hx hb dX10_chosen_1 rfl (lv_at hl 1 rfl) ?_
  refine ro_V (As := [.int p0]) (rest := []) S (m_X10_isCart l D k a st sl  p0 _  hB  hw) lkX10_279 ok_X10_isCart ⟨rfl, rfl, Nat.le_of_ble_eq_true rfl, Nat.le_of_ble_eq_true rfl⟩ (pw_V (ci := 10) (q0 := 0) hK hN rfl mw_0 hP (hD.weaken (fun _ _ _ _ => trivial))) rfl hl.1 rfl (Nat.le_of_ble_eq_true rfl) ⟨Nat.zero_le _, Nat.zero_le _⟩ dX10_chosen_2 (fun r1 er1 => ?_)
  rcases er1 with ⟨rfl, g9⟩ | ⟨rfl, g9⟩
  · skip
    have g2 := g9
    have h3 : Iv 0 2 p0 := g2.1
    refine lv_if_eq (tgt := 17) hx hb dX10_chosen_5 (by decide) (fun c4 => ?_) (fun c4 => ?_)
    · first | exact absurd c4 (by decide) | exact absurd (by decide) c4
    refine lv_aload_n hx hb dX10_chosen_8 rfl (lv_at hl 0 rfl) ?_
    refine lv_iload_n hx hb dX10_chosen_9 rfl (lv_at hl 2 rfl) ?_
    refine lv_i2l hx hb dX10_chosen_10 rfl ?_
    refine ro_V (As := [.long (p1.toInt64)]) (rest := []) S (m_X10_isPlace l D k a st sl  (p1.toInt64) _  hB  hw) lkX10_282 ok_X10_isPlace ⟨rfl, rfl, Nat.le_of_ble_eq_true rfl, Nat.le_of_ble_eq_true rfl⟩ (pw_V (ci := 10) (q0 := 0) hK hN rfl mw_0 hP (hD.weaken (fun _ _ _ _ => trivial))) rfl hl.1 rfl (Nat.le_of_ble_eq_true rfl) ⟨Nat.zero_le _, Nat.zero_le _⟩ dX10_chosen_11 (fun r5 er5 => ?_)
    rcases er5 with ⟨rfl, g9⟩ | ⟨rfl, g9⟩
    · skip
      have g6 := g9
      have h7 : (0 : Int) ≤ (p1.toInt64).toInt ∧ (p1.toInt64).toInt ≤ (5 : Int) := ⟨(g6).1, (g6).2⟩
      have h8 : Iv 0 5 p1 := iv_lv h7
      refine lv_if_ne (tgt := 20) hx hb dX10_chosen_14 (by decide) (fun c9 => ?_) (fun c9 => ?_)
      rotate_left
      · first | exact absurd c9 (by decide) | exact absurd (by decide) c9
      refine lv_aload_n hx hb dX10_chosen_20 rfl (lv_at hl 0 rfl) ?_
      refine lv_iload_n hx hb dX10_chosen_21 rfl (lv_at hl 1 rfl) ?_
      refine lv_iload_n hx hb dX10_chosen_22 rfl (lv_at hl 2 rfl) ?_
      refine ca_i hP hD hS hA (fun hDc => run_V (mc := 0) (ms := 0) (As := [.int p0, .int p1]) (rest := []) S (m_X10_chooseOf l D k a st sl  p0 p1 _  hB h3 hw) lkX10_344 ok_X10_chooseOf ⟨rfl, rfl, Nat.le_of_ble_eq_true rfl, Nat.le_of_ble_eq_true rfl⟩ (pw_V (ci := 10) (q0 := 0) hK hN rfl mw_0 hP hDc) rfl hl.1 rfl (Nat.le_of_ble_eq_true rfl) ⟨Nat.zero_le _, Nat.zero_le _⟩ dX10_chosen_23) (fun r11 s10 H9 locs9 hs10 hP9 hD9 hS9 => ?_)
      clear hP hD hS
      have hS := hS9
      have hP := hP9
      have hD := hD9
      clear hP9 hD9 hS9
      obtain ⟨hBs10, gs10, qs10_0, qs10_1, qs10_2, qs10_3, qs10_4, qs10_5, qs10_6, qs10_7, qs10_8, qs10_9, qs10_10, qs10_11, qs10_12, qs10_13, fs10⟩ := hs10
      have hFs10 : FR [7, 9, 8, 10, 11, 0, 12, 13, 14] st s10 := fr_ca fr_rf gs10 (sub_1 (List.mem_of_getElem? (i := 0) rfl) (sub_1 (List.mem_of_getElem? (i := 1) rfl) (sub_1 (List.mem_of_getElem? (i := 2) rfl) (sub_1 (List.mem_of_getElem? (i := 3) rfl) (sub_1 (List.mem_of_getElem? (i := 4) rfl) (sub_1 (List.mem_of_getElem? (i := 5) rfl) (sub_1 (List.mem_of_getElem? (i := 6) rfl) (sub_1 (List.mem_of_getElem? (i := 7) rfl) (sub_1 (List.mem_of_getElem? (i := 8) rfl) sub_0)))))))))
      have h12 : Iv (-2147483648) 1000000000 r11 := fs10.1
      refine lv_pop hx hb dX10_chosen_26 rfl ?_
      refine lv_aload_n hx hb dX10_chosen_27 rfl (lv_at hl 0 rfl) ?_
      refine va_get (D := D) (ci := 10) (v := .int (s10 0 29)) (C := RX10) (T := TX10) (N := 38) hx hb hT in_X10 hown hK hP 0 mw_0 rfl 29 (by decide) (hT _ t1291) (fun _ h9 => h9) rfl dX10_chosen_28 ?_
      rw [hQ]
      exact W.iret (v := (s10 0 29)) hx hb hr (fun t ht hW => ⟨⟨(s10 0 29), s10, rfl, ⟨hBs10, hFs10, qs10_0, qs10_1, qs10_2, qs10_3, qs10_4, qs10_5, qs10_6, qs10_7, qs10_8, qs10_9, qs10_10, qs10_11, qs10_12, qs10_13, trivial⟩, by rw [ht]; exact hP, va_K.moved hW.alike (hK.sub (tys' := []) [] rfl), by rw [hAe]; exact hD⟩, by rw [hAe]; exact hS.F ht⟩) hS.2.2 dX10_chosen_31
    · skip
      have g13 := g9
      refine lv_if_ne (tgt := 20) hx hb dX10_chosen_14 (by decide) (fun c14 => ?_) (fun c14 => ?_)
      · first | exact absurd c14 (by decide) | exact absurd (by decide) c14
      refine lv_bipush (v := (-2)) hx hb dX10_chosen_17 (by decide) ?_
      rw [hQ]
      exact W.iret (v := (-2)) hx hb hr (fun t ht hW => ⟨⟨(-2), st, rfl, ⟨hB, fr_rf, rfl, rfl, rfl, rfl, rfl, rfl, rfl, rfl, rfl, rfl, rfl, rfl, rfl, rfl, trivial⟩, by rw [ht]; exact hP, va_K.moved hW.alike (hK.sub (tys' := []) [] rfl), by rw [hAe]; exact hD⟩, by rw [hAe]; exact hS.F ht⟩) hS.2.2 dX10_chosen_19
  · skip
    have g15 := g9
    refine lv_if_eq (tgt := 17) hx hb dX10_chosen_5 (by decide) (fun c16 => ?_) (fun c16 => ?_)
    rotate_left
    · first | exact absurd c16 (by decide) | exact absurd (by decide) c16
    refine lv_bipush (v := (-2)) hx hb dX10_chosen_17 (by decide) ?_
    rw [hQ]
    exact W.iret (v := (-2)) hx hb hr (fun t ht hW => ⟨⟨(-2), st, rfl, ⟨hB, fr_rf, rfl, rfl, rfl, rfl, rfl, rfl, rfl, rfl, rfl, rfl, rfl, rfl, rfl, rfl, trivial⟩, by rw [ht]; exact hP, va_K.moved hW.alike (hK.sub (tys' := []) [] rfl), by rw [hAe]; exact hD⟩, by rw [hAe]; exact hS.F ht⟩) hS.2.2 dX10_chosen_19
