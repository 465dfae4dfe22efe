theorem tok_lt {f g : Nat → Int32} {i i2 v : Int32} (h : ∀ j : Nat, (j : Int) < i.toInt → f j = g j) (hi : Iv 0 167 i) (e : i2.toInt = i.toInt + 1) (ev : v = g i.toNatClampNeg) : ∀ j : Nat, (j : Int) < i2.toInt → upd f i.toNatClampNeg v j = g j := fun j hj => by
  have c := cl_int hi (by decide)
  by_cases q : j = i.toNatClampNeg
  · rw [q, upd_at]; exact ev
  · rw [upd_no q]; exact h j (by omega)
theorem wok_fok {f g : Nat → Int32} (h : FOK g) (e : ∀ j : Nat, j < 168 → f j = g j) : WOK f := by
  refine ⟨fun j hj => by rw [e j hj]; exact h.1 j hj, fun j hj => ?_⟩
  rw [e 7 (by decide), h.2] at hj
  have z : (0 : Int32).toInt = 0 := rfl
  rw [z] at hj
  omega
set_option maxHeartbeats 4000000 in
set_option maxRecDepth 100000 in
theorem m_X10_readLine (l : Launch) (D : va_G) (k : Nat → ClassId) (a : Nat → Nat) (st : CT) (sl : CL) (sz : Nat) (hB : MB st)  : Met l yX10_readLine (.code yX10_readLine cX10_readLine 1 none :: TB) (rmw 11 0 0) (va_Pc [.ref (a 0)] (PX D k sz (MWS k a st sl) NS)) (QV D (S := CT) (fun u => MB u ∧ FR [0, 6] st u ∧ u 0 0 = st 0 0 ∧ u 0 5 = st 0 5 ∧ u 0 7 = st 0 7 ∧ u 0 20 = st 0 20 ∧ u 0 21 = st 0 21 ∧ u 0 22 = st 0 22 ∧ u 0 26 = st 0 26 ∧ u 0 27 = st 0 27 ∧ u 0 29 = st 0 29 ∧ u 0 31 = st 0 31 ∧ u 0 33 = st 0 33 ∧ ((u 0 12 = 0 → st 0 12 = 0) ∧ (st 0 8).toInt ≤ (u 0 8).toInt ∧ (u 0 12 = 0 → ¬ u 0 10 = 0 → (st 0 8).toInt < (u 0 8).toInt))) (fun u => MWS k a u sl) (fun _ => []) (MWS k a st sl) sz) 0 0 (va_A (MWS k a st sl) sz) := by
  refine Met.ofW (cc := cX10_readLine) (maxL := 1) (ret := none) (by decide) rfl ?_
  intro p e s m args below meth c s₁ B hml hv
  obtain ⟨rfl, hsz, hP, hK, hD0, hN, hX⟩ := hv
  have hx := B.exec
  have hb := B.bytes
  have hr := B.returns
  have hT : ∀ w9 ∈ TB, w9.before ([.ref (a 0)] : List Value).toArray s = true := fun w9 h => atoms_spec (ws := .code yX10_readLine cX10_readLine 1 none :: TB) B.pre w9 (List.mem_cons_of_mem _ h)
  have hown : s.vm.findClass RX10 = some m.cls := findClass_of_methodNamed B.named
  have S : CallFix p m c cX10_readLine 1 s _ TB RX10 := ⟨hx, hb, hml, hown, hT⟩
  subst hsz
  have hD := hD0.self (sz := s.heap.size)
  generalize hAe : va_A (MWS k a st sl) s.heap.size = A at hD hX ⊢
  have hA : ∀ q : Nat, s.heap.size ≤ q → A q := fun q h => by rw [← hAe]; exact Or.inr h
  have hS : va_S A s.heap s.heap [] := va_S.rf
  have hl := lv_entry ([.ref (a 0)]) (n := 1) (Nat.le_of_ble_eq_true rfl)
  rw [lg_entry_eq]
  generalize (lg_sl ([.ref (a 0)]) ++ List.replicate (1 - (lg_sl ([.ref (a 0)])).length) Slot.unset).toArray = ls at hl ⊢
  have hl : lv_has ls 1 [(0, .ref (a 0))] := hl
  refine nameQ (fun Q hQ => ?_)
  refine lv_aload_n hx hb dX10_readLine_0 rfl (lv_at hl 0 rfl) ?_
  refine va_get (D := D) (ci := 10) (v := .ref (a 6)) (C := RX10) (T := TX10) (N := 38) hx hb hT in_X10 hown hK hP 0 mw_0 rfl 14 (by decide) (hT _ t1276) (fun _ h9 => h9) rfl dX10_readLine_1 ?_
  refine lv_bipush (v := 6) hx hb dX10_readLine_4 (by decide) ?_
  refine va_iald hx hb hK hP 6 0 mw_6 rfl (by unfold vp_in; decide) dX10_readLine_6 ?_
  refine k_top (y := (st 6 6)) rfl ?_
  refine lv_if_ne (tgt := 49) hx hb dX10_readLine_7 (by decide) (fun c1 => ?_) (fun c1 => ?_)
  · skip
    refine lv_aload_n hx hb dX10_readLine_49 rfl (lv_at hl 0 rfl) ?_
    refine ca_v hP hD hS hA (fun hDc => run_V (mc := 0) (ms := 0) (As := []) (rest := []) S (m_X10_readNext l D k a st sl   _  hB  ) lkX10_224 ok_X10_readNext ⟨rfl, rfl, Nat.le_of_ble_eq_true rfl, Nat.le_of_ble_eq_true rfl⟩ (px_V (ci := 10) (q0 := 0) nice_NS hK hN rfl mw_0 hP hDc hX hS (px_free hD hS hA)) rfl hl.1 rfl (Nat.le_of_ble_eq_true rfl) ⟨Nat.zero_le _, Nat.zero_le _⟩ dX10_readLine_50) (fun s2 H9 locs9 hs2 hP9 hD9 hS9 => ?_)
    clear hP hD hS
    have hS := hS9
    have hP := hP9
    have hD := hD9
    clear hP9 hD9 hS9
    obtain ⟨hBs2, gs2, qs2_0, qs2_1, qs2_2, qs2_3, qs2_4, qs2_5, qs2_6, qs2_7, qs2_8, qs2_9, qs2_10, fs2⟩ := hs2
    have hFs2 : FR [0, 6] st s2 := fr_ca fr_rf gs2 (sub_1 (List.mem_of_getElem? (i := 0) rfl) (sub_1 (List.mem_of_getElem? (i := 1) rfl) sub_0))
    have k4 := fs2
    refine lv_aload_n hx hb dX10_readLine_53 rfl (lv_at hl 0 rfl) ?_
    refine ro_V (As := []) (rest := []) S (m_X10_good l D k a s2 sl   _  hBs2  ) lkX10_136 ok_X10_good ⟨rfl, rfl, Nat.le_of_ble_eq_true rfl, Nat.le_of_ble_eq_true rfl⟩ (pw_V (ci := 10) (q0 := 0) hK hN rfl mw_0 hP (hD.weaken (fun _ _ _ _ => trivial))) rfl hl.1 rfl (Nat.le_of_ble_eq_true rfl) ⟨Nat.zero_le _, Nat.zero_le _⟩ dX10_readLine_54 (fun r5 er5 => ?_)
    rcases er5 with ⟨rfl, g9⟩ | ⟨rfl, g9⟩
    · skip
      have g6 := g9
      have k7 := g6
      have k8 := k4.1 k7
      have k9 : st 0 12 = 0 := k8
      refine lv_if_eq (tgt := 73) hx hb dX10_readLine_57 (by decide) (fun c10 => ?_) (fun c10 => ?_)
      · first | exact absurd c10 (by decide) | exact absurd (by decide) c10
      refine lv_aload_n hx hb dX10_readLine_60 rfl (lv_at hl 0 rfl) ?_
      refine va_get (D := D) (ci := 10) (v := .int (s2 0 10)) (C := RX10) (T := TX10) (N := 38) hx hb hT in_X10 hown hK hP 0 mw_0 rfl 10 (by decide) (hT _ t1272) (fun _ h9 => h9) rfl dX10_readLine_61 ?_
      refine lv_iconst (v := 3) hx hb dX10_readLine_64 (by decide) ?_
      refine lv_icmp_eq (tgt := 73) hx hb dX10_readLine_65 (by decide) (fun c11 => ?_) (fun c11 => ?_)
      · skip
        have h12 : Iv 3 3 (s2 0 10) := eq_l c11 (iv_c (by decide) : Iv 3 3 3)
        refine lv_aload_n hx hb dX10_readLine_73 rfl (lv_at hl 0 rfl) ?_
        refine ro_V (As := []) (rest := []) S (m_X10_good l D k a s2 sl   _  hBs2  ) lkX10_136 ok_X10_good ⟨rfl, rfl, Nat.le_of_ble_eq_true rfl, Nat.le_of_ble_eq_true rfl⟩ (pw_V (ci := 10) (q0 := 0) hK hN rfl mw_0 hP (hD.weaken (fun _ _ _ _ => trivial))) rfl hl.1 rfl (Nat.le_of_ble_eq_true rfl) ⟨Nat.zero_le _, Nat.zero_le _⟩ dX10_readLine_74 (fun r13 er13 => ?_)
        rcases er13 with ⟨rfl, g9⟩ | ⟨rfl, g9⟩
        · skip
          have g14 := g9
          have k15 := g14
          refine lv_if_eq (tgt := 84) hx hb dX10_readLine_77 (by decide) (fun c16 => ?_) (fun c16 => ?_)
          · first | exact absurd c16 (by decide) | exact absurd (by decide) c16
          refine lv_aload_n hx hb dX10_readLine_80 rfl (lv_at hl 0 rfl) ?_
          refine ca_v hP hD hS hA (fun hDc => run_V (mc := 0) (ms := 0) (As := []) (rest := []) S (m_X10_advance l D k a s2 sl   _  hBs2  ) lkX10_154 ok_X10_advance ⟨rfl, rfl, Nat.le_of_ble_eq_true rfl, Nat.le_of_ble_eq_true rfl⟩ (pw_V (ci := 10) (q0 := 0) hK hN rfl mw_0 hP hDc) rfl hl.1 rfl (Nat.le_of_ble_eq_true rfl) ⟨Nat.zero_le _, Nat.zero_le _⟩ dX10_readLine_81) (fun s17 H9 locs9 hs17 hP9 hD9 hS9 => ?_)
          clear hP hD hS
          have hS := hS9
          have hP := hP9
          have hD := hD9
          clear hP9 hD9 hS9
          obtain ⟨hBs17, gs17, qs17_0, qs17_1, qs17_2, qs17_3, qs17_4, qs17_5, qs17_6, qs17_7, qs17_8, qs17_9, qs17_10, qs17_11, qs17_12, fs17⟩ := hs17
          have hFs17 : FR [0, 6] st s17 := fr_ca hFs2 gs17 (sub_1 (List.mem_of_getElem? (i := 0) rfl) sub_0)
          have k19 := fs17
          refine lv_aload_n hx hb dX10_readLine_84 rfl (lv_at hl 0 rfl) ?_
          refine va_get (D := D) (ci := 10) (v := .ref (a 6)) (C := RX10) (T := TX10) (N := 38) hx hb hT in_X10 hown hK hP 0 mw_0 rfl 14 (by decide) (hT _ t1276) (fun _ h9 => h9) rfl dX10_readLine_85 ?_
          refine lv_bipush (v := 6) hx hb dX10_readLine_88 (by decide) ?_
          refine lv_dup2_11 hx hb dX10_readLine_90 rfl rfl ?_
          refine va_iald hx hb hK hP 6 0 mw_6 rfl (by unfold vp_in; decide) dX10_readLine_91 ?_
          refine k_top (y := (s17 6 6)) rfl ?_
          refine k_top (y := (s2 6 6)) (congrFun (gs17 6 (nm_1 (by decide) nm_0)) 6) ?_
          refine lv_iconst (v := 1) hx hb dX10_readLine_92 (by decide) ?_
          refine lv_iadd hx hb dX10_readLine_93 ?_
          refine lv_topi (fun z20 ez20 => ?_)
          refine c_ist hx hb hK hP hD hS mw_6 ms_6 (by unfold vp_in; decide) dX10_readLine_94 (fun s21 H9 locs9 es21 hP9 hD9 hS9 => ?_)
          clear hP hD hS
          have hS := hS9
          have hP := hP9
          have hD := hD9
          clear hP9 hD9 hS9
          have hBs21 : MB s21 := by rw [es21]; exact mb_sw hBs17 (fok_bd (i := 6) (hBs17 6) ⟨by decide, by decide, by decide, by decide⟩ (iv_full z20))
          have hFs21 : FR [0, 6] st s21 := fr_sw hFs17 (List.mem_of_getElem? (i := 1) rfl) es21
          rw [hQ]
          exact W.vret hx hb hr (fun t ht hW => ⟨⟨s21, rfl, ⟨hBs21, hFs21, (Eq.trans (congrFun (sw_at es21 (by decide)) 0) (Eq.trans qs17_0 qs2_0)), (Eq.trans (congrFun (sw_at es21 (by decide)) 5) (Eq.trans qs17_1 qs2_1)), (Eq.trans (congrFun (sw_at es21 (by decide)) 7) (Eq.trans qs17_2 qs2_2)), (Eq.trans (congrFun (sw_at es21 (by decide)) 20) (Eq.trans qs17_5 qs2_3)), (Eq.trans (congrFun (sw_at es21 (by decide)) 21) (Eq.trans qs17_6 qs2_4)), (Eq.trans (congrFun (sw_at es21 (by decide)) 22) (Eq.trans qs17_7 qs2_5)), (Eq.trans (congrFun (sw_at es21 (by decide)) 26) (Eq.trans qs17_8 qs2_6)), (Eq.trans (congrFun (sw_at es21 (by decide)) 27) (Eq.trans qs17_9 qs2_7)), (Eq.trans (congrFun (sw_at es21 (by decide)) 29) (Eq.trans qs17_10 qs2_8)), (Eq.trans (congrFun (sw_at es21 (by decide)) 31) (Eq.trans qs17_11 qs2_9)), (Eq.trans (congrFun (sw_at es21 (by decide)) 33) (Eq.trans qs17_12 qs2_10)), ⟨(fun _ => k9), (Int.le_trans k4.2 (Int.le_trans k19.1 (show (s17 0 8).toInt ≤ (s21 0 8).toInt from by rw [(congrFun (sw_at es21 (by decide)) 8)]; exact Int.le_refl _))), (fun _ q9 => by rw [(congrFun (sw_at es21 (by decide)) 10)] at q9; rw [(congrFun (sw_at es21 (by decide)) 8)]; have y1 := k19.2 q9; have y2 := k4.2; omega)⟩⟩, by rw [ht]; exact hP, va_K.moved hW.alike (hK.sub (tys' := []) [] rfl), by rw [hAe]; exact hD⟩, by rw [hAe]; exact hS.F ht⟩) hS.2.2 dX10_readLine_95
        · skip
          have g22 := g9
          have k23 := g22
          exact absurd k7 k23
      · skip
        refine lv_aload_n hx hb dX10_readLine_68 rfl (lv_at hl 0 rfl) ?_
        refine lv_iconst (v := 1) hx hb dX10_readLine_69 (by decide) ?_
        refine ca_v hP hD hS hA (fun hDc => run_V (mc := 0) (ms := 0) (As := [.int 1]) (rest := []) S (m_X10_errs l D k a s2 sl  1 _  hBs2 (iv_mono (c := 1) (d := 3) (iv_c (by decide) : Iv 1 1 1) (by decide) (by decide)) ) lkX10_160 ok_X10_errs ⟨rfl, rfl, Nat.le_of_ble_eq_true rfl, Nat.le_of_ble_eq_true rfl⟩ (pw_V (ci := 10) (q0 := 0) hK hN rfl mw_0 hP hDc) rfl hl.1 rfl (Nat.le_of_ble_eq_true rfl) ⟨Nat.zero_le _, Nat.zero_le _⟩ dX10_readLine_70) (fun s24 H9 locs9 hs24 hP9 hD9 hS9 => ?_)
        clear hP hD hS
        have hS := hS9
        have hP := hP9
        have hD := hD9
        clear hP9 hD9 hS9
        obtain ⟨hBs24, gs24, qs24_0, qs24_1, qs24_2, qs24_3, qs24_4, qs24_5, qs24_6, qs24_7, qs24_8, qs24_9, qs24_10, qs24_11, qs24_12, qs24_13, qs24_14, fs24⟩ := hs24
        have hFs24 : FR [0, 6] st s24 := fr_ca hFs2 gs24 (sub_1 (List.mem_of_getElem? (i := 0) rfl) sub_0)
        have k26 := fs24
        refine lv_aload_n hx hb dX10_readLine_73 rfl (lv_at hl 0 rfl) ?_
        refine ro_V (As := []) (rest := []) S (m_X10_good l D k a s24 sl   _  hBs24  ) lkX10_136 ok_X10_good ⟨rfl, rfl, Nat.le_of_ble_eq_true rfl, Nat.le_of_ble_eq_true rfl⟩ (pw_V (ci := 10) (q0 := 0) hK hN rfl mw_0 hP (hD.weaken (fun _ _ _ _ => trivial))) rfl hl.1 rfl (Nat.le_of_ble_eq_true rfl) ⟨Nat.zero_le _, Nat.zero_le _⟩ dX10_readLine_74 (fun r27 er27 => ?_)
        rcases er27 with ⟨rfl, g9⟩ | ⟨rfl, g9⟩
        · skip
          have g28 := g9
          have k29 := g28
          exact absurd k29 k26
        · skip
          have g30 := g9
          have k31 := g30
          refine lv_if_eq (tgt := 84) hx hb dX10_readLine_77 (by decide) (fun c32 => ?_) (fun c32 => ?_)
          rotate_left
          · first | exact absurd c32 (by decide) | exact absurd (by decide) c32
          refine lv_aload_n hx hb dX10_readLine_84 rfl (lv_at hl 0 rfl) ?_
          refine va_get (D := D) (ci := 10) (v := .ref (a 6)) (C := RX10) (T := TX10) (N := 38) hx hb hT in_X10 hown hK hP 0 mw_0 rfl 14 (by decide) (hT _ t1276) (fun _ h9 => h9) rfl dX10_readLine_85 ?_
          refine lv_bipush (v := 6) hx hb dX10_readLine_88 (by decide) ?_
          refine lv_dup2_11 hx hb dX10_readLine_90 rfl rfl ?_
          refine va_iald hx hb hK hP 6 0 mw_6 rfl (by unfold vp_in; decide) dX10_readLine_91 ?_
          refine k_top (y := (s24 6 6)) rfl ?_
          refine k_top (y := (s2 6 6)) (congrFun (gs24 6 (nm_1 (by decide) nm_0)) 6) ?_
          refine lv_iconst (v := 1) hx hb dX10_readLine_92 (by decide) ?_
          refine lv_iadd hx hb dX10_readLine_93 ?_
          refine lv_topi (fun z33 ez33 => ?_)
          refine c_ist hx hb hK hP hD hS mw_6 ms_6 (by unfold vp_in; decide) dX10_readLine_94 (fun s34 H9 locs9 es34 hP9 hD9 hS9 => ?_)
          clear hP hD hS
          have hS := hS9
          have hP := hP9
          have hD := hD9
          clear hP9 hD9 hS9
          have hBs34 : MB s34 := by rw [es34]; exact mb_sw hBs24 (fok_bd (i := 6) (hBs24 6) ⟨by decide, by decide, by decide, by decide⟩ (iv_full z33))
          have hFs34 : FR [0, 6] st s34 := fr_sw hFs24 (List.mem_of_getElem? (i := 1) rfl) es34
          rw [hQ]
          exact W.vret hx hb hr (fun t ht hW => ⟨⟨s34, rfl, ⟨hBs34, hFs34, (Eq.trans (congrFun (sw_at es34 (by decide)) 0) (Eq.trans qs24_0 qs2_0)), (Eq.trans (congrFun (sw_at es34 (by decide)) 5) (Eq.trans qs24_1 qs2_1)), (Eq.trans (congrFun (sw_at es34 (by decide)) 7) (Eq.trans qs24_2 qs2_2)), (Eq.trans (congrFun (sw_at es34 (by decide)) 20) (Eq.trans qs24_7 qs2_3)), (Eq.trans (congrFun (sw_at es34 (by decide)) 21) (Eq.trans qs24_8 qs2_4)), (Eq.trans (congrFun (sw_at es34 (by decide)) 22) (Eq.trans qs24_9 qs2_5)), (Eq.trans (congrFun (sw_at es34 (by decide)) 26) (Eq.trans qs24_10 qs2_6)), (Eq.trans (congrFun (sw_at es34 (by decide)) 27) (Eq.trans qs24_11 qs2_7)), (Eq.trans (congrFun (sw_at es34 (by decide)) 29) (Eq.trans qs24_12 qs2_8)), (Eq.trans (congrFun (sw_at es34 (by decide)) 31) (Eq.trans qs24_13 qs2_9)), (Eq.trans (congrFun (sw_at es34 (by decide)) 33) (Eq.trans qs24_14 qs2_10)), ⟨(fun z9 => absurd (Eq.trans (Eq.symm (congrFun (sw_at es34 (by decide)) 12)) z9) k31), (Int.le_trans k4.2 (Int.le_trans (show (s2 0 8).toInt ≤ (s24 0 8).toInt from by rw [qs24_3]; exact Int.le_refl _) (show (s24 0 8).toInt ≤ (s34 0 8).toInt from by rw [(congrFun (sw_at es34 (by decide)) 8)]; exact Int.le_refl _))), (fun z9 => absurd (Eq.trans (Eq.symm (congrFun (sw_at es34 (by decide)) 12)) z9) k31)⟩⟩, by rw [ht]; exact hP, va_K.moved hW.alike (hK.sub (tys' := []) [] rfl), by rw [hAe]; exact hD⟩, by rw [hAe]; exact hS.F ht⟩) hS.2.2 dX10_readLine_95
    · skip
      have g35 := g9
      have k36 := g35
      refine lv_if_eq (tgt := 73) hx hb dX10_readLine_57 (by decide) (fun c37 => ?_) (fun c37 => ?_)
      rotate_left
      · first | exact absurd c37 (by decide) | exact absurd (by decide) c37
      refine lv_aload_n hx hb dX10_readLine_73 rfl (lv_at hl 0 rfl) ?_
      refine ro_V (As := []) (rest := []) S (m_X10_good l D k a s2 sl   _  hBs2  ) lkX10_136 ok_X10_good ⟨rfl, rfl, Nat.le_of_ble_eq_true rfl, Nat.le_of_ble_eq_true rfl⟩ (pw_V (ci := 10) (q0 := 0) hK hN rfl mw_0 hP (hD.weaken (fun _ _ _ _ => trivial))) rfl hl.1 rfl (Nat.le_of_ble_eq_true rfl) ⟨Nat.zero_le _, Nat.zero_le _⟩ dX10_readLine_74 (fun r38 er38 => ?_)
      rcases er38 with ⟨rfl, g9⟩ | ⟨rfl, g9⟩
      · skip
        have g39 := g9
        have k40 := g39
        exact absurd k40 k36
      · skip
        have g41 := g9
        have k42 := g41
        refine lv_if_eq (tgt := 84) hx hb dX10_readLine_77 (by decide) (fun c43 => ?_) (fun c43 => ?_)
        rotate_left
        · first | exact absurd c43 (by decide) | exact absurd (by decide) c43
        refine lv_aload_n hx hb dX10_readLine_84 rfl (lv_at hl 0 rfl) ?_
        refine va_get (D := D) (ci := 10) (v := .ref (a 6)) (C := RX10) (T := TX10) (N := 38) hx hb hT in_X10 hown hK hP 0 mw_0 rfl 14 (by decide) (hT _ t1276) (fun _ h9 => h9) rfl dX10_readLine_85 ?_
        refine lv_bipush (v := 6) hx hb dX10_readLine_88 (by decide) ?_
        refine lv_dup2_11 hx hb dX10_readLine_90 rfl rfl ?_
        refine va_iald hx hb hK hP 6 0 mw_6 rfl (by unfold vp_in; decide) dX10_readLine_91 ?_
        refine k_top (y := (s2 6 6)) rfl ?_
        refine lv_iconst (v := 1) hx hb dX10_readLine_92 (by decide) ?_
        refine lv_iadd hx hb dX10_readLine_93 ?_
        refine lv_topi (fun z44 ez44 => ?_)
        refine c_ist hx hb hK hP hD hS mw_6 ms_6 (by unfold vp_in; decide) dX10_readLine_94 (fun s45 H9 locs9 es45 hP9 hD9 hS9 => ?_)
        clear hP hD hS
        have hS := hS9
        have hP := hP9
        have hD := hD9
        clear hP9 hD9 hS9
        have hBs45 : MB s45 := by rw [es45]; exact mb_sw hBs2 (fok_bd (i := 6) (hBs2 6) ⟨by decide, by decide, by decide, by decide⟩ (iv_full z44))
        have hFs45 : FR [0, 6] st s45 := fr_sw hFs2 (List.mem_of_getElem? (i := 1) rfl) es45
        rw [hQ]
        exact W.vret hx hb hr (fun t ht hW => ⟨⟨s45, rfl, ⟨hBs45, hFs45, (Eq.trans (congrFun (sw_at es45 (by decide)) 0) qs2_0), (Eq.trans (congrFun (sw_at es45 (by decide)) 5) qs2_1), (Eq.trans (congrFun (sw_at es45 (by decide)) 7) qs2_2), (Eq.trans (congrFun (sw_at es45 (by decide)) 20) qs2_3), (Eq.trans (congrFun (sw_at es45 (by decide)) 21) qs2_4), (Eq.trans (congrFun (sw_at es45 (by decide)) 22) qs2_5), (Eq.trans (congrFun (sw_at es45 (by decide)) 26) qs2_6), (Eq.trans (congrFun (sw_at es45 (by decide)) 27) qs2_7), (Eq.trans (congrFun (sw_at es45 (by decide)) 29) qs2_8), (Eq.trans (congrFun (sw_at es45 (by decide)) 31) qs2_9), (Eq.trans (congrFun (sw_at es45 (by decide)) 33) qs2_10), ⟨(fun z9 => absurd (Eq.trans (Eq.symm (congrFun (sw_at es45 (by decide)) 12)) z9) k42), (Int.le_trans k4.2 (show (s2 0 8).toInt ≤ (s45 0 8).toInt from by rw [(congrFun (sw_at es45 (by decide)) 8)]; exact Int.le_refl _)), (fun z9 => absurd (Eq.trans (Eq.symm (congrFun (sw_at es45 (by decide)) 12)) z9) k42)⟩⟩, by rw [ht]; exact hP, va_K.moved hW.alike (hK.sub (tys' := []) [] rfl), by rw [hAe]; exact hD⟩, by rw [hAe]; exact hS.F ht⟩) hS.2.2 dX10_readLine_95
  · skip
    have h46 : Iv 0 0 (st 6 6) := eq_l c1 (iv_c (by decide) : Iv 0 0 0)
    refine lv_aload_n hx hb dX10_readLine_10 rfl (lv_at hl 0 rfl) ?_
    obtain ⟨w47, vw47, tw47⟩ := hX.2 _ (List.mem_of_getElem? (l := LIT) (i := 14) rfl)
    have vw47 : vk_R RX10 218 "land" w47 s := vw47
    have tw47 : STA A w47 4 (fun j9 => ([108, 97, 110, 100] : List Int32).getD j9 0) s s.heap := tw47
    refine va_ldcS hx hb hown vw47 dX10_readLine_11 ?_
    refine ca_v hP hD hS hA (fun hDc => run_V (mc := 0) (ms := 0) (As := [.ref w47]) (rest := []) S (m_X10_needs l D k a st sl   w47 4 (fun j9 => ([108, 97, 110, 100] : List Int32).getD j9 0) _  hB (by decide) ) lkX10_164 ok_X10_needs ⟨rfl, rfl, Nat.le_of_ble_eq_true rfl, Nat.le_of_ble_eq_true rfl⟩ (px_V (ci := 10) (q0 := 0) nice_NSW hK hN rfl mw_0 hP hDc (show NSW w47 4 (fun j9 => ([108, 97, 110, 100] : List Int32).getD j9 0) A s s.heap from ⟨hX, tw47⟩) hS (px_free hD hS hA)) rfl hl.1 rfl (Nat.le_of_ble_eq_true rfl) ⟨Nat.zero_le _, Nat.zero_le _⟩ dX10_readLine_13) (fun s48 H9 locs9 hs48 hP9 hD9 hS9 => ?_)
    clear hP hD hS
    have hS := hS9
    have hP := hP9
    have hD := hD9
    clear hP9 hD9 hS9
    obtain ⟨hBs48, gs48, qs48_0, qs48_1, qs48_2, qs48_3, qs48_4, qs48_5, qs48_6, qs48_7, qs48_8, qs48_9, qs48_10, fs48⟩ := hs48
    have hFs48 : FR [0, 6] st s48 := fr_ca fr_rf gs48 (sub_1 (List.mem_of_getElem? (i := 0) rfl) sub_0)
    have k50 := fs48
    refine lv_aload_n hx hb dX10_readLine_16 rfl (lv_at hl 0 rfl) ?_
    refine va_get (D := D) (ci := 10) (v := .ref (a 6)) (C := RX10) (T := TX10) (N := 38) hx hb hT in_X10 hown hK hP 0 mw_0 rfl 14 (by decide) (hT _ t1276) (fun _ h9 => h9) rfl dX10_readLine_17 ?_
    refine lv_iconst (v := 0) hx hb dX10_readLine_20 (by decide) ?_
    refine lv_aload_n hx hb dX10_readLine_21 rfl (lv_at hl 0 rfl) ?_
    obtain ⟨w51, vw51, tw51⟩ := hX.2 _ (List.mem_of_getElem? (l := LIT) (i := 15) rfl)
    have vw51 : vk_R RX10 220 "places" w51 s := vw51
    have tw51 : STA A w51 6 (fun j9 => ([112, 108, 97, 99, 101, 115] : List Int32).getD j9 0) s s.heap := tw51
    refine va_ldcS hx hb hown vw51 dX10_readLine_22 ?_
    refine lv_iconst (v := 2) hx hb dX10_readLine_24 (by decide) ?_
    refine lv_bipush (v := 6) hx hb dX10_readLine_25 (by decide) ?_
    refine ca_i hP hD hS hA (fun hDc => run_V (mc := 0) (ms := 0) (As := [.ref w51, .int 2, .int 6]) (rest := [.int 0, .ref (a 6)]) S (m_X10_told l D k a s48 sl  2 6 w51 6 (fun j9 => ([112, 108, 97, 99, 101, 115] : List Int32).getD j9 0) _  hBs48 (by decide) ) lkX10_177 ok_X10_told ⟨rfl, rfl, Nat.le_of_ble_eq_true rfl, Nat.le_of_ble_eq_true rfl⟩ (px_V (ci := 10) (q0 := 0) nice_NSW hK hN rfl mw_0 hP hDc (show NSW w51 6 (fun j9 => ([112, 108, 97, 99, 101, 115] : List Int32).getD j9 0) A s s.heap from ⟨hX, tw51⟩) hS (px_free hD hS hA)) rfl hl.1 rfl (Nat.le_of_ble_eq_true rfl) ⟨Nat.zero_le _, Nat.zero_le _⟩ dX10_readLine_27) (fun r53 s52 H9 locs9 hs52 hP9 hD9 hS9 => ?_)
    clear hP hD hS
    have hS := hS9
    have hP := hP9
    have hD := hD9
    clear hP9 hD9 hS9
    obtain ⟨hBs52, gs52, qs52_0, qs52_1, qs52_2, qs52_3, qs52_4, qs52_5, qs52_6, qs52_7, qs52_8, qs52_9, qs52_10, fs52⟩ := hs52
    have hFs52 : FR [0, 6] st s52 := fr_ca hFs48 gs52 (sub_1 (List.mem_of_getElem? (i := 0) rfl) sub_0)
    have k54 := fs52
    have k55 : Iv 0 6 r53 := (by rcases k54.2.2 with q9 | q9; (rw [q9]; exact ⟨by decide, by decide⟩); (obtain ⟨y1, y2⟩ := id ((iv_c (by decide) : Iv 2 2 2)); obtain ⟨y3, y4⟩ := id ((iv_c (by decide) : Iv 6 6 6)); exact ⟨by omega, by omega⟩))
    refine c_ist hx hb hK hP hD hS mw_6 ms_6 (by unfold vp_in; decide) dX10_readLine_30 (fun s56 H9 locs9 es56 hP9 hD9 hS9 => ?_)
    clear hP hD hS
    have hS := hS9
    have hP := hP9
    have hD := hD9
    clear hP9 hD9 hS9
    have hBs56 : MB s56 := by rw [es56]; exact mb_sw hBs52 (fok_bd (i := 0) (hBs52 6) ⟨by decide, by decide, by decide, by decide⟩ k55)
    have hFs56 : FR [0, 6] st s56 := fr_sw hFs52 (List.mem_of_getElem? (i := 1) rfl) es56
    refine lv_aload_n hx hb dX10_readLine_31 rfl (lv_at hl 0 rfl) ?_
    refine va_get (D := D) (ci := 10) (v := .ref (a 6)) (C := RX10) (T := TX10) (N := 38) hx hb hT in_X10 hown hK hP 0 mw_0 rfl 14 (by decide) (hT _ t1276) (fun _ h9 => h9) rfl dX10_readLine_32 ?_
    refine lv_iconst (v := 1) hx hb dX10_readLine_35 (by decide) ?_
    refine lv_aload_n hx hb dX10_readLine_36 rfl (lv_at hl 0 rfl) ?_
    obtain ⟨w57, vw57, tw57⟩ := hX.2 _ (List.mem_of_getElem? (l := LIT) (i := 16) rfl)
    have vw57 : vk_R RX10 222 "hand" w57 s := vw57
    have tw57 : STA A w57 4 (fun j9 => ([104, 97, 110, 100] : List Int32).getD j9 0) s s.heap := tw57
    refine va_ldcS hx hb hown vw57 dX10_readLine_37 ?_
    refine lv_iconst (v := 0) hx hb dX10_readLine_39 (by decide) ?_
    refine lv_bipush (v := 40) hx hb dX10_readLine_40 (by decide) ?_
    refine ca_i hP hD hS hA (fun hDc => run_V (mc := 0) (ms := 0) (As := [.ref w57, .int 0, .int 40]) (rest := [.int 1, .ref (a 6)]) S (m_X10_told l D k a s56 sl  0 40 w57 4 (fun j9 => ([104, 97, 110, 100] : List Int32).getD j9 0) _  hBs56 (by decide) ) lkX10_177 ok_X10_told ⟨rfl, rfl, Nat.le_of_ble_eq_true rfl, Nat.le_of_ble_eq_true rfl⟩ (px_V (ci := 10) (q0 := 0) nice_NSW hK hN rfl mw_0 hP hDc (show NSW w57 4 (fun j9 => ([104, 97, 110, 100] : List Int32).getD j9 0) A s s.heap from ⟨hX, tw57⟩) hS (px_free hD hS hA)) rfl hl.1 rfl (Nat.le_of_ble_eq_true rfl) ⟨Nat.zero_le _, Nat.zero_le _⟩ dX10_readLine_42) (fun r59 s58 H9 locs9 hs58 hP9 hD9 hS9 => ?_)
    clear hP hD hS
    have hS := hS9
    have hP := hP9
    have hD := hD9
    clear hP9 hD9 hS9
    obtain ⟨hBs58, gs58, qs58_0, qs58_1, qs58_2, qs58_3, qs58_4, qs58_5, qs58_6, qs58_7, qs58_8, qs58_9, qs58_10, fs58⟩ := hs58
    have hFs58 : FR [0, 6] st s58 := fr_ca hFs56 gs58 (sub_1 (List.mem_of_getElem? (i := 0) rfl) sub_0)
    have k60 := fs58
    have k61 : Iv 0 40 r59 := (by rcases k60.2.2 with q9 | q9; (rw [q9]; exact ⟨by decide, by decide⟩); (obtain ⟨y1, y2⟩ := id ((iv_c (by decide) : Iv 0 0 0)); obtain ⟨y3, y4⟩ := id ((iv_c (by decide) : Iv 40 40 40)); exact ⟨by omega, by omega⟩))
    refine c_ist hx hb hK hP hD hS mw_6 ms_6 (by unfold vp_in; decide) dX10_readLine_45 (fun s62 H9 locs9 es62 hP9 hD9 hS9 => ?_)
    clear hP hD hS
    have hS := hS9
    have hP := hP9
    have hD := hD9
    clear hP9 hD9 hS9
    have hBs62 : MB s62 := by rw [es62]; exact mb_sw hBs58 (fok_bd (i := 1) (hBs58 6) ⟨by decide, by decide, by decide, by decide⟩ (iv_mono (c := (-2147483648)) (d := 2147483647) k61 (by decide) (by decide)))
    have hFs62 : FR [0, 6] st s62 := fr_sw hFs58 (List.mem_of_getElem? (i := 1) rfl) es62
    refine lv_goto (tgt := 53) hx hb dX10_readLine_46 (by decide) ?_
    refine lv_aload_n hx hb dX10_readLine_53 rfl (lv_at hl 0 rfl) ?_
    refine ro_V (As := []) (rest := []) S (m_X10_good l D k a s62 sl   _  hBs62  ) lkX10_136 ok_X10_good ⟨rfl, rfl, Nat.le_of_ble_eq_true rfl, Nat.le_of_ble_eq_true rfl⟩ (pw_V (ci := 10) (q0 := 0) hK hN rfl mw_0 hP (hD.weaken (fun _ _ _ _ => trivial))) rfl hl.1 rfl (Nat.le_of_ble_eq_true rfl) ⟨Nat.zero_le _, Nat.zero_le _⟩ dX10_readLine_54 (fun r63 er63 => ?_)
    rcases er63 with ⟨rfl, g9⟩ | ⟨rfl, g9⟩
    · skip
      have g64 := g9
      have k65 := g64
      rw [(congrFun (sw_at es62 (by decide)) 12)] at k65
      have k66 := k60.1 k65
      have k67 : s56 0 12 = 0 := k66
      rw [(congrFun (sw_at es56 (by decide)) 12)] at k67
      have k68 := k54.1 k67
      have k69 : s48 0 12 = 0 := k68
      have k70 := k50.1 k69
      have k71 : st 0 12 = 0 := k70
      refine lv_if_eq (tgt := 73) hx hb dX10_readLine_57 (by decide) (fun c72 => ?_) (fun c72 => ?_)
      · first | exact absurd c72 (by decide) | exact absurd (by decide) c72
      refine lv_aload_n hx hb dX10_readLine_60 rfl (lv_at hl 0 rfl) ?_
      refine va_get (D := D) (ci := 10) (v := .int (s62 0 10)) (C := RX10) (T := TX10) (N := 38) hx hb hT in_X10 hown hK hP 0 mw_0 rfl 10 (by decide) (hT _ t1272) (fun _ h9 => h9) rfl dX10_readLine_61 ?_
      refine k_top (y := (s58 0 10)) (congrFun (sw_at es62 (by decide)) 10) ?_
      refine lv_iconst (v := 3) hx hb dX10_readLine_64 (by decide) ?_
      refine lv_icmp_eq (tgt := 73) hx hb dX10_readLine_65 (by decide) (fun c73 => ?_) (fun c73 => ?_)
      · skip
        have h74 : Iv 3 3 (s58 0 10) := eq_l c73 (iv_c (by decide) : Iv 3 3 3)
        refine lv_aload_n hx hb dX10_readLine_73 rfl (lv_at hl 0 rfl) ?_
        refine ro_V (As := []) (rest := []) S (m_X10_good l D k a s62 sl   _  hBs62  ) lkX10_136 ok_X10_good ⟨rfl, rfl, Nat.le_of_ble_eq_true rfl, Nat.le_of_ble_eq_true rfl⟩ (pw_V (ci := 10) (q0 := 0) hK hN rfl mw_0 hP (hD.weaken (fun _ _ _ _ => trivial))) rfl hl.1 rfl (Nat.le_of_ble_eq_true rfl) ⟨Nat.zero_le _, Nat.zero_le _⟩ dX10_readLine_74 (fun r75 er75 => ?_)
        rcases er75 with ⟨rfl, g9⟩ | ⟨rfl, g9⟩
        · skip
          have g76 := g9
          have k77 := g76
          rw [(congrFun (sw_at es62 (by decide)) 12)] at k77
          refine lv_if_eq (tgt := 84) hx hb dX10_readLine_77 (by decide) (fun c78 => ?_) (fun c78 => ?_)
          · first | exact absurd c78 (by decide) | exact absurd (by decide) c78
          refine lv_aload_n hx hb dX10_readLine_80 rfl (lv_at hl 0 rfl) ?_
          refine ca_v hP hD hS hA (fun hDc => run_V (mc := 0) (ms := 0) (As := []) (rest := []) S (m_X10_advance l D k a s62 sl   _  hBs62  ) lkX10_154 ok_X10_advance ⟨rfl, rfl, Nat.le_of_ble_eq_true rfl, Nat.le_of_ble_eq_true rfl⟩ (pw_V (ci := 10) (q0 := 0) hK hN rfl mw_0 hP hDc) rfl hl.1 rfl (Nat.le_of_ble_eq_true rfl) ⟨Nat.zero_le _, Nat.zero_le _⟩ dX10_readLine_81) (fun s79 H9 locs9 hs79 hP9 hD9 hS9 => ?_)
          clear hP hD hS
          have hS := hS9
          have hP := hP9
          have hD := hD9
          clear hP9 hD9 hS9
          obtain ⟨hBs79, gs79, qs79_0, qs79_1, qs79_2, qs79_3, qs79_4, qs79_5, qs79_6, qs79_7, qs79_8, qs79_9, qs79_10, qs79_11, qs79_12, fs79⟩ := hs79
          have hFs79 : FR [0, 6] st s79 := fr_ca hFs62 gs79 (sub_1 (List.mem_of_getElem? (i := 0) rfl) sub_0)
          have k81 := fs79
          refine lv_aload_n hx hb dX10_readLine_84 rfl (lv_at hl 0 rfl) ?_
          refine va_get (D := D) (ci := 10) (v := .ref (a 6)) (C := RX10) (T := TX10) (N := 38) hx hb hT in_X10 hown hK hP 0 mw_0 rfl 14 (by decide) (hT _ t1276) (fun _ h9 => h9) rfl dX10_readLine_85 ?_
          refine lv_bipush (v := 6) hx hb dX10_readLine_88 (by decide) ?_
          refine lv_dup2_11 hx hb dX10_readLine_90 rfl rfl ?_
          refine va_iald hx hb hK hP 6 0 mw_6 rfl (by unfold vp_in; decide) dX10_readLine_91 ?_
          refine k_top (y := (s79 6 6)) rfl ?_
          refine k_top (y := (st 6 6)) (Eq.trans (congrFun (gs79 6 (nm_1 (by decide) nm_0)) 6) (Eq.trans (Eq.trans (congrFun (sw_it es62) 6) (upd_no (cl_ne (iv_c (by decide) : Iv 1 1 1) (by decide) (by decide)))) (Eq.trans (congrFun (gs58 6 (nm_1 (by decide) nm_0)) 6) (Eq.trans (Eq.trans (congrFun (sw_it es56) 6) (upd_no (cl_ne (iv_c (by decide) : Iv 0 0 0) (by decide) (by decide)))) (Eq.trans (congrFun (gs52 6 (nm_1 (by decide) nm_0)) 6) (congrFun (gs48 6 (nm_1 (by decide) nm_0)) 6)))))) ?_
          refine lv_iconst (v := 1) hx hb dX10_readLine_92 (by decide) ?_
          refine lv_iadd hx hb dX10_readLine_93 ?_
          refine lv_topi (fun z82 ez82 => ?_)
          have h83 : Iv 1 1 z82 := iv_add ez82 h46 (iv_c (by decide) : Iv 1 1 1) (by decide) (by decide) (by decide) (by decide)
          refine c_ist hx hb hK hP hD hS mw_6 ms_6 (by unfold vp_in; decide) dX10_readLine_94 (fun s84 H9 locs9 es84 hP9 hD9 hS9 => ?_)
          clear hP hD hS
          have hS := hS9
          have hP := hP9
          have hD := hD9
          clear hP9 hD9 hS9
          have hBs84 : MB s84 := by rw [es84]; exact mb_sw hBs79 (fok_bd (i := 6) (hBs79 6) ⟨by decide, by decide, by decide, by decide⟩ (iv_mono (c := (-2147483648)) (d := 2147483647) h83 (by decide) (by decide)))
          have hFs84 : FR [0, 6] st s84 := fr_sw hFs79 (List.mem_of_getElem? (i := 1) rfl) es84
          rw [hQ]
          exact W.vret hx hb hr (fun t ht hW => ⟨⟨s84, rfl, ⟨hBs84, hFs84, (Eq.trans (congrFun (sw_at es84 (by decide)) 0) (Eq.trans qs79_0 (Eq.trans (congrFun (sw_at es62 (by decide)) 0) (Eq.trans qs58_0 (Eq.trans (congrFun (sw_at es56 (by decide)) 0) (Eq.trans qs52_0 qs48_0)))))), (Eq.trans (congrFun (sw_at es84 (by decide)) 5) (Eq.trans qs79_1 (Eq.trans (congrFun (sw_at es62 (by decide)) 5) (Eq.trans qs58_1 (Eq.trans (congrFun (sw_at es56 (by decide)) 5) (Eq.trans qs52_1 qs48_1)))))), (Eq.trans (congrFun (sw_at es84 (by decide)) 7) (Eq.trans qs79_2 (Eq.trans (congrFun (sw_at es62 (by decide)) 7) (Eq.trans qs58_2 (Eq.trans (congrFun (sw_at es56 (by decide)) 7) (Eq.trans qs52_2 qs48_2)))))), (Eq.trans (congrFun (sw_at es84 (by decide)) 20) (Eq.trans qs79_5 (Eq.trans (congrFun (sw_at es62 (by decide)) 20) (Eq.trans qs58_3 (Eq.trans (congrFun (sw_at es56 (by decide)) 20) (Eq.trans qs52_3 qs48_3)))))), (Eq.trans (congrFun (sw_at es84 (by decide)) 21) (Eq.trans qs79_6 (Eq.trans (congrFun (sw_at es62 (by decide)) 21) (Eq.trans qs58_4 (Eq.trans (congrFun (sw_at es56 (by decide)) 21) (Eq.trans qs52_4 qs48_4)))))), (Eq.trans (congrFun (sw_at es84 (by decide)) 22) (Eq.trans qs79_7 (Eq.trans (congrFun (sw_at es62 (by decide)) 22) (Eq.trans qs58_5 (Eq.trans (congrFun (sw_at es56 (by decide)) 22) (Eq.trans qs52_5 qs48_5)))))), (Eq.trans (congrFun (sw_at es84 (by decide)) 26) (Eq.trans qs79_8 (Eq.trans (congrFun (sw_at es62 (by decide)) 26) (Eq.trans qs58_6 (Eq.trans (congrFun (sw_at es56 (by decide)) 26) (Eq.trans qs52_6 qs48_6)))))), (Eq.trans (congrFun (sw_at es84 (by decide)) 27) (Eq.trans qs79_9 (Eq.trans (congrFun (sw_at es62 (by decide)) 27) (Eq.trans qs58_7 (Eq.trans (congrFun (sw_at es56 (by decide)) 27) (Eq.trans qs52_7 qs48_7)))))), (Eq.trans (congrFun (sw_at es84 (by decide)) 29) (Eq.trans qs79_10 (Eq.trans (congrFun (sw_at es62 (by decide)) 29) (Eq.trans qs58_8 (Eq.trans (congrFun (sw_at es56 (by decide)) 29) (Eq.trans qs52_8 qs48_8)))))), (Eq.trans (congrFun (sw_at es84 (by decide)) 31) (Eq.trans qs79_11 (Eq.trans (congrFun (sw_at es62 (by decide)) 31) (Eq.trans qs58_9 (Eq.trans (congrFun (sw_at es56 (by decide)) 31) (Eq.trans qs52_9 qs48_9)))))), (Eq.trans (congrFun (sw_at es84 (by decide)) 33) (Eq.trans qs79_12 (Eq.trans (congrFun (sw_at es62 (by decide)) 33) (Eq.trans qs58_10 (Eq.trans (congrFun (sw_at es56 (by decide)) 33) (Eq.trans qs52_10 qs48_10)))))), ⟨(fun _ => k71), (Int.le_trans k50.2 (Int.le_trans k54.2.1 (Int.le_trans (show (s52 0 8).toInt ≤ (s56 0 8).toInt from by rw [(congrFun (sw_at es56 (by decide)) 8)]; exact Int.le_refl _) (Int.le_trans k60.2.1 (Int.le_trans (show (s58 0 8).toInt ≤ (s62 0 8).toInt from by rw [(congrFun (sw_at es62 (by decide)) 8)]; exact Int.le_refl _) (Int.le_trans k81.1 (show (s79 0 8).toInt ≤ (s84 0 8).toInt from by rw [(congrFun (sw_at es84 (by decide)) 8)]; exact Int.le_refl _))))))), (fun _ q9 => by rw [(congrFun (sw_at es84 (by decide)) 10)] at q9; rw [(congrFun (sw_at es84 (by decide)) 8)]; have y1 := k81.2 q9; have y2 := (Int.le_trans k50.2 (Int.le_trans k54.2.1 (Int.le_trans (show (s52 0 8).toInt ≤ (s56 0 8).toInt from by rw [(congrFun (sw_at es56 (by decide)) 8)]; exact Int.le_refl _) (Int.le_trans k60.2.1 (show (s58 0 8).toInt ≤ (s62 0 8).toInt from by rw [(congrFun (sw_at es62 (by decide)) 8)]; exact Int.le_refl _))))); omega)⟩⟩, by rw [ht]; exact hP, va_K.moved hW.alike (hK.sub (tys' := []) [] rfl), by rw [hAe]; exact hD⟩, by rw [hAe]; exact hS.F ht⟩) hS.2.2 dX10_readLine_95
        · skip
          have g85 := g9
          have k86 := g85
          rw [(congrFun (sw_at es62 (by decide)) 12)] at k86
          exact absurd k65 k86
      · skip
        refine lv_aload_n hx hb dX10_readLine_68 rfl (lv_at hl 0 rfl) ?_
        refine lv_iconst (v := 1) hx hb dX10_readLine_69 (by decide) ?_
        refine ca_v hP hD hS hA (fun hDc => run_V (mc := 0) (ms := 0) (As := [.int 1]) (rest := []) S (m_X10_errs l D k a s62 sl  1 _  hBs62 (iv_mono (c := 1) (d := 3) (iv_c (by decide) : Iv 1 1 1) (by decide) (by decide)) ) lkX10_160 ok_X10_errs ⟨rfl, rfl, Nat.le_of_ble_eq_true rfl, Nat.le_of_ble_eq_true rfl⟩ (pw_V (ci := 10) (q0 := 0) hK hN rfl mw_0 hP hDc) rfl hl.1 rfl (Nat.le_of_ble_eq_true rfl) ⟨Nat.zero_le _, Nat.zero_le _⟩ dX10_readLine_70) (fun s87 H9 locs9 hs87 hP9 hD9 hS9 => ?_)
        clear hP hD hS
        have hS := hS9
        have hP := hP9
        have hD := hD9
        clear hP9 hD9 hS9
        obtain ⟨hBs87, gs87, qs87_0, qs87_1, qs87_2, qs87_3, qs87_4, qs87_5, qs87_6, qs87_7, qs87_8, qs87_9, qs87_10, qs87_11, qs87_12, qs87_13, qs87_14, fs87⟩ := hs87
        have hFs87 : FR [0, 6] st s87 := fr_ca hFs62 gs87 (sub_1 (List.mem_of_getElem? (i := 0) rfl) sub_0)
        have k89 := fs87
        refine lv_aload_n hx hb dX10_readLine_73 rfl (lv_at hl 0 rfl) ?_
        refine ro_V (As := []) (rest := []) S (m_X10_good l D k a s87 sl   _  hBs87  ) lkX10_136 ok_X10_good ⟨rfl, rfl, Nat.le_of_ble_eq_true rfl, Nat.le_of_ble_eq_true rfl⟩ (pw_V (ci := 10) (q0 := 0) hK hN rfl mw_0 hP (hD.weaken (fun _ _ _ _ => trivial))) rfl hl.1 rfl (Nat.le_of_ble_eq_true rfl) ⟨Nat.zero_le _, Nat.zero_le _⟩ dX10_readLine_74 (fun r90 er90 => ?_)
        rcases er90 with ⟨rfl, g9⟩ | ⟨rfl, g9⟩
        · skip
          have g91 := g9
          have k92 := g91
          exact absurd k92 k89
        · skip
          have g93 := g9
          have k94 := g93
          refine lv_if_eq (tgt := 84) hx hb dX10_readLine_77 (by decide) (fun c95 => ?_) (fun c95 => ?_)
          rotate_left
          · first | exact absurd c95 (by decide) | exact absurd (by decide) c95
          refine lv_aload_n hx hb dX10_readLine_84 rfl (lv_at hl 0 rfl) ?_
          refine va_get (D := D) (ci := 10) (v := .ref (a 6)) (C := RX10) (T := TX10) (N := 38) hx hb hT in_X10 hown hK hP 0 mw_0 rfl 14 (by decide) (hT _ t1276) (fun _ h9 => h9) rfl dX10_readLine_85 ?_
          refine lv_bipush (v := 6) hx hb dX10_readLine_88 (by decide) ?_
          refine lv_dup2_11 hx hb dX10_readLine_90 rfl rfl ?_
          refine va_iald hx hb hK hP 6 0 mw_6 rfl (by unfold vp_in; decide) dX10_readLine_91 ?_
          refine k_top (y := (s87 6 6)) rfl ?_
          refine k_top (y := (st 6 6)) (Eq.trans (congrFun (gs87 6 (nm_1 (by decide) nm_0)) 6) (Eq.trans (Eq.trans (congrFun (sw_it es62) 6) (upd_no (cl_ne (iv_c (by decide) : Iv 1 1 1) (by decide) (by decide)))) (Eq.trans (congrFun (gs58 6 (nm_1 (by decide) nm_0)) 6) (Eq.trans (Eq.trans (congrFun (sw_it es56) 6) (upd_no (cl_ne (iv_c (by decide) : Iv 0 0 0) (by decide) (by decide)))) (Eq.trans (congrFun (gs52 6 (nm_1 (by decide) nm_0)) 6) (congrFun (gs48 6 (nm_1 (by decide) nm_0)) 6)))))) ?_
          refine lv_iconst (v := 1) hx hb dX10_readLine_92 (by decide) ?_
          refine lv_iadd hx hb dX10_readLine_93 ?_
          refine lv_topi (fun z96 ez96 => ?_)
          have h97 : Iv 1 1 z96 := iv_add ez96 h46 (iv_c (by decide) : Iv 1 1 1) (by decide) (by decide) (by decide) (by decide)
          refine c_ist hx hb hK hP hD hS mw_6 ms_6 (by unfold vp_in; decide) dX10_readLine_94 (fun s98 H9 locs9 es98 hP9 hD9 hS9 => ?_)
          clear hP hD hS
          have hS := hS9
          have hP := hP9
          have hD := hD9
          clear hP9 hD9 hS9
          have hBs98 : MB s98 := by rw [es98]; exact mb_sw hBs87 (fok_bd (i := 6) (hBs87 6) ⟨by decide, by decide, by decide, by decide⟩ (iv_mono (c := (-2147483648)) (d := 2147483647) h97 (by decide) (by decide)))
          have hFs98 : FR [0, 6] st s98 := fr_sw hFs87 (List.mem_of_getElem? (i := 1) rfl) es98
          rw [hQ]
          exact W.vret hx hb hr (fun t ht hW => ⟨⟨s98, rfl, ⟨hBs98, hFs98, (Eq.trans (congrFun (sw_at es98 (by decide)) 0) (Eq.trans qs87_0 (Eq.trans (congrFun (sw_at es62 (by decide)) 0) (Eq.trans qs58_0 (Eq.trans (congrFun (sw_at es56 (by decide)) 0) (Eq.trans qs52_0 qs48_0)))))), (Eq.trans (congrFun (sw_at es98 (by decide)) 5) (Eq.trans qs87_1 (Eq.trans (congrFun (sw_at es62 (by decide)) 5) (Eq.trans qs58_1 (Eq.trans (congrFun (sw_at es56 (by decide)) 5) (Eq.trans qs52_1 qs48_1)))))), (Eq.trans (congrFun (sw_at es98 (by decide)) 7) (Eq.trans qs87_2 (Eq.trans (congrFun (sw_at es62 (by decide)) 7) (Eq.trans qs58_2 (Eq.trans (congrFun (sw_at es56 (by decide)) 7) (Eq.trans qs52_2 qs48_2)))))), (Eq.trans (congrFun (sw_at es98 (by decide)) 20) (Eq.trans qs87_7 (Eq.trans (congrFun (sw_at es62 (by decide)) 20) (Eq.trans qs58_3 (Eq.trans (congrFun (sw_at es56 (by decide)) 20) (Eq.trans qs52_3 qs48_3)))))), (Eq.trans (congrFun (sw_at es98 (by decide)) 21) (Eq.trans qs87_8 (Eq.trans (congrFun (sw_at es62 (by decide)) 21) (Eq.trans qs58_4 (Eq.trans (congrFun (sw_at es56 (by decide)) 21) (Eq.trans qs52_4 qs48_4)))))), (Eq.trans (congrFun (sw_at es98 (by decide)) 22) (Eq.trans qs87_9 (Eq.trans (congrFun (sw_at es62 (by decide)) 22) (Eq.trans qs58_5 (Eq.trans (congrFun (sw_at es56 (by decide)) 22) (Eq.trans qs52_5 qs48_5)))))), (Eq.trans (congrFun (sw_at es98 (by decide)) 26) (Eq.trans qs87_10 (Eq.trans (congrFun (sw_at es62 (by decide)) 26) (Eq.trans qs58_6 (Eq.trans (congrFun (sw_at es56 (by decide)) 26) (Eq.trans qs52_6 qs48_6)))))), (Eq.trans (congrFun (sw_at es98 (by decide)) 27) (Eq.trans qs87_11 (Eq.trans (congrFun (sw_at es62 (by decide)) 27) (Eq.trans qs58_7 (Eq.trans (congrFun (sw_at es56 (by decide)) 27) (Eq.trans qs52_7 qs48_7)))))), (Eq.trans (congrFun (sw_at es98 (by decide)) 29) (Eq.trans qs87_12 (Eq.trans (congrFun (sw_at es62 (by decide)) 29) (Eq.trans qs58_8 (Eq.trans (congrFun (sw_at es56 (by decide)) 29) (Eq.trans qs52_8 qs48_8)))))), (Eq.trans (congrFun (sw_at es98 (by decide)) 31) (Eq.trans qs87_13 (Eq.trans (congrFun (sw_at es62 (by decide)) 31) (Eq.trans qs58_9 (Eq.trans (congrFun (sw_at es56 (by decide)) 31) (Eq.trans qs52_9 qs48_9)))))), (Eq.trans (congrFun (sw_at es98 (by decide)) 33) (Eq.trans qs87_14 (Eq.trans (congrFun (sw_at es62 (by decide)) 33) (Eq.trans qs58_10 (Eq.trans (congrFun (sw_at es56 (by decide)) 33) (Eq.trans qs52_10 qs48_10)))))), ⟨(fun z9 => absurd (Eq.trans (Eq.symm (congrFun (sw_at es98 (by decide)) 12)) z9) k94), (Int.le_trans k50.2 (Int.le_trans k54.2.1 (Int.le_trans (show (s52 0 8).toInt ≤ (s56 0 8).toInt from by rw [(congrFun (sw_at es56 (by decide)) 8)]; exact Int.le_refl _) (Int.le_trans k60.2.1 (Int.le_trans (show (s58 0 8).toInt ≤ (s62 0 8).toInt from by rw [(congrFun (sw_at es62 (by decide)) 8)]; exact Int.le_refl _) (Int.le_trans (show (s62 0 8).toInt ≤ (s87 0 8).toInt from by rw [qs87_3]; exact Int.le_refl _) (show (s87 0 8).toInt ≤ (s98 0 8).toInt from by rw [(congrFun (sw_at es98 (by decide)) 8)]; exact Int.le_refl _))))))), (fun z9 => absurd (Eq.trans (Eq.symm (congrFun (sw_at es98 (by decide)) 12)) z9) k94)⟩⟩, by rw [ht]; exact hP, va_K.moved hW.alike (hK.sub (tys' := []) [] rfl), by rw [hAe]; exact hD⟩, by rw [hAe]; exact hS.F ht⟩) hS.2.2 dX10_readLine_95
    · skip
      have g99 := g9
      have k100 := g99
      rw [(congrFun (sw_at es62 (by decide)) 12)] at k100
      refine lv_if_eq (tgt := 73) hx hb dX10_readLine_57 (by decide) (fun c101 => ?_) (fun c101 => ?_)
      rotate_left
      · first | exact absurd c101 (by decide) | exact absurd (by decide) c101
      refine lv_aload_n hx hb dX10_readLine_73 rfl (lv_at hl 0 rfl) ?_
      refine ro_V (As := []) (rest := []) S (m_X10_good l D k a s62 sl   _  hBs62  ) lkX10_136 ok_X10_good ⟨rfl, rfl, Nat.le_of_ble_eq_true rfl, Nat.le_of_ble_eq_true rfl⟩ (pw_V (ci := 10) (q0 := 0) hK hN rfl mw_0 hP (hD.weaken (fun _ _ _ _ => trivial))) rfl hl.1 rfl (Nat.le_of_ble_eq_true rfl) ⟨Nat.zero_le _, Nat.zero_le _⟩ dX10_readLine_74 (fun r102 er102 => ?_)
      rcases er102 with ⟨rfl, g9⟩ | ⟨rfl, g9⟩
      · skip
        have g103 := g9
        have k104 := g103
        rw [(congrFun (sw_at es62 (by decide)) 12)] at k104
        exact absurd k104 k100
      · skip
        have g105 := g9
        have k106 := g105
        rw [(congrFun (sw_at es62 (by decide)) 12)] at k106
        refine lv_if_eq (tgt := 84) hx hb dX10_readLine_77 (by decide) (fun c107 => ?_) (fun c107 => ?_)
        rotate_left
        · first | exact absurd c107 (by decide) | exact absurd (by decide) c107
        refine lv_aload_n hx hb dX10_readLine_84 rfl (lv_at hl 0 rfl) ?_
        refine va_get (D := D) (ci := 10) (v := .ref (a 6)) (C := RX10) (T := TX10) (N := 38) hx hb hT in_X10 hown hK hP 0 mw_0 rfl 14 (by decide) (hT _ t1276) (fun _ h9 => h9) rfl dX10_readLine_85 ?_
        refine lv_bipush (v := 6) hx hb dX10_readLine_88 (by decide) ?_
        refine lv_dup2_11 hx hb dX10_readLine_90 rfl rfl ?_
        refine va_iald hx hb hK hP 6 0 mw_6 rfl (by unfold vp_in; decide) dX10_readLine_91 ?_
        refine k_top (y := (s62 6 6)) rfl ?_
        refine k_top (y := (st 6 6)) (Eq.trans (Eq.trans (congrFun (sw_it es62) 6) (upd_no (cl_ne (iv_c (by decide) : Iv 1 1 1) (by decide) (by decide)))) (Eq.trans (congrFun (gs58 6 (nm_1 (by decide) nm_0)) 6) (Eq.trans (Eq.trans (congrFun (sw_it es56) 6) (upd_no (cl_ne (iv_c (by decide) : Iv 0 0 0) (by decide) (by decide)))) (Eq.trans (congrFun (gs52 6 (nm_1 (by decide) nm_0)) 6) (congrFun (gs48 6 (nm_1 (by decide) nm_0)) 6))))) ?_
        refine lv_iconst (v := 1) hx hb dX10_readLine_92 (by decide) ?_
        refine lv_iadd hx hb dX10_readLine_93 ?_
        refine lv_topi (fun z108 ez108 => ?_)
        have h109 : Iv 1 1 z108 := iv_add ez108 h46 (iv_c (by decide) : Iv 1 1 1) (by decide) (by decide) (by decide) (by decide)
        refine c_ist hx hb hK hP hD hS mw_6 ms_6 (by unfold vp_in; decide) dX10_readLine_94 (fun s110 H9 locs9 es110 hP9 hD9 hS9 => ?_)
        clear hP hD hS
        have hS := hS9
        have hP := hP9
        have hD := hD9
        clear hP9 hD9 hS9
        have hBs110 : MB s110 := by rw [es110]; exact mb_sw hBs62 (fok_bd (i := 6) (hBs62 6) ⟨by decide, by decide, by decide, by decide⟩ (iv_mono (c := (-2147483648)) (d := 2147483647) h109 (by decide) (by decide)))
        have hFs110 : FR [0, 6] st s110 := fr_sw hFs62 (List.mem_of_getElem? (i := 1) rfl) es110
        rw [hQ]
        exact W.vret hx hb hr (fun t ht hW => ⟨⟨s110, rfl, ⟨hBs110, hFs110, (Eq.trans (congrFun (sw_at es110 (by decide)) 0) (Eq.trans (congrFun (sw_at es62 (by decide)) 0) (Eq.trans qs58_0 (Eq.trans (congrFun (sw_at es56 (by decide)) 0) (Eq.trans qs52_0 qs48_0))))), (Eq.trans (congrFun (sw_at es110 (by decide)) 5) (Eq.trans (congrFun (sw_at es62 (by decide)) 5) (Eq.trans qs58_1 (Eq.trans (congrFun (sw_at es56 (by decide)) 5) (Eq.trans qs52_1 qs48_1))))), (Eq.trans (congrFun (sw_at es110 (by decide)) 7) (Eq.trans (congrFun (sw_at es62 (by decide)) 7) (Eq.trans qs58_2 (Eq.trans (congrFun (sw_at es56 (by decide)) 7) (Eq.trans qs52_2 qs48_2))))), (Eq.trans (congrFun (sw_at es110 (by decide)) 20) (Eq.trans (congrFun (sw_at es62 (by decide)) 20) (Eq.trans qs58_3 (Eq.trans (congrFun (sw_at es56 (by decide)) 20) (Eq.trans qs52_3 qs48_3))))), (Eq.trans (congrFun (sw_at es110 (by decide)) 21) (Eq.trans (congrFun (sw_at es62 (by decide)) 21) (Eq.trans qs58_4 (Eq.trans (congrFun (sw_at es56 (by decide)) 21) (Eq.trans qs52_4 qs48_4))))), (Eq.trans (congrFun (sw_at es110 (by decide)) 22) (Eq.trans (congrFun (sw_at es62 (by decide)) 22) (Eq.trans qs58_5 (Eq.trans (congrFun (sw_at es56 (by decide)) 22) (Eq.trans qs52_5 qs48_5))))), (Eq.trans (congrFun (sw_at es110 (by decide)) 26) (Eq.trans (congrFun (sw_at es62 (by decide)) 26) (Eq.trans qs58_6 (Eq.trans (congrFun (sw_at es56 (by decide)) 26) (Eq.trans qs52_6 qs48_6))))), (Eq.trans (congrFun (sw_at es110 (by decide)) 27) (Eq.trans (congrFun (sw_at es62 (by decide)) 27) (Eq.trans qs58_7 (Eq.trans (congrFun (sw_at es56 (by decide)) 27) (Eq.trans qs52_7 qs48_7))))), (Eq.trans (congrFun (sw_at es110 (by decide)) 29) (Eq.trans (congrFun (sw_at es62 (by decide)) 29) (Eq.trans qs58_8 (Eq.trans (congrFun (sw_at es56 (by decide)) 29) (Eq.trans qs52_8 qs48_8))))), (Eq.trans (congrFun (sw_at es110 (by decide)) 31) (Eq.trans (congrFun (sw_at es62 (by decide)) 31) (Eq.trans qs58_9 (Eq.trans (congrFun (sw_at es56 (by decide)) 31) (Eq.trans qs52_9 qs48_9))))), (Eq.trans (congrFun (sw_at es110 (by decide)) 33) (Eq.trans (congrFun (sw_at es62 (by decide)) 33) (Eq.trans qs58_10 (Eq.trans (congrFun (sw_at es56 (by decide)) 33) (Eq.trans qs52_10 qs48_10))))), ⟨(fun z9 => absurd (Eq.trans (Eq.symm (Eq.trans (congrFun (sw_at es110 (by decide)) 12) (congrFun (sw_at es62 (by decide)) 12))) z9) k106), (Int.le_trans k50.2 (Int.le_trans k54.2.1 (Int.le_trans (show (s52 0 8).toInt ≤ (s56 0 8).toInt from by rw [(congrFun (sw_at es56 (by decide)) 8)]; exact Int.le_refl _) (Int.le_trans k60.2.1 (Int.le_trans (show (s58 0 8).toInt ≤ (s62 0 8).toInt from by rw [(congrFun (sw_at es62 (by decide)) 8)]; exact Int.le_refl _) (show (s62 0 8).toInt ≤ (s110 0 8).toInt from by rw [(congrFun (sw_at es110 (by decide)) 8)]; exact Int.le_refl _)))))), (fun z9 => absurd (Eq.trans (Eq.symm (Eq.trans (congrFun (sw_at es110 (by decide)) 12) (congrFun (sw_at es62 (by decide)) 12))) z9) k106)⟩⟩, by rw [ht]; exact hP, va_K.moved hW.alike (hK.sub (tys' := []) [] rfl), by rw [hAe]; exact hD⟩, by rw [hAe]; exact hS.F ht⟩) hS.2.2 dX10_readLine_95
set_option maxHeartbeats 4000000 in
set_option maxRecDepth 100000 in
theorem m_X10_land (l : Launch) (D : va_G) (k : Nat → ClassId) (a : Nat → Nat) (st : CT) (sl : CL) (sz : Nat) (hB : MB st)  (hw : WOK (st 1)) : Met l yX10_land (.code yX10_land cX10_land 2 (some .int) :: TB) (rmw 12 0 0) (va_Pc [.ref (a 0)] (PX D k sz (MWS k a st sl) NS)) (QI D (S := CT) (fun r u => MB u ∧ FR [0, 6, 1] st u ∧ u 0 0 = st 0 0 ∧ u 0 20 = st 0 20 ∧ u 0 21 = st 0 21 ∧ u 0 22 = st 0 22 ∧ u 0 26 = st 0 26 ∧ u 0 27 = st 0 27 ∧ u 0 29 = st 0 29 ∧ u 0 31 = st 0 31 ∧ u 0 33 = st 0 33 ∧ ((WOK (u 1)))) (fun u => MWS k a u sl) (fun _ => []) (MWS k a st sl) sz) 0 0 (va_A (MWS k a st sl) sz) := by
  refine Met.ofW (cc := cX10_land) (maxL := 2) (ret := (some .int)) (by decide) rfl ?_
  intro p e s m args below meth c s₁ B hml hv
  obtain ⟨rfl, hsz, hP, hK, hD0, hN, hX⟩ := hv
  have hx := B.exec
  have hb := B.bytes
  have hr := B.returns
  have hT : ∀ w9 ∈ TB, w9.before ([.ref (a 0)] : List Value).toArray s = true := fun w9 h => atoms_spec (ws := .code yX10_land cX10_land 2 (some .int) :: TB) B.pre w9 (List.mem_cons_of_mem _ h)
  have hown : s.vm.findClass RX10 = some m.cls := findClass_of_methodNamed B.named
  have S : CallFix p m c cX10_land 2 s _ TB RX10 := ⟨hx, hb, hml, hown, hT⟩
  subst hsz
  have hD := hD0.self (sz := s.heap.size)
  generalize hAe : va_A (MWS k a st sl) s.heap.size = A at hD hX ⊢
  have hA : ∀ q : Nat, s.heap.size ≤ q → A q := fun q h => by rw [← hAe]; exact Or.inr h
  have hS : va_S A s.heap s.heap [] := va_S.rf
  have hl := lv_entry ([.ref (a 0)]) (n := 2) (Nat.le_of_ble_eq_true rfl)
  rw [lg_entry_eq]
  generalize (lg_sl ([.ref (a 0)]) ++ List.replicate (2 - (lg_sl ([.ref (a 0)])).length) Slot.unset).toArray = ls at hl ⊢
  have hl : lv_has ls 2 [(0, .ref (a 0))] := hl
  refine nameQ (fun Q hQ => ?_)
  refine lv_aload_n hx hb dX10_land_0 rfl (lv_at hl 0 rfl) ?_
  refine lv_aload_n hx hb dX10_land_1 rfl (lv_at hl 0 rfl) ?_
  refine va_get (D := D) (ci := 10) (v := .int (st 0 5)) (C := RX10) (T := TX10) (N := 38) hx hb hT in_X10 hown hK hP 0 mw_0 rfl 5 (by decide) (hT _ t1267) (fun _ h9 => h9) rfl dX10_land_2 ?_
  have h1 : Iv 0 1000 (st 0 5) := (rm_0_5 hB)
  refine c_put (ci := 10) (C := RX10) (T := TX10) (N := 38) (j := 7) (v := (st 0 5)) hx hb hT in_X10 tyX10 tyX10_ok nmX10 hown hK hP hD hS mw_0 rfl (by decide) (hT _ t1269) (by decide +kernel) (by decide +kernel) rfl rfl (Nat.le_of_ble_eq_true rfl) (ms_0 (upd (st 0) 7 (st 0 5))) dX10_land_5 (fun s2 H9 locs9 es2 hP9 hD9 hS9 => ?_)
  clear hP hD hS
  have hS := hS9
  have hP := hP9
  have hD := hD9
  clear hP9 hD9 hS9
  have hBs2 : MB s2 := by rw [es2]; exact mb_sw hB (mi_1_7 (hB 0) h1)
  have hFs2 : FR [0, 6, 1] st s2 := fr_sw fr_rf (List.mem_of_getElem? (i := 0) rfl) es2
  refine lv_aload_n hx hb dX10_land_8 rfl (lv_at hl 0 rfl) ?_
  refine lv_iconst (v := 0) hx hb dX10_land_9 (by decide) ?_
  refine c_put (ci := 10) (C := RX10) (T := TX10) (N := 38) (j := 5) (v := 0) hx hb hT in_X10 tyX10 tyX10_ok nmX10 hown hK hP hD hS mw_0 rfl (by decide) (hT _ t1267) (by decide +kernel) (by decide +kernel) rfl rfl (Nat.le_of_ble_eq_true rfl) (ms_0 (upd (s2 0) 5 0)) dX10_land_10 (fun s3 H9 locs9 es3 hP9 hD9 hS9 => ?_)
  clear hP hD hS
  have hS := hS9
  have hP := hP9
  have hD := hD9
  clear hP9 hD9 hS9
  have hBs3 : MB s3 := by rw [es3]; exact mb_sw hBs2 (mi_1_5 (hBs2 0) (iv_mono (c := 0) (d := 1000) (iv_c (by decide) : Iv 0 0 0) (by decide) (by decide)))
  have hFs3 : FR [0, 6, 1] st s3 := fr_sw hFs2 (List.mem_of_getElem? (i := 0) rfl) es3
  refine lv_aload_n hx hb dX10_land_13 rfl (lv_at hl 0 rfl) ?_
  refine lv_iconst (v := 0) hx hb dX10_land_14 (by decide) ?_
  refine c_put (ci := 10) (C := RX10) (T := TX10) (N := 38) (j := 8) (v := 0) hx hb hT in_X10 tyX10 tyX10_ok nmX10 hown hK hP hD hS mw_0 rfl (by decide) (hT _ t1270) (by decide +kernel) (by decide +kernel) rfl rfl (Nat.le_of_ble_eq_true rfl) (ms_0 (upd (s3 0) 8 0)) dX10_land_15 (fun s4 H9 locs9 es4 hP9 hD9 hS9 => ?_)
  clear hP hD hS
  have hS := hS9
  have hP := hP9
  have hD := hD9
  clear hP9 hD9 hS9
  have hBs4 : MB s4 := by rw [es4]; exact mb_sw hBs3 (mi_1_8 (hBs3 0) (iv_mono (c := 0) (d := 1000) (iv_c (by decide) : Iv 0 0 0) (by decide) (by decide)))
  have hFs4 : FR [0, 6, 1] st s4 := fr_sw hFs3 (List.mem_of_getElem? (i := 0) rfl) es4
  refine lv_aload_n hx hb dX10_land_18 rfl (lv_at hl 0 rfl) ?_
  refine lv_iconst (v := 0) hx hb dX10_land_19 (by decide) ?_
  refine c_put (ci := 10) (C := RX10) (T := TX10) (N := 38) (j := 12) (v := 0) hx hb hT in_X10 tyX10 tyX10_ok nmX10 hown hK hP hD hS mw_0 rfl (by decide) (hT _ t1274) (by decide +kernel) (by decide +kernel) rfl rfl (Nat.le_of_ble_eq_true rfl) (ms_0 (upd (s4 0) 12 0)) dX10_land_20 (fun s5 H9 locs9 es5 hP9 hD9 hS9 => ?_)
  clear hP hD hS
  have hS := hS9
  have hP := hP9
  have hD := hD9
  clear hP9 hD9 hS9
  have hBs5 : MB s5 := by rw [es5]; exact mb_sw hBs4 (mi_1_12 (hBs4 0))
  have hFs5 : FR [0, 6, 1] st s5 := fr_sw hFs4 (List.mem_of_getElem? (i := 0) rfl) es5
  refine lv_aload_n hx hb dX10_land_23 rfl (lv_at hl 0 rfl) ?_
  refine lv_iconst (v := (-1)) hx hb dX10_land_24 (by decide) ?_
  refine c_put (ci := 10) (C := RX10) (T := TX10) (N := 38) (j := 13) (v := (-1)) hx hb hT in_X10 tyX10 tyX10_ok nmX10 hown hK hP hD hS mw_0 rfl (by decide) (hT _ t1275) (by decide +kernel) (by decide +kernel) rfl rfl (Nat.le_of_ble_eq_true rfl) (ms_0 (upd (s5 0) 13 (-1))) dX10_land_25 (fun s6 H9 locs9 es6 hP9 hD9 hS9 => ?_)
  clear hP hD hS
  have hS := hS9
  have hP := hP9
  have hD := hD9
  clear hP9 hD9 hS9
  have hBs6 : MB s6 := by rw [es6]; exact mb_sw hBs5 (mi_1_13 (hBs5 0))
  have hFs6 : FR [0, 6, 1] st s6 := fr_sw hFs5 (List.mem_of_getElem? (i := 0) rfl) es6
  refine lv_iconst (v := 0) hx hb dX10_land_28 (by decide) ?_
  refine lv_istore_n (lv' := [(1, .int 0), (0, .ref (a 0))]) hx hb dX10_land_29 rfl hl (by decide) rfl (fun ls hl => ?_)
  have lp30 : ∀ (n9_30 : Nat) (v1_30 : Int32) (t30 : CT) (H9 : Heap) (locs9 : List Loc) (ls : Array Slot), Iv 0 255 v1_30 → MB t30 → FR [6] s6 t30 → va_P D vwCl (MWS k a t30 sl) H9 → va_D A (MWS k a t30 sl) → va_S A s.heap H9 locs9 → lv_has ls 2 [(1, .int v1_30), (0, .ref (a 0))] → (255 : Int) - v1_30.toInt < (n9_30 : Int) → W p l e (rmw 12 0 0) s m ([.ref (a 0)] : List Value).toArray below meth c H9 locs9 0 0 Q (F0 m 30 ls []) := by
    clear hl hP hD hS
    intro n9_30
    induction n9_30 with
    | zero =>
      intro v1_30 t30 H9 locs9 ls iv1_30 hBt30 gt30 hP hD hS hl hm30
      exact (fu_0 iv1_30 hm30).elim
    | succ n9_30 ih30 =>
      intro v1_30 t30 H9 locs9 ls iv1_30 hBt30 gt30 hP hD hS hl hm30
      have hFt30 : FR [0, 6, 1] st t30 := fr_ca hFs6 gt30 (sub_1 (List.mem_of_getElem? (i := 1) rfl) sub_0)
      refine lv_iload_n hx hb dX10_land_30 rfl (lv_at hl 0 rfl) ?_
      refine lv_sipush (v := 168) hx hb dX10_land_31 (by decide) ?_
      refine lv_icmp_ge (tgt := 50) hx hb dX10_land_34 (by decide) (fun c171 => ?_) (fun c171 => ?_)
      · skip
        have n172 : (168 : Int32).toInt ≤ v1_30.toInt := (i_le c171)
        have h173 : Iv 168 255 v1_30 := le_r (iv_c (by decide) : Iv 168 168 168) n172 iv1_30 (by decide)
        refine lv_aload_n hx hb dX10_land_50 rfl (lv_at hl 1 rfl) ?_
        refine ca_v hP hD hS hA (fun hDc => run_V (mc := 0) (ms := 0) (As := []) (rest := []) S (m_X10_advance l D k a t30 sl   _  hBt30  ) lkX10_154 ok_X10_advance ⟨rfl, rfl, Nat.le_of_ble_eq_true rfl, Nat.le_of_ble_eq_true rfl⟩ (pw_V (ci := 10) (q0 := 0) hK hN rfl mw_0 hP hDc) rfl hl.1 rfl (Nat.le_of_ble_eq_true rfl) ⟨Nat.zero_le _, Nat.zero_le _⟩ dX10_land_51) (fun s174 H9 locs9 hs174 hP9 hD9 hS9 => ?_)
        clear hP hD hS
        have hS := hS9
        have hP := hP9
        have hD := hD9
        clear hP9 hD9 hS9
        obtain ⟨hBs174, gs174, qs174_0, qs174_1, qs174_2, qs174_3, qs174_4, qs174_5, qs174_6, qs174_7, qs174_8, qs174_9, qs174_10, qs174_11, qs174_12, fs174⟩ := hs174
        have hFs174 : FR [0, 6, 1] st s174 := fr_ca hFt30 gs174 (sub_1 (List.mem_of_getElem? (i := 0) rfl) sub_0)
        have k176 := fs174
        have lp54 : ∀ (n9_54 : Nat) (t54 : CT) (H9 : Heap) (locs9 : List Loc) (ls : Array Slot), MB t54 → FR [0, 6] s174 t54 → t54 0 0 = s174 0 0 → t54 0 5 = s174 0 5 → t54 0 7 = s174 0 7 → t54 0 20 = s174 0 20 → t54 0 21 = s174 0 21 → t54 0 22 = s174 0 22 → t54 0 26 = s174 0 26 → t54 0 27 = s174 0 27 → t54 0 29 = s174 0 29 → t54 0 31 = s174 0 31 → t54 0 33 = s174 0 33 → va_P D vwCl (MWS k a t54 sl) H9 → va_D A (MWS k a t54 sl) → va_S A s.heap H9 locs9 → lv_has ls 2 [(1, .int v1_30), (0, .ref (a 0))] → (if t54 0 12 = 0 ∧ ¬ t54 0 10 = 0 then (1001 - (t54 0 8).toInt).toNat else 0) < n9_54 → W p l e (rmw 12 0 0) s m ([.ref (a 0)] : List Value).toArray below meth c H9 locs9 0 0 Q (F0 m 54 ls []) := by
          clear hl hP hD hS
          intro n9_54
          induction n9_54 with
          | zero =>
            intro  t54 H9 locs9 ls hBt54 gt54 qt54_0 qt54_1 qt54_2 qt54_3 qt54_4 qt54_5 qt54_6 qt54_7 qt54_8 qt54_9 qt54_10 hP hD hS hl hm54
            exact absurd hm54 (Nat.not_lt_zero _)
          | succ n9_54 ih54 =>
            intro  t54 H9 locs9 ls hBt54 gt54 qt54_0 qt54_1 qt54_2 qt54_3 qt54_4 qt54_5 qt54_6 qt54_7 qt54_8 qt54_9 qt54_10 hP hD hS hl hm54
            have hFt54 : FR [0, 6, 1] st t54 := fr_ca hFs174 gt54 (sub_1 (List.mem_of_getElem? (i := 0) rfl) (sub_1 (List.mem_of_getElem? (i := 1) rfl) sub_0))
            refine lv_aload_n hx hb dX10_land_54 rfl (lv_at hl 1 rfl) ?_
            refine ro_V (As := []) (rest := []) S (m_X10_good l D k a t54 sl   _  hBt54  ) lkX10_136 ok_X10_good ⟨rfl, rfl, Nat.le_of_ble_eq_true rfl, Nat.le_of_ble_eq_true rfl⟩ (pw_V (ci := 10) (q0 := 0) hK hN rfl mw_0 hP (hD.weaken (fun _ _ _ _ => trivial))) rfl hl.1 rfl (Nat.le_of_ble_eq_true rfl) ⟨Nat.zero_le _, Nat.zero_le _⟩ dX10_land_55 (fun r189 er189 => ?_)
            rcases er189 with ⟨rfl, g9⟩ | ⟨rfl, g9⟩
            · skip
              have g190 := g9
              have k191 := g190
              refine lv_if_eq (tgt := 75) hx hb dX10_land_58 (by decide) (fun c192 => ?_) (fun c192 => ?_)
              · first | exact absurd c192 (by decide) | exact absurd (by decide) c192
              refine lv_aload_n hx hb dX10_land_61 rfl (lv_at hl 1 rfl) ?_
              refine va_get (D := D) (ci := 10) (v := .int (t54 0 10)) (C := RX10) (T := TX10) (N := 38) hx hb hT in_X10 hown hK hP 0 mw_0 rfl 10 (by decide) (hT _ t1272) (fun _ h9 => h9) rfl dX10_land_62 ?_
              refine lv_if_eq (tgt := 75) hx hb dX10_land_65 (by decide) (fun c193 => ?_) (fun c193 => ?_)
              · skip
                have h194 : Iv 0 0 (t54 0 10) := eq_l c193 (iv_c (by decide) : Iv 0 0 0)
                refine lv_aload_n hx hb dX10_land_75 rfl (lv_at hl 1 rfl) ?_
                refine ro_V (As := []) (rest := []) S (m_X10_good l D k a t54 sl   _  hBt54  ) lkX10_136 ok_X10_good ⟨rfl, rfl, Nat.le_of_ble_eq_true rfl, Nat.le_of_ble_eq_true rfl⟩ (pw_V (ci := 10) (q0 := 0) hK hN rfl mw_0 hP (hD.weaken (fun _ _ _ _ => trivial))) rfl hl.1 rfl (Nat.le_of_ble_eq_true rfl) ⟨Nat.zero_le _, Nat.zero_le _⟩ dX10_land_76 (fun r195 er195 => ?_)
                rcases er195 with ⟨rfl, g9⟩ | ⟨rfl, g9⟩
                · skip
                  have g196 := g9
                  have k197 := g196
                  refine lv_if_ne (tgt := 85) hx hb dX10_land_79 (by decide) (fun c198 => ?_) (fun c198 => ?_)
                  rotate_left
                  · first | exact absurd c198 (by decide) | exact absurd (by decide) c198
                  refine lv_iconst (v := 0) hx hb dX10_land_85 (by decide) ?_
                  refine lv_istore_n (lv' := [(1, .int 0), (0, .ref (a 0))]) hx hb dX10_land_86 rfl hl (by decide) rfl (fun ls hl => ?_)
                  have lp87 : ∀ (n9_87 : Nat) (v1_87 : Int32) (t87 : CT) (H9 : Heap) (locs9 : List Loc) (ls : Array Slot), Iv 0 255 v1_87 → (∀ j : Nat, (j : Int) < v1_87.toInt → t87 1 j = t54 6 j) → MB t87 → FR [1] t54 t87 → va_P D vwCl (MWS k a t87 sl) H9 → va_D A (MWS k a t87 sl) → va_S A s.heap H9 locs9 → lv_has ls 2 [(1, .int v1_87), (0, .ref (a 0))] → (255 : Int) - v1_87.toInt < (n9_87 : Int) → W p l e (rmw 12 0 0) s m ([.ref (a 0)] : List Value).toArray below meth c H9 locs9 0 0 Q (F0 m 87 ls []) := by
                    clear hl hP hD hS
                    intro n9_87
                    induction n9_87 with
                    | zero =>
                      intro v1_87 t87 H9 locs9 ls iv1_87 rel87_0 hBt87 gt87 hP hD hS hl hm87
                      exact (fu_0 iv1_87 hm87).elim
                    | succ n9_87 ih87 =>
                      intro v1_87 t87 H9 locs9 ls iv1_87 rel87_0 hBt87 gt87 hP hD hS hl hm87
                      have hFt87 : FR [0, 6, 1] st t87 := fr_ca hFt54 gt87 (sub_1 (List.mem_of_getElem? (i := 2) rfl) sub_0)
                      refine lv_iload_n hx hb dX10_land_87 rfl (lv_at hl 0 rfl) ?_
                      refine lv_sipush (v := 168) hx hb dX10_land_88 (by decide) ?_
                      refine lv_icmp_ge (tgt := 112) hx hb dX10_land_91 (by decide) (fun c390 => ?_) (fun c390 => ?_)
                      · skip
                        have n391 : (168 : Int32).toInt ≤ v1_87.toInt := (i_le c390)
                        have h392 : Iv 168 255 v1_87 := le_r (iv_c (by decide) : Iv 168 168 168) n391 iv1_87 (by decide)
                        refine lv_aload_n hx hb dX10_land_112 rfl (lv_at hl 1 rfl) ?_
                        refine va_get (D := D) (ci := 10) (v := .ref (a 1)) (C := RX10) (T := TX10) (N := 38) hx hb hT in_X10 hown hK hP 0 mw_0 rfl 1 (by decide) (hT _ t1263) (fun _ h9 => h9) rfl dX10_land_113 ?_
                        refine lv_bipush (v := 6) hx hb dX10_land_116 (by decide) ?_
                        refine va_iald hx hb hK hP 1 0 mw_1 rfl (by unfold vp_in; decide) dX10_land_118 ?_
                        refine k_top (y := (t87 1 6)) rfl ?_
                        rw [hQ]
                        exact W.iret (v := (t87 1 6)) hx hb hr (fun t ht hW => ⟨⟨(t87 1 6), t87, rfl, ⟨hBt87, hFt87, (Eq.trans (congrFun (gt87 0 (nm_1 (by decide) nm_0)) 0) (Eq.trans qt54_0 (Eq.trans qs174_0 (Eq.trans (congrFun (gt30 0 (nm_1 (by decide) nm_0)) 0) (Eq.trans (congrFun (sw_it es6) 0) (Eq.trans (congrFun (sw_it es5) 0) (Eq.trans (congrFun (sw_it es4) 0) (Eq.trans (congrFun (sw_it es3) 0) (congrFun (sw_it es2) 0))))))))), (Eq.trans (congrFun (gt87 0 (nm_1 (by decide) nm_0)) 20) (Eq.trans qt54_3 (Eq.trans qs174_5 (Eq.trans (congrFun (gt30 0 (nm_1 (by decide) nm_0)) 20) (Eq.trans (congrFun (sw_it es6) 20) (Eq.trans (congrFun (sw_it es5) 20) (Eq.trans (congrFun (sw_it es4) 20) (Eq.trans (congrFun (sw_it es3) 20) (congrFun (sw_it es2) 20))))))))), (Eq.trans (congrFun (gt87 0 (nm_1 (by decide) nm_0)) 21) (Eq.trans qt54_4 (Eq.trans qs174_6 (Eq.trans (congrFun (gt30 0 (nm_1 (by decide) nm_0)) 21) (Eq.trans (congrFun (sw_it es6) 21) (Eq.trans (congrFun (sw_it es5) 21) (Eq.trans (congrFun (sw_it es4) 21) (Eq.trans (congrFun (sw_it es3) 21) (congrFun (sw_it es2) 21))))))))), (Eq.trans (congrFun (gt87 0 (nm_1 (by decide) nm_0)) 22) (Eq.trans qt54_5 (Eq.trans qs174_7 (Eq.trans (congrFun (gt30 0 (nm_1 (by decide) nm_0)) 22) (Eq.trans (congrFun (sw_it es6) 22) (Eq.trans (congrFun (sw_it es5) 22) (Eq.trans (congrFun (sw_it es4) 22) (Eq.trans (congrFun (sw_it es3) 22) (congrFun (sw_it es2) 22))))))))), (Eq.trans (congrFun (gt87 0 (nm_1 (by decide) nm_0)) 26) (Eq.trans qt54_6 (Eq.trans qs174_8 (Eq.trans (congrFun (gt30 0 (nm_1 (by decide) nm_0)) 26) (Eq.trans (congrFun (sw_it es6) 26) (Eq.trans (congrFun (sw_it es5) 26) (Eq.trans (congrFun (sw_it es4) 26) (Eq.trans (congrFun (sw_it es3) 26) (congrFun (sw_it es2) 26))))))))), (Eq.trans (congrFun (gt87 0 (nm_1 (by decide) nm_0)) 27) (Eq.trans qt54_7 (Eq.trans qs174_9 (Eq.trans (congrFun (gt30 0 (nm_1 (by decide) nm_0)) 27) (Eq.trans (congrFun (sw_it es6) 27) (Eq.trans (congrFun (sw_it es5) 27) (Eq.trans (congrFun (sw_it es4) 27) (Eq.trans (congrFun (sw_it es3) 27) (congrFun (sw_it es2) 27))))))))), (Eq.trans (congrFun (gt87 0 (nm_1 (by decide) nm_0)) 29) (Eq.trans qt54_8 (Eq.trans qs174_10 (Eq.trans (congrFun (gt30 0 (nm_1 (by decide) nm_0)) 29) (Eq.trans (congrFun (sw_it es6) 29) (Eq.trans (congrFun (sw_it es5) 29) (Eq.trans (congrFun (sw_it es4) 29) (Eq.trans (congrFun (sw_it es3) 29) (congrFun (sw_it es2) 29))))))))), (Eq.trans (congrFun (gt87 0 (nm_1 (by decide) nm_0)) 31) (Eq.trans qt54_9 (Eq.trans qs174_11 (Eq.trans (congrFun (gt30 0 (nm_1 (by decide) nm_0)) 31) (Eq.trans (congrFun (sw_it es6) 31) (Eq.trans (congrFun (sw_it es5) 31) (Eq.trans (congrFun (sw_it es4) 31) (Eq.trans (congrFun (sw_it es3) 31) (congrFun (sw_it es2) 31))))))))), (Eq.trans (congrFun (gt87 0 (nm_1 (by decide) nm_0)) 33) (Eq.trans qt54_10 (Eq.trans qs174_12 (Eq.trans (congrFun (gt30 0 (nm_1 (by decide) nm_0)) 33) (Eq.trans (congrFun (sw_it es6) 33) (Eq.trans (congrFun (sw_it es5) 33) (Eq.trans (congrFun (sw_it es4) 33) (Eq.trans (congrFun (sw_it es3) 33) (congrFun (sw_it es2) 33))))))))), (wok_fok (rm_6 hBt54) (fun j9 h9 => rel87_0 j9 (by have y9 := (h392).1; omega)))⟩, by rw [ht]; exact hP, va_K.moved hW.alike (hK.sub (tys' := []) [] rfl), by rw [hAe]; exact hD⟩, by rw [hAe]; exact hS.F ht⟩) hS.2.2 dX10_land_119
                      · skip
                        have n393 : v1_87.toInt < (168 : Int32).toInt := (i_nle c390)
                        have h394 : Iv 0 167 v1_87 := lt_l iv1_87 n393 (iv_c (by decide) : Iv 168 168 168) (by decide)
                        refine lv_aload_n hx hb dX10_land_94 rfl (lv_at hl 1 rfl) ?_
                        refine va_get (D := D) (ci := 10) (v := .ref (a 1)) (C := RX10) (T := TX10) (N := 38) hx hb hT in_X10 hown hK hP 0 mw_0 rfl 1 (by decide) (hT _ t1263) (fun _ h9 => h9) rfl dX10_land_95 ?_
                        refine lv_iload_n hx hb dX10_land_98 rfl (lv_at hl 0 rfl) ?_
                        refine lv_aload_n hx hb dX10_land_99 rfl (lv_at hl 1 rfl) ?_
                        refine va_get (D := D) (ci := 10) (v := .ref (a 6)) (C := RX10) (T := TX10) (N := 38) hx hb hT in_X10 hown hK hP 0 mw_0 rfl 14 (by decide) (hT _ t1276) (fun _ h9 => h9) rfl dX10_land_100 ?_
                        refine lv_iload_n hx hb dX10_land_103 rfl (lv_at hl 0 rfl) ?_
                        refine va_iald hx hb hK hP 6 0 mw_6 rfl (iv_in h394 (by decide) (by decide)) dX10_land_104 ?_
                        refine lv_topi (fun z395 ez395 => ?_)
                        refine c_ist hx hb hK hP hD hS mw_1 ms_1 (iv_in h394 (by decide) (by decide)) dX10_land_105 (fun s396 H9 locs9 es396 hP9 hD9 hS9 => ?_)
                        clear hP hD hS
                        have hS := hS9
                        have hP := hP9
                        have hD := hD9
                        clear hP9 hD9 hS9
                        have hBs396 : MB s396 := by rw [es396]; exact mb_sw hBt87 trivial
                        have hFs396 : FR [0, 6, 1] st s396 := fr_sw hFt87 (List.mem_of_getElem? (i := 2) rfl) es396
                        obtain ⟨z397, ez397⟩ : ∃ z9 : Int32, z9 = v1_87 + Int32.ofInt 1 := ⟨_, rfl⟩
                        have h398 : Iv 1 168 z397 := iv_inc ez397 h394 (by decide) (by decide) (by decide) (by decide) (by decide) (by decide)
                        refine lv_iinc (v := z397) (lv' := [(1, .int z397), (0, .ref (a 0))]) hx hb dX10_land_106 hl (k := 0) rfl ez397.symm (by decide) rfl (fun ls hl => ?_)
                        refine lv_goto (tgt := 87) hx hb dX10_land_109 (by decide) ?_
                        exact ih87 z397 s396 _ _ _ (iv_mono (c := 0) (d := 255) h398 (by decide) (by decide)) (by rw [sw_it es396]; exact tok_lt rel87_0 h394 (ti_inc ez397 h394 (by decide) (by decide) (by decide) (by decide)) (by rw [ez395, (gt87 6 (nm_1 (by decide) nm_0))])) hBs396 (fr_sw gt87 (List.mem_of_getElem? (i := 0) rfl) es396) hP hD hS (lv_sub hl [0, 1] rfl) (fu_s (lo := 0) (ti_inc ez397 h394 (by decide) (by decide) (by decide) (by decide)) (by decide) hm87)
                  exact lp87 256 0 t54 _ _ _ (iv_mono (c := 0) (d := 255) (iv_c (by decide) : Iv 0 0 0) (by decide) (by decide)) (fun j9 h9 => absurd h9 (by have z9 : (0 : Int32).toInt = 0 := rfl; omega)) hBt54 fr_rf hP hD hS (lv_sub hl [0, 1] rfl) (fu_i (iv_mono (c := 0) (d := 255) (iv_c (by decide) : Iv 0 0 0) (by decide) (by decide)) (by decide))
                · skip
                  have g399 := g9
                  have k400 := g399
                  exact absurd k191 k400
              · skip
                refine lv_aload_n hx hb dX10_land_68 rfl (lv_at hl 1 rfl) ?_
                refine ca_v hP hD hS hA (fun hDc => run_V (mc := 0) (ms := 0) (As := []) (rest := []) S (m_X10_readLine l D k a t54 sl   _  hBt54  ) lkX10_227 ok_X10_readLine ⟨rfl, rfl, Nat.le_of_ble_eq_true rfl, Nat.le_of_ble_eq_true rfl⟩ (px_V (ci := 10) (q0 := 0) nice_NS hK hN rfl mw_0 hP hDc hX hS (px_free hD hS hA)) rfl hl.1 rfl (Nat.le_of_ble_eq_true rfl) ⟨Nat.zero_le _, Nat.zero_le _⟩ dX10_land_69) (fun s401 H9 locs9 hs401 hP9 hD9 hS9 => ?_)
                clear hP hD hS
                have hS := hS9
                have hP := hP9
                have hD := hD9
                clear hP9 hD9 hS9
                obtain ⟨hBs401, gs401, qs401_0, qs401_1, qs401_2, qs401_3, qs401_4, qs401_5, qs401_6, qs401_7, qs401_8, qs401_9, qs401_10, fs401⟩ := hs401
                have hFs401 : FR [0, 6, 1] st s401 := fr_ca hFt54 gs401 (sub_1 (List.mem_of_getElem? (i := 0) rfl) (sub_1 (List.mem_of_getElem? (i := 1) rfl) sub_0))
                have k403 := fs401
                refine lv_goto (tgt := 54) hx hb dX10_land_72 (by decide) ?_
                exact ih54 s401 _ _ _ hBs401 (fr_ca gt54 gs401 (sub_1 (List.mem_of_getElem? (i := 0) rfl) (sub_1 (List.mem_of_getElem? (i := 1) rfl) sub_0))) (Eq.trans (Eq.trans qs401_0 (Eq.trans qt54_0 (Eq.trans qs174_0 (Eq.trans (congrFun (gt30 0 (nm_1 (by decide) nm_0)) 0) (Eq.trans (congrFun (sw_it es6) 0) (Eq.trans (congrFun (sw_it es5) 0) (Eq.trans (congrFun (sw_it es4) 0) (Eq.trans (congrFun (sw_it es3) 0) (congrFun (sw_it es2) 0))))))))) (Eq.symm (Eq.trans qs174_0 (Eq.trans (congrFun (gt30 0 (nm_1 (by decide) nm_0)) 0) (Eq.trans (congrFun (sw_it es6) 0) (Eq.trans (congrFun (sw_it es5) 0) (Eq.trans (congrFun (sw_it es4) 0) (Eq.trans (congrFun (sw_it es3) 0) (congrFun (sw_it es2) 0))))))))) (Eq.trans (Eq.trans qs401_1 (Eq.trans qt54_1 (Eq.trans qs174_1 (Eq.trans (congrFun (gt30 0 (nm_1 (by decide) nm_0)) 5) (Eq.trans (congrFun (sw_it es6) 5) (Eq.trans (congrFun (sw_it es5) 5) (Eq.trans (congrFun (sw_it es4) 5) (congrFun (sw_it es3) 5)))))))) (Eq.symm (Eq.trans qs174_1 (Eq.trans (congrFun (gt30 0 (nm_1 (by decide) nm_0)) 5) (Eq.trans (congrFun (sw_it es6) 5) (Eq.trans (congrFun (sw_it es5) 5) (Eq.trans (congrFun (sw_it es4) 5) (congrFun (sw_it es3) 5)))))))) (Eq.trans (Eq.trans qs401_2 (Eq.trans qt54_2 (Eq.trans qs174_2 (Eq.trans (congrFun (gt30 0 (nm_1 (by decide) nm_0)) 7) (Eq.trans (congrFun (sw_it es6) 7) (Eq.trans (congrFun (sw_it es5) 7) (Eq.trans (congrFun (sw_it es4) 7) (Eq.trans (congrFun (sw_it es3) 7) (congrFun (sw_it es2) 7))))))))) (Eq.symm (Eq.trans qs174_2 (Eq.trans (congrFun (gt30 0 (nm_1 (by decide) nm_0)) 7) (Eq.trans (congrFun (sw_it es6) 7) (Eq.trans (congrFun (sw_it es5) 7) (Eq.trans (congrFun (sw_it es4) 7) (Eq.trans (congrFun (sw_it es3) 7) (congrFun (sw_it es2) 7))))))))) (Eq.trans (Eq.trans qs401_3 (Eq.trans qt54_3 (Eq.trans qs174_5 (Eq.trans (congrFun (gt30 0 (nm_1 (by decide) nm_0)) 20) (Eq.trans (congrFun (sw_it es6) 20) (Eq.trans (congrFun (sw_it es5) 20) (Eq.trans (congrFun (sw_it es4) 20) (Eq.trans (congrFun (sw_it es3) 20) (congrFun (sw_it es2) 20))))))))) (Eq.symm (Eq.trans qs174_5 (Eq.trans (congrFun (gt30 0 (nm_1 (by decide) nm_0)) 20) (Eq.trans (congrFun (sw_it es6) 20) (Eq.trans (congrFun (sw_it es5) 20) (Eq.trans (congrFun (sw_it es4) 20) (Eq.trans (congrFun (sw_it es3) 20) (congrFun (sw_it es2) 20))))))))) (Eq.trans (Eq.trans qs401_4 (Eq.trans qt54_4 (Eq.trans qs174_6 (Eq.trans (congrFun (gt30 0 (nm_1 (by decide) nm_0)) 21) (Eq.trans (congrFun (sw_it es6) 21) (Eq.trans (congrFun (sw_it es5) 21) (Eq.trans (congrFun (sw_it es4) 21) (Eq.trans (congrFun (sw_it es3) 21) (congrFun (sw_it es2) 21))))))))) (Eq.symm (Eq.trans qs174_6 (Eq.trans (congrFun (gt30 0 (nm_1 (by decide) nm_0)) 21) (Eq.trans (congrFun (sw_it es6) 21) (Eq.trans (congrFun (sw_it es5) 21) (Eq.trans (congrFun (sw_it es4) 21) (Eq.trans (congrFun (sw_it es3) 21) (congrFun (sw_it es2) 21))))))))) (Eq.trans (Eq.trans qs401_5 (Eq.trans qt54_5 (Eq.trans qs174_7 (Eq.trans (congrFun (gt30 0 (nm_1 (by decide) nm_0)) 22) (Eq.trans (congrFun (sw_it es6) 22) (Eq.trans (congrFun (sw_it es5) 22) (Eq.trans (congrFun (sw_it es4) 22) (Eq.trans (congrFun (sw_it es3) 22) (congrFun (sw_it es2) 22))))))))) (Eq.symm (Eq.trans qs174_7 (Eq.trans (congrFun (gt30 0 (nm_1 (by decide) nm_0)) 22) (Eq.trans (congrFun (sw_it es6) 22) (Eq.trans (congrFun (sw_it es5) 22) (Eq.trans (congrFun (sw_it es4) 22) (Eq.trans (congrFun (sw_it es3) 22) (congrFun (sw_it es2) 22))))))))) (Eq.trans (Eq.trans qs401_6 (Eq.trans qt54_6 (Eq.trans qs174_8 (Eq.trans (congrFun (gt30 0 (nm_1 (by decide) nm_0)) 26) (Eq.trans (congrFun (sw_it es6) 26) (Eq.trans (congrFun (sw_it es5) 26) (Eq.trans (congrFun (sw_it es4) 26) (Eq.trans (congrFun (sw_it es3) 26) (congrFun (sw_it es2) 26))))))))) (Eq.symm (Eq.trans qs174_8 (Eq.trans (congrFun (gt30 0 (nm_1 (by decide) nm_0)) 26) (Eq.trans (congrFun (sw_it es6) 26) (Eq.trans (congrFun (sw_it es5) 26) (Eq.trans (congrFun (sw_it es4) 26) (Eq.trans (congrFun (sw_it es3) 26) (congrFun (sw_it es2) 26))))))))) (Eq.trans (Eq.trans qs401_7 (Eq.trans qt54_7 (Eq.trans qs174_9 (Eq.trans (congrFun (gt30 0 (nm_1 (by decide) nm_0)) 27) (Eq.trans (congrFun (sw_it es6) 27) (Eq.trans (congrFun (sw_it es5) 27) (Eq.trans (congrFun (sw_it es4) 27) (Eq.trans (congrFun (sw_it es3) 27) (congrFun (sw_it es2) 27))))))))) (Eq.symm (Eq.trans qs174_9 (Eq.trans (congrFun (gt30 0 (nm_1 (by decide) nm_0)) 27) (Eq.trans (congrFun (sw_it es6) 27) (Eq.trans (congrFun (sw_it es5) 27) (Eq.trans (congrFun (sw_it es4) 27) (Eq.trans (congrFun (sw_it es3) 27) (congrFun (sw_it es2) 27))))))))) (Eq.trans (Eq.trans qs401_8 (Eq.trans qt54_8 (Eq.trans qs174_10 (Eq.trans (congrFun (gt30 0 (nm_1 (by decide) nm_0)) 29) (Eq.trans (congrFun (sw_it es6) 29) (Eq.trans (congrFun (sw_it es5) 29) (Eq.trans (congrFun (sw_it es4) 29) (Eq.trans (congrFun (sw_it es3) 29) (congrFun (sw_it es2) 29))))))))) (Eq.symm (Eq.trans qs174_10 (Eq.trans (congrFun (gt30 0 (nm_1 (by decide) nm_0)) 29) (Eq.trans (congrFun (sw_it es6) 29) (Eq.trans (congrFun (sw_it es5) 29) (Eq.trans (congrFun (sw_it es4) 29) (Eq.trans (congrFun (sw_it es3) 29) (congrFun (sw_it es2) 29))))))))) (Eq.trans (Eq.trans qs401_9 (Eq.trans qt54_9 (Eq.trans qs174_11 (Eq.trans (congrFun (gt30 0 (nm_1 (by decide) nm_0)) 31) (Eq.trans (congrFun (sw_it es6) 31) (Eq.trans (congrFun (sw_it es5) 31) (Eq.trans (congrFun (sw_it es4) 31) (Eq.trans (congrFun (sw_it es3) 31) (congrFun (sw_it es2) 31))))))))) (Eq.symm (Eq.trans qs174_11 (Eq.trans (congrFun (gt30 0 (nm_1 (by decide) nm_0)) 31) (Eq.trans (congrFun (sw_it es6) 31) (Eq.trans (congrFun (sw_it es5) 31) (Eq.trans (congrFun (sw_it es4) 31) (Eq.trans (congrFun (sw_it es3) 31) (congrFun (sw_it es2) 31))))))))) (Eq.trans (Eq.trans qs401_10 (Eq.trans qt54_10 (Eq.trans qs174_12 (Eq.trans (congrFun (gt30 0 (nm_1 (by decide) nm_0)) 33) (Eq.trans (congrFun (sw_it es6) 33) (Eq.trans (congrFun (sw_it es5) 33) (Eq.trans (congrFun (sw_it es4) 33) (Eq.trans (congrFun (sw_it es3) 33) (congrFun (sw_it es2) 33))))))))) (Eq.symm (Eq.trans qs174_12 (Eq.trans (congrFun (gt30 0 (nm_1 (by decide) nm_0)) 33) (Eq.trans (congrFun (sw_it es6) 33) (Eq.trans (congrFun (sw_it es5) 33) (Eq.trans (congrFun (sw_it es4) 33) (Eq.trans (congrFun (sw_it es3) 33) (congrFun (sw_it es2) 33))))))))) hP hD hS (lv_sub hl [0, 1] rfl) (by rw [if_pos ⟨k191, c193⟩] at hm54; have y5 := ((rm_0_8 hBt54)).2; have y6 := ((rm_0_8 hBs401)).2; split; (rename_i q9; have y4 := k403.2.2 q9.1 q9.2; omega); omega)
            · skip
              have g404 := g9
              have k405 := g404
              refine lv_if_eq (tgt := 75) hx hb dX10_land_58 (by decide) (fun c406 => ?_) (fun c406 => ?_)
              rotate_left
              · first | exact absurd c406 (by decide) | exact absurd (by decide) c406
              refine lv_aload_n hx hb dX10_land_75 rfl (lv_at hl 1 rfl) ?_
              refine ro_V (As := []) (rest := []) S (m_X10_good l D k a t54 sl   _  hBt54  ) lkX10_136 ok_X10_good ⟨rfl, rfl, Nat.le_of_ble_eq_true rfl, Nat.le_of_ble_eq_true rfl⟩ (pw_V (ci := 10) (q0 := 0) hK hN rfl mw_0 hP (hD.weaken (fun _ _ _ _ => trivial))) rfl hl.1 rfl (Nat.le_of_ble_eq_true rfl) ⟨Nat.zero_le _, Nat.zero_le _⟩ dX10_land_76 (fun r407 er407 => ?_)
              rcases er407 with ⟨rfl, g9⟩ | ⟨rfl, g9⟩
              · skip
                have g408 := g9
                have k409 := g408
                exact absurd k409 k405
              · skip
                have g410 := g9
                have k411 := g410
                refine lv_if_ne (tgt := 85) hx hb dX10_land_79 (by decide) (fun c412 => ?_) (fun c412 => ?_)
                · first | exact absurd c412 (by decide) | exact absurd (by decide) c412
                refine lv_bipush (v := (-4)) hx hb dX10_land_82 (by decide) ?_
                rw [hQ]
                exact W.iret (v := (-4)) hx hb hr (fun t ht hW => ⟨⟨(-4), t54, rfl, ⟨hBt54, hFt54, (Eq.trans qt54_0 (Eq.trans qs174_0 (Eq.trans (congrFun (gt30 0 (nm_1 (by decide) nm_0)) 0) (Eq.trans (congrFun (sw_it es6) 0) (Eq.trans (congrFun (sw_it es5) 0) (Eq.trans (congrFun (sw_it es4) 0) (Eq.trans (congrFun (sw_it es3) 0) (congrFun (sw_it es2) 0)))))))), (Eq.trans qt54_3 (Eq.trans qs174_5 (Eq.trans (congrFun (gt30 0 (nm_1 (by decide) nm_0)) 20) (Eq.trans (congrFun (sw_it es6) 20) (Eq.trans (congrFun (sw_it es5) 20) (Eq.trans (congrFun (sw_it es4) 20) (Eq.trans (congrFun (sw_it es3) 20) (congrFun (sw_it es2) 20)))))))), (Eq.trans qt54_4 (Eq.trans qs174_6 (Eq.trans (congrFun (gt30 0 (nm_1 (by decide) nm_0)) 21) (Eq.trans (congrFun (sw_it es6) 21) (Eq.trans (congrFun (sw_it es5) 21) (Eq.trans (congrFun (sw_it es4) 21) (Eq.trans (congrFun (sw_it es3) 21) (congrFun (sw_it es2) 21)))))))), (Eq.trans qt54_5 (Eq.trans qs174_7 (Eq.trans (congrFun (gt30 0 (nm_1 (by decide) nm_0)) 22) (Eq.trans (congrFun (sw_it es6) 22) (Eq.trans (congrFun (sw_it es5) 22) (Eq.trans (congrFun (sw_it es4) 22) (Eq.trans (congrFun (sw_it es3) 22) (congrFun (sw_it es2) 22)))))))), (Eq.trans qt54_6 (Eq.trans qs174_8 (Eq.trans (congrFun (gt30 0 (nm_1 (by decide) nm_0)) 26) (Eq.trans (congrFun (sw_it es6) 26) (Eq.trans (congrFun (sw_it es5) 26) (Eq.trans (congrFun (sw_it es4) 26) (Eq.trans (congrFun (sw_it es3) 26) (congrFun (sw_it es2) 26)))))))), (Eq.trans qt54_7 (Eq.trans qs174_9 (Eq.trans (congrFun (gt30 0 (nm_1 (by decide) nm_0)) 27) (Eq.trans (congrFun (sw_it es6) 27) (Eq.trans (congrFun (sw_it es5) 27) (Eq.trans (congrFun (sw_it es4) 27) (Eq.trans (congrFun (sw_it es3) 27) (congrFun (sw_it es2) 27)))))))), (Eq.trans qt54_8 (Eq.trans qs174_10 (Eq.trans (congrFun (gt30 0 (nm_1 (by decide) nm_0)) 29) (Eq.trans (congrFun (sw_it es6) 29) (Eq.trans (congrFun (sw_it es5) 29) (Eq.trans (congrFun (sw_it es4) 29) (Eq.trans (congrFun (sw_it es3) 29) (congrFun (sw_it es2) 29)))))))), (Eq.trans qt54_9 (Eq.trans qs174_11 (Eq.trans (congrFun (gt30 0 (nm_1 (by decide) nm_0)) 31) (Eq.trans (congrFun (sw_it es6) 31) (Eq.trans (congrFun (sw_it es5) 31) (Eq.trans (congrFun (sw_it es4) 31) (Eq.trans (congrFun (sw_it es3) 31) (congrFun (sw_it es2) 31)))))))), (Eq.trans qt54_10 (Eq.trans qs174_12 (Eq.trans (congrFun (gt30 0 (nm_1 (by decide) nm_0)) 33) (Eq.trans (congrFun (sw_it es6) 33) (Eq.trans (congrFun (sw_it es5) 33) (Eq.trans (congrFun (sw_it es4) 33) (Eq.trans (congrFun (sw_it es3) 33) (congrFun (sw_it es2) 33)))))))), (wok_of (Eq.trans (gt54 1 (nm_1 (by decide) (nm_1 (by decide) nm_0))) (Eq.trans (gs174 1 (nm_1 (by decide) nm_0)) (Eq.trans (gt30 1 (nm_1 (by decide) nm_0)) (Eq.trans (sw_at es6 (by decide)) (Eq.trans (sw_at es5 (by decide)) (Eq.trans (sw_at es4 (by decide)) (Eq.trans (sw_at es3 (by decide)) (sw_at es2 (by decide))))))))) hw)⟩, by rw [ht]; exact hP, va_K.moved hW.alike (hK.sub (tys' := []) [] rfl), by rw [hAe]; exact hD⟩, by rw [hAe]; exact hS.F ht⟩) hS.2.2 dX10_land_84
        exact lp54 1002 s174 _ _ _ hBs174 fr_rf rfl rfl rfl rfl rfl rfl rfl rfl rfl rfl rfl hP hD hS (lv_sub hl [0, 1] rfl) (by have y9 := ((rm_0_8 hBs174)).1; split <;> omega)
      · skip
        have n413 : v1_30.toInt < (168 : Int32).toInt := (i_nle c171)
        have h414 : Iv 0 167 v1_30 := lt_l iv1_30 n413 (iv_c (by decide) : Iv 168 168 168) (by decide)
        refine lv_aload_n hx hb dX10_land_37 rfl (lv_at hl 1 rfl) ?_
        refine va_get (D := D) (ci := 10) (v := .ref (a 6)) (C := RX10) (T := TX10) (N := 38) hx hb hT in_X10 hown hK hP 0 mw_0 rfl 14 (by decide) (hT _ t1276) (fun _ h9 => h9) rfl dX10_land_38 ?_
        refine lv_iload_n hx hb dX10_land_41 rfl (lv_at hl 0 rfl) ?_
        refine lv_iconst (v := 0) hx hb dX10_land_42 (by decide) ?_
        refine c_ist hx hb hK hP hD hS mw_6 ms_6 (iv_in h414 (by decide) (by decide)) dX10_land_43 (fun s415 H9 locs9 es415 hP9 hD9 hS9 => ?_)
        clear hP hD hS
        have hS := hS9
        have hP := hP9
        have hD := hD9
        clear hP9 hD9 hS9
        have hBs415 : MB s415 := by rw [es415]; exact mb_sw hBt30 (fok_zero (hBt30 6) h414 (by decide) (by decide))
        have hFs415 : FR [0, 6, 1] st s415 := fr_sw hFt30 (List.mem_of_getElem? (i := 1) rfl) es415
        obtain ⟨z416, ez416⟩ : ∃ z9 : Int32, z9 = v1_30 + Int32.ofInt 1 := ⟨_, rfl⟩
        have h417 : Iv 1 168 z416 := iv_inc ez416 h414 (by decide) (by decide) (by decide) (by decide) (by decide) (by decide)
        refine lv_iinc (v := z416) (lv' := [(1, .int z416), (0, .ref (a 0))]) hx hb dX10_land_44 hl (k := 0) rfl ez416.symm (by decide) rfl (fun ls hl => ?_)
        refine lv_goto (tgt := 30) hx hb dX10_land_47 (by decide) ?_
        exact ih30 z416 s415 _ _ _ (iv_mono (c := 0) (d := 255) h417 (by decide) (by decide)) hBs415 (fr_sw gt30 (List.mem_of_getElem? (i := 0) rfl) es415) hP hD hS (lv_sub hl [0, 1] rfl) (fu_s (lo := 0) (ti_inc ez416 h414 (by decide) (by decide) (by decide) (by decide)) (by decide) hm30)
  exact lp30 256 0 s6 _ _ _ (iv_mono (c := 0) (d := 255) (iv_c (by decide) : Iv 0 0 0) (by decide) (by decide)) hBs6 fr_rf hP hD hS (lv_sub hl [0, 1] rfl) (fu_i (iv_mono (c := 0) (d := 255) (iv_c (by decide) : Iv 0 0 0) (by decide) (by decide)) (by decide))
