theorem wok_upd {f : Nat → Int32} {i : Nat} {v : Int32} (h : WOK f) (hv : Iv (bl i) (bh i) v) (h7 : i ≠ 7) (h8 : i < 128) : WOK (upd f i v) := ⟨fun j hj => by
  by_cases e : j = i
  · subst e; rw [upd_at]; exact hv
  · rw [upd_no e]; exact h.1 j hj, fun j hj => by
  rw [upd_no (fun e => h7 e.symm)] at hj
  rw [upd_no (by omega)]
  exact h.2 j hj⟩
theorem wok_free {f g : Nat → Int32} {z v : Int32} {a b : Int} (h : WOK f) (hz : Iv a b z) (h0 : 32 ≤ a) (h1 : b < 110) (e : g = upd f z.toNatClampNeg v) : WOK g := by
  have t := bd_f hz h0 h1
  have c := cl_int hz (by omega)
  have h2 := hz.2
  rw [e]
  refine wok_upd h ?_ t.2.2.2 (by omega)
  rw [t.1, t.2.1]
  exact iv_full v
theorem wok_one {f g : Nat → Int32} {v : Int32} (h : WOK f) (e : g = upd f 1 v) : WOK g := by
  rw [e]
  exact wok_upd h (iv_full v) (by decide) (by decide)
theorem wok_less {f g : Nat → Int32} {v : Int32} (h : WOK f) (h0 : 0 ≤ v.toInt) (h1 : v.toInt ≤ (f 7).toInt) (e : g = upd f 7 v) : WOK g := by
  rw [e]
  have b := tok_at h.1 7 0 40 (by decide) (by decide) (by decide)
  refine ⟨fun j hj => ?_, fun j hj => ?_⟩
  · by_cases q : j = 7
    · subst q
      rw [upd_at]
      exact ⟨h0, Int.le_trans h1 b.2⟩
    · rw [upd_no q]
      exact h.1 j hj
  · rw [upd_at] at hj
    rw [upd_no (by omega)]
    exact h.2 j (by omega)
theorem wok_act {f g k : Nat → Int32} {z x v one : Int32} (h : WOK f) (hr : Iv 0 39 (f 7)) (hz : z.toInt = 128 + (f 7).toInt) (e1 : g = upd f z.toNatClampNeg x) (e2 : k = upd g 7 v) (ho : one.toInt = 1) (ev : v = f 7 + one) (ha : AC x) : WOK k := by
  obtain ⟨n, en, hn⟩ := iv_nat' hr (by decide)
  have c : z.toNatClampNeg = 128 + n := cl_of (by rw [hz, en]; omega)
  have hv : v.toInt = (f 7).toInt + 1 := by
    rw [ti_add (a := 0) (b := 39) (c := 1) (d := 1) ev hr ⟨by omega, by omega⟩ (by decide) (by decide), ho]
  rw [e2]
  refine ⟨fun j hj => ?_, fun j hj => ?_⟩
  · by_cases q : j = 7
    · subst q
      rw [upd_at]
      exact ⟨by rw [hv, en]; show (0 : Int) ≤ _; omega, by rw [hv, en]; show _ ≤ (40 : Int); omega⟩
    · rw [upd_no q, e1]
      by_cases q2 : j = z.toNatClampNeg
      · subst q2
        rw [upd_at]
        have t := tab_f z.toNatClampNeg hj (by omega)
        rw [t.1, t.2]
        exact iv_full x
      · rw [upd_no q2]
        exact h.1 j hj
  · rw [upd_at, hv, en] at hj
    rw [upd_no (by omega), e1]
    by_cases q2 : 128 + j = z.toNatClampNeg
    · rw [q2, upd_at]
      exact ha
    · rw [upd_no q2]
      exact h.2 j (by omega)
set_option maxHeartbeats 4000000 in
set_option maxRecDepth 100000 in
theorem m_X10_keepAct (l : Launch) (D : va_G) (k : Nat → ClassId) (a : Nat → Nat) (st : CT) (sl : CL) (p0 : Int32) (sz : Nat) (hB : MB st)  (hw : WOK (st 1)) (ha : AC p0) (h39 : Iv 0 39 (st 1 7)) : Met l yX10_keepAct (.code yX10_keepAct cX10_keepAct 2 none :: TB) (rmw 1 0 0) (va_Pc [.ref (a 0), .int p0] (PW D k sz (MWS k a st sl))) (QV D (S := CT) (fun u => MB u ∧ FR [1] st u ∧ (WOK (u 1))) (fun u => MWS k a u sl) (fun _ => []) (MWS k a st sl) sz) 0 0 (va_A (MWS k a st sl) sz) := by
  refine Met.ofW (cc := cX10_keepAct) (maxL := 2) (ret := none) (by decide) rfl ?_
  intro p e s m args below meth c s₁ B hml hv
  obtain ⟨rfl, hsz, hP, hK, hD0, hN⟩ := hv
  have hx := B.exec
  have hb := B.bytes
  have hr := B.returns
  have hT : ∀ w9 ∈ TB, w9.before ([.ref (a 0), .int p0] : List Value).toArray s = true := fun w9 h => atoms_spec (ws := .code yX10_keepAct cX10_keepAct 2 none :: TB) B.pre w9 (List.mem_cons_of_mem _ h)
  have hown : s.vm.findClass RX10 = some m.cls := findClass_of_methodNamed B.named
  have S : CallFix p m c cX10_keepAct 2 s _ TB RX10 := ⟨hx, hb, hml, hown, hT⟩
  subst hsz
  have hD := hD0.self (sz := s.heap.size)
  generalize hAe : va_A (MWS k a st sl) s.heap.size = A at hD ⊢
  have hA : ∀ q : Nat, s.heap.size ≤ q → A q := fun q h => by rw [← hAe]; exact Or.inr h
  have hS : va_S A s.heap s.heap [] := va_S.rf
  have hl := lv_entry ([.ref (a 0), .int p0]) (n := 2) (Nat.le_of_ble_eq_true rfl)
  rw [lg_entry_eq]
  generalize (lg_sl ([.ref (a 0), .int p0]) ++ List.replicate (2 - (lg_sl ([.ref (a 0), .int p0])).length) Slot.unset).toArray = ls at hl ⊢
  have hl : lv_has ls 2 [(0, .ref (a 0)), (1, .int p0)] := hl
  refine nameQ (fun Q hQ => ?_)
  refine lv_aload_n hx hb dX10_keepAct_0 rfl (lv_at hl 0 rfl) ?_
  refine va_get (D := D) (ci := 10) (v := .ref (a 1)) (C := RX10) (T := TX10) (N := 38) hx hb hT in_X10 hown hK hP 0 mw_0 rfl 1 (by decide) (hT _ t1263) (fun _ h9 => h9) rfl dX10_keepAct_1 ?_
  refine lv_sipush (v := 128) hx hb dX10_keepAct_4 (by decide) ?_
  refine lv_aload_n hx hb dX10_keepAct_7 rfl (lv_at hl 0 rfl) ?_
  refine va_get (D := D) (ci := 10) (v := .ref (a 1)) (C := RX10) (T := TX10) (N := 38) hx hb hT in_X10 hown hK hP 0 mw_0 rfl 1 (by decide) (hT _ t1263) (fun _ h9 => h9) rfl dX10_keepAct_8 ?_
  refine lv_bipush (v := 7) hx hb dX10_keepAct_11 (by decide) ?_
  refine va_iald hx hb hK hP 1 0 mw_1 rfl (by unfold vp_in; decide) dX10_keepAct_13 ?_
  refine k_top (y := (st 1 7)) rfl ?_
  refine lv_iadd hx hb dX10_keepAct_14 ?_
  refine lv_topi (fun z1 ez1 => ?_)
  have h2 : Iv 128 167 z1 := iv_add ez1 (iv_c (by decide) : Iv 128 128 128) h39 (by decide) (by decide) (by decide) (by decide)
  refine lv_iload_n hx hb dX10_keepAct_15 rfl (lv_at hl 1 rfl) ?_
  refine c_ist hx hb hK hP hD hS mw_1 ms_1 (iv_in h2 (by decide) (by decide)) dX10_keepAct_16 (fun s3 H9 locs9 es3 hP9 hD9 hS9 => ?_)
  clear hP hD hS
  have hS := hS9
  have hP := hP9
  have hD := hD9
  clear hP9 hD9 hS9
  have hBs3 : MB s3 := by rw [es3]; exact mb_sw hB trivial
  have hFs3 : FR [1] st s3 := fr_sw fr_rf (List.mem_of_getElem? (i := 0) rfl) es3
  refine lv_aload_n hx hb dX10_keepAct_17 rfl (lv_at hl 0 rfl) ?_
  refine va_get (D := D) (ci := 10) (v := .ref (a 1)) (C := RX10) (T := TX10) (N := 38) hx hb hT in_X10 hown hK hP 0 mw_0 rfl 1 (by decide) (hT _ t1263) (fun _ h9 => h9) rfl dX10_keepAct_18 ?_
  refine lv_bipush (v := 7) hx hb dX10_keepAct_21 (by decide) ?_
  refine lv_dup2_11 hx hb dX10_keepAct_23 rfl rfl ?_
  refine va_iald hx hb hK hP 1 0 mw_1 rfl (by unfold vp_in; decide) dX10_keepAct_24 ?_
  refine k_top (y := (s3 1 7)) rfl ?_
  refine k_top (y := (st 1 7)) (Eq.trans (congrFun (sw_it es3) 7) (upd_no (cl_ne h2 (by decide) (by decide)))) ?_
  refine lv_iconst (v := 1) hx hb dX10_keepAct_25 (by decide) ?_
  refine lv_iadd hx hb dX10_keepAct_26 ?_
  refine lv_topi (fun z4 ez4 => ?_)
  have h5 : Iv 1 40 z4 := iv_add ez4 h39 (iv_c (by decide) : Iv 1 1 1) (by decide) (by decide) (by decide) (by decide)
  refine c_ist hx hb hK hP hD hS mw_1 ms_1 (by unfold vp_in; decide) dX10_keepAct_27 (fun s6 H9 locs9 es6 hP9 hD9 hS9 => ?_)
  clear hP hD hS
  have hS := hS9
  have hP := hP9
  have hD := hD9
  clear hP9 hD9 hS9
  have hBs6 : MB s6 := by rw [es6]; exact mb_sw hBs3 trivial
  have hFs6 : FR [1] st s6 := fr_sw hFs3 (List.mem_of_getElem? (i := 0) rfl) es6
  rw [hQ]
  exact W.vret hx hb hr (fun t ht hW => ⟨⟨s6, rfl, ⟨hBs6, hFs6, (wok_act hw h39 (by have _c256 : (128 : Int32).toInt = 128 := rfl; have _ez1 := ti_add ez1 (iv_c (by decide) : Iv 128 128 128) h39 (by decide) (by decide); omega) (sw_it es3) (sw_it es6) (show (1 : Int32).toInt = 1 from rfl) ez4 ha)⟩, by rw [ht]; exact hP, va_K.moved hW.alike (hK.sub (tys' := []) [] rfl), by rw [hAe]; exact hD⟩, by rw [hAe]; exact hS.F ht⟩) hS.2.2 dX10_keepAct_28
set_option maxHeartbeats 4000000 in
set_option maxRecDepth 100000 in
theorem m_X10_drive (l : Launch) (D : va_G) (k : Nat → ClassId) (a : Nat → Nat) (st : CT) (sl : CL) (p0 : Int32) (p1 : Int32) (sz : Nat) (hB : MB st)  (hw : WOK (st 1)) : Met l yX10_drive (.code yX10_drive cX10_drive 3 (some .int) :: TB) (rmw 9 0 0) (va_Pc [.ref (a 0), .int p0, .int p1] (PW D k sz (MWS k a st sl))) (QI D (S := CT) (fun r u => MB u ∧ FR [7, 9, 8, 10, 11, 1] st u ∧ ((WOK (u 1)))) (fun u => MWS k a u sl) (fun _ => []) (MWS k a st sl) sz) 0 0 (va_A (MWS k a st sl) sz) := by
  refine Met.ofW (cc := cX10_drive) (maxL := 3) (ret := (some .int)) (by decide) rfl ?_
  intro p e s m args below meth c s₁ B hml hv
  obtain ⟨rfl, hsz, hP, hK, hD0, hN⟩ := hv
  have hx := B.exec
  have hb := B.bytes
  have hr := B.returns
  have hT : ∀ w9 ∈ TB, w9.before ([.ref (a 0), .int p0, .int p1] : List Value).toArray s = true := fun w9 h => atoms_spec (ws := .code yX10_drive cX10_drive 3 (some .int) :: TB) B.pre w9 (List.mem_cons_of_mem _ h)
  have hown : s.vm.findClass RX10 = some m.cls := findClass_of_methodNamed B.named
  have S : CallFix p m c cX10_drive 3 s _ TB RX10 := ⟨hx, hb, hml, hown, hT⟩
  subst hsz
  have hD := hD0.self (sz := s.heap.size)
  generalize hAe : va_A (MWS k a st sl) s.heap.size = A at hD ⊢
  have hA : ∀ q : Nat, s.heap.size ≤ q → A q := fun q h => by rw [← hAe]; exact Or.inr h
  have hS : va_S A s.heap s.heap [] := va_S.rf
  have hl := lv_entry ([.ref (a 0), .int p0, .int p1]) (n := 3) (Nat.le_of_ble_eq_true rfl)
  rw [lg_entry_eq]
  generalize (lg_sl ([.ref (a 0), .int p0, .int p1]) ++ List.replicate (3 - (lg_sl ([.ref (a 0), .int p0, .int p1])).length) Slot.unset).toArray = ls at hl ⊢
  have hl : lv_has ls 3 [(0, .ref (a 0)), (1, .int p0), (2, .int p1)] := hl
  refine nameQ (fun Q hQ => ?_)
  refine lv_aload_n hx hb dX10_drive_0 rfl (lv_at hl 0 rfl) ?_
  refine lv_iload_n hx hb dX10_drive_1 rfl (lv_at hl 1 rfl) ?_
  refine lv_iload_n hx hb dX10_drive_2 rfl (lv_at hl 2 rfl) ?_
  refine lv_i2l hx hb dX10_drive_3 rfl ?_
  refine ca_i hP hD hS hA (fun hDc => run_V (mc := 0) (ms := 0) (As := [.int p0, .long (p1.toInt64)]) (rest := []) S (m_X10_canWant l D k a st sl  p0 (p1.toInt64) _  hB  hw) lkX10_290 ok_X10_canWant ⟨rfl, rfl, Nat.le_of_ble_eq_true rfl, Nat.le_of_ble_eq_true rfl⟩ (pw_V (ci := 10) (q0 := 0) hK hN rfl mw_0 hP hDc) rfl hl.1 rfl (Nat.le_of_ble_eq_true rfl) ⟨Nat.zero_le _, Nat.zero_le _⟩ dX10_drive_4) (fun r2 s1 H9 locs9 hs1 hP9 hD9 hS9 => ?_)
  clear hP hD hS
  have hS := hS9
  have hP := hP9
  have hD := hD9
  clear hP9 hD9 hS9
  obtain ⟨hBs1, gs1, fs1⟩ := hs1
  have hFs1 : FR [7, 9, 8, 10, 11, 1] st s1 := fr_ca fr_rf gs1 (sub_1 (List.mem_of_getElem? (i := 0) rfl) (sub_1 (List.mem_of_getElem? (i := 1) rfl) (sub_1 (List.mem_of_getElem? (i := 2) rfl) (sub_1 (List.mem_of_getElem? (i := 3) rfl) (sub_1 (List.mem_of_getElem? (i := 4) rfl) sub_0)))))
  rcases fs1 with ⟨rfl, g9⟩ | ⟨rfl, g9⟩
  · skip
    have g3 := g9
    have h4 : Iv 0 2 p0 := g3.1
    have h5 : ((-1) : Int) ≤ (p1.toInt64).toInt ∧ (p1.toInt64).toInt ≤ (7 : Int) := ⟨(g3.2).1, (g3.2).2⟩
    have h6 : Iv (-1) 7 p1 := iv_lv h5
    refine lv_if_ne (tgt := 13) hx hb dX10_drive_7 (by decide) (fun c7 => ?_) (fun c7 => ?_)
    rotate_left
    · first | exact absurd c7 (by decide) | exact absurd (by decide) c7
    refine lv_aload_n hx hb dX10_drive_13 rfl (lv_at hl 0 rfl) ?_
    refine lv_aload_n hx hb dX10_drive_14 rfl (lv_at hl 0 rfl) ?_
    refine va_get (D := D) (ci := 10) (v := .ref (a 10)) (C := RX10) (T := TX10) (N := 38) hx hb hT in_X10 hown hK hP 0 mw_0 rfl 18 (by decide) (hT _ t1280) (fun _ h9 => h9) rfl dX10_drive_15 ?_
    refine lv_iload_n hx hb dX10_drive_18 rfl (lv_at hl 1 rfl) ?_
    refine va_iald hx hb hK hP 10 0 mw_10 rfl (iv_in h4 (by decide) (by decide)) dX10_drive_19 ?_
    refine lv_topi (fun z8 ez8 => ?_)
    refine ro_V (As := [.int z8]) (rest := []) S (m_X10_roadsOf l D k a s1 sl  z8 _  hBs1  (wok_of (gs1 1 (nm_1 (by decide) (nm_1 (by decide) (nm_1 (by decide) (nm_1 (by decide) (nm_1 (by decide) nm_0)))))) hw)) lkX10_285 ok_X10_roadsOf ⟨rfl, rfl, Nat.le_of_ble_eq_true rfl, Nat.le_of_ble_eq_true rfl⟩ (pw_V (ci := 10) (q0 := 0) hK hN rfl mw_0 hP (hD.weaken (fun _ _ _ _ => trivial))) rfl hl.1 rfl (Nat.le_of_ble_eq_true rfl) ⟨Nat.zero_le _, Nat.zero_le _⟩ dX10_drive_20 (fun r9 er9 => ?_)
    have h10 : Iv 0 255 r9 := er9.1
    have k11 := er9.2
    rw [(gs1 1 (nm_1 (by decide) (nm_1 (by decide) (nm_1 (by decide) (nm_1 (by decide) (nm_1 (by decide) nm_0))))))] at k11
    refine lv_if_eq (tgt := 38) hx hb dX10_drive_23 (by decide) (fun c12 => ?_) (fun c12 => ?_)
    · skip
      have h13 : Iv 0 0 r9 := eq_l c12 (iv_c (by decide) : Iv 0 0 0)
      refine lv_bipush (v := (-5)) hx hb dX10_drive_38 (by decide) ?_
      rw [hQ]
      exact W.iret (v := (-5)) hx hb hr (fun t ht hW => ⟨⟨(-5), s1, rfl, ⟨hBs1, hFs1, (wok_of (gs1 1 (nm_1 (by decide) (nm_1 (by decide) (nm_1 (by decide) (nm_1 (by decide) (nm_1 (by decide) nm_0)))))) hw)⟩, by rw [ht]; exact hP, va_K.moved hW.alike (hK.sub (tys' := []) [] rfl), by rw [hAe]; exact hD⟩, by rw [hAe]; exact hS.F ht⟩) hS.2.2 dX10_drive_40
    · skip
      have h14 : Iv 1 255 r9 := ne_lo h10 c12 (by decide) (by decide)
      refine lv_aload_n hx hb dX10_drive_26 rfl (lv_at hl 0 rfl) ?_
      refine va_get (D := D) (ci := 10) (v := .ref (a 1)) (C := RX10) (T := TX10) (N := 38) hx hb hT in_X10 hown hK hP 0 mw_0 rfl 1 (by decide) (hT _ t1263) (fun _ h9 => h9) rfl dX10_drive_27 ?_
      refine lv_bipush (v := 7) hx hb dX10_drive_30 (by decide) ?_
      refine va_iald hx hb hK hP 1 0 mw_1 rfl (by unfold vp_in; decide) dX10_drive_32 ?_
      refine k_top (y := (s1 1 7)) rfl ?_
      refine k_top (y := (st 1 7)) (congrFun (gs1 1 (nm_1 (by decide) (nm_1 (by decide) (nm_1 (by decide) (nm_1 (by decide) (nm_1 (by decide) nm_0)))))) 7) ?_
      have h15 : Iv 0 40 (st 1 7) := (tok_at (hw).1 7 0 40 (by decide) (by decide) (by decide))
      refine lv_bipush (v := 40) hx hb dX10_drive_33 (by decide) ?_
      refine lv_icmp_ne (tgt := 41) hx hb dX10_drive_35 (by decide) (fun c16 => ?_) (fun c16 => ?_)
      · skip
        have h17 : Iv 0 39 (st 1 7) := ne_hi h15 (show ¬ (st 1 7) = 40 from c16) (by decide) (by decide)
        refine lv_aload_n hx hb dX10_drive_41 rfl (lv_at hl 0 rfl) ?_
        refine lv_bipush (v := 100) hx hb dX10_drive_42 (by decide) ?_
        refine lv_bipush (v := 10) hx hb dX10_drive_44 (by decide) ?_
        refine lv_iload_n hx hb dX10_drive_46 rfl (lv_at hl 1 rfl) ?_
        refine lv_imul hx hb dX10_drive_47 ?_
        refine lv_topi (fun z18 ez18 => ?_)
        have h19 : Iv 0 20 z18 := iv_mull ez18 h4 (k := 10) (by decide) (by decide) (by decide) (by decide) (by decide) (by decide)
        refine lv_iadd hx hb dX10_drive_48 ?_
        refine lv_topi (fun z20 ez20 => ?_)
        have h21 : Iv 100 120 z20 := iv_add ez20 (iv_c (by decide) : Iv 100 100 100) h19 (by decide) (by decide) (by decide) (by decide)
        refine lv_iload_n hx hb dX10_drive_49 rfl (lv_at hl 2 rfl) ?_
        refine lv_iadd hx hb dX10_drive_50 ?_
        refine lv_topi (fun z22 ez22 => ?_)
        have h23 : Iv 99 127 z22 := iv_add ez22 h21 h6 (by decide) (by decide) (by decide) (by decide)
        refine lv_iconst (v := 1) hx hb dX10_drive_51 (by decide) ?_
        refine lv_iadd hx hb dX10_drive_52 ?_
        refine lv_topi (fun z24 ez24 => ?_)
        have h25 : Iv 100 128 z24 := iv_add ez24 h23 (iv_c (by decide) : Iv 1 1 1) (by decide) (by decide) (by decide) (by decide)
        refine ca_v hP hD hS hA (fun hDc => run_V (mc := 0) (ms := 0) (As := [.int z24]) (rest := []) S (m_X10_keepAct l D k a s1 sl  z24 _  hBs1  (wok_of (gs1 1 (nm_1 (by decide) (nm_1 (by decide) (nm_1 (by decide) (nm_1 (by decide) (nm_1 (by decide) nm_0)))))) hw) (Or.inl (iv_mono (c := 100) (d := 129) h25 (by decide) (by decide))) (eq_l (congrFun (gs1 1 (nm_1 (by decide) (nm_1 (by decide) (nm_1 (by decide) (nm_1 (by decide) (nm_1 (by decide) nm_0)))))) 7) h17)) lkX10_294 ok_X10_keepAct ⟨rfl, rfl, Nat.le_of_ble_eq_true rfl, Nat.le_of_ble_eq_true rfl⟩ (pw_V (ci := 10) (q0 := 0) hK hN rfl mw_0 hP hDc) rfl hl.1 rfl (Nat.le_of_ble_eq_true rfl) ⟨Nat.zero_le _, Nat.zero_le _⟩ dX10_drive_53) (fun s26 H9 locs9 hs26 hP9 hD9 hS9 => ?_)
        clear hP hD hS
        have hS := hS9
        have hP := hP9
        have hD := hD9
        clear hP9 hD9 hS9
        obtain ⟨hBs26, gs26, fs26⟩ := hs26
        have hFs26 : FR [7, 9, 8, 10, 11, 1] st s26 := fr_ca hFs1 gs26 (sub_1 (List.mem_of_getElem? (i := 5) rfl) sub_0)
        have k28 := fs26
        refine lv_aload_n hx hb dX10_drive_56 rfl (lv_at hl 0 rfl) ?_
        refine lv_iload_n hx hb dX10_drive_57 rfl (lv_at hl 1 rfl) ?_
        refine lv_iload_n hx hb dX10_drive_58 rfl (lv_at hl 2 rfl) ?_
        refine ca_i hP hD hS hA (fun hDc => run_V (mc := 0) (ms := 0) (As := [.int p0, .int p1]) (rest := []) S (m_X10_driveBy l D k a s26 sl  p0 p1 _  hBs26 h4 k28) lkX10_233 ok_X10_driveBy ⟨rfl, rfl, Nat.le_of_ble_eq_true rfl, Nat.le_of_ble_eq_true rfl⟩ (pw_V (ci := 10) (q0 := 0) hK hN rfl mw_0 hP hDc) rfl hl.1 rfl (Nat.le_of_ble_eq_true rfl) ⟨Nat.zero_le _, Nat.zero_le _⟩ dX10_drive_59) (fun r30 s29 H9 locs9 hs29 hP9 hD9 hS9 => ?_)
        clear hP hD hS
        have hS := hS9
        have hP := hP9
        have hD := hD9
        clear hP9 hD9 hS9
        obtain ⟨hBs29, gs29, fs29⟩ := hs29
        have hFs29 : FR [7, 9, 8, 10, 11, 1] st s29 := fr_ca hFs26 gs29 (sub_1 (List.mem_of_getElem? (i := 2) rfl) (sub_1 (List.mem_of_getElem? (i := 0) rfl) (sub_1 (List.mem_of_getElem? (i := 3) rfl) (sub_1 (List.mem_of_getElem? (i := 4) rfl) sub_0))))
        have h31 : Iv (-1) 7 r30 := fs29.1
        refine lv_pop hx hb dX10_drive_62 rfl ?_
        refine lv_aload_n hx hb dX10_drive_63 rfl (lv_at hl 0 rfl) ?_
        refine va_get (D := D) (ci := 10) (v := .ref (a 10)) (C := RX10) (T := TX10) (N := 38) hx hb hT in_X10 hown hK hP 0 mw_0 rfl 18 (by decide) (hT _ t1280) (fun _ h9 => h9) rfl dX10_drive_64 ?_
        refine lv_iload_n hx hb dX10_drive_67 rfl (lv_at hl 1 rfl) ?_
        refine va_iald hx hb hK hP 10 0 mw_10 rfl (iv_in h4 (by decide) (by decide)) dX10_drive_68 ?_
        refine lv_topi (fun z32 ez32 => ?_)
        rw [hQ]
        exact W.iret (v := z32) hx hb hr (fun t ht hW => ⟨⟨z32, s29, rfl, ⟨hBs29, hFs29, (wok_of (gs29 1 (nm_1 (by decide) (nm_1 (by decide) (nm_1 (by decide) (nm_1 (by decide) nm_0))))) k28)⟩, by rw [ht]; exact hP, va_K.moved hW.alike (hK.sub (tys' := []) [] rfl), by rw [hAe]; exact hD⟩, by rw [hAe]; exact hS.F ht⟩) hS.2.2 dX10_drive_69
      · skip
        have h33 : Iv 40 40 (st 1 7) := eq_l c16 (iv_c (by decide) : Iv 40 40 40)
        refine lv_bipush (v := (-5)) hx hb dX10_drive_38 (by decide) ?_
        rw [hQ]
        exact W.iret (v := (-5)) hx hb hr (fun t ht hW => ⟨⟨(-5), s1, rfl, ⟨hBs1, hFs1, (wok_of (gs1 1 (nm_1 (by decide) (nm_1 (by decide) (nm_1 (by decide) (nm_1 (by decide) (nm_1 (by decide) nm_0)))))) hw)⟩, by rw [ht]; exact hP, va_K.moved hW.alike (hK.sub (tys' := []) [] rfl), by rw [hAe]; exact hD⟩, by rw [hAe]; exact hS.F ht⟩) hS.2.2 dX10_drive_40
  · skip
    have g34 := g9
    refine lv_if_ne (tgt := 13) hx hb dX10_drive_7 (by decide) (fun c35 => ?_) (fun c35 => ?_)
    · first | exact absurd c35 (by decide) | exact absurd (by decide) c35
    refine lv_bipush (v := (-2)) hx hb dX10_drive_10 (by decide) ?_
    rw [hQ]
    exact W.iret (v := (-2)) hx hb hr (fun t ht hW => ⟨⟨(-2), s1, rfl, ⟨hBs1, hFs1, (wok_of (gs1 1 (nm_1 (by decide) (nm_1 (by decide) (nm_1 (by decide) (nm_1 (by decide) (nm_1 (by decide) nm_0)))))) hw)⟩, by rw [ht]; exact hP, va_K.moved hW.alike (hK.sub (tys' := []) [] rfl), by rw [hAe]; exact hD⟩, by rw [hAe]; exact hS.F ht⟩) hS.2.2 dX10_drive_12
set_option maxHeartbeats 4000000 in
set_option maxRecDepth 100000 in
theorem m_X10_swap (l : Launch) (D : va_G) (k : Nat → ClassId) (a : Nat → Nat) (st : CT) (sl : CL) (p0 : Int32) (p1 : Int32) (sz : Nat) (hB : MB st)  (hw : WOK (st 1)) : Met l yX10_swap (.code yX10_swap cX10_swap 3 (some .int) :: TB) (rmw 3 0 0) (va_Pc [.ref (a 0), .int p0, .int p1] (PW D k sz (MWS k a st sl))) (QI D (S := CT) (fun r u => MB u ∧ FR [1] st u ∧ (Iv (-5) 0 r ∧ (WOK (u 1)))) (fun u => MWS k a u sl) (fun _ => []) (MWS k a st sl) sz) 0 0 (va_A (MWS k a st sl) sz) := by
  refine Met.ofW (cc := cX10_swap) (maxL := 3) (ret := (some .int)) (by decide) rfl ?_
  intro p e s m args below meth c s₁ B hml hv
  obtain ⟨rfl, hsz, hP, hK, hD0, hN⟩ := hv
  have hx := B.exec
  have hb := B.bytes
  have hr := B.returns
  have hT : ∀ w9 ∈ TB, w9.before ([.ref (a 0), .int p0, .int p1] : List Value).toArray s = true := fun w9 h => atoms_spec (ws := .code yX10_swap cX10_swap 3 (some .int) :: TB) B.pre w9 (List.mem_cons_of_mem _ h)
  have hown : s.vm.findClass RX10 = some m.cls := findClass_of_methodNamed B.named
  have S : CallFix p m c cX10_swap 3 s _ TB RX10 := ⟨hx, hb, hml, hown, hT⟩
  subst hsz
  have hD := hD0.self (sz := s.heap.size)
  generalize hAe : va_A (MWS k a st sl) s.heap.size = A at hD ⊢
  have hA : ∀ q : Nat, s.heap.size ≤ q → A q := fun q h => by rw [← hAe]; exact Or.inr h
  have hS : va_S A s.heap s.heap [] := va_S.rf
  have hl := lv_entry ([.ref (a 0), .int p0, .int p1]) (n := 3) (Nat.le_of_ble_eq_true rfl)
  rw [lg_entry_eq]
  generalize (lg_sl ([.ref (a 0), .int p0, .int p1]) ++ List.replicate (3 - (lg_sl ([.ref (a 0), .int p0, .int p1])).length) Slot.unset).toArray = ls at hl ⊢
  have hl : lv_has ls 3 [(0, .ref (a 0)), (1, .int p0), (2, .int p1)] := hl
  refine nameQ (fun Q hQ => ?_)
  refine lv_aload_n hx hb dX10_swap_0 rfl (lv_at hl 0 rfl) ?_
  refine lv_iload_n hx hb dX10_swap_1 rfl (lv_at hl 1 rfl) ?_
  refine ro_V (As := [.int p0]) (rest := []) S (m_X10_isWheel l D k a st sl  p0 _  hB  hw) lkX10_269 ok_X10_isWheel ⟨rfl, rfl, Nat.le_of_ble_eq_true rfl, Nat.le_of_ble_eq_true rfl⟩ (pw_V (ci := 10) (q0 := 0) hK hN rfl mw_0 hP (hD.weaken (fun _ _ _ _ => trivial))) rfl hl.1 rfl (Nat.le_of_ble_eq_true rfl) ⟨Nat.zero_le _, Nat.zero_le _⟩ dX10_swap_2 (fun r1 er1 => ?_)
  rcases er1 with ⟨rfl, g9⟩ | ⟨rfl, g9⟩
  · skip
    have g2 := g9
    have h3 : Iv 0 7 p0 := g2.1
    have k4 := g2.2
    refine lv_if_eq (tgt := 21) hx hb dX10_swap_5 (by decide) (fun c5 => ?_) (fun c5 => ?_)
    · first | exact absurd c5 (by decide) | exact absurd (by decide) c5
    refine lv_aload_n hx hb dX10_swap_8 rfl (lv_at hl 0 rfl) ?_
    refine lv_iload_n hx hb dX10_swap_9 rfl (lv_at hl 2 rfl) ?_
    refine ro_V (As := [.int p1]) (rest := []) S (m_X10_isWheel l D k a st sl  p1 _  hB  hw) lkX10_269 ok_X10_isWheel ⟨rfl, rfl, Nat.le_of_ble_eq_true rfl, Nat.le_of_ble_eq_true rfl⟩ (pw_V (ci := 10) (q0 := 0) hK hN rfl mw_0 hP (hD.weaken (fun _ _ _ _ => trivial))) rfl hl.1 rfl (Nat.le_of_ble_eq_true rfl) ⟨Nat.zero_le _, Nat.zero_le _⟩ dX10_swap_10 (fun r6 er6 => ?_)
    rcases er6 with ⟨rfl, g9⟩ | ⟨rfl, g9⟩
    · skip
      have g7 := g9
      have h8 : Iv 0 7 p1 := g7.1
      have k9 := g7.2
      refine lv_if_eq (tgt := 21) hx hb dX10_swap_13 (by decide) (fun c10 => ?_) (fun c10 => ?_)
      · first | exact absurd c10 (by decide) | exact absurd (by decide) c10
      refine lv_iload_n hx hb dX10_swap_16 rfl (lv_at hl 1 rfl) ?_
      refine lv_iload_n hx hb dX10_swap_17 rfl (lv_at hl 2 rfl) ?_
      refine lv_icmp_ne (tgt := 24) hx hb dX10_swap_18 (by decide) (fun c11 => ?_) (fun c11 => ?_)
      · skip
        refine lv_aload_n hx hb dX10_swap_24 rfl (lv_at hl 0 rfl) ?_
        refine va_get (D := D) (ci := 10) (v := .ref (a 1)) (C := RX10) (T := TX10) (N := 38) hx hb hT in_X10 hown hK hP 0 mw_0 rfl 1 (by decide) (hT _ t1263) (fun _ h9 => h9) rfl dX10_swap_25 ?_
        refine lv_bipush (v := 7) hx hb dX10_swap_28 (by decide) ?_
        refine va_iald hx hb hK hP 1 0 mw_1 rfl (by unfold vp_in; decide) dX10_swap_30 ?_
        refine k_top (y := (st 1 7)) rfl ?_
        have h12 : Iv 0 40 (st 1 7) := (tok_at (hw).1 7 0 40 (by decide) (by decide) (by decide))
        refine lv_bipush (v := 40) hx hb dX10_swap_31 (by decide) ?_
        refine lv_icmp_ne (tgt := 39) hx hb dX10_swap_33 (by decide) (fun c13 => ?_) (fun c13 => ?_)
        · skip
          have h14 : Iv 0 39 (st 1 7) := ne_hi h12 (show ¬ (st 1 7) = 40 from c13) (by decide) (by decide)
          refine lv_aload_n hx hb dX10_swap_39 rfl (lv_at hl 0 rfl) ?_
          refine lv_sipush (v := 200) hx hb dX10_swap_40 (by decide) ?_
          refine lv_bipush (v := 10) hx hb dX10_swap_43 (by decide) ?_
          refine lv_iload_n hx hb dX10_swap_45 rfl (lv_at hl 1 rfl) ?_
          refine lv_imul hx hb dX10_swap_46 ?_
          refine lv_topi (fun z15 ez15 => ?_)
          have h16 : Iv 0 70 z15 := iv_mull ez15 h3 (k := 10) (by decide) (by decide) (by decide) (by decide) (by decide) (by decide)
          refine lv_iadd hx hb dX10_swap_47 ?_
          refine lv_topi (fun z17 ez17 => ?_)
          have h18 : Iv 200 270 z17 := iv_add ez17 (iv_c (by decide) : Iv 200 200 200) h16 (by decide) (by decide) (by decide) (by decide)
          refine lv_iload_n hx hb dX10_swap_48 rfl (lv_at hl 2 rfl) ?_
          refine lv_iadd hx hb dX10_swap_49 ?_
          refine lv_topi (fun z19 ez19 => ?_)
          have h20 : Iv 200 277 z19 := iv_add ez19 h18 h8 (by decide) (by decide) (by decide) (by decide)
          refine ca_v hP hD hS hA (fun hDc => run_V (mc := 0) (ms := 0) (As := [.int z19]) (rest := []) S (m_X10_keepAct l D k a st sl  z19 _  hB  hw (Or.inr (Or.inl ⟨(iv_mono (c := 200) (d := 279) h20 (by decide) (by decide)), by have _vp0 := h3; have _vp1 := h8; have _c400 : (200 : Int32).toInt = 200 := rfl; have _c20 : (10 : Int32).toInt = 10 := rfl; have _ez15 := ti_mull ez15 h3 (k := 10) (by decide) (by decide) (by decide) (by decide); have _ez17 := ti_add ez17 (iv_c (by decide) : Iv 200 200 200) h16 (by decide) (by decide); have _ez19 := ti_add ez19 h18 h8 (by decide) (by decide); obtain ⟨_, _⟩ := id _vp0; obtain ⟨_, _⟩ := id _vp1; omega⟩)) h14) lkX10_294 ok_X10_keepAct ⟨rfl, rfl, Nat.le_of_ble_eq_true rfl, Nat.le_of_ble_eq_true rfl⟩ (pw_V (ci := 10) (q0 := 0) hK hN rfl mw_0 hP hDc) rfl hl.1 rfl (Nat.le_of_ble_eq_true rfl) ⟨Nat.zero_le _, Nat.zero_le _⟩ dX10_swap_50) (fun s21 H9 locs9 hs21 hP9 hD9 hS9 => ?_)
          clear hP hD hS
          have hS := hS9
          have hP := hP9
          have hD := hD9
          clear hP9 hD9 hS9
          obtain ⟨hBs21, gs21, fs21⟩ := hs21
          have hFs21 : FR [1] st s21 := fr_ca fr_rf gs21 (sub_1 (List.mem_of_getElem? (i := 0) rfl) sub_0)
          have k23 := fs21
          refine lv_iconst (v := 0) hx hb dX10_swap_53 (by decide) ?_
          rw [hQ]
          exact W.iret (v := 0) hx hb hr (fun t ht hW => ⟨⟨0, s21, rfl, ⟨hBs21, hFs21, ⟨(iv_mono (c := (-5)) (d := 0) (iv_c (by decide) : Iv 0 0 0) (by decide) (by decide)), k23⟩⟩, by rw [ht]; exact hP, va_K.moved hW.alike (hK.sub (tys' := []) [] rfl), by rw [hAe]; exact hD⟩, by rw [hAe]; exact hS.F ht⟩) hS.2.2 dX10_swap_54
        · skip
          have h24 : Iv 40 40 (st 1 7) := eq_l c13 (iv_c (by decide) : Iv 40 40 40)
          refine lv_bipush (v := (-5)) hx hb dX10_swap_36 (by decide) ?_
          rw [hQ]
          exact W.iret (v := (-5)) hx hb hr (fun t ht hW => ⟨⟨(-5), st, rfl, ⟨hB, fr_rf, ⟨(iv_mono (c := (-5)) (d := 0) (iv_c (by decide) : Iv (-5) (-5) (-5)) (by decide) (by decide)), hw⟩⟩, by rw [ht]; exact hP, va_K.moved hW.alike (hK.sub (tys' := []) [] rfl), by rw [hAe]; exact hD⟩, by rw [hAe]; exact hS.F ht⟩) hS.2.2 dX10_swap_38
      · skip
        refine lv_bipush (v := (-2)) hx hb dX10_swap_21 (by decide) ?_
        rw [hQ]
        exact W.iret (v := (-2)) hx hb hr (fun t ht hW => ⟨⟨(-2), st, rfl, ⟨hB, fr_rf, ⟨(iv_mono (c := (-5)) (d := 0) (iv_c (by decide) : Iv (-2) (-2) (-2)) (by decide) (by decide)), hw⟩⟩, by rw [ht]; exact hP, va_K.moved hW.alike (hK.sub (tys' := []) [] rfl), by rw [hAe]; exact hD⟩, by rw [hAe]; exact hS.F ht⟩) hS.2.2 dX10_swap_23
    · skip
      have g25 := g9
      refine lv_if_eq (tgt := 21) hx hb dX10_swap_13 (by decide) (fun c26 => ?_) (fun c26 => ?_)
      rotate_left
      · first | exact absurd c26 (by decide) | exact absurd (by decide) c26
      refine lv_bipush (v := (-2)) hx hb dX10_swap_21 (by decide) ?_
      rw [hQ]
      exact W.iret (v := (-2)) hx hb hr (fun t ht hW => ⟨⟨(-2), st, rfl, ⟨hB, fr_rf, ⟨(iv_mono (c := (-5)) (d := 0) (iv_c (by decide) : Iv (-2) (-2) (-2)) (by decide) (by decide)), hw⟩⟩, by rw [ht]; exact hP, va_K.moved hW.alike (hK.sub (tys' := []) [] rfl), by rw [hAe]; exact hD⟩, by rw [hAe]; exact hS.F ht⟩) hS.2.2 dX10_swap_23
  · skip
    have g27 := g9
    refine lv_if_eq (tgt := 21) hx hb dX10_swap_5 (by decide) (fun c28 => ?_) (fun c28 => ?_)
    rotate_left
    · first | exact absurd c28 (by decide) | exact absurd (by decide) c28
    refine lv_bipush (v := (-2)) hx hb dX10_swap_21 (by decide) ?_
    rw [hQ]
    exact W.iret (v := (-2)) hx hb hr (fun t ht hW => ⟨⟨(-2), st, rfl, ⟨hB, fr_rf, ⟨(iv_mono (c := (-5)) (d := 0) (iv_c (by decide) : Iv (-2) (-2) (-2)) (by decide) (by decide)), hw⟩⟩, by rw [ht]; exact hP, va_K.moved hW.alike (hK.sub (tys' := []) [] rfl), by rw [hAe]; exact hD⟩, by rw [hAe]; exact hS.F ht⟩) hS.2.2 dX10_swap_23
set_option maxHeartbeats 4000000 in
set_option maxRecDepth 100000 in
theorem m_X10_grease (l : Launch) (D : va_G) (k : Nat → ClassId) (a : Nat → Nat) (st : CT) (sl : CL) (p0 : Int32) (sz : Nat) (hB : MB st)  (hw : WOK (st 1)) : Met l yX10_grease (.code yX10_grease cX10_grease 2 (some .int) :: TB) (rmw 8 0 0) (va_Pc [.ref (a 0), .int p0] (PW D k sz (MWS k a st sl))) (QI D (S := CT) (fun r u => MB u ∧ FR [7, 9, 8, 10, 11, 1] st u ∧ ((WOK (u 1)))) (fun u => MWS k a u sl) (fun _ => []) (MWS k a st sl) sz) 0 0 (va_A (MWS k a st sl) sz) := by
  refine Met.ofW (cc := cX10_grease) (maxL := 2) (ret := (some .int)) (by decide) rfl ?_
  intro p e s m args below meth c s₁ B hml hv
  obtain ⟨rfl, hsz, hP, hK, hD0, hN⟩ := hv
  have hx := B.exec
  have hb := B.bytes
  have hr := B.returns
  have hT : ∀ w9 ∈ TB, w9.before ([.ref (a 0), .int p0] : List Value).toArray s = true := fun w9 h => atoms_spec (ws := .code yX10_grease cX10_grease 2 (some .int) :: TB) B.pre w9 (List.mem_cons_of_mem _ h)
  have hown : s.vm.findClass RX10 = some m.cls := findClass_of_methodNamed B.named
  have S : CallFix p m c cX10_grease 2 s _ TB RX10 := ⟨hx, hb, hml, hown, hT⟩
  subst hsz
  have hD := hD0.self (sz := s.heap.size)
  generalize hAe : va_A (MWS k a st sl) s.heap.size = A at hD ⊢
  have hA : ∀ q : Nat, s.heap.size ≤ q → A q := fun q h => by rw [← hAe]; exact Or.inr h
  have hS : va_S A s.heap s.heap [] := va_S.rf
  have hl := lv_entry ([.ref (a 0), .int p0]) (n := 2) (Nat.le_of_ble_eq_true rfl)
  rw [lg_entry_eq]
  generalize (lg_sl ([.ref (a 0), .int p0]) ++ List.replicate (2 - (lg_sl ([.ref (a 0), .int p0])).length) Slot.unset).toArray = ls at hl ⊢
  have hl : lv_has ls 2 [(0, .ref (a 0)), (1, .int p0)] := hl
  refine nameQ (fun Q hQ => ?_)
  refine lv_aload_n hx hb dX10_grease_0 rfl (lv_at hl 0 rfl) ?_
  refine lv_iload_n hx hb dX10_grease_1 rfl (lv_at hl 1 rfl) ?_
  refine ro_V (As := [.int p0]) (rest := []) S (m_X10_isWheel l D k a st sl  p0 _  hB  hw) lkX10_269 ok_X10_isWheel ⟨rfl, rfl, Nat.le_of_ble_eq_true rfl, Nat.le_of_ble_eq_true rfl⟩ (pw_V (ci := 10) (q0 := 0) hK hN rfl mw_0 hP (hD.weaken (fun _ _ _ _ => trivial))) rfl hl.1 rfl (Nat.le_of_ble_eq_true rfl) ⟨Nat.zero_le _, Nat.zero_le _⟩ dX10_grease_2 (fun r1 er1 => ?_)
  rcases er1 with ⟨rfl, g9⟩ | ⟨rfl, g9⟩
  · skip
    have g2 := g9
    have h3 : Iv 0 7 p0 := g2.1
    have k4 := g2.2
    refine lv_if_ne (tgt := 11) hx hb dX10_grease_5 (by decide) (fun c5 => ?_) (fun c5 => ?_)
    rotate_left
    · first | exact absurd c5 (by decide) | exact absurd (by decide) c5
    refine lv_aload_n hx hb dX10_grease_11 rfl (lv_at hl 0 rfl) ?_
    refine va_get (D := D) (ci := 10) (v := .ref (a 1)) (C := RX10) (T := TX10) (N := 38) hx hb hT in_X10 hown hK hP 0 mw_0 rfl 1 (by decide) (hT _ t1263) (fun _ h9 => h9) rfl dX10_grease_12 ?_
    refine lv_bipush (v := 7) hx hb dX10_grease_15 (by decide) ?_
    refine va_iald hx hb hK hP 1 0 mw_1 rfl (by unfold vp_in; decide) dX10_grease_17 ?_
    refine k_top (y := (st 1 7)) rfl ?_
    have h6 : Iv 0 40 (st 1 7) := (tok_at (hw).1 7 0 40 (by decide) (by decide) (by decide))
    refine lv_bipush (v := 40) hx hb dX10_grease_18 (by decide) ?_
    refine lv_icmp_ne (tgt := 26) hx hb dX10_grease_20 (by decide) (fun c7 => ?_) (fun c7 => ?_)
    · skip
      have h8 : Iv 0 39 (st 1 7) := ne_hi h6 (show ¬ (st 1 7) = 40 from c7) (by decide) (by decide)
      refine lv_aload_n hx hb dX10_grease_26 rfl (lv_at hl 0 rfl) ?_
      refine ca_v hP hD hS hA (fun hDc => run_V (mc := 0) (ms := 0) (As := []) (rest := []) S (m_X10_asItIs l D k a st sl   _  hB  hw) lkX10_273 ok_X10_asItIs ⟨rfl, rfl, Nat.le_of_ble_eq_true rfl, Nat.le_of_ble_eq_true rfl⟩ (pw_V (ci := 10) (q0 := 0) hK hN rfl mw_0 hP hDc) rfl hl.1 rfl (Nat.le_of_ble_eq_true rfl) ⟨Nat.zero_le _, Nat.zero_le _⟩ dX10_grease_27) (fun s9 H9 locs9 hs9 hP9 hD9 hS9 => ?_)
      clear hP hD hS
      have hS := hS9
      have hP := hP9
      have hD := hD9
      clear hP9 hD9 hS9
      obtain ⟨hBs9, gs9, fs9⟩ := hs9
      have hFs9 : FR [7, 9, 8, 10, 11, 1] st s9 := fr_ca fr_rf gs9 (sub_1 (List.mem_of_getElem? (i := 0) rfl) (sub_1 (List.mem_of_getElem? (i := 1) rfl) (sub_1 (List.mem_of_getElem? (i := 2) rfl) (sub_1 (List.mem_of_getElem? (i := 3) rfl) (sub_1 (List.mem_of_getElem? (i := 4) rfl) sub_0)))))
      refine lv_aload_n hx hb dX10_grease_30 rfl (lv_at hl 0 rfl) ?_
      refine lv_sipush (v := 300) hx hb dX10_grease_31 (by decide) ?_
      refine lv_iload_n hx hb dX10_grease_34 rfl (lv_at hl 1 rfl) ?_
      refine lv_iadd hx hb dX10_grease_35 ?_
      refine lv_topi (fun z11 ez11 => ?_)
      have h12 : Iv 300 307 z11 := iv_add ez11 (iv_c (by decide) : Iv 300 300 300) h3 (by decide) (by decide) (by decide) (by decide)
      refine ca_v hP hD hS hA (fun hDc => run_V (mc := 0) (ms := 0) (As := [.int z11]) (rest := []) S (m_X10_keepAct l D k a s9 sl  z11 _  hBs9  (wok_of (gs9 1 (nm_1 (by decide) (nm_1 (by decide) (nm_1 (by decide) (nm_1 (by decide) (nm_1 (by decide) nm_0)))))) hw) (Or.inr (Or.inr h12)) (eq_l (congrFun (gs9 1 (nm_1 (by decide) (nm_1 (by decide) (nm_1 (by decide) (nm_1 (by decide) (nm_1 (by decide) nm_0)))))) 7) h8)) lkX10_294 ok_X10_keepAct ⟨rfl, rfl, Nat.le_of_ble_eq_true rfl, Nat.le_of_ble_eq_true rfl⟩ (pw_V (ci := 10) (q0 := 0) hK hN rfl mw_0 hP hDc) rfl hl.1 rfl (Nat.le_of_ble_eq_true rfl) ⟨Nat.zero_le _, Nat.zero_le _⟩ dX10_grease_36) (fun s13 H9 locs9 hs13 hP9 hD9 hS9 => ?_)
      clear hP hD hS
      have hS := hS9
      have hP := hP9
      have hD := hD9
      clear hP9 hD9 hS9
      obtain ⟨hBs13, gs13, fs13⟩ := hs13
      have hFs13 : FR [7, 9, 8, 10, 11, 1] st s13 := fr_ca hFs9 gs13 (sub_1 (List.mem_of_getElem? (i := 5) rfl) sub_0)
      have k15 := fs13
      refine lv_aload_n hx hb dX10_grease_39 rfl (lv_at hl 0 rfl) ?_
      refine lv_iload_n hx hb dX10_grease_40 rfl (lv_at hl 1 rfl) ?_
      refine ro_V (As := [.int p0]) (rest := []) S (m_X10_likedOf l D k a s13 sl  p0 _  hBs13 h3 ) lkX10_276 ok_X10_likedOf ⟨rfl, rfl, Nat.le_of_ble_eq_true rfl, Nat.le_of_ble_eq_true rfl⟩ (pw_V (ci := 10) (q0 := 0) hK hN rfl mw_0 hP (hD.weaken (fun _ _ _ _ => trivial))) rfl hl.1 rfl (Nat.le_of_ble_eq_true rfl) ⟨Nat.zero_le _, Nat.zero_le _⟩ dX10_grease_41 (fun r16 er16 => ?_)
      rw [hQ]
      exact W.iret (v := r16) hx hb hr (fun t ht hW => ⟨⟨r16, s13, rfl, ⟨hBs13, hFs13, k15⟩, by rw [ht]; exact hP, va_K.moved hW.alike (hK.sub (tys' := []) [] rfl), by rw [hAe]; exact hD⟩, by rw [hAe]; exact hS.F ht⟩) hS.2.2 dX10_grease_44
    · skip
      have h17 : Iv 40 40 (st 1 7) := eq_l c7 (iv_c (by decide) : Iv 40 40 40)
      refine lv_bipush (v := (-5)) hx hb dX10_grease_23 (by decide) ?_
      rw [hQ]
      exact W.iret (v := (-5)) hx hb hr (fun t ht hW => ⟨⟨(-5), st, rfl, ⟨hB, fr_rf, hw⟩, by rw [ht]; exact hP, va_K.moved hW.alike (hK.sub (tys' := []) [] rfl), by rw [hAe]; exact hD⟩, by rw [hAe]; exact hS.F ht⟩) hS.2.2 dX10_grease_25
  · skip
    have g18 := g9
    refine lv_if_ne (tgt := 11) hx hb dX10_grease_5 (by decide) (fun c19 => ?_) (fun c19 => ?_)
    · first | exact absurd c19 (by decide) | exact absurd (by decide) c19
    refine lv_bipush (v := (-2)) hx hb dX10_grease_8 (by decide) ?_
    rw [hQ]
    exact W.iret (v := (-2)) hx hb hr (fun t ht hW => ⟨⟨(-2), st, rfl, ⟨hB, fr_rf, hw⟩, by rw [ht]; exact hP, va_K.moved hW.alike (hK.sub (tys' := []) [] rfl), by rw [hAe]; exact hD⟩, by rw [hAe]; exact hS.F ht⟩) hS.2.2 dX10_grease_10
set_option maxHeartbeats 4000000 in
set_option maxRecDepth 100000 in
theorem m_X10_undo (l : Launch) (D : va_G) (k : Nat → ClassId) (a : Nat → Nat) (st : CT) (sl : CL) (sz : Nat) (hB : MB st)  (hw : WOK (st 1)) : Met l yX10_undo (.code yX10_undo cX10_undo 1 (some .int) :: TB) (rmw 2 0 0) (va_Pc [.ref (a 0)] (PW D k sz (MWS k a st sl))) (QI D (S := CT) (fun r u => MB u ∧ FR [1] st u ∧ ((WOK (u 1)))) (fun u => MWS k a u sl) (fun _ => []) (MWS k a st sl) sz) 0 0 (va_A (MWS k a st sl) sz) := by
  refine Met.ofW (cc := cX10_undo) (maxL := 1) (ret := (some .int)) (by decide) rfl ?_
  intro p e s m args below meth c s₁ B hml hv
  obtain ⟨rfl, hsz, hP, hK, hD0, hN⟩ := hv
  have hx := B.exec
  have hb := B.bytes
  have hr := B.returns
  have hT : ∀ w9 ∈ TB, w9.before ([.ref (a 0)] : List Value).toArray s = true := fun w9 h => atoms_spec (ws := .code yX10_undo cX10_undo 1 (some .int) :: TB) B.pre w9 (List.mem_cons_of_mem _ h)
  have hown : s.vm.findClass RX10 = some m.cls := findClass_of_methodNamed B.named
  have S : CallFix p m c cX10_undo 1 s _ TB RX10 := ⟨hx, hb, hml, hown, hT⟩
  subst hsz
  have hD := hD0.self (sz := s.heap.size)
  generalize hAe : va_A (MWS k a st sl) s.heap.size = A at hD ⊢
  have hA : ∀ q : Nat, s.heap.size ≤ q → A q := fun q h => by rw [← hAe]; exact Or.inr h
  have hS : va_S A s.heap s.heap [] := va_S.rf
  have hl := lv_entry ([.ref (a 0)]) (n := 1) (Nat.le_of_ble_eq_true rfl)
  rw [lg_entry_eq]
  generalize (lg_sl ([.ref (a 0)]) ++ List.replicate (1 - (lg_sl ([.ref (a 0)])).length) Slot.unset).toArray = ls at hl ⊢
  have hl : lv_has ls 1 [(0, .ref (a 0))] := hl
  refine nameQ (fun Q hQ => ?_)
  refine lv_aload_n hx hb dX10_undo_0 rfl (lv_at hl 0 rfl) ?_
  refine ro_V (As := []) (rest := []) S (m_X10_isLand l D k a st sl   _  hB  hw) lkX10_297 ok_X10_isLand ⟨rfl, rfl, Nat.le_of_ble_eq_true rfl, Nat.le_of_ble_eq_true rfl⟩ (pw_V (ci := 10) (q0 := 0) hK hN rfl mw_0 hP (hD.weaken (fun _ _ _ _ => trivial))) rfl hl.1 rfl (Nat.le_of_ble_eq_true rfl) ⟨Nat.zero_le _, Nat.zero_le _⟩ dX10_undo_1 (fun r1 er1 => ?_)
  rcases er1 with ⟨rfl, g9⟩ | ⟨rfl, g9⟩
  · skip
    have g2 := g9
    refine lv_if_ne (tgt := 10) hx hb dX10_undo_4 (by decide) (fun c3 => ?_) (fun c3 => ?_)
    rotate_left
    · first | exact absurd c3 (by decide) | exact absurd (by decide) c3
    refine lv_aload_n hx hb dX10_undo_10 rfl (lv_at hl 0 rfl) ?_
    refine va_get (D := D) (ci := 10) (v := .ref (a 1)) (C := RX10) (T := TX10) (N := 38) hx hb hT in_X10 hown hK hP 0 mw_0 rfl 1 (by decide) (hT _ t1263) (fun _ h9 => h9) rfl dX10_undo_11 ?_
    refine lv_bipush (v := 7) hx hb dX10_undo_14 (by decide) ?_
    refine va_iald hx hb hK hP 1 0 mw_1 rfl (by unfold vp_in; decide) dX10_undo_16 ?_
    refine k_top (y := (st 1 7)) rfl ?_
    have h4 : Iv 0 40 (st 1 7) := (tok_at (hw).1 7 0 40 (by decide) (by decide) (by decide))
    refine lv_if_ne (tgt := 23) hx hb dX10_undo_17 (by decide) (fun c5 => ?_) (fun c5 => ?_)
    · skip
      have h6 : Iv 1 40 (st 1 7) := ne_lo h4 (show ¬ (st 1 7) = 0 from c5) (by decide) (by decide)
      refine lv_aload_n hx hb dX10_undo_23 rfl (lv_at hl 0 rfl) ?_
      refine va_get (D := D) (ci := 10) (v := .ref (a 1)) (C := RX10) (T := TX10) (N := 38) hx hb hT in_X10 hown hK hP 0 mw_0 rfl 1 (by decide) (hT _ t1263) (fun _ h9 => h9) rfl dX10_undo_24 ?_
      refine lv_bipush (v := 7) hx hb dX10_undo_27 (by decide) ?_
      refine lv_dup2_11 hx hb dX10_undo_29 rfl rfl ?_
      refine va_iald hx hb hK hP 1 0 mw_1 rfl (by unfold vp_in; decide) dX10_undo_30 ?_
      refine k_top (y := (st 1 7)) rfl ?_
      refine lv_iconst (v := 1) hx hb dX10_undo_31 (by decide) ?_
      refine lv_isub hx hb dX10_undo_32 ?_
      refine lv_topi (fun z7 ez7 => ?_)
      have h8 : Iv 0 39 z7 := iv_sub ez7 h6 (iv_c (by decide) : Iv 1 1 1) (by decide) (by decide) (by decide) (by decide)
      refine c_ist hx hb hK hP hD hS mw_1 ms_1 (by unfold vp_in; decide) dX10_undo_33 (fun s9 H9 locs9 es9 hP9 hD9 hS9 => ?_)
      clear hP hD hS
      have hS := hS9
      have hP := hP9
      have hD := hD9
      clear hP9 hD9 hS9
      have hBs9 : MB s9 := by rw [es9]; exact mb_sw hB trivial
      have hFs9 : FR [1] st s9 := fr_sw fr_rf (List.mem_of_getElem? (i := 0) rfl) es9
      have k10 : WOK (s9 1) := (wok_less hw (h8).1 (by have _c2 : (1 : Int32).toInt = 1 := rfl; have _ez7 := ti_sub ez7 h6 (iv_c (by decide) : Iv 1 1 1) (by decide) (by decide); obtain ⟨_, _⟩ := id (h6); omega) (sw_it es9))
      refine lv_aload_n hx hb dX10_undo_34 rfl (lv_at hl 0 rfl) ?_
      refine va_get (D := D) (ci := 10) (v := .ref (a 1)) (C := RX10) (T := TX10) (N := 38) hx hb hT in_X10 hown hK hP 0 mw_0 rfl 1 (by decide) (hT _ t1263) (fun _ h9 => h9) rfl dX10_undo_35 ?_
      refine lv_bipush (v := 7) hx hb dX10_undo_38 (by decide) ?_
      refine va_iald hx hb hK hP 1 0 mw_1 rfl (by unfold vp_in; decide) dX10_undo_40 ?_
      refine k_top (y := (s9 1 7)) rfl ?_
      have h11 : Iv 0 40 (s9 1 7) := (tok_at (k10).1 7 0 40 (by decide) (by decide) (by decide))
      rw [hQ]
      exact W.iret (v := (s9 1 7)) hx hb hr (fun t ht hW => ⟨⟨(s9 1 7), s9, rfl, ⟨hBs9, hFs9, k10⟩, by rw [ht]; exact hP, va_K.moved hW.alike (hK.sub (tys' := []) [] rfl), by rw [hAe]; exact hD⟩, by rw [hAe]; exact hS.F ht⟩) hS.2.2 dX10_undo_41
    · skip
      have h12 : Iv 0 0 (st 1 7) := eq_l c5 (iv_c (by decide) : Iv 0 0 0)
      refine lv_bipush (v := (-5)) hx hb dX10_undo_20 (by decide) ?_
      rw [hQ]
      exact W.iret (v := (-5)) hx hb hr (fun t ht hW => ⟨⟨(-5), st, rfl, ⟨hB, fr_rf, hw⟩, by rw [ht]; exact hP, va_K.moved hW.alike (hK.sub (tys' := []) [] rfl), by rw [hAe]; exact hD⟩, by rw [hAe]; exact hS.F ht⟩) hS.2.2 dX10_undo_22
  · skip
    have g13 := g9
    refine lv_if_ne (tgt := 10) hx hb dX10_undo_4 (by decide) (fun c14 => ?_) (fun c14 => ?_)
    · first | exact absurd c14 (by decide) | exact absurd (by decide) c14
    refine lv_bipush (v := (-2)) hx hb dX10_undo_7 (by decide) ?_
    rw [hQ]
    exact W.iret (v := (-2)) hx hb hr (fun t ht hW => ⟨⟨(-2), st, rfl, ⟨hB, fr_rf, hw⟩, by rw [ht]; exact hP, va_K.moved hW.alike (hK.sub (tys' := []) [] rfl), by rw [hAe]; exact hD⟩, by rw [hAe]; exact hS.F ht⟩) hS.2.2 dX10_undo_9
set_option maxHeartbeats 4000000 in
set_option maxRecDepth 100000 in
theorem m_X10_anew (l : Launch) (D : va_G) (k : Nat → ClassId) (a : Nat → Nat) (st : CT) (sl : CL) (sz : Nat) (hB : MB st)  (hw : WOK (st 1)) : Met l yX10_anew (.code yX10_anew cX10_anew 2 (some .int) :: TB) (rmw 2 0 0) (va_Pc [.ref (a 0)] (PW D k sz (MWS k a st sl))) (QI D (S := CT) (fun r u => MB u ∧ FR [1] st u ∧ (Iv (-2) 40 r ∧ (WOK (u 1)))) (fun u => MWS k a u sl) (fun _ => []) (MWS k a st sl) sz) 0 0 (va_A (MWS k a st sl) sz) := by
  refine Met.ofW (cc := cX10_anew) (maxL := 2) (ret := (some .int)) (by decide) rfl ?_
  intro p e s m args below meth c s₁ B hml hv
  obtain ⟨rfl, hsz, hP, hK, hD0, hN⟩ := hv
  have hx := B.exec
  have hb := B.bytes
  have hr := B.returns
  have hT : ∀ w9 ∈ TB, w9.before ([.ref (a 0)] : List Value).toArray s = true := fun w9 h => atoms_spec (ws := .code yX10_anew cX10_anew 2 (some .int) :: TB) B.pre w9 (List.mem_cons_of_mem _ h)
  have hown : s.vm.findClass RX10 = some m.cls := findClass_of_methodNamed B.named
  have S : CallFix p m c cX10_anew 2 s _ TB RX10 := ⟨hx, hb, hml, hown, hT⟩
  subst hsz
  have hD := hD0.self (sz := s.heap.size)
  generalize hAe : va_A (MWS k a st sl) s.heap.size = A at hD ⊢
  have hA : ∀ q : Nat, s.heap.size ≤ q → A q := fun q h => by rw [← hAe]; exact Or.inr h
  have hS : va_S A s.heap s.heap [] := va_S.rf
  have hl := lv_entry ([.ref (a 0)]) (n := 2) (Nat.le_of_ble_eq_true rfl)
  rw [lg_entry_eq]
  generalize (lg_sl ([.ref (a 0)]) ++ List.replicate (2 - (lg_sl ([.ref (a 0)])).length) Slot.unset).toArray = ls at hl ⊢
  have hl : lv_has ls 2 [(0, .ref (a 0))] := hl
  refine nameQ (fun Q hQ => ?_)
  refine lv_aload_n hx hb dX10_anew_0 rfl (lv_at hl 0 rfl) ?_
  refine ro_V (As := []) (rest := []) S (m_X10_isLand l D k a st sl   _  hB  hw) lkX10_297 ok_X10_isLand ⟨rfl, rfl, Nat.le_of_ble_eq_true rfl, Nat.le_of_ble_eq_true rfl⟩ (pw_V (ci := 10) (q0 := 0) hK hN rfl mw_0 hP (hD.weaken (fun _ _ _ _ => trivial))) rfl hl.1 rfl (Nat.le_of_ble_eq_true rfl) ⟨Nat.zero_le _, Nat.zero_le _⟩ dX10_anew_1 (fun r1 er1 => ?_)
  rcases er1 with ⟨rfl, g9⟩ | ⟨rfl, g9⟩
  · skip
    have g2 := g9
    refine lv_if_ne (tgt := 10) hx hb dX10_anew_4 (by decide) (fun c3 => ?_) (fun c3 => ?_)
    rotate_left
    · first | exact absurd c3 (by decide) | exact absurd (by decide) c3
    refine lv_aload_n hx hb dX10_anew_10 rfl (lv_at hl 0 rfl) ?_
    refine va_get (D := D) (ci := 10) (v := .ref (a 1)) (C := RX10) (T := TX10) (N := 38) hx hb hT in_X10 hown hK hP 0 mw_0 rfl 1 (by decide) (hT _ t1263) (fun _ h9 => h9) rfl dX10_anew_11 ?_
    refine lv_bipush (v := 7) hx hb dX10_anew_14 (by decide) ?_
    refine va_iald hx hb hK hP 1 0 mw_1 rfl (by unfold vp_in; decide) dX10_anew_16 ?_
    refine k_top (y := (st 1 7)) rfl ?_
    have h4 : Iv 0 40 (st 1 7) := (tok_at (hw).1 7 0 40 (by decide) (by decide) (by decide))
    refine lv_istore_n (lv' := [(1, .int (st 1 7)), (0, .ref (a 0))]) hx hb dX10_anew_17 rfl hl (by decide) rfl (fun ls hl => ?_)
    refine lv_aload_n hx hb dX10_anew_18 rfl (lv_at hl 1 rfl) ?_
    refine va_get (D := D) (ci := 10) (v := .ref (a 1)) (C := RX10) (T := TX10) (N := 38) hx hb hT in_X10 hown hK hP 0 mw_0 rfl 1 (by decide) (hT _ t1263) (fun _ h9 => h9) rfl dX10_anew_19 ?_
    refine lv_bipush (v := 7) hx hb dX10_anew_22 (by decide) ?_
    refine lv_iconst (v := 0) hx hb dX10_anew_24 (by decide) ?_
    refine c_ist hx hb hK hP hD hS mw_1 ms_1 (by unfold vp_in; decide) dX10_anew_25 (fun s5 H9 locs9 es5 hP9 hD9 hS9 => ?_)
    clear hP hD hS
    have hS := hS9
    have hP := hP9
    have hD := hD9
    clear hP9 hD9 hS9
    have hBs5 : MB s5 := by rw [es5]; exact mb_sw hB trivial
    have hFs5 : FR [1] st s5 := fr_sw fr_rf (List.mem_of_getElem? (i := 0) rfl) es5
    have k6 : WOK (s5 1) := (wok_less hw (by decide) (Int.le_trans (by decide) (tok_at (hw).1 7 0 40 (by decide) (by decide) (by decide)).1) (sw_it es5))
    refine lv_iload_n hx hb dX10_anew_26 rfl (lv_at hl 0 rfl) ?_
    rw [hQ]
    exact W.iret (v := (st 1 7)) hx hb hr (fun t ht hW => ⟨⟨(st 1 7), s5, rfl, ⟨hBs5, hFs5, ⟨(iv_mono (c := (-2)) (d := 40) h4 (by decide) (by decide)), k6⟩⟩, by rw [ht]; exact hP, va_K.moved hW.alike (hK.sub (tys' := []) [] rfl), by rw [hAe]; exact hD⟩, by rw [hAe]; exact hS.F ht⟩) hS.2.2 dX10_anew_27
  · skip
    have g7 := g9
    refine lv_if_ne (tgt := 10) hx hb dX10_anew_4 (by decide) (fun c8 => ?_) (fun c8 => ?_)
    · first | exact absurd c8 (by decide) | exact absurd (by decide) c8
    refine lv_bipush (v := (-2)) hx hb dX10_anew_7 (by decide) ?_
    rw [hQ]
    exact W.iret (v := (-2)) hx hb hr (fun t ht hW => ⟨⟨(-2), st, rfl, ⟨hB, fr_rf, ⟨(iv_mono (c := (-2)) (d := 40) (iv_c (by decide) : Iv (-2) (-2) (-2)) (by decide) (by decide)), hw⟩⟩, by rw [ht]; exact hP, va_K.moved hW.alike (hK.sub (tys' := []) [] rfl), by rw [hAe]; exact hD⟩, by rw [hAe]; exact hS.F ht⟩) hS.2.2 dX10_anew_9
set_option maxHeartbeats 4000000 in
set_option maxRecDepth 100000 in
theorem m_X10_tell (l : Launch) (D : va_G) (k : Nat → ClassId) (a : Nat → Nat) (st : CT) (sl : CL) (p0 : Int32) (p1 : Int32) (p2 : Int32) (sz : Nat) (hB : MB st)  (hw : WOK (st 1)) : Met l yX10_tell (.code yX10_tell cX10_tell 6 (some .int) :: TB) (rmw 3 0 0) (va_Pc [.ref (a 0), .int p0, .int p1, .int p2] (PW D k sz (MWS k a st sl))) (QI D (S := CT) (fun r u => MB u ∧ FR [1] st u ∧ ((WOK (u 1)))) (fun u => MWS k a u sl) (fun _ => []) (MWS k a st sl) sz) 0 0 (va_A (MWS k a st sl) sz) := by
  refine Met.ofW (cc := cX10_tell) (maxL := 6) (ret := (some .int)) (by decide) rfl ?_
  intro p e s m args below meth c s₁ B hml hv
  obtain ⟨rfl, hsz, hP, hK, hD0, hN⟩ := hv
  have hx := B.exec
  have hb := B.bytes
  have hr := B.returns
  have hT : ∀ w9 ∈ TB, w9.before ([.ref (a 0), .int p0, .int p1, .int p2] : List Value).toArray s = true := fun w9 h => atoms_spec (ws := .code yX10_tell cX10_tell 6 (some .int) :: TB) B.pre w9 (List.mem_cons_of_mem _ h)
  have hown : s.vm.findClass RX10 = some m.cls := findClass_of_methodNamed B.named
  have S : CallFix p m c cX10_tell 6 s _ TB RX10 := ⟨hx, hb, hml, hown, hT⟩
  subst hsz
  have hD := hD0.self (sz := s.heap.size)
  generalize hAe : va_A (MWS k a st sl) s.heap.size = A at hD ⊢
  have hA : ∀ q : Nat, s.heap.size ≤ q → A q := fun q h => by rw [← hAe]; exact Or.inr h
  have hS : va_S A s.heap s.heap [] := va_S.rf
  have hl := lv_entry ([.ref (a 0), .int p0, .int p1, .int p2]) (n := 6) (Nat.le_of_ble_eq_true rfl)
  rw [lg_entry_eq]
  generalize (lg_sl ([.ref (a 0), .int p0, .int p1, .int p2]) ++ List.replicate (6 - (lg_sl ([.ref (a 0), .int p0, .int p1, .int p2])).length) Slot.unset).toArray = ls at hl ⊢
  have hl : lv_has ls 6 [(0, .ref (a 0)), (1, .int p0), (2, .int p1), (3, .int p2)] := hl
  refine nameQ (fun Q hQ => ?_)
  refine lv_aload_n hx hb dX10_tell_0 rfl (lv_at hl 0 rfl) ?_
  refine lv_iload_n hx hb dX10_tell_1 rfl (lv_at hl 1 rfl) ?_
  refine ro_V (As := [.int p0]) (rest := []) S (m_X10_isWheel l D k a st sl  p0 _  hB  hw) lkX10_269 ok_X10_isWheel ⟨rfl, rfl, Nat.le_of_ble_eq_true rfl, Nat.le_of_ble_eq_true rfl⟩ (pw_V (ci := 10) (q0 := 0) hK hN rfl mw_0 hP (hD.weaken (fun _ _ _ _ => trivial))) rfl hl.1 rfl (Nat.le_of_ble_eq_true rfl) ⟨Nat.zero_le _, Nat.zero_le _⟩ dX10_tell_2 (fun r1 er1 => ?_)
  rcases er1 with ⟨rfl, g9⟩ | ⟨rfl, g9⟩
  · skip
    have g2 := g9
    have h3 : Iv 0 7 p0 := g2.1
    have k4 := g2.2
    refine lv_if_eq (tgt := 29) hx hb dX10_tell_5 (by decide) (fun c5 => ?_) (fun c5 => ?_)
    · first | exact absurd c5 (by decide) | exact absurd (by decide) c5
    refine lv_aload_n hx hb dX10_tell_8 rfl (lv_at hl 0 rfl) ?_
    refine lv_iload_n hx hb dX10_tell_9 rfl (lv_at hl 2 rfl) ?_
    refine lv_i2l hx hb dX10_tell_10 rfl ?_
    refine ro_V (As := [.long (p1.toInt64)]) (rest := []) S (m_X10_isRoad l D k a st sl  (p1.toInt64) _  hB  hw) lkX10_265 ok_X10_isRoad ⟨rfl, rfl, Nat.le_of_ble_eq_true rfl, Nat.le_of_ble_eq_true rfl⟩ (pw_V (ci := 10) (q0 := 0) hK hN rfl mw_0 hP (hD.weaken (fun _ _ _ _ => trivial))) rfl hl.1 rfl (Nat.le_of_ble_eq_true rfl) ⟨Nat.zero_le _, Nat.zero_le _⟩ dX10_tell_11 (fun r6 er6 => ?_)
    rcases er6 with ⟨rfl, g9⟩ | ⟨rfl, g9⟩
    · skip
      have g7 := g9
      have h8 : (0 : Int) ≤ (p1.toInt64).toInt ∧ (p1.toInt64).toInt ≤ (7 : Int) := ⟨(g7).1, (g7).2⟩
      have h9 : Iv 0 7 p1 := iv_lv h8
      refine lv_if_eq (tgt := 29) hx hb dX10_tell_14 (by decide) (fun c10 => ?_) (fun c10 => ?_)
      · first | exact absurd c10 (by decide) | exact absurd (by decide) c10
      refine lv_iload_n hx hb dX10_tell_17 rfl (lv_at hl 3 rfl) ?_
      refine lv_i2l hx hb dX10_tell_18 rfl ?_
      refine lv_lconst (v := 0) hx hb dX10_tell_19 (by decide) ?_
      refine lv_ldc2 (v := 9) hx hb hown (hT _ t1918) dX10_tell_20 ?_
      refine ro_S (As := [.long (p2.toInt64), .long 0, .long 9]) (rest := []) S (m_X10_in l D k a st sl  (p2.toInt64) 0 9 _  hB  ) lkX10_85 ok_X10_in ⟨rfl, rfl, Nat.le_of_ble_eq_true rfl, Nat.le_of_ble_eq_true rfl⟩ (pw_S hK hN hP (hD.weaken (fun _ _ _ _ => trivial))) rfl hl.1 rfl (Nat.le_of_ble_eq_true rfl) ⟨Nat.zero_le _, Nat.zero_le _⟩ dX10_tell_23 (fun r11 er11 => ?_)
      rcases er11 with ⟨rfl, g9⟩ | ⟨rfl, g9⟩
      · skip
        have g12 := g9
        have k13 := g12
        have h14 : (0 : Int) ≤ (p2.toInt64).toInt ∧ (p2.toInt64).toInt ≤ (9 : Int) := ⟨((show (0 : Int) ≤ (p2.toInt64).toInt ∧ (p2.toInt64).toInt ≤ (9 : Int) from ⟨Int.le_trans ((⟨by decide, by decide⟩ : (0 : Int) ≤ (0 : Int64).toInt ∧ (0 : Int64).toInt ≤ (0 : Int))).1 k13.1, Int.le_trans k13.2 ((⟨by decide, by decide⟩ : (9 : Int) ≤ (9 : Int64).toInt ∧ (9 : Int64).toInt ≤ (9 : Int))).2⟩)).1, ((show (0 : Int) ≤ (p2.toInt64).toInt ∧ (p2.toInt64).toInt ≤ (9 : Int) from ⟨Int.le_trans ((⟨by decide, by decide⟩ : (0 : Int) ≤ (0 : Int64).toInt ∧ (0 : Int64).toInt ≤ (0 : Int))).1 k13.1, Int.le_trans k13.2 ((⟨by decide, by decide⟩ : (9 : Int) ≤ (9 : Int64).toInt ∧ (9 : Int64).toInt ≤ (9 : Int))).2⟩)).2⟩
        have h15 : Iv 0 9 p2 := iv_lv h14
        refine lv_if_ne (tgt := 32) hx hb dX10_tell_26 (by decide) (fun c16 => ?_) (fun c16 => ?_)
        rotate_left
        · first | exact absurd c16 (by decide) | exact absurd (by decide) c16
        refine lv_aload_n hx hb dX10_tell_32 rfl (lv_at hl 0 rfl) ?_
        refine va_get (D := D) (ci := 10) (v := .ref (a 1)) (C := RX10) (T := TX10) (N := 38) hx hb hT in_X10 hown hK hP 0 mw_0 rfl 1 (by decide) (hT _ t1263) (fun _ h9 => h9) rfl dX10_tell_33 ?_
        refine lv_bipush (v := 7) hx hb dX10_tell_36 (by decide) ?_
        refine va_iald hx hb hK hP 1 0 mw_1 rfl (by unfold vp_in; decide) dX10_tell_38 ?_
        refine k_top (y := (st 1 7)) rfl ?_
        have h17 : Iv 0 40 (st 1 7) := (tok_at (hw).1 7 0 40 (by decide) (by decide) (by decide))
        refine lv_if_le (tgt := 45) hx hb dX10_tell_39 (by decide) (fun c18 => ?_) (fun c18 => ?_)
        · skip
          have n19 : (st 1 7).toInt ≤ (0 : Int32).toInt := (i_le c18)
          have h20 : Iv 0 0 (st 1 7) := le_l h17 n19 (iv_c (by decide) : Iv 0 0 0) (by decide)
          refine lv_bipush (v := 32) hx hb dX10_tell_45 (by decide) ?_
          refine lv_bipush (v := 9) hx hb dX10_tell_47 (by decide) ?_
          refine lv_iload_n hx hb dX10_tell_49 rfl (lv_at hl 1 rfl) ?_
          refine lv_imul hx hb dX10_tell_50 ?_
          refine lv_topi (fun z21 ez21 => ?_)
          have h22 : Iv 0 63 z21 := iv_mull ez21 h3 (k := 9) (by decide) (by decide) (by decide) (by decide) (by decide) (by decide)
          refine lv_iadd hx hb dX10_tell_51 ?_
          refine lv_topi (fun z23 ez23 => ?_)
          have h24 : Iv 32 95 z23 := iv_add ez23 (iv_c (by decide) : Iv 32 32 32) h22 (by decide) (by decide) (by decide) (by decide)
          refine lv_iconst (v := 1) hx hb dX10_tell_52 (by decide) ?_
          refine lv_iadd hx hb dX10_tell_53 ?_
          refine lv_topi (fun z25 ez25 => ?_)
          have h26 : Iv 33 96 z25 := iv_add ez25 h24 (iv_c (by decide) : Iv 1 1 1) (by decide) (by decide) (by decide) (by decide)
          refine lv_iload_n hx hb dX10_tell_54 rfl (lv_at hl 2 rfl) ?_
          refine lv_iadd hx hb dX10_tell_55 ?_
          refine lv_topi (fun z27 ez27 => ?_)
          have h28 : Iv 33 103 z27 := iv_add ez27 h26 h9 (by decide) (by decide) (by decide) (by decide)
          refine lv_istore (lv' := [(4, .int z27), (0, .ref (a 0)), (1, .int p0), (2, .int p1), (3, .int p2)]) hx hb dX10_tell_56 hl (by decide) rfl (fun ls hl => ?_)
          refine lv_aload_n hx hb dX10_tell_58 rfl (lv_at hl 1 rfl) ?_
          refine va_get (D := D) (ci := 10) (v := .ref (a 1)) (C := RX10) (T := TX10) (N := 38) hx hb hT in_X10 hown hK hP 0 mw_0 rfl 1 (by decide) (hT _ t1263) (fun _ h9 => h9) rfl dX10_tell_59 ?_
          refine lv_iload hx hb dX10_tell_62 (lv_at hl 0 rfl) ?_
          refine va_iald hx hb hK hP 1 0 mw_1 rfl (iv_in h28 (by decide) (by decide)) dX10_tell_64 ?_
          refine lv_topi (fun z29 ez29 => ?_)
          refine lv_istore (lv' := [(5, .int z29), (4, .int z27), (0, .ref (a 0)), (1, .int p0), (2, .int p1), (3, .int p2)]) hx hb dX10_tell_65 hl (by decide) rfl (fun ls hl => ?_)
          refine lv_aload_n hx hb dX10_tell_67 rfl (lv_at hl 2 rfl) ?_
          refine va_get (D := D) (ci := 10) (v := .ref (a 1)) (C := RX10) (T := TX10) (N := 38) hx hb hT in_X10 hown hK hP 0 mw_0 rfl 1 (by decide) (hT _ t1263) (fun _ h9 => h9) rfl dX10_tell_68 ?_
          refine lv_iload hx hb dX10_tell_71 (lv_at hl 1 rfl) ?_
          refine lv_iload_n hx hb dX10_tell_73 rfl (lv_at hl 5 rfl) ?_
          refine c_ist hx hb hK hP hD hS mw_1 ms_1 (iv_in h28 (by decide) (by decide)) dX10_tell_74 (fun s30 H9 locs9 es30 hP9 hD9 hS9 => ?_)
          clear hP hD hS
          have hS := hS9
          have hP := hP9
          have hD := hD9
          clear hP9 hD9 hS9
          have hBs30 : MB s30 := by rw [es30]; exact mb_sw hB trivial
          have hFs30 : FR [1] st s30 := fr_sw fr_rf (List.mem_of_getElem? (i := 0) rfl) es30
          have k31 : WOK (s30 1) := (wok_free hw h28 (by decide) (by decide) (sw_it es30))
          refine lv_iload hx hb dX10_tell_75 (lv_at hl 0 rfl) ?_
          rw [hQ]
          exact W.iret (v := z29) hx hb hr (fun t ht hW => ⟨⟨z29, s30, rfl, ⟨hBs30, hFs30, k31⟩, by rw [ht]; exact hP, va_K.moved hW.alike (hK.sub (tys' := []) [] rfl), by rw [hAe]; exact hD⟩, by rw [hAe]; exact hS.F ht⟩) hS.2.2 dX10_tell_77
        · skip
          have n32 : (0 : Int32).toInt < (st 1 7).toInt := (i_nle c18)
          have h33 : Iv 1 40 (st 1 7) := lt_r (iv_c (by decide) : Iv 0 0 0) n32 h17 (by decide)
          refine lv_bipush (v := (-5)) hx hb dX10_tell_42 (by decide) ?_
          rw [hQ]
          exact W.iret (v := (-5)) hx hb hr (fun t ht hW => ⟨⟨(-5), st, rfl, ⟨hB, fr_rf, hw⟩, by rw [ht]; exact hP, va_K.moved hW.alike (hK.sub (tys' := []) [] rfl), by rw [hAe]; exact hD⟩, by rw [hAe]; exact hS.F ht⟩) hS.2.2 dX10_tell_44
      · skip
        have g34 := g9
        have k35 := g34
        refine lv_if_ne (tgt := 32) hx hb dX10_tell_26 (by decide) (fun c36 => ?_) (fun c36 => ?_)
        · first | exact absurd c36 (by decide) | exact absurd (by decide) c36
        refine lv_bipush (v := (-2)) hx hb dX10_tell_29 (by decide) ?_
        rw [hQ]
        exact W.iret (v := (-2)) hx hb hr (fun t ht hW => ⟨⟨(-2), st, rfl, ⟨hB, fr_rf, hw⟩, by rw [ht]; exact hP, va_K.moved hW.alike (hK.sub (tys' := []) [] rfl), by rw [hAe]; exact hD⟩, by rw [hAe]; exact hS.F ht⟩) hS.2.2 dX10_tell_31
    · skip
      have g37 := g9
      refine lv_if_eq (tgt := 29) hx hb dX10_tell_14 (by decide) (fun c38 => ?_) (fun c38 => ?_)
      rotate_left
      · first | exact absurd c38 (by decide) | exact absurd (by decide) c38
      refine lv_bipush (v := (-2)) hx hb dX10_tell_29 (by decide) ?_
      rw [hQ]
      exact W.iret (v := (-2)) hx hb hr (fun t ht hW => ⟨⟨(-2), st, rfl, ⟨hB, fr_rf, hw⟩, by rw [ht]; exact hP, va_K.moved hW.alike (hK.sub (tys' := []) [] rfl), by rw [hAe]; exact hD⟩, by rw [hAe]; exact hS.F ht⟩) hS.2.2 dX10_tell_31
  · skip
    have g39 := g9
    refine lv_if_eq (tgt := 29) hx hb dX10_tell_5 (by decide) (fun c40 => ?_) (fun c40 => ?_)
    rotate_left
    · first | exact absurd c40 (by decide) | exact absurd (by decide) c40
    refine lv_bipush (v := (-2)) hx hb dX10_tell_29 (by decide) ?_
    rw [hQ]
    exact W.iret (v := (-2)) hx hb hr (fun t ht hW => ⟨⟨(-2), st, rfl, ⟨hB, fr_rf, hw⟩, by rw [ht]; exact hP, va_K.moved hW.alike (hK.sub (tys' := []) [] rfl), by rw [hAe]; exact hD⟩, by rw [hAe]; exact hS.F ht⟩) hS.2.2 dX10_tell_31
set_option maxHeartbeats 4000000 in
set_option maxRecDepth 100000 in
theorem m_X10_hand (l : Launch) (D : va_G) (k : Nat → ClassId) (a : Nat → Nat) (st : CT) (sl : CL) (p0 : Int32) (sz : Nat) (hB : MB st)  (hw : WOK (st 1)) : Met l yX10_hand (.code yX10_hand cX10_hand 3 (some .int) :: TB) (rmw 2 0 0) (va_Pc [.ref (a 0), .int p0] (PW D k sz (MWS k a st sl))) (QI D (S := CT) (fun r u => MB u ∧ FR [1] st u ∧ ((WOK (u 1)))) (fun u => MWS k a u sl) (fun _ => []) (MWS k a st sl) sz) 0 0 (va_A (MWS k a st sl) sz) := by
  refine Met.ofW (cc := cX10_hand) (maxL := 3) (ret := (some .int)) (by decide) rfl ?_
  intro p e s m args below meth c s₁ B hml hv
  obtain ⟨rfl, hsz, hP, hK, hD0, hN⟩ := hv
  have hx := B.exec
  have hb := B.bytes
  have hr := B.returns
  have hT : ∀ w9 ∈ TB, w9.before ([.ref (a 0), .int p0] : List Value).toArray s = true := fun w9 h => atoms_spec (ws := .code yX10_hand cX10_hand 3 (some .int) :: TB) B.pre w9 (List.mem_cons_of_mem _ h)
  have hown : s.vm.findClass RX10 = some m.cls := findClass_of_methodNamed B.named
  have S : CallFix p m c cX10_hand 3 s _ TB RX10 := ⟨hx, hb, hml, hown, hT⟩
  subst hsz
  have hD := hD0.self (sz := s.heap.size)
  generalize hAe : va_A (MWS k a st sl) s.heap.size = A at hD ⊢
  have hA : ∀ q : Nat, s.heap.size ≤ q → A q := fun q h => by rw [← hAe]; exact Or.inr h
  have hS : va_S A s.heap s.heap [] := va_S.rf
  have hl := lv_entry ([.ref (a 0), .int p0]) (n := 3) (Nat.le_of_ble_eq_true rfl)
  rw [lg_entry_eq]
  generalize (lg_sl ([.ref (a 0), .int p0]) ++ List.replicate (3 - (lg_sl ([.ref (a 0), .int p0])).length) Slot.unset).toArray = ls at hl ⊢
  have hl : lv_has ls 3 [(0, .ref (a 0)), (1, .int p0)] := hl
  refine nameQ (fun Q hQ => ?_)
  refine lv_aload_n hx hb dX10_hand_0 rfl (lv_at hl 0 rfl) ?_
  refine ro_V (As := []) (rest := []) S (m_X10_isLand l D k a st sl   _  hB  hw) lkX10_297 ok_X10_isLand ⟨rfl, rfl, Nat.le_of_ble_eq_true rfl, Nat.le_of_ble_eq_true rfl⟩ (pw_V (ci := 10) (q0 := 0) hK hN rfl mw_0 hP (hD.weaken (fun _ _ _ _ => trivial))) rfl hl.1 rfl (Nat.le_of_ble_eq_true rfl) ⟨Nat.zero_le _, Nat.zero_le _⟩ dX10_hand_1 (fun r1 er1 => ?_)
  rcases er1 with ⟨rfl, g9⟩ | ⟨rfl, g9⟩
  · skip
    have g2 := g9
    refine lv_if_eq (tgt := 19) hx hb dX10_hand_4 (by decide) (fun c3 => ?_) (fun c3 => ?_)
    · first | exact absurd c3 (by decide) | exact absurd (by decide) c3
    refine lv_iload_n hx hb dX10_hand_7 rfl (lv_at hl 1 rfl) ?_
    refine lv_i2l hx hb dX10_hand_8 rfl ?_
    refine lv_lconst (v := 0) hx hb dX10_hand_9 (by decide) ?_
    refine lv_ldc2 (v := 40) hx hb hown (hT _ t1743) dX10_hand_10 ?_
    refine ro_S (As := [.long (p0.toInt64), .long 0, .long 40]) (rest := []) S (m_X10_in l D k a st sl  (p0.toInt64) 0 40 _  hB  ) lkX10_85 ok_X10_in ⟨rfl, rfl, Nat.le_of_ble_eq_true rfl, Nat.le_of_ble_eq_true rfl⟩ (pw_S hK hN hP (hD.weaken (fun _ _ _ _ => trivial))) rfl hl.1 rfl (Nat.le_of_ble_eq_true rfl) ⟨Nat.zero_le _, Nat.zero_le _⟩ dX10_hand_13 (fun r4 er4 => ?_)
    rcases er4 with ⟨rfl, g9⟩ | ⟨rfl, g9⟩
    · skip
      have g5 := g9
      have k6 := g5
      have h7 : (0 : Int) ≤ (p0.toInt64).toInt ∧ (p0.toInt64).toInt ≤ (40 : Int) := ⟨((show (0 : Int) ≤ (p0.toInt64).toInt ∧ (p0.toInt64).toInt ≤ (40 : Int) from ⟨Int.le_trans ((⟨by decide, by decide⟩ : (0 : Int) ≤ (0 : Int64).toInt ∧ (0 : Int64).toInt ≤ (0 : Int))).1 k6.1, Int.le_trans k6.2 ((⟨by decide, by decide⟩ : (40 : Int) ≤ (40 : Int64).toInt ∧ (40 : Int64).toInt ≤ (40 : Int))).2⟩)).1, ((show (0 : Int) ≤ (p0.toInt64).toInt ∧ (p0.toInt64).toInt ≤ (40 : Int) from ⟨Int.le_trans ((⟨by decide, by decide⟩ : (0 : Int) ≤ (0 : Int64).toInt ∧ (0 : Int64).toInt ≤ (0 : Int))).1 k6.1, Int.le_trans k6.2 ((⟨by decide, by decide⟩ : (40 : Int) ≤ (40 : Int64).toInt ∧ (40 : Int64).toInt ≤ (40 : Int))).2⟩)).2⟩
      have h8 : Iv 0 40 p0 := iv_lv h7
      refine lv_if_ne (tgt := 22) hx hb dX10_hand_16 (by decide) (fun c9 => ?_) (fun c9 => ?_)
      rotate_left
      · first | exact absurd c9 (by decide) | exact absurd (by decide) c9
      refine lv_aload_n hx hb dX10_hand_22 rfl (lv_at hl 0 rfl) ?_
      refine va_get (D := D) (ci := 10) (v := .ref (a 1)) (C := RX10) (T := TX10) (N := 38) hx hb hT in_X10 hown hK hP 0 mw_0 rfl 1 (by decide) (hT _ t1263) (fun _ h9 => h9) rfl dX10_hand_23 ?_
      refine lv_bipush (v := 7) hx hb dX10_hand_26 (by decide) ?_
      refine va_iald hx hb hK hP 1 0 mw_1 rfl (by unfold vp_in; decide) dX10_hand_28 ?_
      refine k_top (y := (st 1 7)) rfl ?_
      have h10 : Iv 0 40 (st 1 7) := (tok_at (hw).1 7 0 40 (by decide) (by decide) (by decide))
      refine lv_if_le (tgt := 35) hx hb dX10_hand_29 (by decide) (fun c11 => ?_) (fun c11 => ?_)
      · skip
        have n12 : (st 1 7).toInt ≤ (0 : Int32).toInt := (i_le c11)
        have h13 : Iv 0 0 (st 1 7) := le_l h10 n12 (iv_c (by decide) : Iv 0 0 0) (by decide)
        refine lv_aload_n hx hb dX10_hand_35 rfl (lv_at hl 0 rfl) ?_
        refine va_get (D := D) (ci := 10) (v := .ref (a 1)) (C := RX10) (T := TX10) (N := 38) hx hb hT in_X10 hown hK hP 0 mw_0 rfl 1 (by decide) (hT _ t1263) (fun _ h9 => h9) rfl dX10_hand_36 ?_
        refine lv_iconst (v := 1) hx hb dX10_hand_39 (by decide) ?_
        refine va_iald hx hb hK hP 1 0 mw_1 rfl (by unfold vp_in; decide) dX10_hand_40 ?_
        refine k_top (y := (st 1 1)) rfl ?_
        refine lv_istore_n (lv' := [(2, .int (st 1 1)), (0, .ref (a 0)), (1, .int p0)]) hx hb dX10_hand_41 rfl hl (by decide) rfl (fun ls hl => ?_)
        refine lv_aload_n hx hb dX10_hand_42 rfl (lv_at hl 1 rfl) ?_
        refine va_get (D := D) (ci := 10) (v := .ref (a 1)) (C := RX10) (T := TX10) (N := 38) hx hb hT in_X10 hown hK hP 0 mw_0 rfl 1 (by decide) (hT _ t1263) (fun _ h9 => h9) rfl dX10_hand_43 ?_
        refine lv_iconst (v := 1) hx hb dX10_hand_46 (by decide) ?_
        refine lv_iload_n hx hb dX10_hand_47 rfl (lv_at hl 2 rfl) ?_
        refine c_ist hx hb hK hP hD hS mw_1 ms_1 (by unfold vp_in; decide) dX10_hand_48 (fun s14 H9 locs9 es14 hP9 hD9 hS9 => ?_)
        clear hP hD hS
        have hS := hS9
        have hP := hP9
        have hD := hD9
        clear hP9 hD9 hS9
        have hBs14 : MB s14 := by rw [es14]; exact mb_sw hB trivial
        have hFs14 : FR [1] st s14 := fr_sw fr_rf (List.mem_of_getElem? (i := 0) rfl) es14
        have k15 : WOK (s14 1) := (wok_one hw (sw_it es14))
        refine lv_iload_n hx hb dX10_hand_49 rfl (lv_at hl 0 rfl) ?_
        rw [hQ]
        exact W.iret (v := (st 1 1)) hx hb hr (fun t ht hW => ⟨⟨(st 1 1), s14, rfl, ⟨hBs14, hFs14, k15⟩, by rw [ht]; exact hP, va_K.moved hW.alike (hK.sub (tys' := []) [] rfl), by rw [hAe]; exact hD⟩, by rw [hAe]; exact hS.F ht⟩) hS.2.2 dX10_hand_50
      · skip
        have n16 : (0 : Int32).toInt < (st 1 7).toInt := (i_nle c11)
        have h17 : Iv 1 40 (st 1 7) := lt_r (iv_c (by decide) : Iv 0 0 0) n16 h10 (by decide)
        refine lv_bipush (v := (-5)) hx hb dX10_hand_32 (by decide) ?_
        rw [hQ]
        exact W.iret (v := (-5)) hx hb hr (fun t ht hW => ⟨⟨(-5), st, rfl, ⟨hB, fr_rf, hw⟩, by rw [ht]; exact hP, va_K.moved hW.alike (hK.sub (tys' := []) [] rfl), by rw [hAe]; exact hD⟩, by rw [hAe]; exact hS.F ht⟩) hS.2.2 dX10_hand_34
    · skip
      have g18 := g9
      have k19 := g18
      refine lv_if_ne (tgt := 22) hx hb dX10_hand_16 (by decide) (fun c20 => ?_) (fun c20 => ?_)
      · first | exact absurd c20 (by decide) | exact absurd (by decide) c20
      refine lv_bipush (v := (-2)) hx hb dX10_hand_19 (by decide) ?_
      rw [hQ]
      exact W.iret (v := (-2)) hx hb hr (fun t ht hW => ⟨⟨(-2), st, rfl, ⟨hB, fr_rf, hw⟩, by rw [ht]; exact hP, va_K.moved hW.alike (hK.sub (tys' := []) [] rfl), by rw [hAe]; exact hD⟩, by rw [hAe]; exact hS.F ht⟩) hS.2.2 dX10_hand_21
  · skip
    have g21 := g9
    refine lv_if_eq (tgt := 19) hx hb dX10_hand_4 (by decide) (fun c22 => ?_) (fun c22 => ?_)
    rotate_left
    · first | exact absurd c22 (by decide) | exact absurd (by decide) c22
    refine lv_bipush (v := (-2)) hx hb dX10_hand_19 (by decide) ?_
    rw [hQ]
    exact W.iret (v := (-2)) hx hb hr (fun t ht hW => ⟨⟨(-2), st, rfl, ⟨hB, fr_rf, hw⟩, by rw [ht]; exact hP, va_K.moved hW.alike (hK.sub (tys' := []) [] rfl), by rw [hAe]; exact hD⟩, by rw [hAe]; exact hS.F ht⟩) hS.2.2 dX10_hand_21
set_option maxHeartbeats 4000000 in
set_option maxRecDepth 100000 in
theorem m_X10_count (l : Launch) (D : va_G) (k : Nat → ClassId) (a : Nat → Nat) (st : CT) (sl : CL) (p0 : Int32) (sz : Nat) (hB : MB st)  (hw : WOK (st 1)) : Met l yX10_count (.code yX10_count cX10_count 4 (some .int) :: TB) (rmk 1) (va_Pc [.ref (a 0), .int p0] (PW D k sz (MWS k a st sl))) (vp_Si (fun r => (True))) 0 0 (fun _ => False) := by
  refine Met.ofW (cc := cX10_count) (maxL := 4) (ret := (some .int)) (by decide) rfl ?_
  intro p e s m args below meth c s₁ B hml hv
  obtain ⟨rfl, hsz, hP, hK, hD0, hN⟩ := hv
  have hx := B.exec
  have hb := B.bytes
  have hr := B.returns
  have hT : ∀ w9 ∈ TB, w9.before ([.ref (a 0), .int p0] : List Value).toArray s = true := fun w9 h => atoms_spec (ws := .code yX10_count cX10_count 4 (some .int) :: TB) B.pre w9 (List.mem_cons_of_mem _ h)
  have hown : s.vm.findClass RX10 = some m.cls := findClass_of_methodNamed B.named
  have S : CallFix p m c cX10_count 4 s _ TB RX10 := ⟨hx, hb, hml, hown, hT⟩
  subst hsz
  have hl := lv_entry ([.ref (a 0), .int p0]) (n := 4) (Nat.le_of_ble_eq_true rfl)
  rw [lg_entry_eq]
  generalize (lg_sl ([.ref (a 0), .int p0]) ++ List.replicate (4 - (lg_sl ([.ref (a 0), .int p0])).length) Slot.unset).toArray = ls at hl ⊢
  have hl : lv_has ls 4 [(0, .ref (a 0)), (1, .int p0)] := hl
  refine nameQ (fun Q hQ => ?_)
  refine lv_iconst (v := 0) hx hb dX10_count_0 (by decide) ?_
  refine lv_istore_n (lv' := [(2, .int 0), (0, .ref (a 0)), (1, .int p0)]) hx hb dX10_count_1 rfl hl (by decide) rfl (fun ls hl => ?_)
  refine lv_iload_n hx hb dX10_count_2 rfl (lv_at hl 2 rfl) ?_
  by_cases c1 : p0.toInt < 0 ∨ 9 < p0.toInt
  · refine lv_tableOut (tgt := 152) hx hb dX10_count_3 c1 (by decide) ?_
    refine lv_iconst (v := (-1)) hx hb dX10_count_152 (by decide) ?_
    rw [hQ]
    exact W.iret (v := (-1)) hx hb hr (fun t ht hW => ⟨(-1), rfl, trivial, ht⟩) (fun _ h9 => by cases h9) dX10_count_153
  · skip
    have h2 : Iv 0 9 p0 := ⟨by omega, by omega⟩
    rcases iv_ca10 h2 0 1 2 3 4 5 6 7 8 9 (by decide) (by decide) (by decide) (by decide) (by decide) (by decide) (by decide) (by decide) (by decide) (by decide) (by decide) with q9 | q9 | q9 | q9 | q9 | q9 | q9 | q9 | q9 | q9
    · have q3 := q9
      refine lv_tableIn (off := 53) (tgt := 56) hx hb dX10_count_3 (by rw [q9]; decide) (by rw [q9]; decide) (by rw [q9]; decide +kernel) (by decide) ?_
      have h4 : Iv 0 0 p0 := (by rw [q9]; exact iv_c (by decide))
      refine lv_aload_n hx hb dX10_count_56 rfl (lv_at hl 1 rfl) ?_
      refine va_get (D := D) (ci := 10) (v := .ref (a 1)) (C := RX10) (T := TX10) (N := 38) hx hb hT in_X10 hown hK hP 0 mw_0 rfl 1 (by decide) (hT _ t1263) (fun _ h9 => h9) rfl dX10_count_57 ?_
      refine lv_iconst (v := 0) hx hb dX10_count_60 (by decide) ?_
      refine va_iald hx hb hK hP 1 0 mw_1 rfl (by unfold vp_in; decide) dX10_count_61 ?_
      refine k_top (y := (st 1 0)) rfl ?_
      have h5 : Iv 0 6 (st 1 0) := (tok_at (hw).1 0 0 6 (by decide) (by decide) (by decide))
      rw [hQ]
      exact W.iret (v := (st 1 0)) hx hb hr (fun t ht hW => ⟨(st 1 0), rfl, trivial, ht⟩) (fun _ h9 => by cases h9) dX10_count_62
    · have q6 := q9
      refine lv_tableIn (off := 60) (tgt := 63) hx hb dX10_count_3 (by rw [q9]; decide) (by rw [q9]; decide) (by rw [q9]; decide +kernel) (by decide) ?_
      have h7 : Iv 1 1 p0 := (by rw [q9]; exact iv_c (by decide))
      refine lv_aload_n hx hb dX10_count_63 rfl (lv_at hl 1 rfl) ?_
      refine va_get (D := D) (ci := 10) (v := .ref (a 1)) (C := RX10) (T := TX10) (N := 38) hx hb hT in_X10 hown hK hP 0 mw_0 rfl 1 (by decide) (hT _ t1263) (fun _ h9 => h9) rfl dX10_count_64 ?_
      refine lv_iconst (v := 2) hx hb dX10_count_67 (by decide) ?_
      refine va_iald hx hb hK hP 1 0 mw_1 rfl (by unfold vp_in; decide) dX10_count_68 ?_
      refine k_top (y := (st 1 2)) rfl ?_
      have h8 : Iv 0 8 (st 1 2) := (tok_at (hw).1 2 0 8 (by decide) (by decide) (by decide))
      rw [hQ]
      exact W.iret (v := (st 1 2)) hx hb hr (fun t ht hW => ⟨(st 1 2), rfl, trivial, ht⟩) (fun _ h9 => by cases h9) dX10_count_69
    · have q9 := q9
      refine lv_tableIn (off := 67) (tgt := 70) hx hb dX10_count_3 (by rw [q9]; decide) (by rw [q9]; decide) (by rw [q9]; decide +kernel) (by decide) ?_
      have h10 : Iv 2 2 p0 := (by rw [q9]; exact iv_c (by decide))
      refine lv_aload_n hx hb dX10_count_70 rfl (lv_at hl 1 rfl) ?_
      refine va_get (D := D) (ci := 10) (v := .ref (a 1)) (C := RX10) (T := TX10) (N := 38) hx hb hT in_X10 hown hK hP 0 mw_0 rfl 1 (by decide) (hT _ t1263) (fun _ h9 => h9) rfl dX10_count_71 ?_
      refine lv_iconst (v := 3) hx hb dX10_count_74 (by decide) ?_
      refine va_iald hx hb hK hP 1 0 mw_1 rfl (by unfold vp_in; decide) dX10_count_75 ?_
      refine k_top (y := (st 1 3)) rfl ?_
      have h11 : Iv 0 8 (st 1 3) := (tok_at (hw).1 3 0 8 (by decide) (by decide) (by decide))
      rw [hQ]
      exact W.iret (v := (st 1 3)) hx hb hr (fun t ht hW => ⟨(st 1 3), rfl, trivial, ht⟩) (fun _ h9 => by cases h9) dX10_count_76
    · have q12 := q9
      refine lv_tableIn (off := 74) (tgt := 77) hx hb dX10_count_3 (by rw [q9]; decide) (by rw [q9]; decide) (by rw [q9]; decide +kernel) (by decide) ?_
      have h13 : Iv 3 3 p0 := (by rw [q9]; exact iv_c (by decide))
      refine lv_aload_n hx hb dX10_count_77 rfl (lv_at hl 1 rfl) ?_
      refine va_get (D := D) (ci := 10) (v := .ref (a 1)) (C := RX10) (T := TX10) (N := 38) hx hb hT in_X10 hown hK hP 0 mw_0 rfl 1 (by decide) (hT _ t1263) (fun _ h9 => h9) rfl dX10_count_78 ?_
      refine lv_iconst (v := 4) hx hb dX10_count_81 (by decide) ?_
      refine va_iald hx hb hK hP 1 0 mw_1 rfl (by unfold vp_in; decide) dX10_count_82 ?_
      refine k_top (y := (st 1 4)) rfl ?_
      have h14 : Iv 0 3 (st 1 4) := (tok_at (hw).1 4 0 3 (by decide) (by decide) (by decide))
      rw [hQ]
      exact W.iret (v := (st 1 4)) hx hb hr (fun t ht hW => ⟨(st 1 4), rfl, trivial, ht⟩) (fun _ h9 => by cases h9) dX10_count_83
    · have q15 := q9
      refine lv_tableIn (off := 81) (tgt := 84) hx hb dX10_count_3 (by rw [q9]; decide) (by rw [q9]; decide) (by rw [q9]; decide +kernel) (by decide) ?_
      have h16 : Iv 4 4 p0 := (by rw [q9]; exact iv_c (by decide))
      refine lv_aload_n hx hb dX10_count_84 rfl (lv_at hl 1 rfl) ?_
      refine va_get (D := D) (ci := 10) (v := .ref (a 1)) (C := RX10) (T := TX10) (N := 38) hx hb hT in_X10 hown hK hP 0 mw_0 rfl 1 (by decide) (hT _ t1263) (fun _ h9 => h9) rfl dX10_count_85 ?_
      refine lv_iconst (v := 5) hx hb dX10_count_88 (by decide) ?_
      refine va_iald hx hb hK hP 1 0 mw_1 rfl (by unfold vp_in; decide) dX10_count_89 ?_
      refine k_top (y := (st 1 5)) rfl ?_
      have h17 : Iv 0 6 (st 1 5) := (tok_at (hw).1 5 0 6 (by decide) (by decide) (by decide))
      rw [hQ]
      exact W.iret (v := (st 1 5)) hx hb hr (fun t ht hW => ⟨(st 1 5), rfl, trivial, ht⟩) (fun _ h9 => by cases h9) dX10_count_90
    · have q18 := q9
      refine lv_tableIn (off := 88) (tgt := 91) hx hb dX10_count_3 (by rw [q9]; decide) (by rw [q9]; decide) (by rw [q9]; decide +kernel) (by decide) ?_
      have h19 : Iv 5 5 p0 := (by rw [q9]; exact iv_c (by decide))
      refine lv_aload_n hx hb dX10_count_91 rfl (lv_at hl 1 rfl) ?_
      refine va_get (D := D) (ci := 10) (v := .ref (a 1)) (C := RX10) (T := TX10) (N := 38) hx hb hT in_X10 hown hK hP 0 mw_0 rfl 1 (by decide) (hT _ t1263) (fun _ h9 => h9) rfl dX10_count_92 ?_
      refine lv_iconst (v := 1) hx hb dX10_count_95 (by decide) ?_
      refine va_iald hx hb hK hP 1 0 mw_1 rfl (by unfold vp_in; decide) dX10_count_96 ?_
      refine k_top (y := (st 1 1)) rfl ?_
      rw [hQ]
      exact W.iret (v := (st 1 1)) hx hb hr (fun t ht hW => ⟨(st 1 1), rfl, trivial, ht⟩) (fun _ h9 => by cases h9) dX10_count_97
    · have q20 := q9
      refine lv_tableIn (off := 95) (tgt := 98) hx hb dX10_count_3 (by rw [q9]; decide) (by rw [q9]; decide) (by rw [q9]; decide +kernel) (by decide) ?_
      have h21 : Iv 6 6 p0 := (by rw [q9]; exact iv_c (by decide))
      refine lv_aload_n hx hb dX10_count_98 rfl (lv_at hl 1 rfl) ?_
      refine va_get (D := D) (ci := 10) (v := .ref (a 1)) (C := RX10) (T := TX10) (N := 38) hx hb hT in_X10 hown hK hP 0 mw_0 rfl 1 (by decide) (hT _ t1263) (fun _ h9 => h9) rfl dX10_count_99 ?_
      refine lv_bipush (v := 6) hx hb dX10_count_102 (by decide) ?_
      refine va_iald hx hb hK hP 1 0 mw_1 rfl (by unfold vp_in; decide) dX10_count_104 ?_
      refine k_top (y := (st 1 6)) rfl ?_
      rw [hQ]
      exact W.iret (v := (st 1 6)) hx hb hr (fun t ht hW => ⟨(st 1 6), rfl, trivial, ht⟩) (fun _ h9 => by cases h9) dX10_count_105
    · have q22 := q9
      refine lv_tableIn (off := 103) (tgt := 106) hx hb dX10_count_3 (by rw [q9]; decide) (by rw [q9]; decide) (by rw [q9]; decide +kernel) (by decide) ?_
      have h23 : Iv 7 7 p0 := (by rw [q9]; exact iv_c (by decide))
      refine lv_aload_n hx hb dX10_count_106 rfl (lv_at hl 1 rfl) ?_
      refine va_get (D := D) (ci := 10) (v := .int (st 0 5)) (C := RX10) (T := TX10) (N := 38) hx hb hT in_X10 hown hK hP 0 mw_0 rfl 5 (by decide) (hT _ t1267) (fun _ h9 => h9) rfl dX10_count_107 ?_
      have h24 : Iv 0 1000 (st 0 5) := (rm_0_5 hB)
      rw [hQ]
      exact W.iret (v := (st 0 5)) hx hb hr (fun t ht hW => ⟨(st 0 5), rfl, trivial, ht⟩) (fun _ h9 => by cases h9) dX10_count_110
    · have q25 := q9
      refine lv_tableIn (off := 108) (tgt := 111) hx hb dX10_count_3 (by rw [q9]; decide) (by rw [q9]; decide) (by rw [q9]; decide +kernel) (by decide) ?_
      have h26 : Iv 8 8 p0 := (by rw [q9]; exact iv_c (by decide))
      refine lv_aload_n hx hb dX10_count_111 rfl (lv_at hl 1 rfl) ?_
      refine va_get (D := D) (ci := 10) (v := .ref (a 1)) (C := RX10) (T := TX10) (N := 38) hx hb hT in_X10 hown hK hP 0 mw_0 rfl 1 (by decide) (hT _ t1263) (fun _ h9 => h9) rfl dX10_count_112 ?_
      refine lv_bipush (v := 7) hx hb dX10_count_115 (by decide) ?_
      refine va_iald hx hb hK hP 1 0 mw_1 rfl (by unfold vp_in; decide) dX10_count_117 ?_
      refine k_top (y := (st 1 7)) rfl ?_
      have h27 : Iv 0 40 (st 1 7) := (tok_at (hw).1 7 0 40 (by decide) (by decide) (by decide))
      rw [hQ]
      exact W.iret (v := (st 1 7)) hx hb hr (fun t ht hW => ⟨(st 1 7), rfl, trivial, ht⟩) (fun _ h9 => by cases h9) dX10_count_118
    · have q28 := q9
      refine lv_tableIn (off := 116) (tgt := 119) hx hb dX10_count_3 (by rw [q9]; decide) (by rw [q9]; decide) (by rw [q9]; decide +kernel) (by decide) ?_
      have h29 : Iv 9 9 p0 := (by rw [q9]; exact iv_c (by decide))
      refine lv_iconst (v := 0) hx hb dX10_count_119 (by decide) ?_
      refine lv_istore_n (lv' := [(3, .int 0), (2, .int 0), (0, .ref (a 0)), (1, .int p0)]) hx hb dX10_count_120 rfl hl (by decide) rfl (fun ls hl => ?_)
      have lp121 : ∀ (n9_121 : Nat) (v3_121 : Int32) (v2_121 : Int32) (ls : Array Slot), Iv 0 4 v3_121 → lv_has ls 4 [(3, .int v3_121), (2, .int v2_121), (0, .ref (a 0)), (1, .int p0)] → (4 : Int) - v3_121.toInt < (n9_121 : Int) → W p l e (rmk 1) s m ([.ref (a 0), .int p0] : List Value).toArray below meth c s.heap [] 0 0 Q (F0 m 121 ls []) := by
        clear hl
        intro n9_121
        induction n9_121 with
        | zero =>
          intro v3_121 v2_121 ls iv3_121 hl hm121
          exact (fu_0 iv3_121 hm121).elim
        | succ n9_121 ih121 =>
          intro v3_121 v2_121 ls iv3_121 hl hm121
          refine lv_iload_n hx hb dX10_count_121 rfl (lv_at hl 0 rfl) ?_
          refine lv_iconst (v := 4) hx hb dX10_count_122 (by decide) ?_
          refine lv_icmp_ge (tgt := 150) hx hb dX10_count_123 (by decide) (fun c631 => ?_) (fun c631 => ?_)
          · skip
            have n632 : (4 : Int32).toInt ≤ v3_121.toInt := (i_le c631)
            have h633 : Iv 4 4 v3_121 := le_r (iv_c (by decide) : Iv 4 4 4) n632 iv3_121 (by decide)
            refine lv_iload_n hx hb dX10_count_150 rfl (lv_at hl 1 rfl) ?_
            rw [hQ]
            exact W.iret (v := v2_121) hx hb hr (fun t ht hW => ⟨v2_121, rfl, trivial, ht⟩) (fun _ h9 => by cases h9) dX10_count_151
          · skip
            have n634 : v3_121.toInt < (4 : Int32).toInt := (i_nle c631)
            have h635 : Iv 0 3 v3_121 := lt_l iv3_121 n634 (iv_c (by decide) : Iv 4 4 4) (by decide)
            refine lv_iload_n hx hb dX10_count_126 rfl (lv_at hl 1 rfl) ?_
            refine lv_aload_n hx hb dX10_count_127 rfl (lv_at hl 2 rfl) ?_
            refine va_get (D := D) (ci := 10) (v := .ref (a 18)) (C := RX10) (T := TX10) (N := 38) hx hb hT in_X10 hown hK hP 0 mw_0 rfl 34 (by decide) (hT _ t1296) (fun _ h9 => h9) rfl dX10_count_128 ?_
            refine lv_iload_n hx hb dX10_count_131 rfl (lv_at hl 0 rfl) ?_
            refine va_iald hx hb hK hP 18 0 mw_18 rfl (iv_in h635 (by decide) (by decide)) dX10_count_132 ?_
            refine lv_topi (fun z636 ez636 => ?_)
            have h637 : Iv (-1) 60 z636 := by rw [ez636]; exact (rm_18 hB (vp_in_lt (iv_in h635 (by decide) (by decide))))
            refine lv_iconst (v := (-1)) hx hb dX10_count_133 (by decide) ?_
            refine lv_icmp_ne (tgt := 141) hx hb dX10_count_134 (by decide) (fun c638 => ?_) (fun c638 => ?_)
            · skip
              have h639 : Iv 0 60 z636 := ne_lo h637 (show ¬ z636 = (-1) from c638) (by decide) (by decide)
              refine lv_iconst (v := 1) hx hb dX10_count_141 (by decide) ?_
              refine lv_iadd hx hb dX10_count_142 ?_
              refine lv_topi (fun z640 ez640 => ?_)
              refine lv_istore_n (lv' := [(2, .int z640), (3, .int v3_121), (0, .ref (a 0)), (1, .int p0)]) hx hb dX10_count_143 rfl hl (by decide) rfl (fun ls hl => ?_)
              obtain ⟨z641, ez641⟩ : ∃ z9 : Int32, z9 = v3_121 + Int32.ofInt 1 := ⟨_, rfl⟩
              have h642 : Iv 1 4 z641 := iv_inc ez641 h635 (by decide) (by decide) (by decide) (by decide) (by decide) (by decide)
              refine lv_iinc (v := z641) (lv' := [(3, .int z641), (2, .int z640), (0, .ref (a 0)), (1, .int p0)]) hx hb dX10_count_144 hl (k := 1) rfl ez641.symm (by decide) rfl (fun ls hl => ?_)
              refine lv_goto (tgt := 121) hx hb dX10_count_147 (by decide) ?_
              exact ih121 z641 z640 _ (iv_mono (c := 0) (d := 4) h642 (by decide) (by decide)) (lv_sub hl [0, 1, 2, 3] rfl) (fu_s (lo := 0) (ti_inc ez641 h635 (by decide) (by decide) (by decide) (by decide)) (by decide) hm121)
            · skip
              have h643 : Iv (-1) (-1) z636 := eq_l c638 (iv_c (by decide) : Iv (-1) (-1) (-1))
              refine lv_iconst (v := 0) hx hb dX10_count_137 (by decide) ?_
              refine lv_goto (tgt := 142) hx hb dX10_count_138 (by decide) ?_
              refine lv_iadd hx hb dX10_count_142 ?_
              refine lv_topi (fun z644 ez644 => ?_)
              refine lv_istore_n (lv' := [(2, .int z644), (3, .int v3_121), (0, .ref (a 0)), (1, .int p0)]) hx hb dX10_count_143 rfl hl (by decide) rfl (fun ls hl => ?_)
              obtain ⟨z645, ez645⟩ : ∃ z9 : Int32, z9 = v3_121 + Int32.ofInt 1 := ⟨_, rfl⟩
              have h646 : Iv 1 4 z645 := iv_inc ez645 h635 (by decide) (by decide) (by decide) (by decide) (by decide) (by decide)
              refine lv_iinc (v := z645) (lv' := [(3, .int z645), (2, .int z644), (0, .ref (a 0)), (1, .int p0)]) hx hb dX10_count_144 hl (k := 1) rfl ez645.symm (by decide) rfl (fun ls hl => ?_)
              refine lv_goto (tgt := 121) hx hb dX10_count_147 (by decide) ?_
              exact ih121 z645 z644 _ (iv_mono (c := 0) (d := 4) h646 (by decide) (by decide)) (lv_sub hl [0, 1, 2, 3] rfl) (fu_s (lo := 0) (ti_inc ez645 h635 (by decide) (by decide) (by decide) (by decide)) (by decide) hm121)
      exact lp121 5 0 0 _ (iv_mono (c := 0) (d := 4) (iv_c (by decide) : Iv 0 0 0) (by decide) (by decide)) (lv_sub hl [0, 1, 2, 3] rfl) (fu_i (iv_mono (c := 0) (d := 4) (iv_c (by decide) : Iv 0 0 0) (by decide) (by decide)) (by decide))
