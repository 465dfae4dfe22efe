set_option maxHeartbeats 4000000 in
set_option maxRecDepth 100000 in
theorem m_X10_good (l : Launch) (D : va_G) (k : Nat → ClassId) (a : Nat → Nat) (st : CT) (sl : CL) (sz : Nat) (hB : MB st)  : Met l yX10_good (.code yX10_good cX10_good 1 (some .boolean) :: TB) (rmk 1) (va_Pc [.ref (a 0)] (PW D k sz (MWS k a st sl))) (vp_Si (fun r => (r = 1 ∧ (st 0 12 = 0)) ∨ (r = 0 ∧ (¬ st 0 12 = 0)))) 0 0 (fun _ => False) := by
  refine Met.ofW (cc := cX10_good) (maxL := 1) (ret := (some .boolean)) (by decide) rfl ?_
  intro p e s m args below meth c s₁ B hml hv
  obtain ⟨rfl, hsz, hP, hK, hD0, hN⟩ := hv
  have hx := B.exec
  have hb := B.bytes
  have hr := B.returns
  have hT : ∀ w9 ∈ TB, w9.before ([.ref (a 0)] : List Value).toArray s = true := fun w9 h => atoms_spec (ws := .code yX10_good cX10_good 1 (some .boolean) :: TB) B.pre w9 (List.mem_cons_of_mem _ h)
  have hown : s.vm.findClass RX10 = some m.cls := findClass_of_methodNamed B.named
  have S : CallFix p m c cX10_good 1 s _ TB RX10 := ⟨hx, hb, hml, hown, hT⟩
  subst hsz
  have hl := lv_entry ([.ref (a 0)]) (n := 1) (Nat.le_of_ble_eq_true rfl)
  rw [lg_entry_eq]
  generalize (lg_sl ([.ref (a 0)]) ++ List.replicate (1 - (lg_sl ([.ref (a 0)])).length) Slot.unset).toArray = ls at hl ⊢
  have hl : lv_has ls 1 [(0, .ref (a 0))] := hl
  refine nameQ (fun Q hQ => ?_)
  refine lv_aload_n hx hb dX10_good_0 rfl (lv_at hl 0 rfl) ?_
  refine va_get (D := D) (ci := 10) (v := .int (st 0 12)) (C := RX10) (T := TX10) (N := 38) hx hb hT in_X10 hown hK hP 0 mw_0 rfl 12 (by decide) (hT _ t1274) (fun _ h9 => h9) rfl dX10_good_1 ?_
  refine lv_if_ne (tgt := 11) hx hb dX10_good_4 (by decide) (fun c1 => ?_) (fun c1 => ?_)
  · skip
    refine lv_iconst (v := 0) hx hb dX10_good_11 (by decide) ?_
    rw [hQ]
    exact W.zret (v := 0) (ty := .boolean) hx hb hr rfl (fun t ht hW => ⟨0, rfl, Or.inr ⟨rfl, c1⟩, ht⟩) (fun _ h9 => by cases h9) dX10_good_12
  · skip
    have h2 : Iv 0 0 (st 0 12) := eq_l c1 (iv_c (by decide) : Iv 0 0 0)
    refine lv_iconst (v := 1) hx hb dX10_good_7 (by decide) ?_
    refine lv_goto (tgt := 12) hx hb dX10_good_8 (by decide) ?_
    rw [hQ]
    exact W.zret (v := 1) (ty := .boolean) hx hb hr rfl (fun t ht hW => ⟨1, rfl, Or.inl ⟨rfl, c1⟩, ht⟩) (fun _ h9 => by cases h9) dX10_good_12
set_option maxHeartbeats 4000000 in
set_option maxRecDepth 100000 in
theorem m_X10_errs (l : Launch) (D : va_G) (k : Nat → ClassId) (a : Nat → Nat) (st : CT) (sl : CL) (p0 : Int32) (sz : Nat) (hB : MB st) (hp0 : Iv 1 3 p0) : Met l yX10_errs (.code yX10_errs cX10_errs 2 none :: TB) (rmw 2 0 0) (va_Pc [.ref (a 0), .int p0] (PW D k sz (MWS k a st sl))) (QV D (S := CT) (fun u => MB u ∧ FR [0] st u ∧ u 0 0 = st 0 0 ∧ u 0 5 = st 0 5 ∧ u 0 7 = st 0 7 ∧ u 0 8 = st 0 8 ∧ u 0 9 = st 0 9 ∧ u 0 10 = st 0 10 ∧ u 0 11 = st 0 11 ∧ u 0 20 = st 0 20 ∧ u 0 21 = st 0 21 ∧ u 0 22 = st 0 22 ∧ u 0 26 = st 0 26 ∧ u 0 27 = st 0 27 ∧ u 0 29 = st 0 29 ∧ u 0 31 = st 0 31 ∧ u 0 33 = st 0 33 ∧ (¬ u 0 12 = 0)) (fun u => MWS k a u sl) (fun _ => []) (MWS k a st sl) sz) 0 0 (va_A (MWS k a st sl) sz) := by
  refine Met.ofW (cc := cX10_errs) (maxL := 2) (ret := none) (by decide) rfl ?_
  intro p e s m args below meth c s₁ B hml hv
  obtain ⟨rfl, hsz, hP, hK, hD0, hN⟩ := hv
  have hx := B.exec
  have hb := B.bytes
  have hr := B.returns
  have hT : ∀ w9 ∈ TB, w9.before ([.ref (a 0), .int p0] : List Value).toArray s = true := fun w9 h => atoms_spec (ws := .code yX10_errs cX10_errs 2 none :: TB) B.pre w9 (List.mem_cons_of_mem _ h)
  have hown : s.vm.findClass RX10 = some m.cls := findClass_of_methodNamed B.named
  have S : CallFix p m c cX10_errs 2 s _ TB RX10 := ⟨hx, hb, hml, hown, hT⟩
  subst hsz
  have hD := hD0.self (sz := s.heap.size)
  generalize hAe : va_A (MWS k a st sl) s.heap.size = A at hD ⊢
  have hA : ∀ q : Nat, s.heap.size ≤ q → A q := fun q h => by rw [← hAe]; exact Or.inr h
  have hS : va_S A s.heap s.heap [] := va_S.rf
  have hl := lv_entry ([.ref (a 0), .int p0]) (n := 2) (Nat.le_of_ble_eq_true rfl)
  rw [lg_entry_eq]
  generalize (lg_sl ([.ref (a 0), .int p0]) ++ List.replicate (2 - (lg_sl ([.ref (a 0), .int p0])).length) Slot.unset).toArray = ls at hl ⊢
  have hl : lv_has ls 2 [(0, .ref (a 0)), (1, .int p0)] := hl
  refine nameQ (fun Q hQ => ?_)
  refine lv_aload_n hx hb dX10_errs_0 rfl (lv_at hl 0 rfl) ?_
  refine ro_V (As := []) (rest := []) S (m_X10_good l D k a st sl   _  hB  ) lkX10_136 ok_X10_good ⟨rfl, rfl, Nat.le_of_ble_eq_true rfl, Nat.le_of_ble_eq_true rfl⟩ (pw_V (ci := 10) (q0 := 0) hK hN rfl mw_0 hP (hD.weaken (fun _ _ _ _ => trivial))) rfl hl.1 rfl (Nat.le_of_ble_eq_true rfl) ⟨Nat.zero_le _, Nat.zero_le _⟩ dX10_errs_1 (fun r1 er1 => ?_)
  rcases er1 with ⟨rfl, g9⟩ | ⟨rfl, g9⟩
  · skip
    have g2 := g9
    have k3 := g2
    refine lv_if_ne (tgt := 8) hx hb dX10_errs_4 (by decide) (fun c4 => ?_) (fun c4 => ?_)
    rotate_left
    · first | exact absurd c4 (by decide) | exact absurd (by decide) c4
    refine lv_aload_n hx hb dX10_errs_8 rfl (lv_at hl 0 rfl) ?_
    refine lv_iload_n hx hb dX10_errs_9 rfl (lv_at hl 1 rfl) ?_
    refine c_put (ci := 10) (C := RX10) (T := TX10) (N := 38) (j := 12) (v := p0) hx hb hT in_X10 tyX10 tyX10_ok nmX10 hown hK hP hD hS mw_0 rfl (by decide) (hT _ t1274) (by decide +kernel) (by decide +kernel) rfl rfl (Nat.le_of_ble_eq_true rfl) (ms_0 (upd (st 0) 12 p0)) dX10_errs_10 (fun s5 H9 locs9 es5 hP9 hD9 hS9 => ?_)
    clear hP hD hS
    have hS := hS9
    have hP := hP9
    have hD := hD9
    clear hP9 hD9 hS9
    have hBs5 : MB s5 := by rw [es5]; exact mb_sw hB (mi_1_12 (hB 0))
    have hFs5 : FR [0] st s5 := fr_sw fr_rf (List.mem_of_getElem? (i := 0) rfl) es5
    refine lv_aload_n hx hb dX10_errs_13 rfl (lv_at hl 0 rfl) ?_
    refine lv_aload_n hx hb dX10_errs_14 rfl (lv_at hl 0 rfl) ?_
    refine va_get (D := D) (ci := 10) (v := .int (s5 0 9)) (C := RX10) (T := TX10) (N := 38) hx hb hT in_X10 hown hK hP 0 mw_0 rfl 9 (by decide) (hT _ t1271) (fun _ h9 => h9) rfl dX10_errs_15 ?_
    refine k_top (y := (st 0 9)) (congrFun (sw_it es5) 9) ?_
    have h6 : Iv 0 1000 (st 0 9) := (rm_0_9 hB)
    refine c_put (ci := 10) (C := RX10) (T := TX10) (N := 38) (j := 13) (v := (st 0 9)) hx hb hT in_X10 tyX10 tyX10_ok nmX10 hown hK hP hD hS mw_0 rfl (by decide) (hT _ t1275) (by decide +kernel) (by decide +kernel) rfl rfl (Nat.le_of_ble_eq_true rfl) (ms_0 (upd (s5 0) 13 (st 0 9))) dX10_errs_18 (fun s7 H9 locs9 es7 hP9 hD9 hS9 => ?_)
    clear hP hD hS
    have hS := hS9
    have hP := hP9
    have hD := hD9
    clear hP9 hD9 hS9
    have hBs7 : MB s7 := by rw [es7]; exact mb_sw hBs5 (mi_1_13 (hBs5 0))
    have hFs7 : FR [0] st s7 := fr_sw hFs5 (List.mem_of_getElem? (i := 0) rfl) es7
    rw [hQ]
    exact W.vret hx hb hr (fun t ht hW => ⟨⟨s7, rfl, ⟨hBs7, hFs7, (Eq.trans (congrFun (sw_it es7) 0) (congrFun (sw_it es5) 0)), (Eq.trans (congrFun (sw_it es7) 5) (congrFun (sw_it es5) 5)), (Eq.trans (congrFun (sw_it es7) 7) (congrFun (sw_it es5) 7)), (Eq.trans (congrFun (sw_it es7) 8) (congrFun (sw_it es5) 8)), (Eq.trans (congrFun (sw_it es7) 9) (congrFun (sw_it es5) 9)), (Eq.trans (congrFun (sw_it es7) 10) (congrFun (sw_it es5) 10)), (Eq.trans (congrFun (sw_it es7) 11) (congrFun (sw_it es5) 11)), (Eq.trans (congrFun (sw_it es7) 20) (congrFun (sw_it es5) 20)), (Eq.trans (congrFun (sw_it es7) 21) (congrFun (sw_it es5) 21)), (Eq.trans (congrFun (sw_it es7) 22) (congrFun (sw_it es5) 22)), (Eq.trans (congrFun (sw_it es7) 26) (congrFun (sw_it es5) 26)), (Eq.trans (congrFun (sw_it es7) 27) (congrFun (sw_it es5) 27)), (Eq.trans (congrFun (sw_it es7) 29) (congrFun (sw_it es5) 29)), (Eq.trans (congrFun (sw_it es7) 31) (congrFun (sw_it es5) 31)), (Eq.trans (congrFun (sw_it es7) 33) (congrFun (sw_it es5) 33)), (fun z9 => absurd (Eq.trans (Eq.symm (Eq.trans (congrFun (sw_it es7) 12) (congrFun (sw_it es5) 12))) z9) (iv_nz hp0 (by decide)))⟩, by rw [ht]; exact hP, va_K.moved hW.alike (hK.sub (tys' := []) [] rfl), by rw [hAe]; exact hD⟩, by rw [hAe]; exact hS.F ht⟩) hS.2.2 dX10_errs_21
  · skip
    have g8 := g9
    have k9 := g8
    refine lv_if_ne (tgt := 8) hx hb dX10_errs_4 (by decide) (fun c10 => ?_) (fun c10 => ?_)
    · first | exact absurd c10 (by decide) | exact absurd (by decide) c10
    rw [hQ]
    exact W.vret hx hb hr (fun t ht hW => ⟨⟨st, rfl, ⟨hB, fr_rf, rfl, rfl, rfl, rfl, rfl, rfl, rfl, rfl, rfl, rfl, rfl, rfl, rfl, rfl, rfl, k9⟩, by rw [ht]; exact hP, va_K.moved hW.alike (hK.sub (tys' := []) [] rfl), by rw [hAe]; exact hD⟩, by rw [hAe]; exact hS.F ht⟩) hS.2.2 dX10_errs_7
set_option maxHeartbeats 4000000 in
set_option maxRecDepth 100000 in
theorem m_X10_is (l : Launch) (D : va_G) (k : Nat → ClassId) (a : Nat → Nat) (st : CT) (sl : CL) (w n : Nat) (f : Nat → Int32) (sz : Nat) (hB : MB st) (hn : n ≤ 20) : Met l yX10_is (.code yX10_is cX10_is 4 (some .boolean) :: TB) (rmk 5) (va_Pc [.ref (a 0), .ref w] (PX D k sz (MWS k a st sl) (NSW w n f))) (vp_Si (fun r => (r = 1 ∧ (ISW st n f)) ∨ (r = 0 ∧ (¬ ISW st n f)))) 0 0 (fun _ => False) := by
  refine Met.ofW (cc := cX10_is) (maxL := 4) (ret := (some .boolean)) (by decide) rfl ?_
  intro p e s m args below meth c s₁ B hml hv
  obtain ⟨rfl, hsz, hP, hK, hD0, hN, hX⟩ := hv
  have hx := B.exec
  have hb := B.bytes
  have hr := B.returns
  have hT : ∀ w9 ∈ TB, w9.before ([.ref (a 0), .ref w] : List Value).toArray s = true := fun w9 h => atoms_spec (ws := .code yX10_is cX10_is 4 (some .boolean) :: TB) B.pre w9 (List.mem_cons_of_mem _ h)
  have hown : s.vm.findClass RX10 = some m.cls := findClass_of_methodNamed B.named
  have S : CallFix p m c cX10_is 4 s _ TB RX10 := ⟨hx, hb, hml, hown, hT⟩
  subst hsz
  have hl := lv_entry ([.ref (a 0), .ref w]) (n := 4) (Nat.le_of_ble_eq_true rfl)
  rw [lg_entry_eq]
  generalize (lg_sl ([.ref (a 0), .ref w]) ++ List.replicate (4 - (lg_sl ([.ref (a 0), .ref w])).length) Slot.unset).toArray = ls at hl ⊢
  have hl : lv_has ls 4 [(0, .ref (a 0)), (1, .ref w)] := hl
  refine nameQ (fun Q hQ => ?_)
  refine lv_aload_n hx hb dX10_is_0 rfl (lv_at hl 0 rfl) ?_
  refine ro_V (As := []) (rest := []) S (m_X10_good l D k a st sl   _  hB  ) lkX10_136 ok_X10_good ⟨rfl, rfl, Nat.le_of_ble_eq_true rfl, Nat.le_of_ble_eq_true rfl⟩ (pw_V (ci := 10) (q0 := 0) hK hN rfl mw_0 hP hD0) rfl hl.1 rfl (Nat.le_of_ble_eq_true rfl) ⟨Nat.zero_le _, Nat.zero_le _⟩ dX10_is_1 (fun r1 er1 => ?_)
  rcases er1 with ⟨rfl, g9⟩ | ⟨rfl, g9⟩
  · skip
    have g2 := g9
    have k3 := g2
    refine lv_if_eq (tgt := 35) hx hb dX10_is_4 (by decide) (fun c4 => ?_) (fun c4 => ?_)
    · first | exact absurd c4 (by decide) | exact absurd (by decide) c4
    refine lv_aload_n hx hb dX10_is_7 rfl (lv_at hl 0 rfl) ?_
    refine va_get (D := D) (ci := 10) (v := .int (st 0 10)) (C := RX10) (T := TX10) (N := 38) hx hb hT in_X10 hown hK hP 0 mw_0 rfl 10 (by decide) (hT _ t1272) (fun _ h9 => h9) rfl dX10_is_8 ?_
    refine lv_iconst (v := 1) hx hb dX10_is_11 (by decide) ?_
    refine lv_icmp_ne (tgt := 35) hx hb dX10_is_12 (by decide) (fun c5 => ?_) (fun c5 => ?_)
    · skip
      refine lv_iconst (v := 0) hx hb dX10_is_35 (by decide) ?_
      refine lv_istore_n (lv' := [(2, .int 0), (0, .ref (a 0)), (1, .ref w)]) hx hb dX10_is_36 rfl hl (by decide) rfl (fun ls hl => ?_)
      refine lv_iconst (v := 0) hx hb dX10_is_37 (by decide) ?_
      refine lv_istore_n (lv' := [(3, .int 0), (2, .int 0), (0, .ref (a 0)), (1, .ref w)]) hx hb dX10_is_38 rfl hl (by decide) rfl (fun ls hl => ?_)
      refine lv_iload_n hx hb dX10_is_39 rfl (lv_at hl 0 rfl) ?_
      refine lv_aload_n hx hb dX10_is_40 rfl (lv_at hl 3 rfl) ?_
      refine ro_V (As := []) (rest := [.int 0]) S (j_length l w n f (Nat.lt_of_le_of_lt hn (by decide))) lkX10_140 ok_J0_length_8abf5 ⟨rfl, rfl, Nat.le_of_ble_eq_true rfl, Nat.le_of_ble_eq_true rfl⟩ (sp_V hX.2 hX.1.1) rfl hl.1 rfl (Nat.le_of_ble_eq_true rfl) ⟨Nat.zero_le _, Nat.zero_le _⟩ dX10_is_41 (fun r14 er14 => ?_)
      have h15 : Iv 0 20 r14 := ni_iv er14 hn
      refine lv_icmp_ge (tgt := 82) hx hb dX10_is_44 (by decide) (fun c16 => ?_) (fun c16 => ?_)
      · skip
        have n17 : r14.toInt ≤ (0 : Int32).toInt := (i_le c16)
        have h18 : Iv 0 0 r14 := le_l h15 n17 (iv_c (by decide) : Iv 0 0 0) (by decide)
        refine lv_iload_n hx hb dX10_is_82 rfl (lv_at hl 1 rfl) ?_
        rw [hQ]
        exact W.zret (v := 0) (ty := .boolean) hx hb hr rfl (fun t ht hW => ⟨0, rfl, Or.inr ⟨rfl, (fun w9 => c5 w9.1.2.1)⟩, ht⟩) (fun _ h9 => by cases h9) dX10_is_83
      · skip
        have n19 : (0 : Int32).toInt < r14.toInt := (i_nle c16)
        have h20 : Iv 1 20 r14 := lt_r (iv_c (by decide) : Iv 0 0 0) n19 h15 (by decide)
        refine lv_iload_n hx hb dX10_is_47 rfl (lv_at hl 1 rfl) ?_
        refine lv_if_eq (tgt := 82) hx hb dX10_is_48 (by decide) (fun c21 => ?_) (fun c21 => ?_)
        rotate_left
        · first | exact absurd c21 (by decide) | exact absurd (by decide) c21
        refine lv_iload_n hx hb dX10_is_82 rfl (lv_at hl 1 rfl) ?_
        rw [hQ]
        exact W.zret (v := 0) (ty := .boolean) hx hb hr rfl (fun t ht hW => ⟨0, rfl, Or.inr ⟨rfl, (fun w9 => c5 w9.1.2.1)⟩, ht⟩) (fun _ h9 => by cases h9) dX10_is_83
    · skip
      have h22 : Iv 1 1 (st 0 10) := eq_l c5 (iv_c (by decide) : Iv 1 1 1)
      refine lv_aload_n hx hb dX10_is_15 rfl (lv_at hl 0 rfl) ?_
      refine va_get (D := D) (ci := 10) (v := .int (st 0 8)) (C := RX10) (T := TX10) (N := 38) hx hb hT in_X10 hown hK hP 0 mw_0 rfl 8 (by decide) (hT _ t1270) (fun _ h9 => h9) rfl dX10_is_16 ?_
      have h23 : Iv 0 1000 (st 0 8) := (rm_0_8 hB)
      refine lv_aload_n hx hb dX10_is_19 rfl (lv_at hl 0 rfl) ?_
      refine va_get (D := D) (ci := 10) (v := .int (st 0 9)) (C := RX10) (T := TX10) (N := 38) hx hb hT in_X10 hown hK hP 0 mw_0 rfl 9 (by decide) (hT _ t1271) (fun _ h9 => h9) rfl dX10_is_20 ?_
      have h24 : Iv 0 1000 (st 0 9) := (rm_0_9 hB)
      refine lv_isub hx hb dX10_is_23 ?_
      refine lv_topi (fun z25 ez25 => ?_)
      have h26 : Iv (-1000) 1000 z25 := iv_sub ez25 h23 h24 (by decide) (by decide) (by decide) (by decide)
      refine lv_aload_n hx hb dX10_is_24 rfl (lv_at hl 1 rfl) ?_
      refine ro_V (As := []) (rest := [.int z25]) S (j_length l w n f (Nat.lt_of_le_of_lt hn (by decide))) lkX10_140 ok_J0_length_8abf5 ⟨rfl, rfl, Nat.le_of_ble_eq_true rfl, Nat.le_of_ble_eq_true rfl⟩ (sp_V hX.2 hX.1.1) rfl hl.1 rfl (Nat.le_of_ble_eq_true rfl) ⟨Nat.zero_le _, Nat.zero_le _⟩ dX10_is_25 (fun r27 er27 => ?_)
      have h28 : Iv 0 20 r27 := ni_iv er27 hn
      refine lv_icmp_ne (tgt := 35) hx hb dX10_is_28 (by decide) (fun c29 => ?_) (fun c29 => ?_)
      · skip
        refine lv_iconst (v := 0) hx hb dX10_is_35 (by decide) ?_
        refine lv_istore_n (lv' := [(2, .int 0), (0, .ref (a 0)), (1, .ref w)]) hx hb dX10_is_36 rfl hl (by decide) rfl (fun ls hl => ?_)
        refine lv_iconst (v := 0) hx hb dX10_is_37 (by decide) ?_
        refine lv_istore_n (lv' := [(3, .int 0), (2, .int 0), (0, .ref (a 0)), (1, .ref w)]) hx hb dX10_is_38 rfl hl (by decide) rfl (fun ls hl => ?_)
        refine lv_iload_n hx hb dX10_is_39 rfl (lv_at hl 0 rfl) ?_
        refine lv_aload_n hx hb dX10_is_40 rfl (lv_at hl 3 rfl) ?_
        refine ro_V (As := []) (rest := [.int 0]) S (j_length l w n f (Nat.lt_of_le_of_lt hn (by decide))) lkX10_140 ok_J0_length_8abf5 ⟨rfl, rfl, Nat.le_of_ble_eq_true rfl, Nat.le_of_ble_eq_true rfl⟩ (sp_V hX.2 hX.1.1) rfl hl.1 rfl (Nat.le_of_ble_eq_true rfl) ⟨Nat.zero_le _, Nat.zero_le _⟩ dX10_is_41 (fun r38 er38 => ?_)
        have h39 : Iv 0 20 r38 := ni_iv er38 hn
        refine lv_icmp_ge (tgt := 82) hx hb dX10_is_44 (by decide) (fun c40 => ?_) (fun c40 => ?_)
        · skip
          have n41 : r38.toInt ≤ (0 : Int32).toInt := (i_le c40)
          have h42 : Iv 0 0 r38 := le_l h39 n41 (iv_c (by decide) : Iv 0 0 0) (by decide)
          refine lv_iload_n hx hb dX10_is_82 rfl (lv_at hl 1 rfl) ?_
          rw [hQ]
          exact W.zret (v := 0) (ty := .boolean) hx hb hr rfl (fun t ht hW => ⟨0, rfl, Or.inr ⟨rfl, (fun w9 => c29 (Int32.toInt_inj.mp (by have y1 := w9.1.2.2; rw [(ni_ti er27 hn)]; have _ez25 := ti_sub ez25 h23 h24 (by decide) (by decide); omega)))⟩, ht⟩) (fun _ h9 => by cases h9) dX10_is_83
        · skip
          have n43 : (0 : Int32).toInt < r38.toInt := (i_nle c40)
          have h44 : Iv 1 20 r38 := lt_r (iv_c (by decide) : Iv 0 0 0) n43 h39 (by decide)
          refine lv_iload_n hx hb dX10_is_47 rfl (lv_at hl 1 rfl) ?_
          refine lv_if_eq (tgt := 82) hx hb dX10_is_48 (by decide) (fun c45 => ?_) (fun c45 => ?_)
          rotate_left
          · first | exact absurd c45 (by decide) | exact absurd (by decide) c45
          refine lv_iload_n hx hb dX10_is_82 rfl (lv_at hl 1 rfl) ?_
          rw [hQ]
          exact W.zret (v := 0) (ty := .boolean) hx hb hr rfl (fun t ht hW => ⟨0, rfl, Or.inr ⟨rfl, (fun w9 => c29 (Int32.toInt_inj.mp (by have y1 := w9.1.2.2; rw [(ni_ti er27 hn)]; have _ez25 := ti_sub ez25 h23 h24 (by decide) (by decide); omega)))⟩, ht⟩) (fun _ h9 => by cases h9) dX10_is_83
      · skip
        have h46 : Iv 0 20 z25 := eq_l c29 h28
        refine lv_iconst (v := 1) hx hb dX10_is_31 (by decide) ?_
        refine lv_goto (tgt := 36) hx hb dX10_is_32 (by decide) ?_
        refine lv_istore_n (lv' := [(2, .int 1), (0, .ref (a 0)), (1, .ref w)]) hx hb dX10_is_36 rfl hl (by decide) rfl (fun ls hl => ?_)
        refine lv_iconst (v := 0) hx hb dX10_is_37 (by decide) ?_
        refine lv_istore_n (lv' := [(3, .int 0), (2, .int 1), (0, .ref (a 0)), (1, .ref w)]) hx hb dX10_is_38 rfl hl (by decide) rfl (fun ls hl => ?_)
        have lp39 : ∀ (n9_39 : Nat) (v3_39 : Int32) (v2_39 : Int32) (ls : Array Slot), Iv 0 20 v3_39 → Iv 0 1 v2_39 → (¬ v2_39 = 0 → PWD st n ∧ ∀ j : Nat, (j : Int) < v3_39.toInt → st 4 ((st 0 9).toNatClampNeg + j) = f j &&& 255) → (v2_39 = 0 → ¬ ISW st n f) → lv_has ls 4 [(3, .int v3_39), (2, .int v2_39), (0, .ref (a 0)), (1, .ref w)] → (20 : Int) - v3_39.toInt < (n9_39 : Int) → W p l e (rmk 5) s m ([.ref (a 0), .ref w] : List Value).toArray below meth c s.heap [] 0 0 Q (F0 m 39 ls []) := by
          clear hl
          intro n9_39
          induction n9_39 with
          | zero =>
            intro v3_39 v2_39 ls iv3_39 iv2_39 rel39_0 rel39_1 hl hm39
            exact (fu_0 iv3_39 hm39).elim
          | succ n9_39 ih39 =>
            intro v3_39 v2_39 ls iv3_39 iv2_39 rel39_0 rel39_1 hl hm39
            refine lv_iload_n hx hb dX10_is_39 rfl (lv_at hl 0 rfl) ?_
            refine lv_aload_n hx hb dX10_is_40 rfl (lv_at hl 3 rfl) ?_
            refine ro_V (As := []) (rest := [.int v3_39]) S (j_length l w n f (Nat.lt_of_le_of_lt hn (by decide))) lkX10_140 ok_J0_length_8abf5 ⟨rfl, rfl, Nat.le_of_ble_eq_true rfl, Nat.le_of_ble_eq_true rfl⟩ (sp_V hX.2 hX.1.1) rfl hl.1 rfl (Nat.le_of_ble_eq_true rfl) ⟨Nat.zero_le _, Nat.zero_le _⟩ dX10_is_41 (fun r273 er273 => ?_)
            have h274 : Iv 0 20 r273 := ni_iv er273 hn
            refine lv_icmp_ge (tgt := 82) hx hb dX10_is_44 (by decide) (fun c275 => ?_) (fun c275 => ?_)
            · skip
              have n276 : r273.toInt ≤ v3_39.toInt := (i_le c275)
              refine lv_iload_n hx hb dX10_is_82 rfl (lv_at hl 1 rfl) ?_
              rcases iv_ca2 iv2_39 0 1 (by decide) (by decide) (by decide) with q9 | q9
              · have q277 := q9
                refine k_top (y := 0) q9 ?_
                rw [hQ]
                exact W.zret (v := 0) (ty := .boolean) hx hb hr rfl (fun t ht hW => ⟨0, rfl, Or.inr ⟨rfl, (rel39_1 q277)⟩, ht⟩) (fun _ h9 => by cases h9) dX10_is_83
              · have q278 := q9
                refine k_top (y := 1) q9 ?_
                rw [hQ]
                exact W.zret (v := 1) (ty := .boolean) hx hb hr rfl (fun t ht hW => ⟨1, rfl, Or.inl ⟨rfl, (show ISW st n f from ⟨(rel39_0 (by rw [q278]; decide)).1, fun j9 h9 => (rel39_0 (by rw [q278]; decide)).2 j9 (by have y9 := n276; rw [(ni_ti er273 hn)] at y9; omega)⟩)⟩, ht⟩) (fun _ h9 => by cases h9) dX10_is_83
            · skip
              have n279 : v3_39.toInt < r273.toInt := (i_nle c275)
              have h280 : Iv 0 19 v3_39 := lt_l iv3_39 n279 h274 (by decide)
              have h281 : Iv 1 20 r273 := lt_r iv3_39 n279 h274 (by decide)
              refine lv_iload_n hx hb dX10_is_47 rfl (lv_at hl 1 rfl) ?_
              refine lv_if_eq (tgt := 82) hx hb dX10_is_48 (by decide) (fun c282 => ?_) (fun c282 => ?_)
              · skip
                have h283 : Iv 0 0 v2_39 := eq_l c282 (iv_c (by decide) : Iv 0 0 0)
                refine lv_iload_n hx hb dX10_is_82 rfl (lv_at hl 1 rfl) ?_
                rcases iv_ca1 h283 0 (by decide) (by decide) with q9
                · have q284 := q9
                  refine k_top (y := 0) q9 ?_
                  rw [hQ]
                  exact W.zret (v := 0) (ty := .boolean) hx hb hr rfl (fun t ht hW => ⟨0, rfl, Or.inr ⟨rfl, (rel39_1 q284)⟩, ht⟩) (fun _ h9 => by cases h9) dX10_is_83
              · skip
                have h285 : Iv 1 1 v2_39 := ne_lo iv2_39 c282 (by decide) (by decide)
                refine lv_aload_n hx hb dX10_is_51 rfl (lv_at hl 2 rfl) ?_
                refine va_get (D := D) (ci := 10) (v := .ref (a 4)) (C := RX10) (T := TX10) (N := 38) hx hb hT in_X10 hown hK hP 0 mw_0 rfl 4 (by decide) (hT _ t1266) (fun _ h9 => h9) rfl dX10_is_52 ?_
                refine lv_aload_n hx hb dX10_is_55 rfl (lv_at hl 2 rfl) ?_
                refine va_get (D := D) (ci := 10) (v := .int (st 0 9)) (C := RX10) (T := TX10) (N := 38) hx hb hT in_X10 hown hK hP 0 mw_0 rfl 9 (by decide) (hT _ t1271) (fun _ h9 => h9) rfl dX10_is_56 ?_
                refine lv_iload_n hx hb dX10_is_59 rfl (lv_at hl 0 rfl) ?_
                refine lv_iadd hx hb dX10_is_60 ?_
                refine lv_topi (fun z286 ez286 => ?_)
                have h287 : Iv 0 1019 z286 := iv_add ez286 h24 h280 (by decide) (by decide) (by decide) (by decide)
                have h288 : Iv 0 999 z286 := (by have y1 := (rel39_0 c282).1.2.2; have y2 := n279; rw [(ni_ti er273 hn)] at y2; obtain ⟨y3, y4⟩ := id (h23); obtain ⟨y5, y6⟩ := id (h24); obtain ⟨y7, y8⟩ := id (h280); have _ez286 := ti_add ez286 h24 h280 (by decide) (by decide); exact ⟨by omega, by omega⟩)
                refine va_bald hx hb hK hP 4 1 mw_4 rfl (iv_in h288 (by decide) (by decide)) dX10_is_61 ?_
                refine lv_topi (fun z289 ez289 => ?_)
                refine lv_aload_n hx hb dX10_is_62 rfl (lv_at hl 3 rfl) ?_
                refine lv_iload_n hx hb dX10_is_63 rfl (lv_at hl 0 rfl) ?_
                refine ro_V (As := [.int v3_39]) (rest := [.int z289]) S (j_char l w n f v3_39 (Nat.lt_of_le_of_lt hn (by decide)) (Int.le_trans (by decide) (h280).1) (by have y9 := n279; rw [(ni_ti er273 hn)] at y9; exact y9)) lkX10_146 ok_J0_charAt_5068e ⟨rfl, rfl, Nat.le_of_ble_eq_true rfl, Nat.le_of_ble_eq_true rfl⟩ (sp_V hX.2 hX.1.1) rfl hl.1 rfl (Nat.le_of_ble_eq_true rfl) ⟨Nat.zero_le _, Nat.zero_le _⟩ dX10_is_64 (fun r290 er290 => ?_)
                refine lv_icmp_ne (tgt := 74) hx hb dX10_is_67 (by decide) (fun c291 => ?_) (fun c291 => ?_)
                · skip
                  refine lv_iconst (v := 0) hx hb dX10_is_74 (by decide) ?_
                  refine lv_istore_n (lv' := [(2, .int 0), (3, .int v3_39), (0, .ref (a 0)), (1, .ref w)]) hx hb dX10_is_75 rfl hl (by decide) rfl (fun ls hl => ?_)
                  obtain ⟨z292, ez292⟩ : ∃ z9 : Int32, z9 = v3_39 + Int32.ofInt 1 := ⟨_, rfl⟩
                  have h293 : Iv 1 20 z292 := iv_inc ez292 h280 (by decide) (by decide) (by decide) (by decide) (by decide) (by decide)
                  refine lv_iinc (v := z292) (lv' := [(3, .int z292), (2, .int 0), (0, .ref (a 0)), (1, .ref w)]) hx hb dX10_is_76 hl (k := 1) rfl ez292.symm (by decide) rfl (fun ls hl => ?_)
                  refine lv_goto (tgt := 39) hx hb dX10_is_79 (by decide) ?_
                  exact ih39 z292 0 _ (iv_mono (c := 0) (d := 20) h293 (by decide) (by decide)) (iv_mono (c := 0) (d := 1) (iv_c (by decide) : Iv 0 0 0) (by decide) (by decide)) (fun z9 => absurd rfl z9) (fun _ w9 => c291 (by rw [ez289, er290, (show z286.toNatClampNeg = (st 0 9).toNatClampNeg + v3_39.toNatClampNeg from by have c1 := cl_int h24 (by decide); have c2 := cl_int h280 (by decide); have _ez286 := ti_add ez286 h24 h280 (by decide) (by decide); exact cl_of (by omega))]; exact w9.2 v3_39.toNatClampNeg (by have c9 := cl_int h280 (by decide); have y9 := n279; rw [(ni_ti er273 hn)] at y9; omega))) (lv_sub hl [0, 1, 2, 3] rfl) (fu_s (lo := 0) (ti_inc ez292 h280 (by decide) (by decide) (by decide) (by decide)) (by decide) hm39)
                · skip
                  refine lv_iconst (v := 1) hx hb dX10_is_70 (by decide) ?_
                  refine lv_goto (tgt := 75) hx hb dX10_is_71 (by decide) ?_
                  refine lv_istore_n (lv' := [(2, .int 1), (3, .int v3_39), (0, .ref (a 0)), (1, .ref w)]) hx hb dX10_is_75 rfl hl (by decide) rfl (fun ls hl => ?_)
                  obtain ⟨z294, ez294⟩ : ∃ z9 : Int32, z9 = v3_39 + Int32.ofInt 1 := ⟨_, rfl⟩
                  have h295 : Iv 1 20 z294 := iv_inc ez294 h280 (by decide) (by decide) (by decide) (by decide) (by decide) (by decide)
                  refine lv_iinc (v := z294) (lv' := [(3, .int z294), (2, .int 1), (0, .ref (a 0)), (1, .ref w)]) hx hb dX10_is_76 hl (k := 1) rfl ez294.symm (by decide) rfl (fun ls hl => ?_)
                  refine lv_goto (tgt := 39) hx hb dX10_is_79 (by decide) ?_
                  exact ih39 z294 1 _ (iv_mono (c := 0) (d := 20) h295 (by decide) (by decide)) (iv_mono (c := 0) (d := 1) (iv_c (by decide) : Iv 1 1 1) (by decide) (by decide)) (fun _ => ⟨(rel39_0 c282).1, fun j9 h9 => by by_cases q9 : (j9 : Int) < v3_39.toInt; (exact (rel39_0 c282).2 j9 q9); (have c9 := cl_int h280 (by decide); have e9 : j9 = v3_39.toNatClampNeg := (by have y9 := ti_inc ez294 h280 (by decide) (by decide) (by decide) (by decide); omega); rw [e9, ← (show z286.toNatClampNeg = (st 0 9).toNatClampNeg + v3_39.toNatClampNeg from by have c1 := cl_int h24 (by decide); have c2 := cl_int h280 (by decide); have _ez286 := ti_add ez286 h24 h280 (by decide) (by decide); exact cl_of (by omega)), ← ez289]; rw [c291] ; exact er290)⟩) (fun z9 => absurd z9 (by decide)) (lv_sub hl [0, 1, 2, 3] rfl) (fu_s (lo := 0) (ti_inc ez294 h280 (by decide) (by decide) (by decide) (by decide)) (by decide) hm39)
        exact lp39 21 0 1 _ (iv_mono (c := 0) (d := 20) (iv_c (by decide) : Iv 0 0 0) (by decide) (by decide)) (iv_mono (c := 0) (d := 1) (iv_c (by decide) : Iv 1 1 1) (by decide) (by decide)) (fun _ => ⟨⟨k3, c5, by have y1 := congrArg Int32.toInt c29; rw [(ni_ti er27 hn)] at y1; have _ez25 := ti_sub ez25 h23 h24 (by decide) (by decide); omega⟩, fun j9 h9 => absurd h9 (by have z9 : (0 : Int32).toInt = 0 := rfl; omega)⟩) (fun z9 => absurd z9 (by decide)) (lv_sub hl [0, 1, 2, 3] rfl) (fu_i (iv_mono (c := 0) (d := 20) (iv_c (by decide) : Iv 0 0 0) (by decide) (by decide)) (by decide))
  · skip
    have g296 := g9
    have k297 := g296
    refine lv_if_eq (tgt := 35) hx hb dX10_is_4 (by decide) (fun c298 => ?_) (fun c298 => ?_)
    rotate_left
    · first | exact absurd c298 (by decide) | exact absurd (by decide) c298
    refine lv_iconst (v := 0) hx hb dX10_is_35 (by decide) ?_
    refine lv_istore_n (lv' := [(2, .int 0), (0, .ref (a 0)), (1, .ref w)]) hx hb dX10_is_36 rfl hl (by decide) rfl (fun ls hl => ?_)
    refine lv_iconst (v := 0) hx hb dX10_is_37 (by decide) ?_
    refine lv_istore_n (lv' := [(3, .int 0), (2, .int 0), (0, .ref (a 0)), (1, .ref w)]) hx hb dX10_is_38 rfl hl (by decide) rfl (fun ls hl => ?_)
    refine lv_iload_n hx hb dX10_is_39 rfl (lv_at hl 0 rfl) ?_
    refine lv_aload_n hx hb dX10_is_40 rfl (lv_at hl 3 rfl) ?_
    refine ro_V (As := []) (rest := [.int 0]) S (j_length l w n f (Nat.lt_of_le_of_lt hn (by decide))) lkX10_140 ok_J0_length_8abf5 ⟨rfl, rfl, Nat.le_of_ble_eq_true rfl, Nat.le_of_ble_eq_true rfl⟩ (sp_V hX.2 hX.1.1) rfl hl.1 rfl (Nat.le_of_ble_eq_true rfl) ⟨Nat.zero_le _, Nat.zero_le _⟩ dX10_is_41 (fun r307 er307 => ?_)
    have h308 : Iv 0 20 r307 := ni_iv er307 hn
    refine lv_icmp_ge (tgt := 82) hx hb dX10_is_44 (by decide) (fun c309 => ?_) (fun c309 => ?_)
    · skip
      have n310 : r307.toInt ≤ (0 : Int32).toInt := (i_le c309)
      have h311 : Iv 0 0 r307 := le_l h308 n310 (iv_c (by decide) : Iv 0 0 0) (by decide)
      refine lv_iload_n hx hb dX10_is_82 rfl (lv_at hl 1 rfl) ?_
      rw [hQ]
      exact W.zret (v := 0) (ty := .boolean) hx hb hr rfl (fun t ht hW => ⟨0, rfl, Or.inr ⟨rfl, (fun w9 => k297 w9.1.1)⟩, ht⟩) (fun _ h9 => by cases h9) dX10_is_83
    · skip
      have n312 : (0 : Int32).toInt < r307.toInt := (i_nle c309)
      have h313 : Iv 1 20 r307 := lt_r (iv_c (by decide) : Iv 0 0 0) n312 h308 (by decide)
      refine lv_iload_n hx hb dX10_is_47 rfl (lv_at hl 1 rfl) ?_
      refine lv_if_eq (tgt := 82) hx hb dX10_is_48 (by decide) (fun c314 => ?_) (fun c314 => ?_)
      rotate_left
      · first | exact absurd c314 (by decide) | exact absurd (by decide) c314
      refine lv_iload_n hx hb dX10_is_82 rfl (lv_at hl 1 rfl) ?_
      rw [hQ]
      exact W.zret (v := 0) (ty := .boolean) hx hb hr rfl (fun t ht hW => ⟨0, rfl, Or.inr ⟨rfl, (fun w9 => k297 w9.1.1)⟩, ht⟩) (fun _ h9 => by cases h9) dX10_is_83
