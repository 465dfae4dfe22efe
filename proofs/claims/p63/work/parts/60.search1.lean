set_option maxHeartbeats 4000000 in
set_option maxRecDepth 100000 in
theorem s_X3_spread (l : Launch) (D : va_G) (k : Nat → ClassId) (a : Nat → Nat) (st : CT) (sl : CL) (p0 : Int32) (p1 : Int32) (p2 : Int32) (sz : Nat) (hB : CB st) (hp0 : Iv 0 5 p0) (hp1 : Iv 0 5 p1) : Met l yX3_spread (.code yX3_spread cX3_spread 4 none :: TB) (rmw 1 0 0) (va_Pc [.ref (a 126), .int p0, .int p1, .int p2] (PW D k sz (CWS k a st sl))) (QV D (S := CT) (fun u => CB u ∧ FR [158, 159] st u ∧ (True)) (fun u => CWS k a u sl) (fun _ => []) (CWS k a st sl) sz) 0 0 (va_A (CWS k a st sl) sz) := by
  refine Met.ofW (cc := cX3_spread) (maxL := 4) (ret := none) (by decide) rfl ?_
  intro p e s m args below meth c s₁ B hml hv
  obtain ⟨rfl, hsz, hP, hK, hD0, hN⟩ := hv
  have hx := B.exec
  have hb := B.bytes
  have hr := B.returns
  have hT : ∀ w9 ∈ TB, w9.before ([.ref (a 126), .int p0, .int p1, .int p2] : List Value).toArray s = true := fun w9 h => atoms_spec (ws := .code yX3_spread cX3_spread 4 none :: TB) B.pre w9 (List.mem_cons_of_mem _ h)
  have hown : s.vm.findClass RX3 = some m.cls := findClass_of_methodNamed B.named
  have S : CallFix p m c cX3_spread 4 s _ TB RX3 := ⟨hx, hb, hml, hown, hT⟩
  subst hsz
  have hD := hD0.self (sz := s.heap.size)
  generalize hAe : va_A (CWS k a st sl) s.heap.size = A at hD ⊢
  have hA : ∀ q : Nat, s.heap.size ≤ q → A q := fun q h => by rw [← hAe]; exact Or.inr h
  have hS : va_S A s.heap s.heap [] := va_S.rf
  have hl := lv_entry ([.ref (a 126), .int p0, .int p1, .int p2]) (n := 4) (Nat.le_of_ble_eq_true rfl)
  rw [lg_entry_eq]
  generalize (lg_sl ([.ref (a 126), .int p0, .int p1, .int p2]) ++ List.replicate (4 - (lg_sl ([.ref (a 126), .int p0, .int p1, .int p2])).length) Slot.unset).toArray = ls at hl ⊢
  have hl : lv_has ls 4 [(0, .ref (a 126)), (1, .int p0), (2, .int p1), (3, .int p2)] := hl
  refine nameQ (fun Q hQ => ?_)
  refine lv_aload_n hx hb dX3_spread_0 rfl (lv_at hl 0 rfl) ?_
  refine va_get (D := D) (ci := 3) (v := .ref (a 158)) (C := RX3) (T := TX3) (N := 10) hx hb hT in_X3 hown hK hP 126 cw_126 rfl 1 (by decide) (hT _ t401) (fun _ h9 => h9) rfl dX3_spread_1 ?_
  refine lv_iload_n hx hb dX3_spread_4 rfl (lv_at hl 2 rfl) ?_
  refine lv_aload_n hx hb dX3_spread_5 rfl (lv_at hl 0 rfl) ?_
  refine va_get (D := D) (ci := 3) (v := .ref (a 158)) (C := RX3) (T := TX3) (N := 10) hx hb hT in_X3 hown hK hP 126 cw_126 rfl 1 (by decide) (hT _ t401) (fun _ h9 => h9) rfl dX3_spread_6 ?_
  refine lv_iload_n hx hb dX3_spread_9 rfl (lv_at hl 2 rfl) ?_
  refine va_iald hx hb hK hP 158 0 cw_158 rfl (iv_in hp1 (by decide) (by decide)) dX3_spread_10 ?_
  refine lv_topi (fun z1 ez1 => ?_)
  refine lv_aload_n hx hb dX3_spread_11 rfl (lv_at hl 0 rfl) ?_
  refine va_get (D := D) (ci := 3) (v := .ref (a 158)) (C := RX3) (T := TX3) (N := 10) hx hb hT in_X3 hown hK hP 126 cw_126 rfl 1 (by decide) (hT _ t401) (fun _ h9 => h9) rfl dX3_spread_12 ?_
  refine lv_iload_n hx hb dX3_spread_15 rfl (lv_at hl 1 rfl) ?_
  refine va_iald hx hb hK hP 158 0 cw_158 rfl (iv_in hp0 (by decide) (by decide)) dX3_spread_16 ?_
  refine lv_topi (fun z2 ez2 => ?_)
  refine lv_iload_n hx hb dX3_spread_17 rfl (lv_at hl 3 rfl) ?_
  refine lv_iadd hx hb dX3_spread_18 ?_
  refine lv_topi (fun z3 ez3 => ?_)
  refine va_mmin hx hb (hml.trans hl.1.symm) hown (hT _ t935) (hT _ t544) (hT _ t116) (hT _ t545) (Nat.le_of_ble_eq_true rfl) (Nat.le_of_ble_eq_true rfl) (Nat.zero_le _) (Nat.zero_le _) dX3_spread_19 ?_
  refine lv_topi (fun z4 ez4 => ?_)
  refine c_ist hx hb hK hP hD hS cw_158 cs_158 (iv_in hp1 (by decide) (by decide)) dX3_spread_22 (fun s5 H9 locs9 es5 hP9 hD9 hS9 => ?_)
  clear hP hD hS
  have hS := hS9
  have hP := hP9
  have hD := hD9
  clear hP9 hD9 hS9
  have hBs5 : CB s5 := by rw [es5]; exact cb_sw hB trivial
  have hFs5 : FR [158, 159] st s5 := fr_sw fr_rf (List.mem_of_getElem? (i := 0) rfl) es5
  refine lv_aload_n hx hb dX3_spread_23 rfl (lv_at hl 0 rfl) ?_
  refine va_get (D := D) (ci := 3) (v := .ref (a 159)) (C := RX3) (T := TX3) (N := 10) hx hb hT in_X3 hown hK hP 126 cw_126 rfl 2 (by decide) (hT _ t403) (fun _ h9 => h9) rfl dX3_spread_24 ?_
  refine lv_iload_n hx hb dX3_spread_27 rfl (lv_at hl 2 rfl) ?_
  refine lv_aload_n hx hb dX3_spread_28 rfl (lv_at hl 0 rfl) ?_
  refine va_get (D := D) (ci := 3) (v := .ref (a 159)) (C := RX3) (T := TX3) (N := 10) hx hb hT in_X3 hown hK hP 126 cw_126 rfl 2 (by decide) (hT _ t403) (fun _ h9 => h9) rfl dX3_spread_29 ?_
  refine lv_iload_n hx hb dX3_spread_32 rfl (lv_at hl 2 rfl) ?_
  refine va_iald hx hb hK hP 159 0 cw_159 rfl (iv_in hp1 (by decide) (by decide)) dX3_spread_33 ?_
  refine lv_topi (fun z6 ez6 => ?_)
  refine lv_aload_n hx hb dX3_spread_34 rfl (lv_at hl 0 rfl) ?_
  refine va_get (D := D) (ci := 3) (v := .ref (a 159)) (C := RX3) (T := TX3) (N := 10) hx hb hT in_X3 hown hK hP 126 cw_126 rfl 2 (by decide) (hT _ t403) (fun _ h9 => h9) rfl dX3_spread_35 ?_
  refine lv_iload_n hx hb dX3_spread_38 rfl (lv_at hl 1 rfl) ?_
  refine va_iald hx hb hK hP 159 0 cw_159 rfl (iv_in hp0 (by decide) (by decide)) dX3_spread_39 ?_
  refine lv_topi (fun z7 ez7 => ?_)
  refine lv_iconst (v := 1) hx hb dX3_spread_40 (by decide) ?_
  refine lv_iadd hx hb dX3_spread_41 ?_
  refine lv_topi (fun z8 ez8 => ?_)
  refine va_mmin hx hb (hml.trans hl.1.symm) hown (hT _ t935) (hT _ t544) (hT _ t116) (hT _ t545) (Nat.le_of_ble_eq_true rfl) (Nat.le_of_ble_eq_true rfl) (Nat.zero_le _) (Nat.zero_le _) dX3_spread_42 ?_
  refine lv_topi (fun z9 ez9 => ?_)
  refine c_ist hx hb hK hP hD hS cw_159 cs_159 (iv_in hp1 (by decide) (by decide)) dX3_spread_45 (fun s10 H9 locs9 es10 hP9 hD9 hS9 => ?_)
  clear hP hD hS
  have hS := hS9
  have hP := hP9
  have hD := hD9
  clear hP9 hD9 hS9
  have hBs10 : CB s10 := by rw [es10]; exact cb_sw hBs5 trivial
  have hFs10 : FR [158, 159] st s10 := fr_sw hFs5 (List.mem_of_getElem? (i := 1) rfl) es10
  rw [hQ]
  exact W.vret hx hb hr (fun t ht hW => ⟨⟨s10, rfl, ⟨hBs10, hFs10, trivial⟩, by rw [ht]; exact hP, va_K.moved hW.alike (hK.sub (tys' := []) [] rfl), by rw [hAe]; exact hD⟩, by rw [hAe]; exact hS.F ht⟩) hS.2.2 dX3_spread_46
set_option maxHeartbeats 4000000 in
set_option maxRecDepth 100000 in
theorem s_X3_aim (l : Launch) (D : va_G) (k : Nat → ClassId) (a : Nat → Nat) (st : CT) (sl : CL) (p0 : Int32) (p1 : Int32) (sz : Nat) (hB : CB st) (hp0 : Iv (-1) 2 p0) : Met l yX3_aim (.code yX3_aim cX3_aim 6 none :: TB) (rmw 2 0 0) (va_Pc [.ref (a 126), .ref (a 18), .int p0, .int p1] (PW D k sz (CWS k a st sl))) (QV D (S := CT) (fun u => CB u ∧ FR [126, 158, 159] st u ∧ u 126 9 = st 126 9 ∧ (u 126 7 = p0)) (fun u => CWS k a u sl) (fun _ => []) (CWS k a st sl) sz) 0 0 (va_A (CWS k a st sl) sz) := by
  refine Met.ofW (cc := cX3_aim) (maxL := 6) (ret := none) (by decide) rfl ?_
  intro p e s m args below meth c s₁ B hml hv
  obtain ⟨rfl, hsz, hP, hK, hD0, hN⟩ := hv
  have hx := B.exec
  have hb := B.bytes
  have hr := B.returns
  have hT : ∀ w9 ∈ TB, w9.before ([.ref (a 126), .ref (a 18), .int p0, .int p1] : List Value).toArray s = true := fun w9 h => atoms_spec (ws := .code yX3_aim cX3_aim 6 none :: TB) B.pre w9 (List.mem_cons_of_mem _ h)
  have hown : s.vm.findClass RX3 = some m.cls := findClass_of_methodNamed B.named
  have S : CallFix p m c cX3_aim 6 s _ TB RX3 := ⟨hx, hb, hml, hown, hT⟩
  subst hsz
  have hD := hD0.self (sz := s.heap.size)
  generalize hAe : va_A (CWS k a st sl) s.heap.size = A at hD ⊢
  have hA : ∀ q : Nat, s.heap.size ≤ q → A q := fun q h => by rw [← hAe]; exact Or.inr h
  have hS : va_S A s.heap s.heap [] := va_S.rf
  have hl := lv_entry ([.ref (a 126), .ref (a 18), .int p0, .int p1]) (n := 6) (Nat.le_of_ble_eq_true rfl)
  rw [lg_entry_eq]
  generalize (lg_sl ([.ref (a 126), .ref (a 18), .int p0, .int p1]) ++ List.replicate (6 - (lg_sl ([.ref (a 126), .ref (a 18), .int p0, .int p1])).length) Slot.unset).toArray = ls at hl ⊢
  have hl : lv_has ls 6 [(0, .ref (a 126)), (1, .ref (a 18)), (2, .int p0), (3, .int p1)] := hl
  refine nameQ (fun Q hQ => ?_)
  refine lv_aload_n hx hb dX3_aim_0 rfl (lv_at hl 0 rfl) ?_
  refine lv_iload_n hx hb dX3_aim_1 rfl (lv_at hl 2 rfl) ?_
  refine c_put (ci := 3) (C := RX3) (T := TX3) (N := 10) (j := 7) (v := p0) hx hb hT in_X3 tyX3 tyX3_ok nmX3 hown hK hP hD hS cw_126 rfl (by decide) (hT _ t411) (by decide +kernel) (by decide +kernel) rfl rfl (Nat.le_of_ble_eq_true rfl) (cs_126 (upd (st 126) 7 p0)) dX3_aim_2 (fun s1 H9 locs9 es1 hP9 hD9 hS9 => ?_)
  clear hP hD hS
  have hS := hS9
  have hP := hP9
  have hD := hD9
  clear hP9 hD9 hS9
  have hBs1 : CB s1 := by rw [es1]; exact cb_sw hB (ki_10_7 (hB 126) hp0)
  have hFs1 : FR [126, 158, 159] st s1 := fr_sw fr_rf (List.mem_of_getElem? (i := 0) rfl) es1
  refine lv_aload_n hx hb dX3_aim_5 rfl (lv_at hl 0 rfl) ?_
  refine lv_iload_n hx hb dX3_aim_6 rfl (lv_at hl 3 rfl) ?_
  refine c_put (ci := 3) (C := RX3) (T := TX3) (N := 10) (j := 8) (v := p1) hx hb hT in_X3 tyX3 tyX3_ok nmX3 hown hK hP hD hS cw_126 rfl (by decide) (hT _ t412) (by decide +kernel) (by decide +kernel) rfl rfl (Nat.le_of_ble_eq_true rfl) (cs_126 (upd (s1 126) 8 p1)) dX3_aim_7 (fun s2 H9 locs9 es2 hP9 hD9 hS9 => ?_)
  clear hP hD hS
  have hS := hS9
  have hP := hP9
  have hD := hD9
  clear hP9 hD9 hS9
  have hBs2 : CB s2 := by rw [es2]; exact cb_sw hBs1 (ki_10_8 (hBs1 126))
  have hFs2 : FR [126, 158, 159] st s2 := fr_sw hFs1 (List.mem_of_getElem? (i := 0) rfl) es2
  refine lv_aload_n hx hb dX3_aim_10 rfl (lv_at hl 0 rfl) ?_
  refine lv_iconst (v := 0) hx hb dX3_aim_11 (by decide) ?_
  refine c_put (ci := 3) (C := RX3) (T := TX3) (N := 10) (j := 5) (v := 0) hx hb hT in_X3 tyX3 tyX3_ok nmX3 hown hK hP hD hS cw_126 rfl (by decide) (hT _ t407) (by decide +kernel) (by decide +kernel) rfl rfl (Nat.le_of_ble_eq_true rfl) (cs_126 (upd (s2 126) 5 0)) dX3_aim_12 (fun s3 H9 locs9 es3 hP9 hD9 hS9 => ?_)
  clear hP hD hS
  have hS := hS9
  have hP := hP9
  have hD := hD9
  clear hP9 hD9 hS9
  have hBs3 : CB s3 := by rw [es3]; exact cb_sw hBs2 (ki_10_5 (hBs2 126) (iv_mono (c := 0) (d := 4) (iv_c (by decide) : Iv 0 0 0) (by decide) (by decide)))
  have hFs3 : FR [126, 158, 159] st s3 := fr_sw hFs2 (List.mem_of_getElem? (i := 0) rfl) es3
  refine lv_aload_n hx hb dX3_aim_15 rfl (lv_at hl 0 rfl) ?_
  refine lv_ldc (v := 1000000) hx hb hown (hT _ t929) dX3_aim_16 ?_
  refine c_put (ci := 3) (C := RX3) (T := TX3) (N := 10) (j := 6) (v := 1000000) hx hb hT in_X3 tyX3 tyX3_ok nmX3 hown hK hP hD hS cw_126 rfl (by decide) (hT _ t409) (by decide +kernel) (by decide +kernel) rfl rfl (Nat.le_of_ble_eq_true rfl) (cs_126 (upd (s3 126) 6 1000000)) dX3_aim_18 (fun s4 H9 locs9 es4 hP9 hD9 hS9 => ?_)
  clear hP hD hS
  have hS := hS9
  have hP := hP9
  have hD := hD9
  clear hP9 hD9 hS9
  have hBs4 : CB s4 := by rw [es4]; exact cb_sw hBs3 (ki_10_6 (hBs3 126))
  have hFs4 : FR [126, 158, 159] st s4 := fr_sw hFs3 (List.mem_of_getElem? (i := 0) rfl) es4
  refine lv_aload_n hx hb dX3_aim_21 rfl (lv_at hl 0 rfl) ?_
  refine va_get (D := D) (ci := 3) (v := .ref (a 158)) (C := RX3) (T := TX3) (N := 10) hx hb hT in_X3 hown hK hP 126 cw_126 rfl 1 (by decide) (hT _ t401) (fun _ h9 => h9) rfl dX3_aim_22 ?_
  refine lv_ldc (v := 1000000) hx hb hown (hT _ t929) dX3_aim_25 ?_
  refine c_fil hP hD hS hA cw_158 cs_158 (fun hPc hDc => run_S (mc := 0) (ms := 0) (C := RJ7) (As := [.ref (a 158), .int 1000000]) (rest := []) S (c_fillI l D k (a 158) 6 _ 1000000 (by decide) _) (gdC t166) t930 t165 t109 ok_J7_fill_53178 ⟨rfl, rfl, Nat.le_of_ble_eq_true rfl, Nat.le_of_ble_eq_true rfl⟩ (pw_S hK hN hPc hDc) rfl hl.1 rfl (Nat.le_of_ble_eq_true rfl) ⟨Nat.zero_le _, Nat.zero_le _⟩ dX3_aim_27) (fun s5 H9 locs9 fs5 es5 gs5 hP9 hD9 hS9 => ?_)
  clear hP hD hS
  have hS := hS9
  have hP := hP9
  have hD := hD9
  clear hP9 hD9 hS9
  have hBs5 : CB s5 := by rw [es5]; exact cb_sw hBs4 trivial
  have hFs5 : FR [126, 158, 159] st s5 := fr_sw hFs4 (List.mem_of_getElem? (i := 1) rfl) es5
  refine lv_aload_n hx hb dX3_aim_30 rfl (lv_at hl 0 rfl) ?_
  refine va_get (D := D) (ci := 3) (v := .ref (a 159)) (C := RX3) (T := TX3) (N := 10) hx hb hT in_X3 hown hK hP 126 cw_126 rfl 2 (by decide) (hT _ t403) (fun _ h9 => h9) rfl dX3_aim_31 ?_
  refine lv_ldc (v := 1000000) hx hb hown (hT _ t929) dX3_aim_34 ?_
  refine c_fil hP hD hS hA cw_159 cs_159 (fun hPc hDc => run_S (mc := 0) (ms := 0) (C := RJ7) (As := [.ref (a 159), .int 1000000]) (rest := []) S (c_fillI l D k (a 159) 6 _ 1000000 (by decide) _) (gdC t166) t930 t165 t109 ok_J7_fill_53178 ⟨rfl, rfl, Nat.le_of_ble_eq_true rfl, Nat.le_of_ble_eq_true rfl⟩ (pw_S hK hN hPc hDc) rfl hl.1 rfl (Nat.le_of_ble_eq_true rfl) ⟨Nat.zero_le _, Nat.zero_le _⟩ dX3_aim_36) (fun s6 H9 locs9 fs6 es6 gs6 hP9 hD9 hS9 => ?_)
  clear hP hD hS
  have hS := hS9
  have hP := hP9
  have hD := hD9
  clear hP9 hD9 hS9
  have hBs6 : CB s6 := by rw [es6]; exact cb_sw hBs5 trivial
  have hFs6 : FR [126, 158, 159] st s6 := fr_sw hFs5 (List.mem_of_getElem? (i := 2) rfl) es6
  refine lv_iload_n hx hb dX3_aim_39 rfl (lv_at hl 3 rfl) ?_
  refine lv_if_lt (tgt := 63) hx hb dX3_aim_40 (by decide) (fun c7 => ?_) (fun c7 => ?_)
  · skip
    have n8 : p1.toInt < (0 : Int32).toInt := (i_lt c7)
    have h9 : Iv (-2147483648) (-1) p1 := lt_l (iv_full p1) n8 (iv_c (by decide) : Iv 0 0 0) (by decide)
    refine lv_iconst (v := 1) hx hb dX3_aim_63 (by decide) ?_
    refine lv_istore (lv' := [(4, .int 1), (0, .ref (a 126)), (1, .ref (a 18)), (2, .int p0), (3, .int p1)]) hx hb dX3_aim_64 hl (by decide) rfl (fun ls hl => ?_)
    have lp66 : ∀ (n9_66 : Nat) (v4_66 : Int32) (t66 : CT) (H9 : Heap) (locs9 : List Loc) (ls : Array Slot), Iv 1 6 v4_66 → CB t66 → FR [158, 159] s6 t66 → va_P D vwCl (CWS k a t66 sl) H9 → va_D A (CWS k a t66 sl) → va_S A s.heap H9 locs9 → lv_has ls 6 [(4, .int v4_66), (0, .ref (a 126)), (1, .ref (a 18)), (2, .int p0), (3, .int p1)] → (6 : Int) - v4_66.toInt < (n9_66 : Int) → W p l e (rmw 2 0 0) s m ([.ref (a 126), .ref (a 18), .int p0, .int p1] : List Value).toArray below meth c H9 locs9 0 0 Q (F0 m 66 ls []) := by
      clear hl hP hD hS
      intro n9_66
      induction n9_66 with
      | zero =>
        intro v4_66 t66 H9 locs9 ls iv4_66 hBt66 gt66 hP hD hS hl hm66
        exact (fu_0 iv4_66 hm66).elim
      | succ n9_66 ih66 =>
        intro v4_66 t66 H9 locs9 ls iv4_66 hBt66 gt66 hP hD hS hl hm66
        have hFt66 : FR [126, 158, 159] st t66 := fr_ca hFs6 gt66 (sub_1 (List.mem_of_getElem? (i := 1) rfl) (sub_1 (List.mem_of_getElem? (i := 2) rfl) sub_0))
        refine lv_iload hx hb dX3_aim_66 (lv_at hl 0 rfl) ?_
        refine lv_aload_n hx hb dX3_aim_68 rfl (lv_at hl 2 rfl) ?_
        refine va_get (D := D) (ci := 1) (v := .int (t66 18 1)) (C := RX1) (T := TX1) (N := 14) hx hb hT in_X1 hown hK hP 18 cw_18 rfl 1 (by decide) (hT _ t199) (fun _ h9 => h9) rfl dX3_aim_69 ?_
        refine k_top (y := (st 18 1)) (congrFun (hFt66 18 (nm_1 (by decide) (nm_1 (by decide) (nm_1 (by decide) nm_0)))) 1) ?_
        have h1378 : Iv 0 6 (st 18 1) := (rb_18_1 hB)
        refine lv_icmp_ge (tgt := 149) hx hb dX3_aim_72 (by decide) (fun c1379 => ?_) (fun c1379 => ?_)
        · skip
          have n1380 : (st 18 1).toInt ≤ v4_66.toInt := (i_le c1379)
          rw [hQ]
          exact W.vret hx hb hr (fun t ht hW => ⟨⟨t66, rfl, ⟨hBt66, hFt66, (Eq.trans (congrFun (gt66 126 (nm_1 (by decide) (nm_1 (by decide) nm_0))) 9) (Eq.trans (congrFun (sw_at es6 (by decide)) 9) (Eq.trans (congrFun (sw_at es5 (by decide)) 9) (Eq.trans (congrFun (sw_it es4) 9) (Eq.trans (congrFun (sw_it es3) 9) (Eq.trans (congrFun (sw_it es2) 9) (congrFun (sw_it es1) 9))))))), (Eq.trans (congrFun (gt66 126 (nm_1 (by decide) (nm_1 (by decide) nm_0))) 7) (Eq.trans (congrFun (sw_at es6 (by decide)) 7) (Eq.trans (congrFun (sw_at es5 (by decide)) 7) (Eq.trans (congrFun (sw_it es4) 7) (Eq.trans (congrFun (sw_it es3) 7) (Eq.trans (congrFun (sw_it es2) 7) (congrFun (sw_it es1) 7)))))))⟩, by rw [ht]; exact hP, va_K.moved hW.alike (hK.sub (tys' := []) [] rfl), by rw [hAe]; exact hD⟩, by rw [hAe]; exact hS.F ht⟩) hS.2.2 dX3_aim_149
        · skip
          have n1381 : v4_66.toInt < (st 18 1).toInt := (i_nle c1379)
          have h1382 : Iv 1 5 v4_66 := lt_l iv4_66 n1381 h1378 (by decide)
          have h1383 : Iv 2 6 (st 18 1) := lt_r iv4_66 n1381 h1378 (by decide)
          refine lv_iconst (v := 0) hx hb dX3_aim_75 (by decide) ?_
          refine lv_istore (lv' := [(5, .int 0), (4, .int v4_66), (0, .ref (a 126)), (1, .ref (a 18)), (2, .int p0), (3, .int p1)]) hx hb dX3_aim_76 hl (by decide) rfl (fun ls hl => ?_)
          have lp78 : ∀ (n9_78 : Nat) (v5_78 : Int32) (t78 : CT) (H9 : Heap) (locs9 : List Loc) (ls : Array Slot), Iv 0 8 v5_78 → CB t78 → FR [158, 159] t66 t78 → va_P D vwCl (CWS k a t78 sl) H9 → va_D A (CWS k a t78 sl) → va_S A s.heap H9 locs9 → lv_has ls 6 [(5, .int v5_78), (4, .int v4_66), (0, .ref (a 126)), (1, .ref (a 18)), (2, .int p0), (3, .int p1)] → (8 : Int) - v5_78.toInt < (n9_78 : Int) → W p l e (rmw 2 0 0) s m ([.ref (a 126), .ref (a 18), .int p0, .int p1] : List Value).toArray below meth c H9 locs9 0 0 Q (F0 m 78 ls []) := by
            clear hl hP hD hS
            intro n9_78
            induction n9_78 with
            | zero =>
              intro v5_78 t78 H9 locs9 ls iv5_78 hBt78 gt78 hP hD hS hl hm78
              exact (fu_0 iv5_78 hm78).elim
            | succ n9_78 ih78 =>
              intro v5_78 t78 H9 locs9 ls iv5_78 hBt78 gt78 hP hD hS hl hm78
              have hFt78 : FR [126, 158, 159] st t78 := fr_ca hFt66 gt78 (sub_1 (List.mem_of_getElem? (i := 1) rfl) (sub_1 (List.mem_of_getElem? (i := 2) rfl) sub_0))
              refine lv_iload hx hb dX3_aim_78 (lv_at hl 0 rfl) ?_
              refine lv_aload_n hx hb dX3_aim_80 rfl (lv_at hl 3 rfl) ?_
              refine va_get (D := D) (ci := 1) (v := .int (t78 18 3)) (C := RX1) (T := TX1) (N := 14) hx hb hT in_X1 hown hK hP 18 cw_18 rfl 3 (by decide) (hT _ t208) (fun _ h9 => h9) rfl dX3_aim_81 ?_
              refine k_top (y := (st 18 3)) (congrFun (hFt78 18 (nm_1 (by decide) (nm_1 (by decide) (nm_1 (by decide) nm_0)))) 3) ?_
              have h1582 : Iv 0 8 (st 18 3) := (rb_18_3 hB)
              refine lv_icmp_ge (tgt := 143) hx hb dX3_aim_84 (by decide) (fun c1583 => ?_) (fun c1583 => ?_)
              · skip
                have n1584 : (st 18 3).toInt ≤ v5_78.toInt := (i_le c1583)
                obtain ⟨z1585, ez1585⟩ : ∃ z9 : Int32, z9 = v4_66 + Int32.ofInt 1 := ⟨_, rfl⟩
                have h1586 : Iv 2 6 z1585 := iv_inc ez1585 h1382 (by decide) (by decide) (by decide) (by decide) (by decide) (by decide)
                refine lv_iinc (v := z1585) (lv' := [(4, .int z1585), (5, .int v5_78), (0, .ref (a 126)), (1, .ref (a 18)), (2, .int p0), (3, .int p1)]) hx hb dX3_aim_143 hl (k := 1) rfl ez1585.symm (by decide) rfl (fun ls hl => ?_)
                refine lv_goto (tgt := 66) hx hb dX3_aim_146 (by decide) ?_
                exact ih66 z1585 t78 _ _ _ (iv_mono (c := 1) (d := 6) h1586 (by decide) (by decide)) hBt78 (fr_ca gt66 gt78 (sub_1 (List.mem_of_getElem? (i := 0) rfl) (sub_1 (List.mem_of_getElem? (i := 1) rfl) sub_0))) hP hD hS (lv_sub hl [0, 2, 3, 4, 5] rfl) (fu_s (lo := 0) (ti_inc ez1585 h1382 (by decide) (by decide) (by decide) (by decide)) (by decide) hm66)
              · skip
                have n1587 : v5_78.toInt < (st 18 3).toInt := (i_nle c1583)
                have h1588 : Iv 0 7 v5_78 := lt_l iv5_78 n1587 h1582 (by decide)
                have h1589 : Iv 1 8 (st 18 3) := lt_r iv5_78 n1587 h1582 (by decide)
                refine lv_aload_n hx hb dX3_aim_87 rfl (lv_at hl 2 rfl) ?_
                refine lv_aload_n hx hb dX3_aim_88 rfl (lv_at hl 3 rfl) ?_
                refine va_get (D := D) (ci := 1) (v := .ref (a 19)) (C := RX1) (T := TX1) (N := 14) hx hb hT in_X1 hown hK hP 18 cw_18 rfl 7 (by decide) (hT _ t223) (fun _ h9 => h9) rfl dX3_aim_89 ?_
                refine lv_iload hx hb dX3_aim_92 (lv_at hl 0 rfl) ?_
                refine va_iald hx hb hK hP 19 0 cw_19 rfl (iv_in h1588 (by decide) (by decide)) dX3_aim_94 ?_
                refine lv_topi (fun z1590 ez1590 => ?_)
                have h1591 : Iv 0 5 z1590 := by rw [ez1590]; exact (rb_19 hBt78 (vp_in_lt (iv_in h1588 (by decide) (by decide))))
                refine lv_aload_n hx hb dX3_aim_95 rfl (lv_at hl 3 rfl) ?_
                refine va_get (D := D) (ci := 1) (v := .ref (a 20)) (C := RX1) (T := TX1) (N := 14) hx hb hT in_X1 hown hK hP 18 cw_18 rfl 8 (by decide) (hT _ t226) (fun _ h9 => h9) rfl dX3_aim_96 ?_
                refine lv_iload hx hb dX3_aim_99 (lv_at hl 0 rfl) ?_
                refine va_iald hx hb hK hP 20 0 cw_20 rfl (iv_in h1588 (by decide) (by decide)) dX3_aim_101 ?_
                refine lv_topi (fun z1592 ez1592 => ?_)
                have h1593 : Iv 0 5 z1592 := by rw [ez1592]; exact (rb_20 hBt78 (vp_in_lt (iv_in h1588 (by decide) (by decide))))
                refine lv_aload_n hx hb dX3_aim_102 rfl (lv_at hl 3 rfl) ?_
                refine va_get (D := D) (ci := 1) (v := .ref (a 21)) (C := RX1) (T := TX1) (N := 14) hx hb hT in_X1 hown hK hP 18 cw_18 rfl 9 (by decide) (hT _ t229) (fun _ h9 => h9) rfl dX3_aim_103 ?_
                refine lv_iload hx hb dX3_aim_106 (lv_at hl 0 rfl) ?_
                refine va_iald hx hb hK hP 21 0 cw_21 rfl (iv_in h1588 (by decide) (by decide)) dX3_aim_108 ?_
                refine lv_topi (fun z1594 ez1594 => ?_)
                refine ca_v hP hD hS hA (fun hDc => run_V (mc := 0) (ms := 0) (As := [.int z1590, .int z1592, .int z1594]) (rest := []) S (s_X3_spread l D k a t78 sl  z1590 z1592 z1594 _  hBt78 h1591 h1593 ) lkX3_68 ok_X3_spread ⟨rfl, rfl, Nat.le_of_ble_eq_true rfl, Nat.le_of_ble_eq_true rfl⟩ (pw_V (ci := 3) (q0 := 126) hK hN rfl cw_126 hP hDc) rfl hl.1 rfl (Nat.le_of_ble_eq_true rfl) ⟨Nat.zero_le _, Nat.zero_le _⟩ dX3_aim_109) (fun s1595 H9 locs9 hs1595 hP9 hD9 hS9 => ?_)
                clear hP hD hS
                have hS := hS9
                have hP := hP9
                have hD := hD9
                clear hP9 hD9 hS9
                obtain ⟨hBs1595, gs1595, fs1595⟩ := hs1595
                have hFs1595 : FR [126, 158, 159] st s1595 := fr_ca hFt78 gs1595 (sub_1 (List.mem_of_getElem? (i := 1) rfl) (sub_1 (List.mem_of_getElem? (i := 2) rfl) sub_0))
                refine lv_aload_n hx hb dX3_aim_112 rfl (lv_at hl 2 rfl) ?_
                refine lv_aload_n hx hb dX3_aim_113 rfl (lv_at hl 3 rfl) ?_
                refine va_get (D := D) (ci := 1) (v := .ref (a 20)) (C := RX1) (T := TX1) (N := 14) hx hb hT in_X1 hown hK hP 18 cw_18 rfl 8 (by decide) (hT _ t226) (fun _ h9 => h9) rfl dX3_aim_114 ?_
                refine lv_iload hx hb dX3_aim_117 (lv_at hl 0 rfl) ?_
                refine va_iald hx hb hK hP 20 0 cw_20 rfl (iv_in h1588 (by decide) (by decide)) dX3_aim_119 ?_
                refine lv_topi (fun z1597 ez1597 => ?_)
                have h1598 : Iv 0 5 z1597 := by rw [ez1597]; exact (rb_20 hBs1595 (vp_in_lt (iv_in h1588 (by decide) (by decide))))
                refine lv_aload_n hx hb dX3_aim_120 rfl (lv_at hl 3 rfl) ?_
                refine va_get (D := D) (ci := 1) (v := .ref (a 19)) (C := RX1) (T := TX1) (N := 14) hx hb hT in_X1 hown hK hP 18 cw_18 rfl 7 (by decide) (hT _ t223) (fun _ h9 => h9) rfl dX3_aim_121 ?_
                refine lv_iload hx hb dX3_aim_124 (lv_at hl 0 rfl) ?_
                refine va_iald hx hb hK hP 19 0 cw_19 rfl (iv_in h1588 (by decide) (by decide)) dX3_aim_126 ?_
                refine lv_topi (fun z1599 ez1599 => ?_)
                have h1600 : Iv 0 5 z1599 := by rw [ez1599]; exact (rb_19 hBs1595 (vp_in_lt (iv_in h1588 (by decide) (by decide))))
                refine lv_aload_n hx hb dX3_aim_127 rfl (lv_at hl 3 rfl) ?_
                refine va_get (D := D) (ci := 1) (v := .ref (a 21)) (C := RX1) (T := TX1) (N := 14) hx hb hT in_X1 hown hK hP 18 cw_18 rfl 9 (by decide) (hT _ t229) (fun _ h9 => h9) rfl dX3_aim_128 ?_
                refine lv_iload hx hb dX3_aim_131 (lv_at hl 0 rfl) ?_
                refine va_iald hx hb hK hP 21 0 cw_21 rfl (iv_in h1588 (by decide) (by decide)) dX3_aim_133 ?_
                refine lv_topi (fun z1601 ez1601 => ?_)
                refine ca_v hP hD hS hA (fun hDc => run_V (mc := 0) (ms := 0) (As := [.int z1597, .int z1599, .int z1601]) (rest := []) S (s_X3_spread l D k a s1595 sl  z1597 z1599 z1601 _  hBs1595 h1598 h1600 ) lkX3_68 ok_X3_spread ⟨rfl, rfl, Nat.le_of_ble_eq_true rfl, Nat.le_of_ble_eq_true rfl⟩ (pw_V (ci := 3) (q0 := 126) hK hN rfl cw_126 hP hDc) rfl hl.1 rfl (Nat.le_of_ble_eq_true rfl) ⟨Nat.zero_le _, Nat.zero_le _⟩ dX3_aim_134) (fun s1602 H9 locs9 hs1602 hP9 hD9 hS9 => ?_)
                clear hP hD hS
                have hS := hS9
                have hP := hP9
                have hD := hD9
                clear hP9 hD9 hS9
                obtain ⟨hBs1602, gs1602, fs1602⟩ := hs1602
                have hFs1602 : FR [126, 158, 159] st s1602 := fr_ca hFs1595 gs1602 (sub_1 (List.mem_of_getElem? (i := 1) rfl) (sub_1 (List.mem_of_getElem? (i := 2) rfl) sub_0))
                obtain ⟨z1604, ez1604⟩ : ∃ z9 : Int32, z9 = v5_78 + Int32.ofInt 1 := ⟨_, rfl⟩
                have h1605 : Iv 1 8 z1604 := iv_inc ez1604 h1588 (by decide) (by decide) (by decide) (by decide) (by decide) (by decide)
                refine lv_iinc (v := z1604) (lv' := [(5, .int z1604), (4, .int v4_66), (0, .ref (a 126)), (1, .ref (a 18)), (2, .int p0), (3, .int p1)]) hx hb dX3_aim_137 hl (k := 0) rfl ez1604.symm (by decide) rfl (fun ls hl => ?_)
                refine lv_goto (tgt := 78) hx hb dX3_aim_140 (by decide) ?_
                exact ih78 z1604 s1602 _ _ _ (iv_mono (c := 0) (d := 8) h1605 (by decide) (by decide)) hBs1602 (fr_ca (fr_ca gt78 gs1595 (sub_1 (List.mem_of_getElem? (i := 0) rfl) (sub_1 (List.mem_of_getElem? (i := 1) rfl) sub_0))) gs1602 (sub_1 (List.mem_of_getElem? (i := 0) rfl) (sub_1 (List.mem_of_getElem? (i := 1) rfl) sub_0))) hP hD hS (lv_sub hl [0, 1, 2, 3, 4, 5] rfl) (fu_s (lo := 0) (ti_inc ez1604 h1588 (by decide) (by decide) (by decide) (by decide)) (by decide) hm78)
          exact lp78 9 0 t66 _ _ _ (iv_mono (c := 0) (d := 8) (iv_c (by decide) : Iv 0 0 0) (by decide) (by decide)) hBt66 fr_rf hP hD hS (lv_sub hl [0, 1, 2, 3, 4, 5] rfl) (fu_i (iv_mono (c := 0) (d := 8) (iv_c (by decide) : Iv 0 0 0) (by decide) (by decide)) (by decide))
    exact lp66 6 1 s6 _ _ _ (iv_mono (c := 1) (d := 6) (iv_c (by decide) : Iv 1 1 1) (by decide) (by decide)) hBs6 fr_rf hP hD hS (lv_sub hl [0, 1, 2, 3, 4] rfl) (fu_i (iv_mono (c := 1) (d := 6) (iv_c (by decide) : Iv 1 1 1) (by decide) (by decide)) (by decide))
  · skip
    have n1606 : (0 : Int32).toInt ≤ p1.toInt := (i_nlt c7)
    have h1607 : Iv 0 2147483647 p1 := le_r (iv_c (by decide) : Iv 0 0 0) n1606 (iv_full p1) (by decide)
    refine lv_iload_n hx hb dX3_aim_43 rfl (lv_at hl 3 rfl) ?_
    refine lv_bipush (v := 6) hx hb dX3_aim_44 (by decide) ?_
    refine lv_icmp_ge (tgt := 63) hx hb dX3_aim_46 (by decide) (fun c1608 => ?_) (fun c1608 => ?_)
    · skip
      have n1609 : (6 : Int32).toInt ≤ p1.toInt := (i_le c1608)
      have h1610 : Iv 6 2147483647 p1 := le_r (iv_c (by decide) : Iv 6 6 6) n1609 h1607 (by decide)
      refine lv_iconst (v := 1) hx hb dX3_aim_63 (by decide) ?_
      refine lv_istore (lv' := [(4, .int 1), (0, .ref (a 126)), (1, .ref (a 18)), (2, .int p0), (3, .int p1)]) hx hb dX3_aim_64 hl (by decide) rfl (fun ls hl => ?_)
      have lp66 : ∀ (n9_66 : Nat) (v4_66 : Int32) (t66 : CT) (H9 : Heap) (locs9 : List Loc) (ls : Array Slot), Iv 1 6 v4_66 → CB t66 → FR [158, 159] s6 t66 → va_P D vwCl (CWS k a t66 sl) H9 → va_D A (CWS k a t66 sl) → va_S A s.heap H9 locs9 → lv_has ls 6 [(4, .int v4_66), (0, .ref (a 126)), (1, .ref (a 18)), (2, .int p0), (3, .int p1)] → (6 : Int) - v4_66.toInt < (n9_66 : Int) → W p l e (rmw 2 0 0) s m ([.ref (a 126), .ref (a 18), .int p0, .int p1] : List Value).toArray below meth c H9 locs9 0 0 Q (F0 m 66 ls []) := by
        clear hl hP hD hS
        intro n9_66
        induction n9_66 with
        | zero =>
          intro v4_66 t66 H9 locs9 ls iv4_66 hBt66 gt66 hP hD hS hl hm66
          exact (fu_0 iv4_66 hm66).elim
        | succ n9_66 ih66 =>
          intro v4_66 t66 H9 locs9 ls iv4_66 hBt66 gt66 hP hD hS hl hm66
          have hFt66 : FR [126, 158, 159] st t66 := fr_ca hFs6 gt66 (sub_1 (List.mem_of_getElem? (i := 1) rfl) (sub_1 (List.mem_of_getElem? (i := 2) rfl) sub_0))
          refine lv_iload hx hb dX3_aim_66 (lv_at hl 0 rfl) ?_
          refine lv_aload_n hx hb dX3_aim_68 rfl (lv_at hl 2 rfl) ?_
          refine va_get (D := D) (ci := 1) (v := .int (t66 18 1)) (C := RX1) (T := TX1) (N := 14) hx hb hT in_X1 hown hK hP 18 cw_18 rfl 1 (by decide) (hT _ t199) (fun _ h9 => h9) rfl dX3_aim_69 ?_
          refine k_top (y := (st 18 1)) (congrFun (hFt66 18 (nm_1 (by decide) (nm_1 (by decide) (nm_1 (by decide) nm_0)))) 1) ?_
          have h2979 : Iv 0 6 (st 18 1) := (rb_18_1 hB)
          refine lv_icmp_ge (tgt := 149) hx hb dX3_aim_72 (by decide) (fun c2980 => ?_) (fun c2980 => ?_)
          · skip
            have n2981 : (st 18 1).toInt ≤ v4_66.toInt := (i_le c2980)
            rw [hQ]
            exact W.vret hx hb hr (fun t ht hW => ⟨⟨t66, rfl, ⟨hBt66, hFt66, (Eq.trans (congrFun (gt66 126 (nm_1 (by decide) (nm_1 (by decide) nm_0))) 9) (Eq.trans (congrFun (sw_at es6 (by decide)) 9) (Eq.trans (congrFun (sw_at es5 (by decide)) 9) (Eq.trans (congrFun (sw_it es4) 9) (Eq.trans (congrFun (sw_it es3) 9) (Eq.trans (congrFun (sw_it es2) 9) (congrFun (sw_it es1) 9))))))), (Eq.trans (congrFun (gt66 126 (nm_1 (by decide) (nm_1 (by decide) nm_0))) 7) (Eq.trans (congrFun (sw_at es6 (by decide)) 7) (Eq.trans (congrFun (sw_at es5 (by decide)) 7) (Eq.trans (congrFun (sw_it es4) 7) (Eq.trans (congrFun (sw_it es3) 7) (Eq.trans (congrFun (sw_it es2) 7) (congrFun (sw_it es1) 7)))))))⟩, by rw [ht]; exact hP, va_K.moved hW.alike (hK.sub (tys' := []) [] rfl), by rw [hAe]; exact hD⟩, by rw [hAe]; exact hS.F ht⟩) hS.2.2 dX3_aim_149
          · skip
            have n2982 : v4_66.toInt < (st 18 1).toInt := (i_nle c2980)
            have h2983 : Iv 1 5 v4_66 := lt_l iv4_66 n2982 h2979 (by decide)
            have h2984 : Iv 2 6 (st 18 1) := lt_r iv4_66 n2982 h2979 (by decide)
            refine lv_iconst (v := 0) hx hb dX3_aim_75 (by decide) ?_
            refine lv_istore (lv' := [(5, .int 0), (4, .int v4_66), (0, .ref (a 126)), (1, .ref (a 18)), (2, .int p0), (3, .int p1)]) hx hb dX3_aim_76 hl (by decide) rfl (fun ls hl => ?_)
            have lp78 : ∀ (n9_78 : Nat) (v5_78 : Int32) (t78 : CT) (H9 : Heap) (locs9 : List Loc) (ls : Array Slot), Iv 0 8 v5_78 → CB t78 → FR [158, 159] t66 t78 → va_P D vwCl (CWS k a t78 sl) H9 → va_D A (CWS k a t78 sl) → va_S A s.heap H9 locs9 → lv_has ls 6 [(5, .int v5_78), (4, .int v4_66), (0, .ref (a 126)), (1, .ref (a 18)), (2, .int p0), (3, .int p1)] → (8 : Int) - v5_78.toInt < (n9_78 : Int) → W p l e (rmw 2 0 0) s m ([.ref (a 126), .ref (a 18), .int p0, .int p1] : List Value).toArray below meth c H9 locs9 0 0 Q (F0 m 78 ls []) := by
              clear hl hP hD hS
              intro n9_78
              induction n9_78 with
              | zero =>
                intro v5_78 t78 H9 locs9 ls iv5_78 hBt78 gt78 hP hD hS hl hm78
                exact (fu_0 iv5_78 hm78).elim
              | succ n9_78 ih78 =>
                intro v5_78 t78 H9 locs9 ls iv5_78 hBt78 gt78 hP hD hS hl hm78
                have hFt78 : FR [126, 158, 159] st t78 := fr_ca hFt66 gt78 (sub_1 (List.mem_of_getElem? (i := 1) rfl) (sub_1 (List.mem_of_getElem? (i := 2) rfl) sub_0))
                refine lv_iload hx hb dX3_aim_78 (lv_at hl 0 rfl) ?_
                refine lv_aload_n hx hb dX3_aim_80 rfl (lv_at hl 3 rfl) ?_
                refine va_get (D := D) (ci := 1) (v := .int (t78 18 3)) (C := RX1) (T := TX1) (N := 14) hx hb hT in_X1 hown hK hP 18 cw_18 rfl 3 (by decide) (hT _ t208) (fun _ h9 => h9) rfl dX3_aim_81 ?_
                refine k_top (y := (st 18 3)) (congrFun (hFt78 18 (nm_1 (by decide) (nm_1 (by decide) (nm_1 (by decide) nm_0)))) 3) ?_
                have h3183 : Iv 0 8 (st 18 3) := (rb_18_3 hB)
                refine lv_icmp_ge (tgt := 143) hx hb dX3_aim_84 (by decide) (fun c3184 => ?_) (fun c3184 => ?_)
                · skip
                  have n3185 : (st 18 3).toInt ≤ v5_78.toInt := (i_le c3184)
                  obtain ⟨z3186, ez3186⟩ : ∃ z9 : Int32, z9 = v4_66 + Int32.ofInt 1 := ⟨_, rfl⟩
                  have h3187 : Iv 2 6 z3186 := iv_inc ez3186 h2983 (by decide) (by decide) (by decide) (by decide) (by decide) (by decide)
                  refine lv_iinc (v := z3186) (lv' := [(4, .int z3186), (5, .int v5_78), (0, .ref (a 126)), (1, .ref (a 18)), (2, .int p0), (3, .int p1)]) hx hb dX3_aim_143 hl (k := 1) rfl ez3186.symm (by decide) rfl (fun ls hl => ?_)
                  refine lv_goto (tgt := 66) hx hb dX3_aim_146 (by decide) ?_
                  exact ih66 z3186 t78 _ _ _ (iv_mono (c := 1) (d := 6) h3187 (by decide) (by decide)) hBt78 (fr_ca gt66 gt78 (sub_1 (List.mem_of_getElem? (i := 0) rfl) (sub_1 (List.mem_of_getElem? (i := 1) rfl) sub_0))) hP hD hS (lv_sub hl [0, 2, 3, 4, 5] rfl) (fu_s (lo := 0) (ti_inc ez3186 h2983 (by decide) (by decide) (by decide) (by decide)) (by decide) hm66)
                · skip
                  have n3188 : v5_78.toInt < (st 18 3).toInt := (i_nle c3184)
                  have h3189 : Iv 0 7 v5_78 := lt_l iv5_78 n3188 h3183 (by decide)
                  have h3190 : Iv 1 8 (st 18 3) := lt_r iv5_78 n3188 h3183 (by decide)
                  refine lv_aload_n hx hb dX3_aim_87 rfl (lv_at hl 2 rfl) ?_
                  refine lv_aload_n hx hb dX3_aim_88 rfl (lv_at hl 3 rfl) ?_
                  refine va_get (D := D) (ci := 1) (v := .ref (a 19)) (C := RX1) (T := TX1) (N := 14) hx hb hT in_X1 hown hK hP 18 cw_18 rfl 7 (by decide) (hT _ t223) (fun _ h9 => h9) rfl dX3_aim_89 ?_
                  refine lv_iload hx hb dX3_aim_92 (lv_at hl 0 rfl) ?_
                  refine va_iald hx hb hK hP 19 0 cw_19 rfl (iv_in h3189 (by decide) (by decide)) dX3_aim_94 ?_
                  refine lv_topi (fun z3191 ez3191 => ?_)
                  have h3192 : Iv 0 5 z3191 := by rw [ez3191]; exact (rb_19 hBt78 (vp_in_lt (iv_in h3189 (by decide) (by decide))))
                  refine lv_aload_n hx hb dX3_aim_95 rfl (lv_at hl 3 rfl) ?_
                  refine va_get (D := D) (ci := 1) (v := .ref (a 20)) (C := RX1) (T := TX1) (N := 14) hx hb hT in_X1 hown hK hP 18 cw_18 rfl 8 (by decide) (hT _ t226) (fun _ h9 => h9) rfl dX3_aim_96 ?_
                  refine lv_iload hx hb dX3_aim_99 (lv_at hl 0 rfl) ?_
                  refine va_iald hx hb hK hP 20 0 cw_20 rfl (iv_in h3189 (by decide) (by decide)) dX3_aim_101 ?_
                  refine lv_topi (fun z3193 ez3193 => ?_)
                  have h3194 : Iv 0 5 z3193 := by rw [ez3193]; exact (rb_20 hBt78 (vp_in_lt (iv_in h3189 (by decide) (by decide))))
                  refine lv_aload_n hx hb dX3_aim_102 rfl (lv_at hl 3 rfl) ?_
                  refine va_get (D := D) (ci := 1) (v := .ref (a 21)) (C := RX1) (T := TX1) (N := 14) hx hb hT in_X1 hown hK hP 18 cw_18 rfl 9 (by decide) (hT _ t229) (fun _ h9 => h9) rfl dX3_aim_103 ?_
                  refine lv_iload hx hb dX3_aim_106 (lv_at hl 0 rfl) ?_
                  refine va_iald hx hb hK hP 21 0 cw_21 rfl (iv_in h3189 (by decide) (by decide)) dX3_aim_108 ?_
                  refine lv_topi (fun z3195 ez3195 => ?_)
                  refine ca_v hP hD hS hA (fun hDc => run_V (mc := 0) (ms := 0) (As := [.int z3191, .int z3193, .int z3195]) (rest := []) S (s_X3_spread l D k a t78 sl  z3191 z3193 z3195 _  hBt78 h3192 h3194 ) lkX3_68 ok_X3_spread ⟨rfl, rfl, Nat.le_of_ble_eq_true rfl, Nat.le_of_ble_eq_true rfl⟩ (pw_V (ci := 3) (q0 := 126) hK hN rfl cw_126 hP hDc) rfl hl.1 rfl (Nat.le_of_ble_eq_true rfl) ⟨Nat.zero_le _, Nat.zero_le _⟩ dX3_aim_109) (fun s3196 H9 locs9 hs3196 hP9 hD9 hS9 => ?_)
                  clear hP hD hS
                  have hS := hS9
                  have hP := hP9
                  have hD := hD9
                  clear hP9 hD9 hS9
                  obtain ⟨hBs3196, gs3196, fs3196⟩ := hs3196
                  have hFs3196 : FR [126, 158, 159] st s3196 := fr_ca hFt78 gs3196 (sub_1 (List.mem_of_getElem? (i := 1) rfl) (sub_1 (List.mem_of_getElem? (i := 2) rfl) sub_0))
                  refine lv_aload_n hx hb dX3_aim_112 rfl (lv_at hl 2 rfl) ?_
                  refine lv_aload_n hx hb dX3_aim_113 rfl (lv_at hl 3 rfl) ?_
                  refine va_get (D := D) (ci := 1) (v := .ref (a 20)) (C := RX1) (T := TX1) (N := 14) hx hb hT in_X1 hown hK hP 18 cw_18 rfl 8 (by decide) (hT _ t226) (fun _ h9 => h9) rfl dX3_aim_114 ?_
                  refine lv_iload hx hb dX3_aim_117 (lv_at hl 0 rfl) ?_
                  refine va_iald hx hb hK hP 20 0 cw_20 rfl (iv_in h3189 (by decide) (by decide)) dX3_aim_119 ?_
                  refine lv_topi (fun z3198 ez3198 => ?_)
                  have h3199 : Iv 0 5 z3198 := by rw [ez3198]; exact (rb_20 hBs3196 (vp_in_lt (iv_in h3189 (by decide) (by decide))))
                  refine lv_aload_n hx hb dX3_aim_120 rfl (lv_at hl 3 rfl) ?_
                  refine va_get (D := D) (ci := 1) (v := .ref (a 19)) (C := RX1) (T := TX1) (N := 14) hx hb hT in_X1 hown hK hP 18 cw_18 rfl 7 (by decide) (hT _ t223) (fun _ h9 => h9) rfl dX3_aim_121 ?_
                  refine lv_iload hx hb dX3_aim_124 (lv_at hl 0 rfl) ?_
                  refine va_iald hx hb hK hP 19 0 cw_19 rfl (iv_in h3189 (by decide) (by decide)) dX3_aim_126 ?_
                  refine lv_topi (fun z3200 ez3200 => ?_)
                  have h3201 : Iv 0 5 z3200 := by rw [ez3200]; exact (rb_19 hBs3196 (vp_in_lt (iv_in h3189 (by decide) (by decide))))
                  refine lv_aload_n hx hb dX3_aim_127 rfl (lv_at hl 3 rfl) ?_
                  refine va_get (D := D) (ci := 1) (v := .ref (a 21)) (C := RX1) (T := TX1) (N := 14) hx hb hT in_X1 hown hK hP 18 cw_18 rfl 9 (by decide) (hT _ t229) (fun _ h9 => h9) rfl dX3_aim_128 ?_
                  refine lv_iload hx hb dX3_aim_131 (lv_at hl 0 rfl) ?_
                  refine va_iald hx hb hK hP 21 0 cw_21 rfl (iv_in h3189 (by decide) (by decide)) dX3_aim_133 ?_
                  refine lv_topi (fun z3202 ez3202 => ?_)
                  refine ca_v hP hD hS hA (fun hDc => run_V (mc := 0) (ms := 0) (As := [.int z3198, .int z3200, .int z3202]) (rest := []) S (s_X3_spread l D k a s3196 sl  z3198 z3200 z3202 _  hBs3196 h3199 h3201 ) lkX3_68 ok_X3_spread ⟨rfl, rfl, Nat.le_of_ble_eq_true rfl, Nat.le_of_ble_eq_true rfl⟩ (pw_V (ci := 3) (q0 := 126) hK hN rfl cw_126 hP hDc) rfl hl.1 rfl (Nat.le_of_ble_eq_true rfl) ⟨Nat.zero_le _, Nat.zero_le _⟩ dX3_aim_134) (fun s3203 H9 locs9 hs3203 hP9 hD9 hS9 => ?_)
                  clear hP hD hS
                  have hS := hS9
                  have hP := hP9
                  have hD := hD9
                  clear hP9 hD9 hS9
                  obtain ⟨hBs3203, gs3203, fs3203⟩ := hs3203
                  have hFs3203 : FR [126, 158, 159] st s3203 := fr_ca hFs3196 gs3203 (sub_1 (List.mem_of_getElem? (i := 1) rfl) (sub_1 (List.mem_of_getElem? (i := 2) rfl) sub_0))
                  obtain ⟨z3205, ez3205⟩ : ∃ z9 : Int32, z9 = v5_78 + Int32.ofInt 1 := ⟨_, rfl⟩
                  have h3206 : Iv 1 8 z3205 := iv_inc ez3205 h3189 (by decide) (by decide) (by decide) (by decide) (by decide) (by decide)
                  refine lv_iinc (v := z3205) (lv' := [(5, .int z3205), (4, .int v4_66), (0, .ref (a 126)), (1, .ref (a 18)), (2, .int p0), (3, .int p1)]) hx hb dX3_aim_137 hl (k := 0) rfl ez3205.symm (by decide) rfl (fun ls hl => ?_)
                  refine lv_goto (tgt := 78) hx hb dX3_aim_140 (by decide) ?_
                  exact ih78 z3205 s3203 _ _ _ (iv_mono (c := 0) (d := 8) h3206 (by decide) (by decide)) hBs3203 (fr_ca (fr_ca gt78 gs3196 (sub_1 (List.mem_of_getElem? (i := 0) rfl) (sub_1 (List.mem_of_getElem? (i := 1) rfl) sub_0))) gs3203 (sub_1 (List.mem_of_getElem? (i := 0) rfl) (sub_1 (List.mem_of_getElem? (i := 1) rfl) sub_0))) hP hD hS (lv_sub hl [0, 1, 2, 3, 4, 5] rfl) (fu_s (lo := 0) (ti_inc ez3205 h3189 (by decide) (by decide) (by decide) (by decide)) (by decide) hm78)
            exact lp78 9 0 t66 _ _ _ (iv_mono (c := 0) (d := 8) (iv_c (by decide) : Iv 0 0 0) (by decide) (by decide)) hBt66 fr_rf hP hD hS (lv_sub hl [0, 1, 2, 3, 4, 5] rfl) (fu_i (iv_mono (c := 0) (d := 8) (iv_c (by decide) : Iv 0 0 0) (by decide) (by decide)) (by decide))
      exact lp66 6 1 s6 _ _ _ (iv_mono (c := 1) (d := 6) (iv_c (by decide) : Iv 1 1 1) (by decide) (by decide)) hBs6 fr_rf hP hD hS (lv_sub hl [0, 1, 2, 3, 4] rfl) (fu_i (iv_mono (c := 1) (d := 6) (iv_c (by decide) : Iv 1 1 1) (by decide) (by decide)) (by decide))
    · skip
      have n3207 : p1.toInt < (6 : Int32).toInt := (i_nle c1608)
      have h3208 : Iv 0 5 p1 := lt_l h1607 n3207 (iv_c (by decide) : Iv 6 6 6) (by decide)
      refine lv_aload_n hx hb dX3_aim_49 rfl (lv_at hl 0 rfl) ?_
      refine va_get (D := D) (ci := 3) (v := .ref (a 158)) (C := RX3) (T := TX3) (N := 10) hx hb hT in_X3 hown hK hP 126 cw_126 rfl 1 (by decide) (hT _ t401) (fun _ h9 => h9) rfl dX3_aim_50 ?_
      refine lv_iload_n hx hb dX3_aim_53 rfl (lv_at hl 3 rfl) ?_
      refine lv_iconst (v := 0) hx hb dX3_aim_54 (by decide) ?_
      refine c_ist hx hb hK hP hD hS cw_158 cs_158 (iv_in h3208 (by decide) (by decide)) dX3_aim_55 (fun s3209 H9 locs9 es3209 hP9 hD9 hS9 => ?_)
      clear hP hD hS
      have hS := hS9
      have hP := hP9
      have hD := hD9
      clear hP9 hD9 hS9
      have hBs3209 : CB s3209 := by rw [es3209]; exact cb_sw hBs6 trivial
      have hFs3209 : FR [126, 158, 159] st s3209 := fr_sw hFs6 (List.mem_of_getElem? (i := 1) rfl) es3209
      refine lv_aload_n hx hb dX3_aim_56 rfl (lv_at hl 0 rfl) ?_
      refine va_get (D := D) (ci := 3) (v := .ref (a 159)) (C := RX3) (T := TX3) (N := 10) hx hb hT in_X3 hown hK hP 126 cw_126 rfl 2 (by decide) (hT _ t403) (fun _ h9 => h9) rfl dX3_aim_57 ?_
      refine lv_iload_n hx hb dX3_aim_60 rfl (lv_at hl 3 rfl) ?_
      refine lv_iconst (v := 0) hx hb dX3_aim_61 (by decide) ?_
      refine c_ist hx hb hK hP hD hS cw_159 cs_159 (iv_in h3208 (by decide) (by decide)) dX3_aim_62 (fun s3210 H9 locs9 es3210 hP9 hD9 hS9 => ?_)
      clear hP hD hS
      have hS := hS9
      have hP := hP9
      have hD := hD9
      clear hP9 hD9 hS9
      have hBs3210 : CB s3210 := by rw [es3210]; exact cb_sw hBs3209 trivial
      have hFs3210 : FR [126, 158, 159] st s3210 := fr_sw hFs3209 (List.mem_of_getElem? (i := 2) rfl) es3210
      refine lv_iconst (v := 1) hx hb dX3_aim_63 (by decide) ?_
      refine lv_istore (lv' := [(4, .int 1), (0, .ref (a 126)), (1, .ref (a 18)), (2, .int p0), (3, .int p1)]) hx hb dX3_aim_64 hl (by decide) rfl (fun ls hl => ?_)
      have lp66 : ∀ (n9_66 : Nat) (v4_66 : Int32) (t66 : CT) (H9 : Heap) (locs9 : List Loc) (ls : Array Slot), Iv 1 6 v4_66 → CB t66 → FR [158, 159] s3210 t66 → va_P D vwCl (CWS k a t66 sl) H9 → va_D A (CWS k a t66 sl) → va_S A s.heap H9 locs9 → lv_has ls 6 [(4, .int v4_66), (0, .ref (a 126)), (1, .ref (a 18)), (2, .int p0), (3, .int p1)] → (6 : Int) - v4_66.toInt < (n9_66 : Int) → W p l e (rmw 2 0 0) s m ([.ref (a 126), .ref (a 18), .int p0, .int p1] : List Value).toArray below meth c H9 locs9 0 0 Q (F0 m 66 ls []) := by
        clear hl hP hD hS
        intro n9_66
        induction n9_66 with
        | zero =>
          intro v4_66 t66 H9 locs9 ls iv4_66 hBt66 gt66 hP hD hS hl hm66
          exact (fu_0 iv4_66 hm66).elim
        | succ n9_66 ih66 =>
          intro v4_66 t66 H9 locs9 ls iv4_66 hBt66 gt66 hP hD hS hl hm66
          have hFt66 : FR [126, 158, 159] st t66 := fr_ca hFs3210 gt66 (sub_1 (List.mem_of_getElem? (i := 1) rfl) (sub_1 (List.mem_of_getElem? (i := 2) rfl) sub_0))
          refine lv_iload hx hb dX3_aim_66 (lv_at hl 0 rfl) ?_
          refine lv_aload_n hx hb dX3_aim_68 rfl (lv_at hl 2 rfl) ?_
          refine va_get (D := D) (ci := 1) (v := .int (t66 18 1)) (C := RX1) (T := TX1) (N := 14) hx hb hT in_X1 hown hK hP 18 cw_18 rfl 1 (by decide) (hT _ t199) (fun _ h9 => h9) rfl dX3_aim_69 ?_
          refine k_top (y := (st 18 1)) (congrFun (hFt66 18 (nm_1 (by decide) (nm_1 (by decide) (nm_1 (by decide) nm_0)))) 1) ?_
          have h4579 : Iv 0 6 (st 18 1) := (rb_18_1 hB)
          refine lv_icmp_ge (tgt := 149) hx hb dX3_aim_72 (by decide) (fun c4580 => ?_) (fun c4580 => ?_)
          · skip
            have n4581 : (st 18 1).toInt ≤ v4_66.toInt := (i_le c4580)
            rw [hQ]
            exact W.vret hx hb hr (fun t ht hW => ⟨⟨t66, rfl, ⟨hBt66, hFt66, (Eq.trans (congrFun (gt66 126 (nm_1 (by decide) (nm_1 (by decide) nm_0))) 9) (Eq.trans (congrFun (sw_at es3210 (by decide)) 9) (Eq.trans (congrFun (sw_at es3209 (by decide)) 9) (Eq.trans (congrFun (sw_at es6 (by decide)) 9) (Eq.trans (congrFun (sw_at es5 (by decide)) 9) (Eq.trans (congrFun (sw_it es4) 9) (Eq.trans (congrFun (sw_it es3) 9) (Eq.trans (congrFun (sw_it es2) 9) (congrFun (sw_it es1) 9))))))))), (Eq.trans (congrFun (gt66 126 (nm_1 (by decide) (nm_1 (by decide) nm_0))) 7) (Eq.trans (congrFun (sw_at es3210 (by decide)) 7) (Eq.trans (congrFun (sw_at es3209 (by decide)) 7) (Eq.trans (congrFun (sw_at es6 (by decide)) 7) (Eq.trans (congrFun (sw_at es5 (by decide)) 7) (Eq.trans (congrFun (sw_it es4) 7) (Eq.trans (congrFun (sw_it es3) 7) (Eq.trans (congrFun (sw_it es2) 7) (congrFun (sw_it es1) 7)))))))))⟩, by rw [ht]; exact hP, va_K.moved hW.alike (hK.sub (tys' := []) [] rfl), by rw [hAe]; exact hD⟩, by rw [hAe]; exact hS.F ht⟩) hS.2.2 dX3_aim_149
          · skip
            have n4582 : v4_66.toInt < (st 18 1).toInt := (i_nle c4580)
            have h4583 : Iv 1 5 v4_66 := lt_l iv4_66 n4582 h4579 (by decide)
            have h4584 : Iv 2 6 (st 18 1) := lt_r iv4_66 n4582 h4579 (by decide)
            refine lv_iconst (v := 0) hx hb dX3_aim_75 (by decide) ?_
            refine lv_istore (lv' := [(5, .int 0), (4, .int v4_66), (0, .ref (a 126)), (1, .ref (a 18)), (2, .int p0), (3, .int p1)]) hx hb dX3_aim_76 hl (by decide) rfl (fun ls hl => ?_)
            have lp78 : ∀ (n9_78 : Nat) (v5_78 : Int32) (t78 : CT) (H9 : Heap) (locs9 : List Loc) (ls : Array Slot), Iv 0 8 v5_78 → CB t78 → FR [158, 159] t66 t78 → va_P D vwCl (CWS k a t78 sl) H9 → va_D A (CWS k a t78 sl) → va_S A s.heap H9 locs9 → lv_has ls 6 [(5, .int v5_78), (4, .int v4_66), (0, .ref (a 126)), (1, .ref (a 18)), (2, .int p0), (3, .int p1)] → (8 : Int) - v5_78.toInt < (n9_78 : Int) → W p l e (rmw 2 0 0) s m ([.ref (a 126), .ref (a 18), .int p0, .int p1] : List Value).toArray below meth c H9 locs9 0 0 Q (F0 m 78 ls []) := by
              clear hl hP hD hS
              intro n9_78
              induction n9_78 with
              | zero =>
                intro v5_78 t78 H9 locs9 ls iv5_78 hBt78 gt78 hP hD hS hl hm78
                exact (fu_0 iv5_78 hm78).elim
              | succ n9_78 ih78 =>
                intro v5_78 t78 H9 locs9 ls iv5_78 hBt78 gt78 hP hD hS hl hm78
                have hFt78 : FR [126, 158, 159] st t78 := fr_ca hFt66 gt78 (sub_1 (List.mem_of_getElem? (i := 1) rfl) (sub_1 (List.mem_of_getElem? (i := 2) rfl) sub_0))
                refine lv_iload hx hb dX3_aim_78 (lv_at hl 0 rfl) ?_
                refine lv_aload_n hx hb dX3_aim_80 rfl (lv_at hl 3 rfl) ?_
                refine va_get (D := D) (ci := 1) (v := .int (t78 18 3)) (C := RX1) (T := TX1) (N := 14) hx hb hT in_X1 hown hK hP 18 cw_18 rfl 3 (by decide) (hT _ t208) (fun _ h9 => h9) rfl dX3_aim_81 ?_
                refine k_top (y := (st 18 3)) (congrFun (hFt78 18 (nm_1 (by decide) (nm_1 (by decide) (nm_1 (by decide) nm_0)))) 3) ?_
                have h4783 : Iv 0 8 (st 18 3) := (rb_18_3 hB)
                refine lv_icmp_ge (tgt := 143) hx hb dX3_aim_84 (by decide) (fun c4784 => ?_) (fun c4784 => ?_)
                · skip
                  have n4785 : (st 18 3).toInt ≤ v5_78.toInt := (i_le c4784)
                  obtain ⟨z4786, ez4786⟩ : ∃ z9 : Int32, z9 = v4_66 + Int32.ofInt 1 := ⟨_, rfl⟩
                  have h4787 : Iv 2 6 z4786 := iv_inc ez4786 h4583 (by decide) (by decide) (by decide) (by decide) (by decide) (by decide)
                  refine lv_iinc (v := z4786) (lv' := [(4, .int z4786), (5, .int v5_78), (0, .ref (a 126)), (1, .ref (a 18)), (2, .int p0), (3, .int p1)]) hx hb dX3_aim_143 hl (k := 1) rfl ez4786.symm (by decide) rfl (fun ls hl => ?_)
                  refine lv_goto (tgt := 66) hx hb dX3_aim_146 (by decide) ?_
                  exact ih66 z4786 t78 _ _ _ (iv_mono (c := 1) (d := 6) h4787 (by decide) (by decide)) hBt78 (fr_ca gt66 gt78 (sub_1 (List.mem_of_getElem? (i := 0) rfl) (sub_1 (List.mem_of_getElem? (i := 1) rfl) sub_0))) hP hD hS (lv_sub hl [0, 2, 3, 4, 5] rfl) (fu_s (lo := 0) (ti_inc ez4786 h4583 (by decide) (by decide) (by decide) (by decide)) (by decide) hm66)
                · skip
                  have n4788 : v5_78.toInt < (st 18 3).toInt := (i_nle c4784)
                  have h4789 : Iv 0 7 v5_78 := lt_l iv5_78 n4788 h4783 (by decide)
                  have h4790 : Iv 1 8 (st 18 3) := lt_r iv5_78 n4788 h4783 (by decide)
                  refine lv_aload_n hx hb dX3_aim_87 rfl (lv_at hl 2 rfl) ?_
                  refine lv_aload_n hx hb dX3_aim_88 rfl (lv_at hl 3 rfl) ?_
                  refine va_get (D := D) (ci := 1) (v := .ref (a 19)) (C := RX1) (T := TX1) (N := 14) hx hb hT in_X1 hown hK hP 18 cw_18 rfl 7 (by decide) (hT _ t223) (fun _ h9 => h9) rfl dX3_aim_89 ?_
                  refine lv_iload hx hb dX3_aim_92 (lv_at hl 0 rfl) ?_
                  refine va_iald hx hb hK hP 19 0 cw_19 rfl (iv_in h4789 (by decide) (by decide)) dX3_aim_94 ?_
                  refine lv_topi (fun z4791 ez4791 => ?_)
                  have h4792 : Iv 0 5 z4791 := by rw [ez4791]; exact (rb_19 hBt78 (vp_in_lt (iv_in h4789 (by decide) (by decide))))
                  refine lv_aload_n hx hb dX3_aim_95 rfl (lv_at hl 3 rfl) ?_
                  refine va_get (D := D) (ci := 1) (v := .ref (a 20)) (C := RX1) (T := TX1) (N := 14) hx hb hT in_X1 hown hK hP 18 cw_18 rfl 8 (by decide) (hT _ t226) (fun _ h9 => h9) rfl dX3_aim_96 ?_
                  refine lv_iload hx hb dX3_aim_99 (lv_at hl 0 rfl) ?_
                  refine va_iald hx hb hK hP 20 0 cw_20 rfl (iv_in h4789 (by decide) (by decide)) dX3_aim_101 ?_
                  refine lv_topi (fun z4793 ez4793 => ?_)
                  have h4794 : Iv 0 5 z4793 := by rw [ez4793]; exact (rb_20 hBt78 (vp_in_lt (iv_in h4789 (by decide) (by decide))))
                  refine lv_aload_n hx hb dX3_aim_102 rfl (lv_at hl 3 rfl) ?_
                  refine va_get (D := D) (ci := 1) (v := .ref (a 21)) (C := RX1) (T := TX1) (N := 14) hx hb hT in_X1 hown hK hP 18 cw_18 rfl 9 (by decide) (hT _ t229) (fun _ h9 => h9) rfl dX3_aim_103 ?_
                  refine lv_iload hx hb dX3_aim_106 (lv_at hl 0 rfl) ?_
                  refine va_iald hx hb hK hP 21 0 cw_21 rfl (iv_in h4789 (by decide) (by decide)) dX3_aim_108 ?_
                  refine lv_topi (fun z4795 ez4795 => ?_)
                  refine ca_v hP hD hS hA (fun hDc => run_V (mc := 0) (ms := 0) (As := [.int z4791, .int z4793, .int z4795]) (rest := []) S (s_X3_spread l D k a t78 sl  z4791 z4793 z4795 _  hBt78 h4792 h4794 ) lkX3_68 ok_X3_spread ⟨rfl, rfl, Nat.le_of_ble_eq_true rfl, Nat.le_of_ble_eq_true rfl⟩ (pw_V (ci := 3) (q0 := 126) hK hN rfl cw_126 hP hDc) rfl hl.1 rfl (Nat.le_of_ble_eq_true rfl) ⟨Nat.zero_le _, Nat.zero_le _⟩ dX3_aim_109) (fun s4796 H9 locs9 hs4796 hP9 hD9 hS9 => ?_)
                  clear hP hD hS
                  have hS := hS9
                  have hP := hP9
                  have hD := hD9
                  clear hP9 hD9 hS9
                  obtain ⟨hBs4796, gs4796, fs4796⟩ := hs4796
                  have hFs4796 : FR [126, 158, 159] st s4796 := fr_ca hFt78 gs4796 (sub_1 (List.mem_of_getElem? (i := 1) rfl) (sub_1 (List.mem_of_getElem? (i := 2) rfl) sub_0))
                  refine lv_aload_n hx hb dX3_aim_112 rfl (lv_at hl 2 rfl) ?_
                  refine lv_aload_n hx hb dX3_aim_113 rfl (lv_at hl 3 rfl) ?_
                  refine va_get (D := D) (ci := 1) (v := .ref (a 20)) (C := RX1) (T := TX1) (N := 14) hx hb hT in_X1 hown hK hP 18 cw_18 rfl 8 (by decide) (hT _ t226) (fun _ h9 => h9) rfl dX3_aim_114 ?_
                  refine lv_iload hx hb dX3_aim_117 (lv_at hl 0 rfl) ?_
                  refine va_iald hx hb hK hP 20 0 cw_20 rfl (iv_in h4789 (by decide) (by decide)) dX3_aim_119 ?_
                  refine lv_topi (fun z4798 ez4798 => ?_)
                  have h4799 : Iv 0 5 z4798 := by rw [ez4798]; exact (rb_20 hBs4796 (vp_in_lt (iv_in h4789 (by decide) (by decide))))
                  refine lv_aload_n hx hb dX3_aim_120 rfl (lv_at hl 3 rfl) ?_
                  refine va_get (D := D) (ci := 1) (v := .ref (a 19)) (C := RX1) (T := TX1) (N := 14) hx hb hT in_X1 hown hK hP 18 cw_18 rfl 7 (by decide) (hT _ t223) (fun _ h9 => h9) rfl dX3_aim_121 ?_
                  refine lv_iload hx hb dX3_aim_124 (lv_at hl 0 rfl) ?_
                  refine va_iald hx hb hK hP 19 0 cw_19 rfl (iv_in h4789 (by decide) (by decide)) dX3_aim_126 ?_
                  refine lv_topi (fun z4800 ez4800 => ?_)
                  have h4801 : Iv 0 5 z4800 := by rw [ez4800]; exact (rb_19 hBs4796 (vp_in_lt (iv_in h4789 (by decide) (by decide))))
                  refine lv_aload_n hx hb dX3_aim_127 rfl (lv_at hl 3 rfl) ?_
                  refine va_get (D := D) (ci := 1) (v := .ref (a 21)) (C := RX1) (T := TX1) (N := 14) hx hb hT in_X1 hown hK hP 18 cw_18 rfl 9 (by decide) (hT _ t229) (fun _ h9 => h9) rfl dX3_aim_128 ?_
                  refine lv_iload hx hb dX3_aim_131 (lv_at hl 0 rfl) ?_
                  refine va_iald hx hb hK hP 21 0 cw_21 rfl (iv_in h4789 (by decide) (by decide)) dX3_aim_133 ?_
                  refine lv_topi (fun z4802 ez4802 => ?_)
                  refine ca_v hP hD hS hA (fun hDc => run_V (mc := 0) (ms := 0) (As := [.int z4798, .int z4800, .int z4802]) (rest := []) S (s_X3_spread l D k a s4796 sl  z4798 z4800 z4802 _  hBs4796 h4799 h4801 ) lkX3_68 ok_X3_spread ⟨rfl, rfl, Nat.le_of_ble_eq_true rfl, Nat.le_of_ble_eq_true rfl⟩ (pw_V (ci := 3) (q0 := 126) hK hN rfl cw_126 hP hDc) rfl hl.1 rfl (Nat.le_of_ble_eq_true rfl) ⟨Nat.zero_le _, Nat.zero_le _⟩ dX3_aim_134) (fun s4803 H9 locs9 hs4803 hP9 hD9 hS9 => ?_)
                  clear hP hD hS
                  have hS := hS9
                  have hP := hP9
                  have hD := hD9
                  clear hP9 hD9 hS9
                  obtain ⟨hBs4803, gs4803, fs4803⟩ := hs4803
                  have hFs4803 : FR [126, 158, 159] st s4803 := fr_ca hFs4796 gs4803 (sub_1 (List.mem_of_getElem? (i := 1) rfl) (sub_1 (List.mem_of_getElem? (i := 2) rfl) sub_0))
                  obtain ⟨z4805, ez4805⟩ : ∃ z9 : Int32, z9 = v5_78 + Int32.ofInt 1 := ⟨_, rfl⟩
                  have h4806 : Iv 1 8 z4805 := iv_inc ez4805 h4789 (by decide) (by decide) (by decide) (by decide) (by decide) (by decide)
                  refine lv_iinc (v := z4805) (lv' := [(5, .int z4805), (4, .int v4_66), (0, .ref (a 126)), (1, .ref (a 18)), (2, .int p0), (3, .int p1)]) hx hb dX3_aim_137 hl (k := 0) rfl ez4805.symm (by decide) rfl (fun ls hl => ?_)
                  refine lv_goto (tgt := 78) hx hb dX3_aim_140 (by decide) ?_
                  exact ih78 z4805 s4803 _ _ _ (iv_mono (c := 0) (d := 8) h4806 (by decide) (by decide)) hBs4803 (fr_ca (fr_ca gt78 gs4796 (sub_1 (List.mem_of_getElem? (i := 0) rfl) (sub_1 (List.mem_of_getElem? (i := 1) rfl) sub_0))) gs4803 (sub_1 (List.mem_of_getElem? (i := 0) rfl) (sub_1 (List.mem_of_getElem? (i := 1) rfl) sub_0))) hP hD hS (lv_sub hl [0, 1, 2, 3, 4, 5] rfl) (fu_s (lo := 0) (ti_inc ez4805 h4789 (by decide) (by decide) (by decide) (by decide)) (by decide) hm78)
            exact lp78 9 0 t66 _ _ _ (iv_mono (c := 0) (d := 8) (iv_c (by decide) : Iv 0 0 0) (by decide) (by decide)) hBt66 fr_rf hP hD hS (lv_sub hl [0, 1, 2, 3, 4, 5] rfl) (fu_i (iv_mono (c := 0) (d := 8) (iv_c (by decide) : Iv 0 0 0) (by decide) (by decide)) (by decide))
      exact lp66 6 1 s3210 _ _ _ (iv_mono (c := 1) (d := 6) (iv_c (by decide) : Iv 1 1 1) (by decide) (by decide)) hBs3210 fr_rf hP hD hS (lv_sub hl [0, 1, 2, 3, 4] rfl) (fu_i (iv_mono (c := 1) (d := 6) (iv_c (by decide) : Iv 1 1 1) (by decide) (by decide)) (by decide))
set_option maxHeartbeats 4000000 in
set_option maxRecDepth 100000 in
theorem s_X3_from (l : Launch) (D : va_G) (k : Nat → ClassId) (a : Nat → Nat) (st : CT) (sl : CL) (sz : Nat) (hB : CB st)  : Met l yX3_from (.code yX3_from cX3_from 1 (some (.object "WheelMemory$State")) :: TB) (rmk 1) (va_Pc [.ref (a 126)] (PW D k sz (CWS k a st sl))) (vp_Sr9 (fun r => r = (a 128))) 0 0 (fun _ => False) := by
  refine Met.ofW (cc := cX3_from) (maxL := 1) (ret := (some (.object "WheelMemory$State"))) (by decide) rfl ?_
  intro p e s m args below meth c s₁ B hml hv
  obtain ⟨rfl, hsz, hP, hK, hD0, hN⟩ := hv
  have hx := B.exec
  have hb := B.bytes
  have hr := B.returns
  have hT : ∀ w9 ∈ TB, w9.before ([.ref (a 126)] : List Value).toArray s = true := fun w9 h => atoms_spec (ws := .code yX3_from cX3_from 1 (some (.object "WheelMemory$State")) :: TB) B.pre w9 (List.mem_cons_of_mem _ h)
  have hown : s.vm.findClass RX3 = some m.cls := findClass_of_methodNamed B.named
  have S : CallFix p m c cX3_from 1 s _ TB RX3 := ⟨hx, hb, hml, hown, hT⟩
  subst hsz
  have hl := lv_entry ([.ref (a 126)]) (n := 1) (Nat.le_of_ble_eq_true rfl)
  rw [lg_entry_eq]
  generalize (lg_sl ([.ref (a 126)]) ++ List.replicate (1 - (lg_sl ([.ref (a 126)])).length) Slot.unset).toArray = ls at hl ⊢
  have hl : lv_has ls 1 [(0, .ref (a 126))] := hl
  refine nameQ (fun Q hQ => ?_)
  refine lv_aload_n hx hb dX3_from_0 rfl (lv_at hl 0 rfl) ?_
  refine va_get (D := D) (ci := 3) (v := .ref (a 127)) (C := RX3) (T := TX3) (N := 10) hx hb hT in_X3 hown hK hP 126 cw_126 rfl 0 (by decide) (hT _ t400) (fun _ h9 => h9) rfl dX3_from_1 ?_
  refine lv_iconst (v := 0) hx hb dX3_from_4 (by decide) ?_
  refine va_aldq hx hb hK hP 127 5 cw_127 rfl (by unfold vp_in; decide) dX3_from_5 ?_
  refine W.eq (g2 := F0 m 6 ls [.ref (a 128)]) rfl ?_
  rw [hQ]
  exact W.aret (v := .ref (a 128)) (rt := .object "WheelMemory$State") hx hb hr (Or.inl ⟨_, rfl⟩) (Or.inr ⟨_, rfl⟩) (fun t ht hW => ⟨_, rfl, rfl, ht⟩) (fun _ h9 => by cases h9) dX3_from_6
set_option maxHeartbeats 4000000 in
set_option maxRecDepth 100000 in
theorem s_X3_miles (l : Launch) (D : va_G) (k : Nat → ClassId) (a : Nat → Nat) (st : CT) (sl : CL) (sz : Nat) (hB : CB st)  : Met l yX3_miles (.code yX3_miles cX3_miles 1 (some .int) :: TB) (rmk 1) (va_Pc [.ref (a 126)] (PW D k sz (CWS k a st sl))) (vp_Si (fun r => Iv (-2147483648) 999999 r ∧ (True))) 0 0 (fun _ => False) := by
  refine Met.ofW (cc := cX3_miles) (maxL := 1) (ret := (some .int)) (by decide) rfl ?_
  intro p e s m args below meth c s₁ B hml hv
  obtain ⟨rfl, hsz, hP, hK, hD0, hN⟩ := hv
  have hx := B.exec
  have hb := B.bytes
  have hr := B.returns
  have hT : ∀ w9 ∈ TB, w9.before ([.ref (a 126)] : List Value).toArray s = true := fun w9 h => atoms_spec (ws := .code yX3_miles cX3_miles 1 (some .int) :: TB) B.pre w9 (List.mem_cons_of_mem _ h)
  have hown : s.vm.findClass RX3 = some m.cls := findClass_of_methodNamed B.named
  have S : CallFix p m c cX3_miles 1 s _ TB RX3 := ⟨hx, hb, hml, hown, hT⟩
  subst hsz
  have hl := lv_entry ([.ref (a 126)]) (n := 1) (Nat.le_of_ble_eq_true rfl)
  rw [lg_entry_eq]
  generalize (lg_sl ([.ref (a 126)]) ++ List.replicate (1 - (lg_sl ([.ref (a 126)])).length) Slot.unset).toArray = ls at hl ⊢
  have hl : lv_has ls 1 [(0, .ref (a 126))] := hl
  refine nameQ (fun Q hQ => ?_)
  refine lv_aload_n hx hb dX3_miles_0 rfl (lv_at hl 0 rfl) ?_
  refine va_get (D := D) (ci := 3) (v := .int (st 126 6)) (C := RX3) (T := TX3) (N := 10) hx hb hT in_X3 hown hK hP 126 cw_126 rfl 6 (by decide) (hT _ t409) (fun _ h9 => h9) rfl dX3_miles_1 ?_
  refine lv_ldc (v := 1000000) hx hb hown (hT _ t929) dX3_miles_4 ?_
  refine lv_icmp_ge (tgt := 16) hx hb dX3_miles_6 (by decide) (fun c1 => ?_) (fun c1 => ?_)
  · skip
    have n2 : (1000000 : Int32).toInt ≤ (st 126 6).toInt := (i_le c1)
    have h3 : Iv 1000000 2147483647 (st 126 6) := le_r (iv_c (by decide) : Iv 1000000 1000000 1000000) n2 (iv_full (st 126 6)) (by decide)
    refine lv_iconst (v := (-1)) hx hb dX3_miles_16 (by decide) ?_
    rw [hQ]
    exact W.iret (v := (-1)) hx hb hr (fun t ht hW => ⟨(-1), rfl, ⟨(iv_mono (c := (-2147483648)) (d := 999999) (iv_c (by decide) : Iv (-1) (-1) (-1)) (by decide) (by decide)), trivial⟩, ht⟩) (fun _ h9 => by cases h9) dX3_miles_17
  · skip
    have n4 : (st 126 6).toInt < (1000000 : Int32).toInt := (i_nle c1)
    have h5 : Iv (-2147483648) 999999 (st 126 6) := lt_l (iv_full (st 126 6)) n4 (iv_c (by decide) : Iv 1000000 1000000 1000000) (by decide)
    refine lv_aload_n hx hb dX3_miles_9 rfl (lv_at hl 0 rfl) ?_
    refine va_get (D := D) (ci := 3) (v := .int (st 126 6)) (C := RX3) (T := TX3) (N := 10) hx hb hT in_X3 hown hK hP 126 cw_126 rfl 6 (by decide) (hT _ t409) (fun _ h9 => h9) rfl dX3_miles_10 ?_
    refine lv_goto (tgt := 17) hx hb dX3_miles_13 (by decide) ?_
    rw [hQ]
    exact W.iret (v := (st 126 6)) hx hb hr (fun t ht hW => ⟨(st 126 6), rfl, ⟨h5, trivial⟩, ht⟩) (fun _ h9 => by cases h9) dX3_miles_17
set_option maxHeartbeats 4000000 in
set_option maxRecDepth 100000 in
theorem s_X3_keepIfBetter (l : Launch) (D : va_G) (k : Nat → ClassId) (a : Nat → Nat) (st : CT) (sl : CL) (p0 : Int32) (p1 : Int32) (sz : Nat) (hB : CB st) (hp0 : Iv 0 4 p0) : Met l yX3_keepIfBetter (.code yX3_keepIfBetter cX3_keepIfBetter 3 none :: TB) (rmw 1 0 0) (va_Pc [.ref (a 126), .int p0, .int p1] (PW D k sz (CWS k a st sl))) (QV D (S := CT) (fun u => CB u ∧ FR [126, 161] st u ∧ u 126 7 = st 126 7 ∧ u 126 8 = st 126 8 ∧ u 126 9 = st 126 9 ∧ (True)) (fun u => CWS k a u sl) (fun _ => []) (CWS k a st sl) sz) 0 0 (va_A (CWS k a st sl) sz) := by
  refine Met.ofW (cc := cX3_keepIfBetter) (maxL := 3) (ret := none) (by decide) rfl ?_
  intro p e s m args below meth c s₁ B hml hv
  obtain ⟨rfl, hsz, hP, hK, hD0, hN⟩ := hv
  have hx := B.exec
  have hb := B.bytes
  have hr := B.returns
  have hT : ∀ w9 ∈ TB, w9.before ([.ref (a 126), .int p0, .int p1] : List Value).toArray s = true := fun w9 h => atoms_spec (ws := .code yX3_keepIfBetter cX3_keepIfBetter 3 none :: TB) B.pre w9 (List.mem_cons_of_mem _ h)
  have hown : s.vm.findClass RX3 = some m.cls := findClass_of_methodNamed B.named
  have S : CallFix p m c cX3_keepIfBetter 3 s _ TB RX3 := ⟨hx, hb, hml, hown, hT⟩
  subst hsz
  have hD := hD0.self (sz := s.heap.size)
  generalize hAe : va_A (CWS k a st sl) s.heap.size = A at hD ⊢
  have hA : ∀ q : Nat, s.heap.size ≤ q → A q := fun q h => by rw [← hAe]; exact Or.inr h
  have hS : va_S A s.heap s.heap [] := va_S.rf
  have hl := lv_entry ([.ref (a 126), .int p0, .int p1]) (n := 3) (Nat.le_of_ble_eq_true rfl)
  rw [lg_entry_eq]
  generalize (lg_sl ([.ref (a 126), .int p0, .int p1]) ++ List.replicate (3 - (lg_sl ([.ref (a 126), .int p0, .int p1])).length) Slot.unset).toArray = ls at hl ⊢
  have hl : lv_has ls 3 [(0, .ref (a 126)), (1, .int p0), (2, .int p1)] := hl
  refine nameQ (fun Q hQ => ?_)
  refine lv_iload_n hx hb dX3_keepIfBetter_0 rfl (lv_at hl 2 rfl) ?_
  refine lv_aload_n hx hb dX3_keepIfBetter_1 rfl (lv_at hl 0 rfl) ?_
  refine va_get (D := D) (ci := 3) (v := .int (st 126 6)) (C := RX3) (T := TX3) (N := 10) hx hb hT in_X3 hown hK hP 126 cw_126 rfl 6 (by decide) (hT _ t409) (fun _ h9 => h9) rfl dX3_keepIfBetter_2 ?_
  refine lv_icmp_lt (tgt := 24) hx hb dX3_keepIfBetter_5 (by decide) (fun c1 => ?_) (fun c1 => ?_)
  · skip
    have n2 : p1.toInt < (st 126 6).toInt := (i_lt c1)
    have h3 : Iv (-2147483648) 2147483646 p1 := lt_l (iv_full p1) n2 (iv_full (st 126 6)) (by decide)
    have h4 : Iv (-2147483647) 2147483647 (st 126 6) := lt_r (iv_full p1) n2 (iv_full (st 126 6)) (by decide)
    refine lv_aload_n hx hb dX3_keepIfBetter_24 rfl (lv_at hl 0 rfl) ?_
    refine lv_iload_n hx hb dX3_keepIfBetter_25 rfl (lv_at hl 2 rfl) ?_
    refine c_put (ci := 3) (C := RX3) (T := TX3) (N := 10) (j := 6) (v := p1) hx hb hT in_X3 tyX3 tyX3_ok nmX3 hown hK hP hD hS cw_126 rfl (by decide) (hT _ t409) (by decide +kernel) (by decide +kernel) rfl rfl (Nat.le_of_ble_eq_true rfl) (cs_126 (upd (st 126) 6 p1)) dX3_keepIfBetter_26 (fun s5 H9 locs9 es5 hP9 hD9 hS9 => ?_)
    clear hP hD hS
    have hS := hS9
    have hP := hP9
    have hD := hD9
    clear hP9 hD9 hS9
    have hBs5 : CB s5 := by rw [es5]; exact cb_sw hB (ki_10_6 (hB 126))
    have hFs5 : FR [126, 161] st s5 := fr_sw fr_rf (List.mem_of_getElem? (i := 0) rfl) es5
    refine lv_aload_n hx hb dX3_keepIfBetter_29 rfl (lv_at hl 0 rfl) ?_
    refine lv_iload_n hx hb dX3_keepIfBetter_30 rfl (lv_at hl 1 rfl) ?_
    refine c_put (ci := 3) (C := RX3) (T := TX3) (N := 10) (j := 5) (v := p0) hx hb hT in_X3 tyX3 tyX3_ok nmX3 hown hK hP hD hS cw_126 rfl (by decide) (hT _ t407) (by decide +kernel) (by decide +kernel) rfl rfl (Nat.le_of_ble_eq_true rfl) (cs_126 (upd (s5 126) 5 p0)) dX3_keepIfBetter_31 (fun s6 H9 locs9 es6 hP9 hD9 hS9 => ?_)
    clear hP hD hS
    have hS := hS9
    have hP := hP9
    have hD := hD9
    clear hP9 hD9 hS9
    have hBs6 : CB s6 := by rw [es6]; exact cb_sw hBs5 (ki_10_5 (hBs5 126) hp0)
    have hFs6 : FR [126, 161] st s6 := fr_sw hFs5 (List.mem_of_getElem? (i := 0) rfl) es6
    refine lv_aload_n hx hb dX3_keepIfBetter_34 rfl (lv_at hl 0 rfl) ?_
    refine va_get (D := D) (ci := 3) (v := .ref (a 160)) (C := RX3) (T := TX3) (N := 10) hx hb hT in_X3 hown hK hP 126 cw_126 rfl 3 (by decide) (hT _ t404) (fun _ h9 => h9) rfl dX3_keepIfBetter_35 ?_
    refine lv_iconst (v := 0) hx hb dX3_keepIfBetter_38 (by decide) ?_
    refine lv_aload_n hx hb dX3_keepIfBetter_39 rfl (lv_at hl 0 rfl) ?_
    refine va_get (D := D) (ci := 3) (v := .ref (a 161)) (C := RX3) (T := TX3) (N := 10) hx hb hT in_X3 hown hK hP 126 cw_126 rfl 4 (by decide) (hT _ t405) (fun _ h9 => h9) rfl dX3_keepIfBetter_40 ?_
    refine lv_iconst (v := 0) hx hb dX3_keepIfBetter_43 (by decide) ?_
    refine lv_iconst (v := 4) hx hb dX3_keepIfBetter_44 (by decide) ?_
    refine c_cpy hx hb (hml.trans hl.1.symm) hown (hT _ t953) (hT _ t686) (hT _ t685) (hT _ t121) hK hP hD hS cw_160 cw_161 cs_161 (Nat.le_of_ble_eq_true rfl) (Nat.le_of_ble_eq_true rfl) (by decide) (by decide) (by decide) dX3_keepIfBetter_45 (fun s7 H9 locs9 fs7 es7 gs7 hP9 hD9 hS9 => ?_)
    clear hP hD hS
    have hS := hS9
    have hP := hP9
    have hD := hD9
    clear hP9 hD9 hS9
    have hBs7 : CB s7 := by rw [es7]; exact cb_sw hBs6 trivial
    have hFs7 : FR [126, 161] st s7 := fr_sw hFs6 (List.mem_of_getElem? (i := 1) rfl) es7
    rw [hQ]
    exact W.vret hx hb hr (fun t ht hW => ⟨⟨s7, rfl, ⟨hBs7, hFs7, (Eq.trans (congrFun (sw_at es7 (by decide)) 7) (Eq.trans (congrFun (sw_it es6) 7) (congrFun (sw_it es5) 7))), (Eq.trans (congrFun (sw_at es7 (by decide)) 8) (Eq.trans (congrFun (sw_it es6) 8) (congrFun (sw_it es5) 8))), (Eq.trans (congrFun (sw_at es7 (by decide)) 9) (Eq.trans (congrFun (sw_it es6) 9) (congrFun (sw_it es5) 9))), trivial⟩, by rw [ht]; exact hP, va_K.moved hW.alike (hK.sub (tys' := []) [] rfl), by rw [hAe]; exact hD⟩, by rw [hAe]; exact hS.F ht⟩) hS.2.2 dX3_keepIfBetter_48
  · skip
    have n8 : (st 126 6).toInt ≤ p1.toInt := (i_nlt c1)
    refine lv_iload_n hx hb dX3_keepIfBetter_8 rfl (lv_at hl 2 rfl) ?_
    refine lv_aload_n hx hb dX3_keepIfBetter_9 rfl (lv_at hl 0 rfl) ?_
    refine va_get (D := D) (ci := 3) (v := .int (st 126 6)) (C := RX3) (T := TX3) (N := 10) hx hb hT in_X3 hown hK hP 126 cw_126 rfl 6 (by decide) (hT _ t409) (fun _ h9 => h9) rfl dX3_keepIfBetter_10 ?_
    refine lv_icmp_ne (tgt := 48) hx hb dX3_keepIfBetter_13 (by decide) (fun c9 => ?_) (fun c9 => ?_)
    · skip
      rw [hQ]
      exact W.vret hx hb hr (fun t ht hW => ⟨⟨st, rfl, ⟨hB, fr_rf, rfl, rfl, rfl, trivial⟩, by rw [ht]; exact hP, va_K.moved hW.alike (hK.sub (tys' := []) [] rfl), by rw [hAe]; exact hD⟩, by rw [hAe]; exact hS.F ht⟩) hS.2.2 dX3_keepIfBetter_48
    · skip
      refine lv_iload_n hx hb dX3_keepIfBetter_16 rfl (lv_at hl 1 rfl) ?_
      refine lv_aload_n hx hb dX3_keepIfBetter_17 rfl (lv_at hl 0 rfl) ?_
      refine va_get (D := D) (ci := 3) (v := .int (st 126 5)) (C := RX3) (T := TX3) (N := 10) hx hb hT in_X3 hown hK hP 126 cw_126 rfl 5 (by decide) (hT _ t407) (fun _ h9 => h9) rfl dX3_keepIfBetter_18 ?_
      have h10 : Iv 0 4 (st 126 5) := (rb_126_5 hB)
      refine lv_icmp_ge (tgt := 48) hx hb dX3_keepIfBetter_21 (by decide) (fun c11 => ?_) (fun c11 => ?_)
      · skip
        have n12 : (st 126 5).toInt ≤ p0.toInt := (i_le c11)
        rw [hQ]
        exact W.vret hx hb hr (fun t ht hW => ⟨⟨st, rfl, ⟨hB, fr_rf, rfl, rfl, rfl, trivial⟩, by rw [ht]; exact hP, va_K.moved hW.alike (hK.sub (tys' := []) [] rfl), by rw [hAe]; exact hD⟩, by rw [hAe]; exact hS.F ht⟩) hS.2.2 dX3_keepIfBetter_48
      · skip
        have n13 : p0.toInt < (st 126 5).toInt := (i_nle c11)
        have h14 : Iv 0 3 p0 := lt_l hp0 n13 h10 (by decide)
        have h15 : Iv 1 4 (st 126 5) := lt_r hp0 n13 h10 (by decide)
        refine lv_aload_n hx hb dX3_keepIfBetter_24 rfl (lv_at hl 0 rfl) ?_
        refine lv_iload_n hx hb dX3_keepIfBetter_25 rfl (lv_at hl 2 rfl) ?_
        refine c_put (ci := 3) (C := RX3) (T := TX3) (N := 10) (j := 6) (v := p1) hx hb hT in_X3 tyX3 tyX3_ok nmX3 hown hK hP hD hS cw_126 rfl (by decide) (hT _ t409) (by decide +kernel) (by decide +kernel) rfl rfl (Nat.le_of_ble_eq_true rfl) (cs_126 (upd (st 126) 6 p1)) dX3_keepIfBetter_26 (fun s16 H9 locs9 es16 hP9 hD9 hS9 => ?_)
        clear hP hD hS
        have hS := hS9
        have hP := hP9
        have hD := hD9
        clear hP9 hD9 hS9
        have hBs16 : CB s16 := by rw [es16]; exact cb_sw hB (ki_10_6 (hB 126))
        have hFs16 : FR [126, 161] st s16 := fr_sw fr_rf (List.mem_of_getElem? (i := 0) rfl) es16
        refine lv_aload_n hx hb dX3_keepIfBetter_29 rfl (lv_at hl 0 rfl) ?_
        refine lv_iload_n hx hb dX3_keepIfBetter_30 rfl (lv_at hl 1 rfl) ?_
        refine c_put (ci := 3) (C := RX3) (T := TX3) (N := 10) (j := 5) (v := p0) hx hb hT in_X3 tyX3 tyX3_ok nmX3 hown hK hP hD hS cw_126 rfl (by decide) (hT _ t407) (by decide +kernel) (by decide +kernel) rfl rfl (Nat.le_of_ble_eq_true rfl) (cs_126 (upd (s16 126) 5 p0)) dX3_keepIfBetter_31 (fun s17 H9 locs9 es17 hP9 hD9 hS9 => ?_)
        clear hP hD hS
        have hS := hS9
        have hP := hP9
        have hD := hD9
        clear hP9 hD9 hS9
        have hBs17 : CB s17 := by rw [es17]; exact cb_sw hBs16 (ki_10_5 (hBs16 126) (iv_mono (c := 0) (d := 4) h14 (by decide) (by decide)))
        have hFs17 : FR [126, 161] st s17 := fr_sw hFs16 (List.mem_of_getElem? (i := 0) rfl) es17
        refine lv_aload_n hx hb dX3_keepIfBetter_34 rfl (lv_at hl 0 rfl) ?_
        refine va_get (D := D) (ci := 3) (v := .ref (a 160)) (C := RX3) (T := TX3) (N := 10) hx hb hT in_X3 hown hK hP 126 cw_126 rfl 3 (by decide) (hT _ t404) (fun _ h9 => h9) rfl dX3_keepIfBetter_35 ?_
        refine lv_iconst (v := 0) hx hb dX3_keepIfBetter_38 (by decide) ?_
        refine lv_aload_n hx hb dX3_keepIfBetter_39 rfl (lv_at hl 0 rfl) ?_
        refine va_get (D := D) (ci := 3) (v := .ref (a 161)) (C := RX3) (T := TX3) (N := 10) hx hb hT in_X3 hown hK hP 126 cw_126 rfl 4 (by decide) (hT _ t405) (fun _ h9 => h9) rfl dX3_keepIfBetter_40 ?_
        refine lv_iconst (v := 0) hx hb dX3_keepIfBetter_43 (by decide) ?_
        refine lv_iconst (v := 4) hx hb dX3_keepIfBetter_44 (by decide) ?_
        refine c_cpy hx hb (hml.trans hl.1.symm) hown (hT _ t953) (hT _ t686) (hT _ t685) (hT _ t121) hK hP hD hS cw_160 cw_161 cs_161 (Nat.le_of_ble_eq_true rfl) (Nat.le_of_ble_eq_true rfl) (by decide) (by decide) (by decide) dX3_keepIfBetter_45 (fun s18 H9 locs9 fs18 es18 gs18 hP9 hD9 hS9 => ?_)
        clear hP hD hS
        have hS := hS9
        have hP := hP9
        have hD := hD9
        clear hP9 hD9 hS9
        have hBs18 : CB s18 := by rw [es18]; exact cb_sw hBs17 trivial
        have hFs18 : FR [126, 161] st s18 := fr_sw hFs17 (List.mem_of_getElem? (i := 1) rfl) es18
        rw [hQ]
        exact W.vret hx hb hr (fun t ht hW => ⟨⟨s18, rfl, ⟨hBs18, hFs18, (Eq.trans (congrFun (sw_at es18 (by decide)) 7) (Eq.trans (congrFun (sw_it es17) 7) (congrFun (sw_it es16) 7))), (Eq.trans (congrFun (sw_at es18 (by decide)) 8) (Eq.trans (congrFun (sw_it es17) 8) (congrFun (sw_it es16) 8))), (Eq.trans (congrFun (sw_at es18 (by decide)) 9) (Eq.trans (congrFun (sw_it es17) 9) (congrFun (sw_it es16) 9))), trivial⟩, by rw [ht]; exact hP, va_K.moved hW.alike (hK.sub (tys' := []) [] rfl), by rw [hAe]; exact hD⟩, by rw [hAe]; exact hS.F ht⟩) hS.2.2 dX3_keepIfBetter_48
