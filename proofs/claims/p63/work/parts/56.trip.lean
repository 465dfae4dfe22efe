set_option maxHeartbeats 4000000 in
set_option maxRecDepth 100000 in
theorem s_X7_begin (l : Launch) (D : va_G) (k : Nat → ClassId) (a : Nat → Nat) (st : CT) (sl : CL) (p0 : Int32) (sz : Nat) (hB : CB st) (hp0 : Iv 0 2 p0) : Met l yX7_begin (.code yX7_begin cX7_begin 3 none :: TB) (rmw 1 0 0) (va_Pc [.ref (a 125), .ref (a 119), .int p0] (PW D k sz (CWS k a st sl))) (QV D (S := CT) (fun u => CB u ∧ FR [125] st u ∧ (True)) (fun u => CWS k a u sl) (fun _ => []) (CWS k a st sl) sz) 0 0 (va_A (CWS k a st sl) sz) := by
  refine Met.ofW (cc := cX7_begin) (maxL := 3) (ret := none) (by decide) rfl ?_
  intro p e s m args below meth c s₁ B hml hv
  obtain ⟨rfl, hsz, hP, hK, hD0, hN⟩ := hv
  have hx := B.exec
  have hb := B.bytes
  have hr := B.returns
  have hT : ∀ w9 ∈ TB, w9.before ([.ref (a 125), .ref (a 119), .int p0] : List Value).toArray s = true := fun w9 h => atoms_spec (ws := .code yX7_begin cX7_begin 3 none :: TB) B.pre w9 (List.mem_cons_of_mem _ h)
  have hown : s.vm.findClass RX7 = some m.cls := findClass_of_methodNamed B.named
  have S : CallFix p m c cX7_begin 3 s _ TB RX7 := ⟨hx, hb, hml, hown, hT⟩
  subst hsz
  have hD := hD0.self (sz := s.heap.size)
  generalize hAe : va_A (CWS k a st sl) s.heap.size = A at hD ⊢
  have hA : ∀ q : Nat, s.heap.size ≤ q → A q := fun q h => by rw [← hAe]; exact Or.inr h
  have hS : va_S A s.heap s.heap [] := va_S.rf
  have hl := lv_entry ([.ref (a 125), .ref (a 119), .int p0]) (n := 3) (Nat.le_of_ble_eq_true rfl)
  rw [lg_entry_eq]
  generalize (lg_sl ([.ref (a 125), .ref (a 119), .int p0]) ++ List.replicate (3 - (lg_sl ([.ref (a 125), .ref (a 119), .int p0])).length) Slot.unset).toArray = ls at hl ⊢
  have hl : lv_has ls 3 [(0, .ref (a 125)), (1, .ref (a 119)), (2, .int p0)] := hl
  refine nameQ (fun Q hQ => ?_)
  refine lv_aload_n hx hb dX7_begin_0 rfl (lv_at hl 0 rfl) ?_
  refine lv_iconst (v := 0) hx hb dX7_begin_1 (by decide) ?_
  refine c_put (ci := 7) (C := RX7) (T := TX7) (N := 6) (j := 0) (v := 0) hx hb hT in_X7 tyX7 tyX7_ok nmX7 hown hK hP hD hS cw_125 rfl (by decide) (hT _ t366) (by decide +kernel) (by decide +kernel) rfl rfl (Nat.le_of_ble_eq_true rfl) (cs_125 (upd (st 125) 0 0)) dX7_begin_2 (fun s1 H9 locs9 es1 hP9 hD9 hS9 => ?_)
  clear hP hD hS
  have hS := hS9
  have hP := hP9
  have hD := hD9
  clear hP9 hD9 hS9
  have hBs1 : CB s1 := by rw [es1]; exact cb_sw hB trivial
  have hFs1 : FR [125] st s1 := fr_sw fr_rf (List.mem_of_getElem? (i := 0) rfl) es1
  refine lv_aload_n hx hb dX7_begin_5 rfl (lv_at hl 0 rfl) ?_
  refine lv_aload_n hx hb dX7_begin_6 rfl (lv_at hl 1 rfl) ?_
  refine va_get (D := D) (ci := 5) (v := .ref (a 123)) (C := RX5) (T := TX5) (N := 5) hx hb hT in_X5 hown hK hP 119 cw_119 rfl 3 (by decide) (hT _ t177) (fun _ h9 => h9) rfl dX7_begin_7 ?_
  refine lv_iload_n hx hb dX7_begin_10 rfl (lv_at hl 2 rfl) ?_
  refine va_iald hx hb hK hP 123 0 cw_123 rfl (iv_in hp0 (by decide) (by decide)) dX7_begin_11 ?_
  refine lv_topi (fun z2 ez2 => ?_)
  have h3 : Iv 0 5 z2 := by rw [ez2]; exact (rb_123 hBs1 (vp_in_lt (iv_in hp0 (by decide) (by decide))))
  refine c_put (ci := 7) (C := RX7) (T := TX7) (N := 6) (j := 1) (v := z2) hx hb hT in_X7 tyX7 tyX7_ok nmX7 hown hK hP hD hS cw_125 rfl (by decide) (hT _ t368) (by decide +kernel) (by decide +kernel) rfl rfl (Nat.le_of_ble_eq_true rfl) (cs_125 (upd (s1 125) 1 z2)) dX7_begin_12 (fun s4 H9 locs9 es4 hP9 hD9 hS9 => ?_)
  clear hP hD hS
  have hS := hS9
  have hP := hP9
  have hD := hD9
  clear hP9 hD9 hS9
  have hBs4 : CB s4 := by rw [es4]; exact cb_sw hBs1 trivial
  have hFs4 : FR [125] st s4 := fr_sw hFs1 (List.mem_of_getElem? (i := 0) rfl) es4
  refine lv_aload_n hx hb dX7_begin_15 rfl (lv_at hl 0 rfl) ?_
  refine lv_iconst (v := 0) hx hb dX7_begin_16 (by decide) ?_
  refine c_put (ci := 7) (C := RX7) (T := TX7) (N := 6) (j := 2) (v := 0) hx hb hT in_X7 tyX7 tyX7_ok nmX7 hown hK hP hD hS cw_125 rfl (by decide) (hT _ t370) (by decide +kernel) (by decide +kernel) rfl rfl (Nat.le_of_ble_eq_true rfl) (cs_125 (upd (s4 125) 2 0)) dX7_begin_17 (fun s5 H9 locs9 es5 hP9 hD9 hS9 => ?_)
  clear hP hD hS
  have hS := hS9
  have hP := hP9
  have hD := hD9
  clear hP9 hD9 hS9
  have hBs5 : CB s5 := by rw [es5]; exact cb_sw hBs4 trivial
  have hFs5 : FR [125] st s5 := fr_sw hFs4 (List.mem_of_getElem? (i := 0) rfl) es5
  refine lv_aload_n hx hb dX7_begin_20 rfl (lv_at hl 0 rfl) ?_
  refine lv_iconst (v := 0) hx hb dX7_begin_21 (by decide) ?_
  refine c_put (ci := 7) (C := RX7) (T := TX7) (N := 6) (j := 3) (v := 0) hx hb hT in_X7 tyX7 tyX7_ok nmX7 hown hK hP hD hS cw_125 rfl (by decide) (hT _ t372) (by decide +kernel) (by decide +kernel) rfl rfl (Nat.le_of_ble_eq_true rfl) (cs_125 (upd (s5 125) 3 0)) dX7_begin_22 (fun s6 H9 locs9 es6 hP9 hD9 hS9 => ?_)
  clear hP hD hS
  have hS := hS9
  have hP := hP9
  have hD := hD9
  clear hP9 hD9 hS9
  have hBs6 : CB s6 := by rw [es6]; exact cb_sw hBs5 trivial
  have hFs6 : FR [125] st s6 := fr_sw hFs5 (List.mem_of_getElem? (i := 0) rfl) es6
  refine lv_aload_n hx hb dX7_begin_25 rfl (lv_at hl 0 rfl) ?_
  refine lv_iconst (v := (-1)) hx hb dX7_begin_26 (by decide) ?_
  refine c_put (ci := 7) (C := RX7) (T := TX7) (N := 6) (j := 4) (v := (-1)) hx hb hT in_X7 tyX7 tyX7_ok nmX7 hown hK hP hD hS cw_125 rfl (by decide) (hT _ t374) (by decide +kernel) (by decide +kernel) rfl rfl (Nat.le_of_ble_eq_true rfl) (cs_125 (upd (s6 125) 4 (-1))) dX7_begin_27 (fun s7 H9 locs9 es7 hP9 hD9 hS9 => ?_)
  clear hP hD hS
  have hS := hS9
  have hP := hP9
  have hD := hD9
  clear hP9 hD9 hS9
  have hBs7 : CB s7 := by rw [es7]; exact cb_sw hBs6 trivial
  have hFs7 : FR [125] st s7 := fr_sw hFs6 (List.mem_of_getElem? (i := 0) rfl) es7
  refine lv_aload_n hx hb dX7_begin_30 rfl (lv_at hl 0 rfl) ?_
  refine lv_iconst (v := (-1)) hx hb dX7_begin_31 (by decide) ?_
  refine c_put (ci := 7) (C := RX7) (T := TX7) (N := 6) (j := 5) (v := (-1)) hx hb hT in_X7 tyX7 tyX7_ok nmX7 hown hK hP hD hS cw_125 rfl (by decide) (hT _ t376) (by decide +kernel) (by decide +kernel) rfl rfl (Nat.le_of_ble_eq_true rfl) (cs_125 (upd (s7 125) 5 (-1))) dX7_begin_32 (fun s8 H9 locs9 es8 hP9 hD9 hS9 => ?_)
  clear hP hD hS
  have hS := hS9
  have hP := hP9
  have hD := hD9
  clear hP9 hD9 hS9
  have hBs8 : CB s8 := by rw [es8]; exact cb_sw hBs7 trivial
  have hFs8 : FR [125] st s8 := fr_sw hFs7 (List.mem_of_getElem? (i := 0) rfl) es8
  rw [hQ]
  exact W.vret hx hb hr (fun t ht hW => ⟨⟨s8, rfl, ⟨hBs8, hFs8, trivial⟩, by rw [ht]; exact hP, va_K.moved hW.alike (hK.sub (tys' := []) [] rfl), by rw [hAe]; exact hD⟩, by rw [hAe]; exact hS.F ht⟩) hS.2.2 dX7_begin_35
set_option maxHeartbeats 4000000 in
set_option maxRecDepth 100000 in
theorem s_X7_goOn (l : Launch) (D : va_G) (k : Nat → ClassId) (a : Nat → Nat) (st : CT) (sl : CL) (p0 : Int32) (p1 : Int32) (sz : Nat) (hB : CB st) (hp0 : Iv 0 2 p0) : Met l yX7_goOn (.code yX7_goOn cX7_goOn 6 (some .boolean) :: TB) (rmw 5 0 0) (va_Pc [.ref (a 125), .ref (a 18), .ref (a 119), .int p0, .int p1] (PW D k sz (CWS k a st sl))) (QI D (S := CT) (fun r u => CB u ∧ FR [120, 121, 123, 124, 125] st u ∧ ((r = 1 ∧ (True)) ∨ (r = 0 ∧ (True)))) (fun u => CWS k a u sl) (fun _ => []) (CWS k a st sl) sz) 0 0 (va_A (CWS k a st sl) sz) := by
  refine Met.ofW (cc := cX7_goOn) (maxL := 6) (ret := (some .boolean)) (by decide) rfl ?_
  intro p e s m args below meth c s₁ B hml hv
  obtain ⟨rfl, hsz, hP, hK, hD0, hN⟩ := hv
  have hx := B.exec
  have hb := B.bytes
  have hr := B.returns
  have hT : ∀ w9 ∈ TB, w9.before ([.ref (a 125), .ref (a 18), .ref (a 119), .int p0, .int p1] : List Value).toArray s = true := fun w9 h => atoms_spec (ws := .code yX7_goOn cX7_goOn 6 (some .boolean) :: TB) B.pre w9 (List.mem_cons_of_mem _ h)
  have hown : s.vm.findClass RX7 = some m.cls := findClass_of_methodNamed B.named
  have S : CallFix p m c cX7_goOn 6 s _ TB RX7 := ⟨hx, hb, hml, hown, hT⟩
  subst hsz
  have hD := hD0.self (sz := s.heap.size)
  generalize hAe : va_A (CWS k a st sl) s.heap.size = A at hD ⊢
  have hA : ∀ q : Nat, s.heap.size ≤ q → A q := fun q h => by rw [← hAe]; exact Or.inr h
  have hS : va_S A s.heap s.heap [] := va_S.rf
  have hl := lv_entry ([.ref (a 125), .ref (a 18), .ref (a 119), .int p0, .int p1]) (n := 6) (Nat.le_of_ble_eq_true rfl)
  rw [lg_entry_eq]
  generalize (lg_sl ([.ref (a 125), .ref (a 18), .ref (a 119), .int p0, .int p1]) ++ List.replicate (6 - (lg_sl ([.ref (a 125), .ref (a 18), .ref (a 119), .int p0, .int p1])).length) Slot.unset).toArray = ls at hl ⊢
  have hl : lv_has ls 6 [(0, .ref (a 125)), (1, .ref (a 18)), (2, .ref (a 119)), (3, .int p0), (4, .int p1)] := hl
  refine nameQ (fun Q hQ => ?_)
  refine lv_aload_n hx hb dX7_goOn_0 rfl (lv_at hl 2 rfl) ?_
  refine lv_aload_n hx hb dX7_goOn_1 rfl (lv_at hl 1 rfl) ?_
  refine lv_iload_n hx hb dX7_goOn_2 rfl (lv_at hl 3 rfl) ?_
  refine lv_iload hx hb dX7_goOn_3 (lv_at hl 4 rfl) ?_
  refine ca_i hP hD hS hA (fun hDc => run_V (mc := 0) (ms := 0) (As := [.ref (a 18), .int p0, .int p1]) (rest := []) S (s_X5_go l D k a st sl 119 p0 p1 _ (by decide) hB hp0 ) lkX7_36 ok_X5_go ⟨rfl, rfl, Nat.le_of_ble_eq_true rfl, Nat.le_of_ble_eq_true rfl⟩ (pw_V (ci := 5) (q0 := 119) hK hN rfl cw_119 hP hDc) rfl hl.1 rfl (Nat.le_of_ble_eq_true rfl) ⟨Nat.zero_le _, Nat.zero_le _⟩ dX7_goOn_5) (fun r2 s1 H9 locs9 hs1 hP9 hD9 hS9 => ?_)
  clear hP hD hS
  have hS := hS9
  have hP := hP9
  have hD := hD9
  clear hP9 hD9 hS9
  obtain ⟨hBs1, gs1, fs1⟩ := hs1
  have hFs1 : FR [120, 121, 123, 124, 125] st s1 := fr_ca fr_rf gs1 (sub_1 (List.mem_of_getElem? (i := 0) rfl) (sub_1 (List.mem_of_getElem? (i := 1) rfl) (sub_1 (List.mem_of_getElem? (i := 2) rfl) (sub_1 (List.mem_of_getElem? (i := 3) rfl) sub_0))))
  have h3 : Iv (-1) 7 r2 := fs1.1
  refine lv_istore (lv' := [(5, .int r2), (0, .ref (a 125)), (1, .ref (a 18)), (2, .ref (a 119)), (3, .int p0), (4, .int p1)]) hx hb dX7_goOn_8 hl (by decide) rfl (fun ls hl => ?_)
  refine lv_iload hx hb dX7_goOn_10 (lv_at hl 0 rfl) ?_
  refine lv_iconst (v := (-1)) hx hb dX7_goOn_12 (by decide) ?_
  refine lv_icmp_ne (tgt := 18) hx hb dX7_goOn_13 (by decide) (fun c4 => ?_) (fun c4 => ?_)
  · skip
    have h5 : Iv 0 7 r2 := ne_lo h3 (show ¬ r2 = (-1) from c4) (by decide) (by decide)
    refine lv_iload hx hb dX7_goOn_18 (lv_at hl 5 rfl) ?_
    refine lv_iconst (v := (-1)) hx hb dX7_goOn_20 (by decide) ?_
    refine lv_icmp_eq (tgt := 57) hx hb dX7_goOn_21 (by decide) (fun c6 => ?_) (fun c6 => ?_)
    · skip
      have h7 : Iv (-1) (-1) p1 := eq_l c6 (iv_c (by decide) : Iv (-1) (-1) (-1))
      refine lv_aload_n hx hb dX7_goOn_57 rfl (lv_at hl 1 rfl) ?_
      refine va_get (D := D) (ci := 7) (v := .int (s1 125 5)) (C := RX7) (T := TX7) (N := 6) hx hb hT in_X7 hown hK hP 125 cw_125 rfl 5 (by decide) (hT _ t376) (fun _ h9 => h9) rfl dX7_goOn_58 ?_
      refine k_top (y := (st 125 5)) (congrFun (gs1 125 (nm_1 (by decide) (nm_1 (by decide) (nm_1 (by decide) (nm_1 (by decide) nm_0))))) 5) ?_
      refine lv_iconst (v := (-1)) hx hb dX7_goOn_61 (by decide) ?_
      refine lv_icmp_ne (tgt := 81) hx hb dX7_goOn_62 (by decide) (fun c8 => ?_) (fun c8 => ?_)
      · skip
        refine lv_aload_n hx hb dX7_goOn_81 rfl (lv_at hl 1 rfl) ?_
        refine lv_dup hx hb dX7_goOn_82 rfl ?_
        refine va_get (D := D) (ci := 7) (v := .int (s1 125 0)) (C := RX7) (T := TX7) (N := 6) hx hb hT in_X7 hown hK hP 125 cw_125 rfl 0 (by decide) (hT _ t366) (fun _ h9 => h9) rfl dX7_goOn_83 ?_
        refine k_top (y := (st 125 0)) (congrFun (gs1 125 (nm_1 (by decide) (nm_1 (by decide) (nm_1 (by decide) (nm_1 (by decide) nm_0))))) 0) ?_
        refine lv_iconst (v := 1) hx hb dX7_goOn_86 (by decide) ?_
        refine lv_iadd hx hb dX7_goOn_87 ?_
        refine lv_topi (fun z9 ez9 => ?_)
        refine c_put (ci := 7) (C := RX7) (T := TX7) (N := 6) (j := 0) (v := z9) hx hb hT in_X7 tyX7 tyX7_ok nmX7 hown hK hP hD hS cw_125 rfl (by decide) (hT _ t366) (by decide +kernel) (by decide +kernel) rfl rfl (Nat.le_of_ble_eq_true rfl) (cs_125 (upd (s1 125) 0 z9)) dX7_goOn_88 (fun s10 H9 locs9 es10 hP9 hD9 hS9 => ?_)
        clear hP hD hS
        have hS := hS9
        have hP := hP9
        have hD := hD9
        clear hP9 hD9 hS9
        have hBs10 : CB s10 := by rw [es10]; exact cb_sw hBs1 trivial
        have hFs10 : FR [120, 121, 123, 124, 125] st s10 := fr_sw hFs1 (List.mem_of_getElem? (i := 4) rfl) es10
        refine lv_aload_n hx hb dX7_goOn_91 rfl (lv_at hl 1 rfl) ?_
        refine lv_aload_n hx hb dX7_goOn_92 rfl (lv_at hl 3 rfl) ?_
        refine va_get (D := D) (ci := 5) (v := .ref (a 123)) (C := RX5) (T := TX5) (N := 5) hx hb hT in_X5 hown hK hP 119 cw_119 rfl 3 (by decide) (hT _ t177) (fun _ h9 => h9) rfl dX7_goOn_93 ?_
        refine lv_iload_n hx hb dX7_goOn_96 rfl (lv_at hl 4 rfl) ?_
        refine va_iald hx hb hK hP 123 0 cw_123 rfl (iv_in hp0 (by decide) (by decide)) dX7_goOn_97 ?_
        refine lv_topi (fun z11 ez11 => ?_)
        have h12 : Iv 0 5 z11 := by rw [ez11]; exact (rb_123 hBs10 (vp_in_lt (iv_in hp0 (by decide) (by decide))))
        refine c_put (ci := 7) (C := RX7) (T := TX7) (N := 6) (j := 1) (v := z11) hx hb hT in_X7 tyX7 tyX7_ok nmX7 hown hK hP hD hS cw_125 rfl (by decide) (hT _ t368) (by decide +kernel) (by decide +kernel) rfl rfl (Nat.le_of_ble_eq_true rfl) (cs_125 (upd (s10 125) 1 z11)) dX7_goOn_98 (fun s13 H9 locs9 es13 hP9 hD9 hS9 => ?_)
        clear hP hD hS
        have hS := hS9
        have hP := hP9
        have hD := hD9
        clear hP9 hD9 hS9
        have hBs13 : CB s13 := by rw [es13]; exact cb_sw hBs10 trivial
        have hFs13 : FR [120, 121, 123, 124, 125] st s13 := fr_sw hFs10 (List.mem_of_getElem? (i := 4) rfl) es13
        refine lv_aload_n hx hb dX7_goOn_101 rfl (lv_at hl 1 rfl) ?_
        refine lv_dup hx hb dX7_goOn_102 rfl ?_
        refine va_get (D := D) (ci := 7) (v := .int (s13 125 2)) (C := RX7) (T := TX7) (N := 6) hx hb hT in_X7 hown hK hP 125 cw_125 rfl 2 (by decide) (hT _ t370) (fun _ h9 => h9) rfl dX7_goOn_103 ?_
        refine k_top (y := (st 125 2)) (Eq.trans (congrFun (sw_it es13) 2) (Eq.trans (congrFun (sw_it es10) 2) (congrFun (gs1 125 (nm_1 (by decide) (nm_1 (by decide) (nm_1 (by decide) (nm_1 (by decide) nm_0))))) 2))) ?_
        refine lv_aload_n hx hb dX7_goOn_106 rfl (lv_at hl 2 rfl) ?_
        refine va_get (D := D) (ci := 1) (v := .ref (a 21)) (C := RX1) (T := TX1) (N := 14) hx hb hT in_X1 hown hK hP 18 cw_18 rfl 9 (by decide) (hT _ t230) (fun _ h9 => h9) rfl dX7_goOn_107 ?_
        refine lv_iload hx hb dX7_goOn_110 (lv_at hl 0 rfl) ?_
        refine va_iald hx hb hK hP 21 0 cw_21 rfl (iv_in h5 (by decide) (by decide)) dX7_goOn_112 ?_
        refine lv_topi (fun z14 ez14 => ?_)
        refine lv_iadd hx hb dX7_goOn_113 ?_
        refine lv_topi (fun z15 ez15 => ?_)
        refine c_put (ci := 7) (C := RX7) (T := TX7) (N := 6) (j := 2) (v := z15) hx hb hT in_X7 tyX7 tyX7_ok nmX7 hown hK hP hD hS cw_125 rfl (by decide) (hT _ t370) (by decide +kernel) (by decide +kernel) rfl rfl (Nat.le_of_ble_eq_true rfl) (cs_125 (upd (s13 125) 2 z15)) dX7_goOn_114 (fun s16 H9 locs9 es16 hP9 hD9 hS9 => ?_)
        clear hP hD hS
        have hS := hS9
        have hP := hP9
        have hD := hD9
        clear hP9 hD9 hS9
        have hBs16 : CB s16 := by rw [es16]; exact cb_sw hBs13 trivial
        have hFs16 : FR [120, 121, 123, 124, 125] st s16 := fr_sw hFs13 (List.mem_of_getElem? (i := 4) rfl) es16
        refine lv_iconst (v := 1) hx hb dX7_goOn_117 (by decide) ?_
        rw [hQ]
        exact W.zret (v := 1) (ty := .boolean) hx hb hr rfl (fun t ht hW => ⟨⟨1, s16, rfl, ⟨hBs16, hFs16, Or.inl ⟨rfl, trivial⟩⟩, by rw [ht]; exact hP, va_K.moved hW.alike (hK.sub (tys' := []) [] rfl), by rw [hAe]; exact hD⟩, by rw [hAe]; exact hS.F ht⟩) hS.2.2 dX7_goOn_118
      · skip
        have h17 : Iv (-1) (-1) (st 125 5) := eq_l c8 (iv_c (by decide) : Iv (-1) (-1) (-1))
        refine lv_aload_n hx hb dX7_goOn_65 rfl (lv_at hl 3 rfl) ?_
        refine lv_iload_n hx hb dX7_goOn_66 rfl (lv_at hl 4 rfl) ?_
        refine ro_V (As := [.int p0]) (rest := []) S (s_X5_hasWornWheel l D k a s1 sl 119 p0 _ (by decide) hBs1  ) lkX7_40 ok_X5_hasWornWheel ⟨rfl, rfl, Nat.le_of_ble_eq_true rfl, Nat.le_of_ble_eq_true rfl⟩ (pw_V (ci := 5) (q0 := 119) hK hN rfl cw_119 hP (hD.weaken (fun _ _ _ _ => trivial))) rfl hl.1 rfl (Nat.le_of_ble_eq_true rfl) ⟨Nat.zero_le _, Nat.zero_le _⟩ dX7_goOn_67 (fun r18 er18 => ?_)
        rcases er18 with ⟨rfl, g9⟩ | ⟨rfl, g9⟩
        · skip
          have g19 := g9
          refine lv_if_eq (tgt := 81) hx hb dX7_goOn_70 (by decide) (fun c20 => ?_) (fun c20 => ?_)
          · first | exact absurd c20 (by decide) | exact absurd (by decide) c20
          refine lv_aload_n hx hb dX7_goOn_73 rfl (lv_at hl 1 rfl) ?_
          refine lv_aload_n hx hb dX7_goOn_74 rfl (lv_at hl 1 rfl) ?_
          refine va_get (D := D) (ci := 7) (v := .int (s1 125 0)) (C := RX7) (T := TX7) (N := 6) hx hb hT in_X7 hown hK hP 125 cw_125 rfl 0 (by decide) (hT _ t366) (fun _ h9 => h9) rfl dX7_goOn_75 ?_
          refine k_top (y := (st 125 0)) (congrFun (gs1 125 (nm_1 (by decide) (nm_1 (by decide) (nm_1 (by decide) (nm_1 (by decide) nm_0))))) 0) ?_
          refine c_put (ci := 7) (C := RX7) (T := TX7) (N := 6) (j := 5) (v := (st 125 0)) hx hb hT in_X7 tyX7 tyX7_ok nmX7 hown hK hP hD hS cw_125 rfl (by decide) (hT _ t376) (by decide +kernel) (by decide +kernel) rfl rfl (Nat.le_of_ble_eq_true rfl) (cs_125 (upd (s1 125) 5 (st 125 0))) dX7_goOn_78 (fun s21 H9 locs9 es21 hP9 hD9 hS9 => ?_)
          clear hP hD hS
          have hS := hS9
          have hP := hP9
          have hD := hD9
          clear hP9 hD9 hS9
          have hBs21 : CB s21 := by rw [es21]; exact cb_sw hBs1 trivial
          have hFs21 : FR [120, 121, 123, 124, 125] st s21 := fr_sw hFs1 (List.mem_of_getElem? (i := 4) rfl) es21
          refine lv_aload_n hx hb dX7_goOn_81 rfl (lv_at hl 1 rfl) ?_
          refine lv_dup hx hb dX7_goOn_82 rfl ?_
          refine va_get (D := D) (ci := 7) (v := .int (s21 125 0)) (C := RX7) (T := TX7) (N := 6) hx hb hT in_X7 hown hK hP 125 cw_125 rfl 0 (by decide) (hT _ t366) (fun _ h9 => h9) rfl dX7_goOn_83 ?_
          refine k_top (y := (st 125 0)) (Eq.trans (congrFun (sw_it es21) 0) (congrFun (gs1 125 (nm_1 (by decide) (nm_1 (by decide) (nm_1 (by decide) (nm_1 (by decide) nm_0))))) 0)) ?_
          refine lv_iconst (v := 1) hx hb dX7_goOn_86 (by decide) ?_
          refine lv_iadd hx hb dX7_goOn_87 ?_
          refine lv_topi (fun z22 ez22 => ?_)
          refine c_put (ci := 7) (C := RX7) (T := TX7) (N := 6) (j := 0) (v := z22) hx hb hT in_X7 tyX7 tyX7_ok nmX7 hown hK hP hD hS cw_125 rfl (by decide) (hT _ t366) (by decide +kernel) (by decide +kernel) rfl rfl (Nat.le_of_ble_eq_true rfl) (cs_125 (upd (s21 125) 0 z22)) dX7_goOn_88 (fun s23 H9 locs9 es23 hP9 hD9 hS9 => ?_)
          clear hP hD hS
          have hS := hS9
          have hP := hP9
          have hD := hD9
          clear hP9 hD9 hS9
          have hBs23 : CB s23 := by rw [es23]; exact cb_sw hBs21 trivial
          have hFs23 : FR [120, 121, 123, 124, 125] st s23 := fr_sw hFs21 (List.mem_of_getElem? (i := 4) rfl) es23
          refine lv_aload_n hx hb dX7_goOn_91 rfl (lv_at hl 1 rfl) ?_
          refine lv_aload_n hx hb dX7_goOn_92 rfl (lv_at hl 3 rfl) ?_
          refine va_get (D := D) (ci := 5) (v := .ref (a 123)) (C := RX5) (T := TX5) (N := 5) hx hb hT in_X5 hown hK hP 119 cw_119 rfl 3 (by decide) (hT _ t177) (fun _ h9 => h9) rfl dX7_goOn_93 ?_
          refine lv_iload_n hx hb dX7_goOn_96 rfl (lv_at hl 4 rfl) ?_
          refine va_iald hx hb hK hP 123 0 cw_123 rfl (iv_in hp0 (by decide) (by decide)) dX7_goOn_97 ?_
          refine lv_topi (fun z24 ez24 => ?_)
          have h25 : Iv 0 5 z24 := by rw [ez24]; exact (rb_123 hBs23 (vp_in_lt (iv_in hp0 (by decide) (by decide))))
          refine c_put (ci := 7) (C := RX7) (T := TX7) (N := 6) (j := 1) (v := z24) hx hb hT in_X7 tyX7 tyX7_ok nmX7 hown hK hP hD hS cw_125 rfl (by decide) (hT _ t368) (by decide +kernel) (by decide +kernel) rfl rfl (Nat.le_of_ble_eq_true rfl) (cs_125 (upd (s23 125) 1 z24)) dX7_goOn_98 (fun s26 H9 locs9 es26 hP9 hD9 hS9 => ?_)
          clear hP hD hS
          have hS := hS9
          have hP := hP9
          have hD := hD9
          clear hP9 hD9 hS9
          have hBs26 : CB s26 := by rw [es26]; exact cb_sw hBs23 trivial
          have hFs26 : FR [120, 121, 123, 124, 125] st s26 := fr_sw hFs23 (List.mem_of_getElem? (i := 4) rfl) es26
          refine lv_aload_n hx hb dX7_goOn_101 rfl (lv_at hl 1 rfl) ?_
          refine lv_dup hx hb dX7_goOn_102 rfl ?_
          refine va_get (D := D) (ci := 7) (v := .int (s26 125 2)) (C := RX7) (T := TX7) (N := 6) hx hb hT in_X7 hown hK hP 125 cw_125 rfl 2 (by decide) (hT _ t370) (fun _ h9 => h9) rfl dX7_goOn_103 ?_
          refine k_top (y := (st 125 2)) (Eq.trans (congrFun (sw_it es26) 2) (Eq.trans (congrFun (sw_it es23) 2) (Eq.trans (congrFun (sw_it es21) 2) (congrFun (gs1 125 (nm_1 (by decide) (nm_1 (by decide) (nm_1 (by decide) (nm_1 (by decide) nm_0))))) 2)))) ?_
          refine lv_aload_n hx hb dX7_goOn_106 rfl (lv_at hl 2 rfl) ?_
          refine va_get (D := D) (ci := 1) (v := .ref (a 21)) (C := RX1) (T := TX1) (N := 14) hx hb hT in_X1 hown hK hP 18 cw_18 rfl 9 (by decide) (hT _ t230) (fun _ h9 => h9) rfl dX7_goOn_107 ?_
          refine lv_iload hx hb dX7_goOn_110 (lv_at hl 0 rfl) ?_
          refine va_iald hx hb hK hP 21 0 cw_21 rfl (iv_in h5 (by decide) (by decide)) dX7_goOn_112 ?_
          refine lv_topi (fun z27 ez27 => ?_)
          refine lv_iadd hx hb dX7_goOn_113 ?_
          refine lv_topi (fun z28 ez28 => ?_)
          refine c_put (ci := 7) (C := RX7) (T := TX7) (N := 6) (j := 2) (v := z28) hx hb hT in_X7 tyX7 tyX7_ok nmX7 hown hK hP hD hS cw_125 rfl (by decide) (hT _ t370) (by decide +kernel) (by decide +kernel) rfl rfl (Nat.le_of_ble_eq_true rfl) (cs_125 (upd (s26 125) 2 z28)) dX7_goOn_114 (fun s29 H9 locs9 es29 hP9 hD9 hS9 => ?_)
          clear hP hD hS
          have hS := hS9
          have hP := hP9
          have hD := hD9
          clear hP9 hD9 hS9
          have hBs29 : CB s29 := by rw [es29]; exact cb_sw hBs26 trivial
          have hFs29 : FR [120, 121, 123, 124, 125] st s29 := fr_sw hFs26 (List.mem_of_getElem? (i := 4) rfl) es29
          refine lv_iconst (v := 1) hx hb dX7_goOn_117 (by decide) ?_
          rw [hQ]
          exact W.zret (v := 1) (ty := .boolean) hx hb hr rfl (fun t ht hW => ⟨⟨1, s29, rfl, ⟨hBs29, hFs29, Or.inl ⟨rfl, trivial⟩⟩, by rw [ht]; exact hP, va_K.moved hW.alike (hK.sub (tys' := []) [] rfl), by rw [hAe]; exact hD⟩, by rw [hAe]; exact hS.F ht⟩) hS.2.2 dX7_goOn_118
        · skip
          have g30 := g9
          refine lv_if_eq (tgt := 81) hx hb dX7_goOn_70 (by decide) (fun c31 => ?_) (fun c31 => ?_)
          rotate_left
          · first | exact absurd c31 (by decide) | exact absurd (by decide) c31
          refine lv_aload_n hx hb dX7_goOn_81 rfl (lv_at hl 1 rfl) ?_
          refine lv_dup hx hb dX7_goOn_82 rfl ?_
          refine va_get (D := D) (ci := 7) (v := .int (s1 125 0)) (C := RX7) (T := TX7) (N := 6) hx hb hT in_X7 hown hK hP 125 cw_125 rfl 0 (by decide) (hT _ t366) (fun _ h9 => h9) rfl dX7_goOn_83 ?_
          refine k_top (y := (st 125 0)) (congrFun (gs1 125 (nm_1 (by decide) (nm_1 (by decide) (nm_1 (by decide) (nm_1 (by decide) nm_0))))) 0) ?_
          refine lv_iconst (v := 1) hx hb dX7_goOn_86 (by decide) ?_
          refine lv_iadd hx hb dX7_goOn_87 ?_
          refine lv_topi (fun z32 ez32 => ?_)
          refine c_put (ci := 7) (C := RX7) (T := TX7) (N := 6) (j := 0) (v := z32) hx hb hT in_X7 tyX7 tyX7_ok nmX7 hown hK hP hD hS cw_125 rfl (by decide) (hT _ t366) (by decide +kernel) (by decide +kernel) rfl rfl (Nat.le_of_ble_eq_true rfl) (cs_125 (upd (s1 125) 0 z32)) dX7_goOn_88 (fun s33 H9 locs9 es33 hP9 hD9 hS9 => ?_)
          clear hP hD hS
          have hS := hS9
          have hP := hP9
          have hD := hD9
          clear hP9 hD9 hS9
          have hBs33 : CB s33 := by rw [es33]; exact cb_sw hBs1 trivial
          have hFs33 : FR [120, 121, 123, 124, 125] st s33 := fr_sw hFs1 (List.mem_of_getElem? (i := 4) rfl) es33
          refine lv_aload_n hx hb dX7_goOn_91 rfl (lv_at hl 1 rfl) ?_
          refine lv_aload_n hx hb dX7_goOn_92 rfl (lv_at hl 3 rfl) ?_
          refine va_get (D := D) (ci := 5) (v := .ref (a 123)) (C := RX5) (T := TX5) (N := 5) hx hb hT in_X5 hown hK hP 119 cw_119 rfl 3 (by decide) (hT _ t177) (fun _ h9 => h9) rfl dX7_goOn_93 ?_
          refine lv_iload_n hx hb dX7_goOn_96 rfl (lv_at hl 4 rfl) ?_
          refine va_iald hx hb hK hP 123 0 cw_123 rfl (iv_in hp0 (by decide) (by decide)) dX7_goOn_97 ?_
          refine lv_topi (fun z34 ez34 => ?_)
          have h35 : Iv 0 5 z34 := by rw [ez34]; exact (rb_123 hBs33 (vp_in_lt (iv_in hp0 (by decide) (by decide))))
          refine c_put (ci := 7) (C := RX7) (T := TX7) (N := 6) (j := 1) (v := z34) hx hb hT in_X7 tyX7 tyX7_ok nmX7 hown hK hP hD hS cw_125 rfl (by decide) (hT _ t368) (by decide +kernel) (by decide +kernel) rfl rfl (Nat.le_of_ble_eq_true rfl) (cs_125 (upd (s33 125) 1 z34)) dX7_goOn_98 (fun s36 H9 locs9 es36 hP9 hD9 hS9 => ?_)
          clear hP hD hS
          have hS := hS9
          have hP := hP9
          have hD := hD9
          clear hP9 hD9 hS9
          have hBs36 : CB s36 := by rw [es36]; exact cb_sw hBs33 trivial
          have hFs36 : FR [120, 121, 123, 124, 125] st s36 := fr_sw hFs33 (List.mem_of_getElem? (i := 4) rfl) es36
          refine lv_aload_n hx hb dX7_goOn_101 rfl (lv_at hl 1 rfl) ?_
          refine lv_dup hx hb dX7_goOn_102 rfl ?_
          refine va_get (D := D) (ci := 7) (v := .int (s36 125 2)) (C := RX7) (T := TX7) (N := 6) hx hb hT in_X7 hown hK hP 125 cw_125 rfl 2 (by decide) (hT _ t370) (fun _ h9 => h9) rfl dX7_goOn_103 ?_
          refine k_top (y := (st 125 2)) (Eq.trans (congrFun (sw_it es36) 2) (Eq.trans (congrFun (sw_it es33) 2) (congrFun (gs1 125 (nm_1 (by decide) (nm_1 (by decide) (nm_1 (by decide) (nm_1 (by decide) nm_0))))) 2))) ?_
          refine lv_aload_n hx hb dX7_goOn_106 rfl (lv_at hl 2 rfl) ?_
          refine va_get (D := D) (ci := 1) (v := .ref (a 21)) (C := RX1) (T := TX1) (N := 14) hx hb hT in_X1 hown hK hP 18 cw_18 rfl 9 (by decide) (hT _ t230) (fun _ h9 => h9) rfl dX7_goOn_107 ?_
          refine lv_iload hx hb dX7_goOn_110 (lv_at hl 0 rfl) ?_
          refine va_iald hx hb hK hP 21 0 cw_21 rfl (iv_in h5 (by decide) (by decide)) dX7_goOn_112 ?_
          refine lv_topi (fun z37 ez37 => ?_)
          refine lv_iadd hx hb dX7_goOn_113 ?_
          refine lv_topi (fun z38 ez38 => ?_)
          refine c_put (ci := 7) (C := RX7) (T := TX7) (N := 6) (j := 2) (v := z38) hx hb hT in_X7 tyX7 tyX7_ok nmX7 hown hK hP hD hS cw_125 rfl (by decide) (hT _ t370) (by decide +kernel) (by decide +kernel) rfl rfl (Nat.le_of_ble_eq_true rfl) (cs_125 (upd (s36 125) 2 z38)) dX7_goOn_114 (fun s39 H9 locs9 es39 hP9 hD9 hS9 => ?_)
          clear hP hD hS
          have hS := hS9
          have hP := hP9
          have hD := hD9
          clear hP9 hD9 hS9
          have hBs39 : CB s39 := by rw [es39]; exact cb_sw hBs36 trivial
          have hFs39 : FR [120, 121, 123, 124, 125] st s39 := fr_sw hFs36 (List.mem_of_getElem? (i := 4) rfl) es39
          refine lv_iconst (v := 1) hx hb dX7_goOn_117 (by decide) ?_
          rw [hQ]
          exact W.zret (v := 1) (ty := .boolean) hx hb hr rfl (fun t ht hW => ⟨⟨1, s39, rfl, ⟨hBs39, hFs39, Or.inl ⟨rfl, trivial⟩⟩, by rw [ht]; exact hP, va_K.moved hW.alike (hK.sub (tys' := []) [] rfl), by rw [hAe]; exact hD⟩, by rw [hAe]; exact hS.F ht⟩) hS.2.2 dX7_goOn_118
    · skip
      refine lv_iload hx hb dX7_goOn_24 (lv_at hl 5 rfl) ?_
      refine lv_iload hx hb dX7_goOn_26 (lv_at hl 0 rfl) ?_
      refine lv_icmp_eq (tgt := 57) hx hb dX7_goOn_28 (by decide) (fun c40 => ?_) (fun c40 => ?_)
      · skip
        have h41 : Iv 0 7 p1 := eq_l c40 h5
        refine lv_aload_n hx hb dX7_goOn_57 rfl (lv_at hl 1 rfl) ?_
        refine va_get (D := D) (ci := 7) (v := .int (s1 125 5)) (C := RX7) (T := TX7) (N := 6) hx hb hT in_X7 hown hK hP 125 cw_125 rfl 5 (by decide) (hT _ t376) (fun _ h9 => h9) rfl dX7_goOn_58 ?_
        refine k_top (y := (st 125 5)) (congrFun (gs1 125 (nm_1 (by decide) (nm_1 (by decide) (nm_1 (by decide) (nm_1 (by decide) nm_0))))) 5) ?_
        refine lv_iconst (v := (-1)) hx hb dX7_goOn_61 (by decide) ?_
        refine lv_icmp_ne (tgt := 81) hx hb dX7_goOn_62 (by decide) (fun c42 => ?_) (fun c42 => ?_)
        · skip
          refine lv_aload_n hx hb dX7_goOn_81 rfl (lv_at hl 1 rfl) ?_
          refine lv_dup hx hb dX7_goOn_82 rfl ?_
          refine va_get (D := D) (ci := 7) (v := .int (s1 125 0)) (C := RX7) (T := TX7) (N := 6) hx hb hT in_X7 hown hK hP 125 cw_125 rfl 0 (by decide) (hT _ t366) (fun _ h9 => h9) rfl dX7_goOn_83 ?_
          refine k_top (y := (st 125 0)) (congrFun (gs1 125 (nm_1 (by decide) (nm_1 (by decide) (nm_1 (by decide) (nm_1 (by decide) nm_0))))) 0) ?_
          refine lv_iconst (v := 1) hx hb dX7_goOn_86 (by decide) ?_
          refine lv_iadd hx hb dX7_goOn_87 ?_
          refine lv_topi (fun z43 ez43 => ?_)
          refine c_put (ci := 7) (C := RX7) (T := TX7) (N := 6) (j := 0) (v := z43) hx hb hT in_X7 tyX7 tyX7_ok nmX7 hown hK hP hD hS cw_125 rfl (by decide) (hT _ t366) (by decide +kernel) (by decide +kernel) rfl rfl (Nat.le_of_ble_eq_true rfl) (cs_125 (upd (s1 125) 0 z43)) dX7_goOn_88 (fun s44 H9 locs9 es44 hP9 hD9 hS9 => ?_)
          clear hP hD hS
          have hS := hS9
          have hP := hP9
          have hD := hD9
          clear hP9 hD9 hS9
          have hBs44 : CB s44 := by rw [es44]; exact cb_sw hBs1 trivial
          have hFs44 : FR [120, 121, 123, 124, 125] st s44 := fr_sw hFs1 (List.mem_of_getElem? (i := 4) rfl) es44
          refine lv_aload_n hx hb dX7_goOn_91 rfl (lv_at hl 1 rfl) ?_
          refine lv_aload_n hx hb dX7_goOn_92 rfl (lv_at hl 3 rfl) ?_
          refine va_get (D := D) (ci := 5) (v := .ref (a 123)) (C := RX5) (T := TX5) (N := 5) hx hb hT in_X5 hown hK hP 119 cw_119 rfl 3 (by decide) (hT _ t177) (fun _ h9 => h9) rfl dX7_goOn_93 ?_
          refine lv_iload_n hx hb dX7_goOn_96 rfl (lv_at hl 4 rfl) ?_
          refine va_iald hx hb hK hP 123 0 cw_123 rfl (iv_in hp0 (by decide) (by decide)) dX7_goOn_97 ?_
          refine lv_topi (fun z45 ez45 => ?_)
          have h46 : Iv 0 5 z45 := by rw [ez45]; exact (rb_123 hBs44 (vp_in_lt (iv_in hp0 (by decide) (by decide))))
          refine c_put (ci := 7) (C := RX7) (T := TX7) (N := 6) (j := 1) (v := z45) hx hb hT in_X7 tyX7 tyX7_ok nmX7 hown hK hP hD hS cw_125 rfl (by decide) (hT _ t368) (by decide +kernel) (by decide +kernel) rfl rfl (Nat.le_of_ble_eq_true rfl) (cs_125 (upd (s44 125) 1 z45)) dX7_goOn_98 (fun s47 H9 locs9 es47 hP9 hD9 hS9 => ?_)
          clear hP hD hS
          have hS := hS9
          have hP := hP9
          have hD := hD9
          clear hP9 hD9 hS9
          have hBs47 : CB s47 := by rw [es47]; exact cb_sw hBs44 trivial
          have hFs47 : FR [120, 121, 123, 124, 125] st s47 := fr_sw hFs44 (List.mem_of_getElem? (i := 4) rfl) es47
          refine lv_aload_n hx hb dX7_goOn_101 rfl (lv_at hl 1 rfl) ?_
          refine lv_dup hx hb dX7_goOn_102 rfl ?_
          refine va_get (D := D) (ci := 7) (v := .int (s47 125 2)) (C := RX7) (T := TX7) (N := 6) hx hb hT in_X7 hown hK hP 125 cw_125 rfl 2 (by decide) (hT _ t370) (fun _ h9 => h9) rfl dX7_goOn_103 ?_
          refine k_top (y := (st 125 2)) (Eq.trans (congrFun (sw_it es47) 2) (Eq.trans (congrFun (sw_it es44) 2) (congrFun (gs1 125 (nm_1 (by decide) (nm_1 (by decide) (nm_1 (by decide) (nm_1 (by decide) nm_0))))) 2))) ?_
          refine lv_aload_n hx hb dX7_goOn_106 rfl (lv_at hl 2 rfl) ?_
          refine va_get (D := D) (ci := 1) (v := .ref (a 21)) (C := RX1) (T := TX1) (N := 14) hx hb hT in_X1 hown hK hP 18 cw_18 rfl 9 (by decide) (hT _ t230) (fun _ h9 => h9) rfl dX7_goOn_107 ?_
          refine lv_iload hx hb dX7_goOn_110 (lv_at hl 0 rfl) ?_
          refine va_iald hx hb hK hP 21 0 cw_21 rfl (iv_in h5 (by decide) (by decide)) dX7_goOn_112 ?_
          refine lv_topi (fun z48 ez48 => ?_)
          refine lv_iadd hx hb dX7_goOn_113 ?_
          refine lv_topi (fun z49 ez49 => ?_)
          refine c_put (ci := 7) (C := RX7) (T := TX7) (N := 6) (j := 2) (v := z49) hx hb hT in_X7 tyX7 tyX7_ok nmX7 hown hK hP hD hS cw_125 rfl (by decide) (hT _ t370) (by decide +kernel) (by decide +kernel) rfl rfl (Nat.le_of_ble_eq_true rfl) (cs_125 (upd (s47 125) 2 z49)) dX7_goOn_114 (fun s50 H9 locs9 es50 hP9 hD9 hS9 => ?_)
          clear hP hD hS
          have hS := hS9
          have hP := hP9
          have hD := hD9
          clear hP9 hD9 hS9
          have hBs50 : CB s50 := by rw [es50]; exact cb_sw hBs47 trivial
          have hFs50 : FR [120, 121, 123, 124, 125] st s50 := fr_sw hFs47 (List.mem_of_getElem? (i := 4) rfl) es50
          refine lv_iconst (v := 1) hx hb dX7_goOn_117 (by decide) ?_
          rw [hQ]
          exact W.zret (v := 1) (ty := .boolean) hx hb hr rfl (fun t ht hW => ⟨⟨1, s50, rfl, ⟨hBs50, hFs50, Or.inl ⟨rfl, trivial⟩⟩, by rw [ht]; exact hP, va_K.moved hW.alike (hK.sub (tys' := []) [] rfl), by rw [hAe]; exact hD⟩, by rw [hAe]; exact hS.F ht⟩) hS.2.2 dX7_goOn_118
        · skip
          have h51 : Iv (-1) (-1) (st 125 5) := eq_l c42 (iv_c (by decide) : Iv (-1) (-1) (-1))
          refine lv_aload_n hx hb dX7_goOn_65 rfl (lv_at hl 3 rfl) ?_
          refine lv_iload_n hx hb dX7_goOn_66 rfl (lv_at hl 4 rfl) ?_
          refine ro_V (As := [.int p0]) (rest := []) S (s_X5_hasWornWheel l D k a s1 sl 119 p0 _ (by decide) hBs1  ) lkX7_40 ok_X5_hasWornWheel ⟨rfl, rfl, Nat.le_of_ble_eq_true rfl, Nat.le_of_ble_eq_true rfl⟩ (pw_V (ci := 5) (q0 := 119) hK hN rfl cw_119 hP (hD.weaken (fun _ _ _ _ => trivial))) rfl hl.1 rfl (Nat.le_of_ble_eq_true rfl) ⟨Nat.zero_le _, Nat.zero_le _⟩ dX7_goOn_67 (fun r52 er52 => ?_)
          rcases er52 with ⟨rfl, g9⟩ | ⟨rfl, g9⟩
          · skip
            have g53 := g9
            refine lv_if_eq (tgt := 81) hx hb dX7_goOn_70 (by decide) (fun c54 => ?_) (fun c54 => ?_)
            · first | exact absurd c54 (by decide) | exact absurd (by decide) c54
            refine lv_aload_n hx hb dX7_goOn_73 rfl (lv_at hl 1 rfl) ?_
            refine lv_aload_n hx hb dX7_goOn_74 rfl (lv_at hl 1 rfl) ?_
            refine va_get (D := D) (ci := 7) (v := .int (s1 125 0)) (C := RX7) (T := TX7) (N := 6) hx hb hT in_X7 hown hK hP 125 cw_125 rfl 0 (by decide) (hT _ t366) (fun _ h9 => h9) rfl dX7_goOn_75 ?_
            refine k_top (y := (st 125 0)) (congrFun (gs1 125 (nm_1 (by decide) (nm_1 (by decide) (nm_1 (by decide) (nm_1 (by decide) nm_0))))) 0) ?_
            refine c_put (ci := 7) (C := RX7) (T := TX7) (N := 6) (j := 5) (v := (st 125 0)) hx hb hT in_X7 tyX7 tyX7_ok nmX7 hown hK hP hD hS cw_125 rfl (by decide) (hT _ t376) (by decide +kernel) (by decide +kernel) rfl rfl (Nat.le_of_ble_eq_true rfl) (cs_125 (upd (s1 125) 5 (st 125 0))) dX7_goOn_78 (fun s55 H9 locs9 es55 hP9 hD9 hS9 => ?_)
            clear hP hD hS
            have hS := hS9
            have hP := hP9
            have hD := hD9
            clear hP9 hD9 hS9
            have hBs55 : CB s55 := by rw [es55]; exact cb_sw hBs1 trivial
            have hFs55 : FR [120, 121, 123, 124, 125] st s55 := fr_sw hFs1 (List.mem_of_getElem? (i := 4) rfl) es55
            refine lv_aload_n hx hb dX7_goOn_81 rfl (lv_at hl 1 rfl) ?_
            refine lv_dup hx hb dX7_goOn_82 rfl ?_
            refine va_get (D := D) (ci := 7) (v := .int (s55 125 0)) (C := RX7) (T := TX7) (N := 6) hx hb hT in_X7 hown hK hP 125 cw_125 rfl 0 (by decide) (hT _ t366) (fun _ h9 => h9) rfl dX7_goOn_83 ?_
            refine k_top (y := (st 125 0)) (Eq.trans (congrFun (sw_it es55) 0) (congrFun (gs1 125 (nm_1 (by decide) (nm_1 (by decide) (nm_1 (by decide) (nm_1 (by decide) nm_0))))) 0)) ?_
            refine lv_iconst (v := 1) hx hb dX7_goOn_86 (by decide) ?_
            refine lv_iadd hx hb dX7_goOn_87 ?_
            refine lv_topi (fun z56 ez56 => ?_)
            refine c_put (ci := 7) (C := RX7) (T := TX7) (N := 6) (j := 0) (v := z56) hx hb hT in_X7 tyX7 tyX7_ok nmX7 hown hK hP hD hS cw_125 rfl (by decide) (hT _ t366) (by decide +kernel) (by decide +kernel) rfl rfl (Nat.le_of_ble_eq_true rfl) (cs_125 (upd (s55 125) 0 z56)) dX7_goOn_88 (fun s57 H9 locs9 es57 hP9 hD9 hS9 => ?_)
            clear hP hD hS
            have hS := hS9
            have hP := hP9
            have hD := hD9
            clear hP9 hD9 hS9
            have hBs57 : CB s57 := by rw [es57]; exact cb_sw hBs55 trivial
            have hFs57 : FR [120, 121, 123, 124, 125] st s57 := fr_sw hFs55 (List.mem_of_getElem? (i := 4) rfl) es57
            refine lv_aload_n hx hb dX7_goOn_91 rfl (lv_at hl 1 rfl) ?_
            refine lv_aload_n hx hb dX7_goOn_92 rfl (lv_at hl 3 rfl) ?_
            refine va_get (D := D) (ci := 5) (v := .ref (a 123)) (C := RX5) (T := TX5) (N := 5) hx hb hT in_X5 hown hK hP 119 cw_119 rfl 3 (by decide) (hT _ t177) (fun _ h9 => h9) rfl dX7_goOn_93 ?_
            refine lv_iload_n hx hb dX7_goOn_96 rfl (lv_at hl 4 rfl) ?_
            refine va_iald hx hb hK hP 123 0 cw_123 rfl (iv_in hp0 (by decide) (by decide)) dX7_goOn_97 ?_
            refine lv_topi (fun z58 ez58 => ?_)
            have h59 : Iv 0 5 z58 := by rw [ez58]; exact (rb_123 hBs57 (vp_in_lt (iv_in hp0 (by decide) (by decide))))
            refine c_put (ci := 7) (C := RX7) (T := TX7) (N := 6) (j := 1) (v := z58) hx hb hT in_X7 tyX7 tyX7_ok nmX7 hown hK hP hD hS cw_125 rfl (by decide) (hT _ t368) (by decide +kernel) (by decide +kernel) rfl rfl (Nat.le_of_ble_eq_true rfl) (cs_125 (upd (s57 125) 1 z58)) dX7_goOn_98 (fun s60 H9 locs9 es60 hP9 hD9 hS9 => ?_)
            clear hP hD hS
            have hS := hS9
            have hP := hP9
            have hD := hD9
            clear hP9 hD9 hS9
            have hBs60 : CB s60 := by rw [es60]; exact cb_sw hBs57 trivial
            have hFs60 : FR [120, 121, 123, 124, 125] st s60 := fr_sw hFs57 (List.mem_of_getElem? (i := 4) rfl) es60
            refine lv_aload_n hx hb dX7_goOn_101 rfl (lv_at hl 1 rfl) ?_
            refine lv_dup hx hb dX7_goOn_102 rfl ?_
            refine va_get (D := D) (ci := 7) (v := .int (s60 125 2)) (C := RX7) (T := TX7) (N := 6) hx hb hT in_X7 hown hK hP 125 cw_125 rfl 2 (by decide) (hT _ t370) (fun _ h9 => h9) rfl dX7_goOn_103 ?_
            refine k_top (y := (st 125 2)) (Eq.trans (congrFun (sw_it es60) 2) (Eq.trans (congrFun (sw_it es57) 2) (Eq.trans (congrFun (sw_it es55) 2) (congrFun (gs1 125 (nm_1 (by decide) (nm_1 (by decide) (nm_1 (by decide) (nm_1 (by decide) nm_0))))) 2)))) ?_
            refine lv_aload_n hx hb dX7_goOn_106 rfl (lv_at hl 2 rfl) ?_
            refine va_get (D := D) (ci := 1) (v := .ref (a 21)) (C := RX1) (T := TX1) (N := 14) hx hb hT in_X1 hown hK hP 18 cw_18 rfl 9 (by decide) (hT _ t230) (fun _ h9 => h9) rfl dX7_goOn_107 ?_
            refine lv_iload hx hb dX7_goOn_110 (lv_at hl 0 rfl) ?_
            refine va_iald hx hb hK hP 21 0 cw_21 rfl (iv_in h5 (by decide) (by decide)) dX7_goOn_112 ?_
            refine lv_topi (fun z61 ez61 => ?_)
            refine lv_iadd hx hb dX7_goOn_113 ?_
            refine lv_topi (fun z62 ez62 => ?_)
            refine c_put (ci := 7) (C := RX7) (T := TX7) (N := 6) (j := 2) (v := z62) hx hb hT in_X7 tyX7 tyX7_ok nmX7 hown hK hP hD hS cw_125 rfl (by decide) (hT _ t370) (by decide +kernel) (by decide +kernel) rfl rfl (Nat.le_of_ble_eq_true rfl) (cs_125 (upd (s60 125) 2 z62)) dX7_goOn_114 (fun s63 H9 locs9 es63 hP9 hD9 hS9 => ?_)
            clear hP hD hS
            have hS := hS9
            have hP := hP9
            have hD := hD9
            clear hP9 hD9 hS9
            have hBs63 : CB s63 := by rw [es63]; exact cb_sw hBs60 trivial
            have hFs63 : FR [120, 121, 123, 124, 125] st s63 := fr_sw hFs60 (List.mem_of_getElem? (i := 4) rfl) es63
            refine lv_iconst (v := 1) hx hb dX7_goOn_117 (by decide) ?_
            rw [hQ]
            exact W.zret (v := 1) (ty := .boolean) hx hb hr rfl (fun t ht hW => ⟨⟨1, s63, rfl, ⟨hBs63, hFs63, Or.inl ⟨rfl, trivial⟩⟩, by rw [ht]; exact hP, va_K.moved hW.alike (hK.sub (tys' := []) [] rfl), by rw [hAe]; exact hD⟩, by rw [hAe]; exact hS.F ht⟩) hS.2.2 dX7_goOn_118
          · skip
            have g64 := g9
            refine lv_if_eq (tgt := 81) hx hb dX7_goOn_70 (by decide) (fun c65 => ?_) (fun c65 => ?_)
            rotate_left
            · first | exact absurd c65 (by decide) | exact absurd (by decide) c65
            refine lv_aload_n hx hb dX7_goOn_81 rfl (lv_at hl 1 rfl) ?_
            refine lv_dup hx hb dX7_goOn_82 rfl ?_
            refine va_get (D := D) (ci := 7) (v := .int (s1 125 0)) (C := RX7) (T := TX7) (N := 6) hx hb hT in_X7 hown hK hP 125 cw_125 rfl 0 (by decide) (hT _ t366) (fun _ h9 => h9) rfl dX7_goOn_83 ?_
            refine k_top (y := (st 125 0)) (congrFun (gs1 125 (nm_1 (by decide) (nm_1 (by decide) (nm_1 (by decide) (nm_1 (by decide) nm_0))))) 0) ?_
            refine lv_iconst (v := 1) hx hb dX7_goOn_86 (by decide) ?_
            refine lv_iadd hx hb dX7_goOn_87 ?_
            refine lv_topi (fun z66 ez66 => ?_)
            refine c_put (ci := 7) (C := RX7) (T := TX7) (N := 6) (j := 0) (v := z66) hx hb hT in_X7 tyX7 tyX7_ok nmX7 hown hK hP hD hS cw_125 rfl (by decide) (hT _ t366) (by decide +kernel) (by decide +kernel) rfl rfl (Nat.le_of_ble_eq_true rfl) (cs_125 (upd (s1 125) 0 z66)) dX7_goOn_88 (fun s67 H9 locs9 es67 hP9 hD9 hS9 => ?_)
            clear hP hD hS
            have hS := hS9
            have hP := hP9
            have hD := hD9
            clear hP9 hD9 hS9
            have hBs67 : CB s67 := by rw [es67]; exact cb_sw hBs1 trivial
            have hFs67 : FR [120, 121, 123, 124, 125] st s67 := fr_sw hFs1 (List.mem_of_getElem? (i := 4) rfl) es67
            refine lv_aload_n hx hb dX7_goOn_91 rfl (lv_at hl 1 rfl) ?_
            refine lv_aload_n hx hb dX7_goOn_92 rfl (lv_at hl 3 rfl) ?_
            refine va_get (D := D) (ci := 5) (v := .ref (a 123)) (C := RX5) (T := TX5) (N := 5) hx hb hT in_X5 hown hK hP 119 cw_119 rfl 3 (by decide) (hT _ t177) (fun _ h9 => h9) rfl dX7_goOn_93 ?_
            refine lv_iload_n hx hb dX7_goOn_96 rfl (lv_at hl 4 rfl) ?_
            refine va_iald hx hb hK hP 123 0 cw_123 rfl (iv_in hp0 (by decide) (by decide)) dX7_goOn_97 ?_
            refine lv_topi (fun z68 ez68 => ?_)
            have h69 : Iv 0 5 z68 := by rw [ez68]; exact (rb_123 hBs67 (vp_in_lt (iv_in hp0 (by decide) (by decide))))
            refine c_put (ci := 7) (C := RX7) (T := TX7) (N := 6) (j := 1) (v := z68) hx hb hT in_X7 tyX7 tyX7_ok nmX7 hown hK hP hD hS cw_125 rfl (by decide) (hT _ t368) (by decide +kernel) (by decide +kernel) rfl rfl (Nat.le_of_ble_eq_true rfl) (cs_125 (upd (s67 125) 1 z68)) dX7_goOn_98 (fun s70 H9 locs9 es70 hP9 hD9 hS9 => ?_)
            clear hP hD hS
            have hS := hS9
            have hP := hP9
            have hD := hD9
            clear hP9 hD9 hS9
            have hBs70 : CB s70 := by rw [es70]; exact cb_sw hBs67 trivial
            have hFs70 : FR [120, 121, 123, 124, 125] st s70 := fr_sw hFs67 (List.mem_of_getElem? (i := 4) rfl) es70
            refine lv_aload_n hx hb dX7_goOn_101 rfl (lv_at hl 1 rfl) ?_
            refine lv_dup hx hb dX7_goOn_102 rfl ?_
            refine va_get (D := D) (ci := 7) (v := .int (s70 125 2)) (C := RX7) (T := TX7) (N := 6) hx hb hT in_X7 hown hK hP 125 cw_125 rfl 2 (by decide) (hT _ t370) (fun _ h9 => h9) rfl dX7_goOn_103 ?_
            refine k_top (y := (st 125 2)) (Eq.trans (congrFun (sw_it es70) 2) (Eq.trans (congrFun (sw_it es67) 2) (congrFun (gs1 125 (nm_1 (by decide) (nm_1 (by decide) (nm_1 (by decide) (nm_1 (by decide) nm_0))))) 2))) ?_
            refine lv_aload_n hx hb dX7_goOn_106 rfl (lv_at hl 2 rfl) ?_
            refine va_get (D := D) (ci := 1) (v := .ref (a 21)) (C := RX1) (T := TX1) (N := 14) hx hb hT in_X1 hown hK hP 18 cw_18 rfl 9 (by decide) (hT _ t230) (fun _ h9 => h9) rfl dX7_goOn_107 ?_
            refine lv_iload hx hb dX7_goOn_110 (lv_at hl 0 rfl) ?_
            refine va_iald hx hb hK hP 21 0 cw_21 rfl (iv_in h5 (by decide) (by decide)) dX7_goOn_112 ?_
            refine lv_topi (fun z71 ez71 => ?_)
            refine lv_iadd hx hb dX7_goOn_113 ?_
            refine lv_topi (fun z72 ez72 => ?_)
            refine c_put (ci := 7) (C := RX7) (T := TX7) (N := 6) (j := 2) (v := z72) hx hb hT in_X7 tyX7 tyX7_ok nmX7 hown hK hP hD hS cw_125 rfl (by decide) (hT _ t370) (by decide +kernel) (by decide +kernel) rfl rfl (Nat.le_of_ble_eq_true rfl) (cs_125 (upd (s70 125) 2 z72)) dX7_goOn_114 (fun s73 H9 locs9 es73 hP9 hD9 hS9 => ?_)
            clear hP hD hS
            have hS := hS9
            have hP := hP9
            have hD := hD9
            clear hP9 hD9 hS9
            have hBs73 : CB s73 := by rw [es73]; exact cb_sw hBs70 trivial
            have hFs73 : FR [120, 121, 123, 124, 125] st s73 := fr_sw hFs70 (List.mem_of_getElem? (i := 4) rfl) es73
            refine lv_iconst (v := 1) hx hb dX7_goOn_117 (by decide) ?_
            rw [hQ]
            exact W.zret (v := 1) (ty := .boolean) hx hb hr rfl (fun t ht hW => ⟨⟨1, s73, rfl, ⟨hBs73, hFs73, Or.inl ⟨rfl, trivial⟩⟩, by rw [ht]; exact hP, va_K.moved hW.alike (hK.sub (tys' := []) [] rfl), by rw [hAe]; exact hD⟩, by rw [hAe]; exact hS.F ht⟩) hS.2.2 dX7_goOn_118
      · skip
        refine lv_aload_n hx hb dX7_goOn_31 rfl (lv_at hl 1 rfl) ?_
        refine lv_dup hx hb dX7_goOn_32 rfl ?_
        refine va_get (D := D) (ci := 7) (v := .int (s1 125 3)) (C := RX7) (T := TX7) (N := 6) hx hb hT in_X7 hown hK hP 125 cw_125 rfl 3 (by decide) (hT _ t372) (fun _ h9 => h9) rfl dX7_goOn_33 ?_
        refine k_top (y := (st 125 3)) (congrFun (gs1 125 (nm_1 (by decide) (nm_1 (by decide) (nm_1 (by decide) (nm_1 (by decide) nm_0))))) 3) ?_
        refine lv_iconst (v := 1) hx hb dX7_goOn_36 (by decide) ?_
        refine lv_iadd hx hb dX7_goOn_37 ?_
        refine lv_topi (fun z74 ez74 => ?_)
        refine c_put (ci := 7) (C := RX7) (T := TX7) (N := 6) (j := 3) (v := z74) hx hb hT in_X7 tyX7 tyX7_ok nmX7 hown hK hP hD hS cw_125 rfl (by decide) (hT _ t372) (by decide +kernel) (by decide +kernel) rfl rfl (Nat.le_of_ble_eq_true rfl) (cs_125 (upd (s1 125) 3 z74)) dX7_goOn_38 (fun s75 H9 locs9 es75 hP9 hD9 hS9 => ?_)
        clear hP hD hS
        have hS := hS9
        have hP := hP9
        have hD := hD9
        clear hP9 hD9 hS9
        have hBs75 : CB s75 := by rw [es75]; exact cb_sw hBs1 trivial
        have hFs75 : FR [120, 121, 123, 124, 125] st s75 := fr_sw hFs1 (List.mem_of_getElem? (i := 4) rfl) es75
        refine lv_aload_n hx hb dX7_goOn_41 rfl (lv_at hl 1 rfl) ?_
        refine va_get (D := D) (ci := 7) (v := .int (s75 125 4)) (C := RX7) (T := TX7) (N := 6) hx hb hT in_X7 hown hK hP 125 cw_125 rfl 4 (by decide) (hT _ t374) (fun _ h9 => h9) rfl dX7_goOn_42 ?_
        refine k_top (y := (st 125 4)) (Eq.trans (congrFun (sw_it es75) 4) (congrFun (gs1 125 (nm_1 (by decide) (nm_1 (by decide) (nm_1 (by decide) (nm_1 (by decide) nm_0))))) 4)) ?_
        refine lv_iconst (v := (-1)) hx hb dX7_goOn_45 (by decide) ?_
        refine lv_icmp_ne (tgt := 57) hx hb dX7_goOn_46 (by decide) (fun c76 => ?_) (fun c76 => ?_)
        · skip
          refine lv_aload_n hx hb dX7_goOn_57 rfl (lv_at hl 1 rfl) ?_
          refine va_get (D := D) (ci := 7) (v := .int (s75 125 5)) (C := RX7) (T := TX7) (N := 6) hx hb hT in_X7 hown hK hP 125 cw_125 rfl 5 (by decide) (hT _ t376) (fun _ h9 => h9) rfl dX7_goOn_58 ?_
          refine k_top (y := (st 125 5)) (Eq.trans (congrFun (sw_it es75) 5) (congrFun (gs1 125 (nm_1 (by decide) (nm_1 (by decide) (nm_1 (by decide) (nm_1 (by decide) nm_0))))) 5)) ?_
          refine lv_iconst (v := (-1)) hx hb dX7_goOn_61 (by decide) ?_
          refine lv_icmp_ne (tgt := 81) hx hb dX7_goOn_62 (by decide) (fun c77 => ?_) (fun c77 => ?_)
          · skip
            refine lv_aload_n hx hb dX7_goOn_81 rfl (lv_at hl 1 rfl) ?_
            refine lv_dup hx hb dX7_goOn_82 rfl ?_
            refine va_get (D := D) (ci := 7) (v := .int (s75 125 0)) (C := RX7) (T := TX7) (N := 6) hx hb hT in_X7 hown hK hP 125 cw_125 rfl 0 (by decide) (hT _ t366) (fun _ h9 => h9) rfl dX7_goOn_83 ?_
            refine k_top (y := (st 125 0)) (Eq.trans (congrFun (sw_it es75) 0) (congrFun (gs1 125 (nm_1 (by decide) (nm_1 (by decide) (nm_1 (by decide) (nm_1 (by decide) nm_0))))) 0)) ?_
            refine lv_iconst (v := 1) hx hb dX7_goOn_86 (by decide) ?_
            refine lv_iadd hx hb dX7_goOn_87 ?_
            refine lv_topi (fun z78 ez78 => ?_)
            refine c_put (ci := 7) (C := RX7) (T := TX7) (N := 6) (j := 0) (v := z78) hx hb hT in_X7 tyX7 tyX7_ok nmX7 hown hK hP hD hS cw_125 rfl (by decide) (hT _ t366) (by decide +kernel) (by decide +kernel) rfl rfl (Nat.le_of_ble_eq_true rfl) (cs_125 (upd (s75 125) 0 z78)) dX7_goOn_88 (fun s79 H9 locs9 es79 hP9 hD9 hS9 => ?_)
            clear hP hD hS
            have hS := hS9
            have hP := hP9
            have hD := hD9
            clear hP9 hD9 hS9
            have hBs79 : CB s79 := by rw [es79]; exact cb_sw hBs75 trivial
            have hFs79 : FR [120, 121, 123, 124, 125] st s79 := fr_sw hFs75 (List.mem_of_getElem? (i := 4) rfl) es79
            refine lv_aload_n hx hb dX7_goOn_91 rfl (lv_at hl 1 rfl) ?_
            refine lv_aload_n hx hb dX7_goOn_92 rfl (lv_at hl 3 rfl) ?_
            refine va_get (D := D) (ci := 5) (v := .ref (a 123)) (C := RX5) (T := TX5) (N := 5) hx hb hT in_X5 hown hK hP 119 cw_119 rfl 3 (by decide) (hT _ t177) (fun _ h9 => h9) rfl dX7_goOn_93 ?_
            refine lv_iload_n hx hb dX7_goOn_96 rfl (lv_at hl 4 rfl) ?_
            refine va_iald hx hb hK hP 123 0 cw_123 rfl (iv_in hp0 (by decide) (by decide)) dX7_goOn_97 ?_
            refine lv_topi (fun z80 ez80 => ?_)
            have h81 : Iv 0 5 z80 := by rw [ez80]; exact (rb_123 hBs79 (vp_in_lt (iv_in hp0 (by decide) (by decide))))
            refine c_put (ci := 7) (C := RX7) (T := TX7) (N := 6) (j := 1) (v := z80) hx hb hT in_X7 tyX7 tyX7_ok nmX7 hown hK hP hD hS cw_125 rfl (by decide) (hT _ t368) (by decide +kernel) (by decide +kernel) rfl rfl (Nat.le_of_ble_eq_true rfl) (cs_125 (upd (s79 125) 1 z80)) dX7_goOn_98 (fun s82 H9 locs9 es82 hP9 hD9 hS9 => ?_)
            clear hP hD hS
            have hS := hS9
            have hP := hP9
            have hD := hD9
            clear hP9 hD9 hS9
            have hBs82 : CB s82 := by rw [es82]; exact cb_sw hBs79 trivial
            have hFs82 : FR [120, 121, 123, 124, 125] st s82 := fr_sw hFs79 (List.mem_of_getElem? (i := 4) rfl) es82
            refine lv_aload_n hx hb dX7_goOn_101 rfl (lv_at hl 1 rfl) ?_
            refine lv_dup hx hb dX7_goOn_102 rfl ?_
            refine va_get (D := D) (ci := 7) (v := .int (s82 125 2)) (C := RX7) (T := TX7) (N := 6) hx hb hT in_X7 hown hK hP 125 cw_125 rfl 2 (by decide) (hT _ t370) (fun _ h9 => h9) rfl dX7_goOn_103 ?_
            refine k_top (y := (st 125 2)) (Eq.trans (congrFun (sw_it es82) 2) (Eq.trans (congrFun (sw_it es79) 2) (Eq.trans (congrFun (sw_it es75) 2) (congrFun (gs1 125 (nm_1 (by decide) (nm_1 (by decide) (nm_1 (by decide) (nm_1 (by decide) nm_0))))) 2)))) ?_
            refine lv_aload_n hx hb dX7_goOn_106 rfl (lv_at hl 2 rfl) ?_
            refine va_get (D := D) (ci := 1) (v := .ref (a 21)) (C := RX1) (T := TX1) (N := 14) hx hb hT in_X1 hown hK hP 18 cw_18 rfl 9 (by decide) (hT _ t230) (fun _ h9 => h9) rfl dX7_goOn_107 ?_
            refine lv_iload hx hb dX7_goOn_110 (lv_at hl 0 rfl) ?_
            refine va_iald hx hb hK hP 21 0 cw_21 rfl (iv_in h5 (by decide) (by decide)) dX7_goOn_112 ?_
            refine lv_topi (fun z83 ez83 => ?_)
            refine lv_iadd hx hb dX7_goOn_113 ?_
            refine lv_topi (fun z84 ez84 => ?_)
            refine c_put (ci := 7) (C := RX7) (T := TX7) (N := 6) (j := 2) (v := z84) hx hb hT in_X7 tyX7 tyX7_ok nmX7 hown hK hP hD hS cw_125 rfl (by decide) (hT _ t370) (by decide +kernel) (by decide +kernel) rfl rfl (Nat.le_of_ble_eq_true rfl) (cs_125 (upd (s82 125) 2 z84)) dX7_goOn_114 (fun s85 H9 locs9 es85 hP9 hD9 hS9 => ?_)
            clear hP hD hS
            have hS := hS9
            have hP := hP9
            have hD := hD9
            clear hP9 hD9 hS9
            have hBs85 : CB s85 := by rw [es85]; exact cb_sw hBs82 trivial
            have hFs85 : FR [120, 121, 123, 124, 125] st s85 := fr_sw hFs82 (List.mem_of_getElem? (i := 4) rfl) es85
            refine lv_iconst (v := 1) hx hb dX7_goOn_117 (by decide) ?_
            rw [hQ]
            exact W.zret (v := 1) (ty := .boolean) hx hb hr rfl (fun t ht hW => ⟨⟨1, s85, rfl, ⟨hBs85, hFs85, Or.inl ⟨rfl, trivial⟩⟩, by rw [ht]; exact hP, va_K.moved hW.alike (hK.sub (tys' := []) [] rfl), by rw [hAe]; exact hD⟩, by rw [hAe]; exact hS.F ht⟩) hS.2.2 dX7_goOn_118
          · skip
            have h86 : Iv (-1) (-1) (st 125 5) := eq_l c77 (iv_c (by decide) : Iv (-1) (-1) (-1))
            refine lv_aload_n hx hb dX7_goOn_65 rfl (lv_at hl 3 rfl) ?_
            refine lv_iload_n hx hb dX7_goOn_66 rfl (lv_at hl 4 rfl) ?_
            refine ro_V (As := [.int p0]) (rest := []) S (s_X5_hasWornWheel l D k a s75 sl 119 p0 _ (by decide) hBs75  ) lkX7_40 ok_X5_hasWornWheel ⟨rfl, rfl, Nat.le_of_ble_eq_true rfl, Nat.le_of_ble_eq_true rfl⟩ (pw_V (ci := 5) (q0 := 119) hK hN rfl cw_119 hP (hD.weaken (fun _ _ _ _ => trivial))) rfl hl.1 rfl (Nat.le_of_ble_eq_true rfl) ⟨Nat.zero_le _, Nat.zero_le _⟩ dX7_goOn_67 (fun r87 er87 => ?_)
            rcases er87 with ⟨rfl, g9⟩ | ⟨rfl, g9⟩
            · skip
              have g88 := g9
              refine lv_if_eq (tgt := 81) hx hb dX7_goOn_70 (by decide) (fun c89 => ?_) (fun c89 => ?_)
              · first | exact absurd c89 (by decide) | exact absurd (by decide) c89
              refine lv_aload_n hx hb dX7_goOn_73 rfl (lv_at hl 1 rfl) ?_
              refine lv_aload_n hx hb dX7_goOn_74 rfl (lv_at hl 1 rfl) ?_
              refine va_get (D := D) (ci := 7) (v := .int (s75 125 0)) (C := RX7) (T := TX7) (N := 6) hx hb hT in_X7 hown hK hP 125 cw_125 rfl 0 (by decide) (hT _ t366) (fun _ h9 => h9) rfl dX7_goOn_75 ?_
              refine k_top (y := (st 125 0)) (Eq.trans (congrFun (sw_it es75) 0) (congrFun (gs1 125 (nm_1 (by decide) (nm_1 (by decide) (nm_1 (by decide) (nm_1 (by decide) nm_0))))) 0)) ?_
              refine c_put (ci := 7) (C := RX7) (T := TX7) (N := 6) (j := 5) (v := (st 125 0)) hx hb hT in_X7 tyX7 tyX7_ok nmX7 hown hK hP hD hS cw_125 rfl (by decide) (hT _ t376) (by decide +kernel) (by decide +kernel) rfl rfl (Nat.le_of_ble_eq_true rfl) (cs_125 (upd (s75 125) 5 (st 125 0))) dX7_goOn_78 (fun s90 H9 locs9 es90 hP9 hD9 hS9 => ?_)
              clear hP hD hS
              have hS := hS9
              have hP := hP9
              have hD := hD9
              clear hP9 hD9 hS9
              have hBs90 : CB s90 := by rw [es90]; exact cb_sw hBs75 trivial
              have hFs90 : FR [120, 121, 123, 124, 125] st s90 := fr_sw hFs75 (List.mem_of_getElem? (i := 4) rfl) es90
              refine lv_aload_n hx hb dX7_goOn_81 rfl (lv_at hl 1 rfl) ?_
              refine lv_dup hx hb dX7_goOn_82 rfl ?_
              refine va_get (D := D) (ci := 7) (v := .int (s90 125 0)) (C := RX7) (T := TX7) (N := 6) hx hb hT in_X7 hown hK hP 125 cw_125 rfl 0 (by decide) (hT _ t366) (fun _ h9 => h9) rfl dX7_goOn_83 ?_
              refine k_top (y := (st 125 0)) (Eq.trans (congrFun (sw_it es90) 0) (Eq.trans (congrFun (sw_it es75) 0) (congrFun (gs1 125 (nm_1 (by decide) (nm_1 (by decide) (nm_1 (by decide) (nm_1 (by decide) nm_0))))) 0))) ?_
              refine lv_iconst (v := 1) hx hb dX7_goOn_86 (by decide) ?_
              refine lv_iadd hx hb dX7_goOn_87 ?_
              refine lv_topi (fun z91 ez91 => ?_)
              refine c_put (ci := 7) (C := RX7) (T := TX7) (N := 6) (j := 0) (v := z91) hx hb hT in_X7 tyX7 tyX7_ok nmX7 hown hK hP hD hS cw_125 rfl (by decide) (hT _ t366) (by decide +kernel) (by decide +kernel) rfl rfl (Nat.le_of_ble_eq_true rfl) (cs_125 (upd (s90 125) 0 z91)) dX7_goOn_88 (fun s92 H9 locs9 es92 hP9 hD9 hS9 => ?_)
              clear hP hD hS
              have hS := hS9
              have hP := hP9
              have hD := hD9
              clear hP9 hD9 hS9
              have hBs92 : CB s92 := by rw [es92]; exact cb_sw hBs90 trivial
              have hFs92 : FR [120, 121, 123, 124, 125] st s92 := fr_sw hFs90 (List.mem_of_getElem? (i := 4) rfl) es92
              refine lv_aload_n hx hb dX7_goOn_91 rfl (lv_at hl 1 rfl) ?_
              refine lv_aload_n hx hb dX7_goOn_92 rfl (lv_at hl 3 rfl) ?_
              refine va_get (D := D) (ci := 5) (v := .ref (a 123)) (C := RX5) (T := TX5) (N := 5) hx hb hT in_X5 hown hK hP 119 cw_119 rfl 3 (by decide) (hT _ t177) (fun _ h9 => h9) rfl dX7_goOn_93 ?_
              refine lv_iload_n hx hb dX7_goOn_96 rfl (lv_at hl 4 rfl) ?_
              refine va_iald hx hb hK hP 123 0 cw_123 rfl (iv_in hp0 (by decide) (by decide)) dX7_goOn_97 ?_
              refine lv_topi (fun z93 ez93 => ?_)
              have h94 : Iv 0 5 z93 := by rw [ez93]; exact (rb_123 hBs92 (vp_in_lt (iv_in hp0 (by decide) (by decide))))
              refine c_put (ci := 7) (C := RX7) (T := TX7) (N := 6) (j := 1) (v := z93) hx hb hT in_X7 tyX7 tyX7_ok nmX7 hown hK hP hD hS cw_125 rfl (by decide) (hT _ t368) (by decide +kernel) (by decide +kernel) rfl rfl (Nat.le_of_ble_eq_true rfl) (cs_125 (upd (s92 125) 1 z93)) dX7_goOn_98 (fun s95 H9 locs9 es95 hP9 hD9 hS9 => ?_)
              clear hP hD hS
              have hS := hS9
              have hP := hP9
              have hD := hD9
              clear hP9 hD9 hS9
              have hBs95 : CB s95 := by rw [es95]; exact cb_sw hBs92 trivial
              have hFs95 : FR [120, 121, 123, 124, 125] st s95 := fr_sw hFs92 (List.mem_of_getElem? (i := 4) rfl) es95
              refine lv_aload_n hx hb dX7_goOn_101 rfl (lv_at hl 1 rfl) ?_
              refine lv_dup hx hb dX7_goOn_102 rfl ?_
              refine va_get (D := D) (ci := 7) (v := .int (s95 125 2)) (C := RX7) (T := TX7) (N := 6) hx hb hT in_X7 hown hK hP 125 cw_125 rfl 2 (by decide) (hT _ t370) (fun _ h9 => h9) rfl dX7_goOn_103 ?_
              refine k_top (y := (st 125 2)) (Eq.trans (congrFun (sw_it es95) 2) (Eq.trans (congrFun (sw_it es92) 2) (Eq.trans (congrFun (sw_it es90) 2) (Eq.trans (congrFun (sw_it es75) 2) (congrFun (gs1 125 (nm_1 (by decide) (nm_1 (by decide) (nm_1 (by decide) (nm_1 (by decide) nm_0))))) 2))))) ?_
              refine lv_aload_n hx hb dX7_goOn_106 rfl (lv_at hl 2 rfl) ?_
              refine va_get (D := D) (ci := 1) (v := .ref (a 21)) (C := RX1) (T := TX1) (N := 14) hx hb hT in_X1 hown hK hP 18 cw_18 rfl 9 (by decide) (hT _ t230) (fun _ h9 => h9) rfl dX7_goOn_107 ?_
              refine lv_iload hx hb dX7_goOn_110 (lv_at hl 0 rfl) ?_
              refine va_iald hx hb hK hP 21 0 cw_21 rfl (iv_in h5 (by decide) (by decide)) dX7_goOn_112 ?_
              refine lv_topi (fun z96 ez96 => ?_)
              refine lv_iadd hx hb dX7_goOn_113 ?_
              refine lv_topi (fun z97 ez97 => ?_)
              refine c_put (ci := 7) (C := RX7) (T := TX7) (N := 6) (j := 2) (v := z97) hx hb hT in_X7 tyX7 tyX7_ok nmX7 hown hK hP hD hS cw_125 rfl (by decide) (hT _ t370) (by decide +kernel) (by decide +kernel) rfl rfl (Nat.le_of_ble_eq_true rfl) (cs_125 (upd (s95 125) 2 z97)) dX7_goOn_114 (fun s98 H9 locs9 es98 hP9 hD9 hS9 => ?_)
              clear hP hD hS
              have hS := hS9
              have hP := hP9
              have hD := hD9
              clear hP9 hD9 hS9
              have hBs98 : CB s98 := by rw [es98]; exact cb_sw hBs95 trivial
              have hFs98 : FR [120, 121, 123, 124, 125] st s98 := fr_sw hFs95 (List.mem_of_getElem? (i := 4) rfl) es98
              refine lv_iconst (v := 1) hx hb dX7_goOn_117 (by decide) ?_
              rw [hQ]
              exact W.zret (v := 1) (ty := .boolean) hx hb hr rfl (fun t ht hW => ⟨⟨1, s98, rfl, ⟨hBs98, hFs98, Or.inl ⟨rfl, trivial⟩⟩, by rw [ht]; exact hP, va_K.moved hW.alike (hK.sub (tys' := []) [] rfl), by rw [hAe]; exact hD⟩, by rw [hAe]; exact hS.F ht⟩) hS.2.2 dX7_goOn_118
            · skip
              have g99 := g9
              refine lv_if_eq (tgt := 81) hx hb dX7_goOn_70 (by decide) (fun c100 => ?_) (fun c100 => ?_)
              rotate_left
              · first | exact absurd c100 (by decide) | exact absurd (by decide) c100
              refine lv_aload_n hx hb dX7_goOn_81 rfl (lv_at hl 1 rfl) ?_
              refine lv_dup hx hb dX7_goOn_82 rfl ?_
              refine va_get (D := D) (ci := 7) (v := .int (s75 125 0)) (C := RX7) (T := TX7) (N := 6) hx hb hT in_X7 hown hK hP 125 cw_125 rfl 0 (by decide) (hT _ t366) (fun _ h9 => h9) rfl dX7_goOn_83 ?_
              refine k_top (y := (st 125 0)) (Eq.trans (congrFun (sw_it es75) 0) (congrFun (gs1 125 (nm_1 (by decide) (nm_1 (by decide) (nm_1 (by decide) (nm_1 (by decide) nm_0))))) 0)) ?_
              refine lv_iconst (v := 1) hx hb dX7_goOn_86 (by decide) ?_
              refine lv_iadd hx hb dX7_goOn_87 ?_
              refine lv_topi (fun z101 ez101 => ?_)
              refine c_put (ci := 7) (C := RX7) (T := TX7) (N := 6) (j := 0) (v := z101) hx hb hT in_X7 tyX7 tyX7_ok nmX7 hown hK hP hD hS cw_125 rfl (by decide) (hT _ t366) (by decide +kernel) (by decide +kernel) rfl rfl (Nat.le_of_ble_eq_true rfl) (cs_125 (upd (s75 125) 0 z101)) dX7_goOn_88 (fun s102 H9 locs9 es102 hP9 hD9 hS9 => ?_)
              clear hP hD hS
              have hS := hS9
              have hP := hP9
              have hD := hD9
              clear hP9 hD9 hS9
              have hBs102 : CB s102 := by rw [es102]; exact cb_sw hBs75 trivial
              have hFs102 : FR [120, 121, 123, 124, 125] st s102 := fr_sw hFs75 (List.mem_of_getElem? (i := 4) rfl) es102
              refine lv_aload_n hx hb dX7_goOn_91 rfl (lv_at hl 1 rfl) ?_
              refine lv_aload_n hx hb dX7_goOn_92 rfl (lv_at hl 3 rfl) ?_
              refine va_get (D := D) (ci := 5) (v := .ref (a 123)) (C := RX5) (T := TX5) (N := 5) hx hb hT in_X5 hown hK hP 119 cw_119 rfl 3 (by decide) (hT _ t177) (fun _ h9 => h9) rfl dX7_goOn_93 ?_
              refine lv_iload_n hx hb dX7_goOn_96 rfl (lv_at hl 4 rfl) ?_
              refine va_iald hx hb hK hP 123 0 cw_123 rfl (iv_in hp0 (by decide) (by decide)) dX7_goOn_97 ?_
              refine lv_topi (fun z103 ez103 => ?_)
              have h104 : Iv 0 5 z103 := by rw [ez103]; exact (rb_123 hBs102 (vp_in_lt (iv_in hp0 (by decide) (by decide))))
              refine c_put (ci := 7) (C := RX7) (T := TX7) (N := 6) (j := 1) (v := z103) hx hb hT in_X7 tyX7 tyX7_ok nmX7 hown hK hP hD hS cw_125 rfl (by decide) (hT _ t368) (by decide +kernel) (by decide +kernel) rfl rfl (Nat.le_of_ble_eq_true rfl) (cs_125 (upd (s102 125) 1 z103)) dX7_goOn_98 (fun s105 H9 locs9 es105 hP9 hD9 hS9 => ?_)
              clear hP hD hS
              have hS := hS9
              have hP := hP9
              have hD := hD9
              clear hP9 hD9 hS9
              have hBs105 : CB s105 := by rw [es105]; exact cb_sw hBs102 trivial
              have hFs105 : FR [120, 121, 123, 124, 125] st s105 := fr_sw hFs102 (List.mem_of_getElem? (i := 4) rfl) es105
              refine lv_aload_n hx hb dX7_goOn_101 rfl (lv_at hl 1 rfl) ?_
              refine lv_dup hx hb dX7_goOn_102 rfl ?_
              refine va_get (D := D) (ci := 7) (v := .int (s105 125 2)) (C := RX7) (T := TX7) (N := 6) hx hb hT in_X7 hown hK hP 125 cw_125 rfl 2 (by decide) (hT _ t370) (fun _ h9 => h9) rfl dX7_goOn_103 ?_
              refine k_top (y := (st 125 2)) (Eq.trans (congrFun (sw_it es105) 2) (Eq.trans (congrFun (sw_it es102) 2) (Eq.trans (congrFun (sw_it es75) 2) (congrFun (gs1 125 (nm_1 (by decide) (nm_1 (by decide) (nm_1 (by decide) (nm_1 (by decide) nm_0))))) 2)))) ?_
              refine lv_aload_n hx hb dX7_goOn_106 rfl (lv_at hl 2 rfl) ?_
              refine va_get (D := D) (ci := 1) (v := .ref (a 21)) (C := RX1) (T := TX1) (N := 14) hx hb hT in_X1 hown hK hP 18 cw_18 rfl 9 (by decide) (hT _ t230) (fun _ h9 => h9) rfl dX7_goOn_107 ?_
              refine lv_iload hx hb dX7_goOn_110 (lv_at hl 0 rfl) ?_
              refine va_iald hx hb hK hP 21 0 cw_21 rfl (iv_in h5 (by decide) (by decide)) dX7_goOn_112 ?_
              refine lv_topi (fun z106 ez106 => ?_)
              refine lv_iadd hx hb dX7_goOn_113 ?_
              refine lv_topi (fun z107 ez107 => ?_)
              refine c_put (ci := 7) (C := RX7) (T := TX7) (N := 6) (j := 2) (v := z107) hx hb hT in_X7 tyX7 tyX7_ok nmX7 hown hK hP hD hS cw_125 rfl (by decide) (hT _ t370) (by decide +kernel) (by decide +kernel) rfl rfl (Nat.le_of_ble_eq_true rfl) (cs_125 (upd (s105 125) 2 z107)) dX7_goOn_114 (fun s108 H9 locs9 es108 hP9 hD9 hS9 => ?_)
              clear hP hD hS
              have hS := hS9
              have hP := hP9
              have hD := hD9
              clear hP9 hD9 hS9
              have hBs108 : CB s108 := by rw [es108]; exact cb_sw hBs105 trivial
              have hFs108 : FR [120, 121, 123, 124, 125] st s108 := fr_sw hFs105 (List.mem_of_getElem? (i := 4) rfl) es108
              refine lv_iconst (v := 1) hx hb dX7_goOn_117 (by decide) ?_
              rw [hQ]
              exact W.zret (v := 1) (ty := .boolean) hx hb hr rfl (fun t ht hW => ⟨⟨1, s108, rfl, ⟨hBs108, hFs108, Or.inl ⟨rfl, trivial⟩⟩, by rw [ht]; exact hP, va_K.moved hW.alike (hK.sub (tys' := []) [] rfl), by rw [hAe]; exact hD⟩, by rw [hAe]; exact hS.F ht⟩) hS.2.2 dX7_goOn_118
        · skip
          have h109 : Iv (-1) (-1) (st 125 4) := eq_l c76 (iv_c (by decide) : Iv (-1) (-1) (-1))
          refine lv_aload_n hx hb dX7_goOn_49 rfl (lv_at hl 1 rfl) ?_
          refine lv_aload_n hx hb dX7_goOn_50 rfl (lv_at hl 1 rfl) ?_
          refine va_get (D := D) (ci := 7) (v := .int (s75 125 0)) (C := RX7) (T := TX7) (N := 6) hx hb hT in_X7 hown hK hP 125 cw_125 rfl 0 (by decide) (hT _ t366) (fun _ h9 => h9) rfl dX7_goOn_51 ?_
          refine k_top (y := (st 125 0)) (Eq.trans (congrFun (sw_it es75) 0) (congrFun (gs1 125 (nm_1 (by decide) (nm_1 (by decide) (nm_1 (by decide) (nm_1 (by decide) nm_0))))) 0)) ?_
          refine c_put (ci := 7) (C := RX7) (T := TX7) (N := 6) (j := 4) (v := (st 125 0)) hx hb hT in_X7 tyX7 tyX7_ok nmX7 hown hK hP hD hS cw_125 rfl (by decide) (hT _ t374) (by decide +kernel) (by decide +kernel) rfl rfl (Nat.le_of_ble_eq_true rfl) (cs_125 (upd (s75 125) 4 (st 125 0))) dX7_goOn_54 (fun s110 H9 locs9 es110 hP9 hD9 hS9 => ?_)
          clear hP hD hS
          have hS := hS9
          have hP := hP9
          have hD := hD9
          clear hP9 hD9 hS9
          have hBs110 : CB s110 := by rw [es110]; exact cb_sw hBs75 trivial
          have hFs110 : FR [120, 121, 123, 124, 125] st s110 := fr_sw hFs75 (List.mem_of_getElem? (i := 4) rfl) es110
          refine lv_aload_n hx hb dX7_goOn_57 rfl (lv_at hl 1 rfl) ?_
          refine va_get (D := D) (ci := 7) (v := .int (s110 125 5)) (C := RX7) (T := TX7) (N := 6) hx hb hT in_X7 hown hK hP 125 cw_125 rfl 5 (by decide) (hT _ t376) (fun _ h9 => h9) rfl dX7_goOn_58 ?_
          refine k_top (y := (st 125 5)) (Eq.trans (congrFun (sw_it es110) 5) (Eq.trans (congrFun (sw_it es75) 5) (congrFun (gs1 125 (nm_1 (by decide) (nm_1 (by decide) (nm_1 (by decide) (nm_1 (by decide) nm_0))))) 5))) ?_
          refine lv_iconst (v := (-1)) hx hb dX7_goOn_61 (by decide) ?_
          refine lv_icmp_ne (tgt := 81) hx hb dX7_goOn_62 (by decide) (fun c111 => ?_) (fun c111 => ?_)
          · skip
            refine lv_aload_n hx hb dX7_goOn_81 rfl (lv_at hl 1 rfl) ?_
            refine lv_dup hx hb dX7_goOn_82 rfl ?_
            refine va_get (D := D) (ci := 7) (v := .int (s110 125 0)) (C := RX7) (T := TX7) (N := 6) hx hb hT in_X7 hown hK hP 125 cw_125 rfl 0 (by decide) (hT _ t366) (fun _ h9 => h9) rfl dX7_goOn_83 ?_
            refine k_top (y := (st 125 0)) (Eq.trans (congrFun (sw_it es110) 0) (Eq.trans (congrFun (sw_it es75) 0) (congrFun (gs1 125 (nm_1 (by decide) (nm_1 (by decide) (nm_1 (by decide) (nm_1 (by decide) nm_0))))) 0))) ?_
            refine lv_iconst (v := 1) hx hb dX7_goOn_86 (by decide) ?_
            refine lv_iadd hx hb dX7_goOn_87 ?_
            refine lv_topi (fun z112 ez112 => ?_)
            refine c_put (ci := 7) (C := RX7) (T := TX7) (N := 6) (j := 0) (v := z112) hx hb hT in_X7 tyX7 tyX7_ok nmX7 hown hK hP hD hS cw_125 rfl (by decide) (hT _ t366) (by decide +kernel) (by decide +kernel) rfl rfl (Nat.le_of_ble_eq_true rfl) (cs_125 (upd (s110 125) 0 z112)) dX7_goOn_88 (fun s113 H9 locs9 es113 hP9 hD9 hS9 => ?_)
            clear hP hD hS
            have hS := hS9
            have hP := hP9
            have hD := hD9
            clear hP9 hD9 hS9
            have hBs113 : CB s113 := by rw [es113]; exact cb_sw hBs110 trivial
            have hFs113 : FR [120, 121, 123, 124, 125] st s113 := fr_sw hFs110 (List.mem_of_getElem? (i := 4) rfl) es113
            refine lv_aload_n hx hb dX7_goOn_91 rfl (lv_at hl 1 rfl) ?_
            refine lv_aload_n hx hb dX7_goOn_92 rfl (lv_at hl 3 rfl) ?_
            refine va_get (D := D) (ci := 5) (v := .ref (a 123)) (C := RX5) (T := TX5) (N := 5) hx hb hT in_X5 hown hK hP 119 cw_119 rfl 3 (by decide) (hT _ t177) (fun _ h9 => h9) rfl dX7_goOn_93 ?_
            refine lv_iload_n hx hb dX7_goOn_96 rfl (lv_at hl 4 rfl) ?_
            refine va_iald hx hb hK hP 123 0 cw_123 rfl (iv_in hp0 (by decide) (by decide)) dX7_goOn_97 ?_
            refine lv_topi (fun z114 ez114 => ?_)
            have h115 : Iv 0 5 z114 := by rw [ez114]; exact (rb_123 hBs113 (vp_in_lt (iv_in hp0 (by decide) (by decide))))
            refine c_put (ci := 7) (C := RX7) (T := TX7) (N := 6) (j := 1) (v := z114) hx hb hT in_X7 tyX7 tyX7_ok nmX7 hown hK hP hD hS cw_125 rfl (by decide) (hT _ t368) (by decide +kernel) (by decide +kernel) rfl rfl (Nat.le_of_ble_eq_true rfl) (cs_125 (upd (s113 125) 1 z114)) dX7_goOn_98 (fun s116 H9 locs9 es116 hP9 hD9 hS9 => ?_)
            clear hP hD hS
            have hS := hS9
            have hP := hP9
            have hD := hD9
            clear hP9 hD9 hS9
            have hBs116 : CB s116 := by rw [es116]; exact cb_sw hBs113 trivial
            have hFs116 : FR [120, 121, 123, 124, 125] st s116 := fr_sw hFs113 (List.mem_of_getElem? (i := 4) rfl) es116
            refine lv_aload_n hx hb dX7_goOn_101 rfl (lv_at hl 1 rfl) ?_
            refine lv_dup hx hb dX7_goOn_102 rfl ?_
            refine va_get (D := D) (ci := 7) (v := .int (s116 125 2)) (C := RX7) (T := TX7) (N := 6) hx hb hT in_X7 hown hK hP 125 cw_125 rfl 2 (by decide) (hT _ t370) (fun _ h9 => h9) rfl dX7_goOn_103 ?_
            refine k_top (y := (st 125 2)) (Eq.trans (congrFun (sw_it es116) 2) (Eq.trans (congrFun (sw_it es113) 2) (Eq.trans (congrFun (sw_it es110) 2) (Eq.trans (congrFun (sw_it es75) 2) (congrFun (gs1 125 (nm_1 (by decide) (nm_1 (by decide) (nm_1 (by decide) (nm_1 (by decide) nm_0))))) 2))))) ?_
            refine lv_aload_n hx hb dX7_goOn_106 rfl (lv_at hl 2 rfl) ?_
            refine va_get (D := D) (ci := 1) (v := .ref (a 21)) (C := RX1) (T := TX1) (N := 14) hx hb hT in_X1 hown hK hP 18 cw_18 rfl 9 (by decide) (hT _ t230) (fun _ h9 => h9) rfl dX7_goOn_107 ?_
            refine lv_iload hx hb dX7_goOn_110 (lv_at hl 0 rfl) ?_
            refine va_iald hx hb hK hP 21 0 cw_21 rfl (iv_in h5 (by decide) (by decide)) dX7_goOn_112 ?_
            refine lv_topi (fun z117 ez117 => ?_)
            refine lv_iadd hx hb dX7_goOn_113 ?_
            refine lv_topi (fun z118 ez118 => ?_)
            refine c_put (ci := 7) (C := RX7) (T := TX7) (N := 6) (j := 2) (v := z118) hx hb hT in_X7 tyX7 tyX7_ok nmX7 hown hK hP hD hS cw_125 rfl (by decide) (hT _ t370) (by decide +kernel) (by decide +kernel) rfl rfl (Nat.le_of_ble_eq_true rfl) (cs_125 (upd (s116 125) 2 z118)) dX7_goOn_114 (fun s119 H9 locs9 es119 hP9 hD9 hS9 => ?_)
            clear hP hD hS
            have hS := hS9
            have hP := hP9
            have hD := hD9
            clear hP9 hD9 hS9
            have hBs119 : CB s119 := by rw [es119]; exact cb_sw hBs116 trivial
            have hFs119 : FR [120, 121, 123, 124, 125] st s119 := fr_sw hFs116 (List.mem_of_getElem? (i := 4) rfl) es119
            refine lv_iconst (v := 1) hx hb dX7_goOn_117 (by decide) ?_
            rw [hQ]
            exact W.zret (v := 1) (ty := .boolean) hx hb hr rfl (fun t ht hW => ⟨⟨1, s119, rfl, ⟨hBs119, hFs119, Or.inl ⟨rfl, trivial⟩⟩, by rw [ht]; exact hP, va_K.moved hW.alike (hK.sub (tys' := []) [] rfl), by rw [hAe]; exact hD⟩, by rw [hAe]; exact hS.F ht⟩) hS.2.2 dX7_goOn_118
          · skip
            have h120 : Iv (-1) (-1) (st 125 5) := eq_l c111 (iv_c (by decide) : Iv (-1) (-1) (-1))
            refine lv_aload_n hx hb dX7_goOn_65 rfl (lv_at hl 3 rfl) ?_
            refine lv_iload_n hx hb dX7_goOn_66 rfl (lv_at hl 4 rfl) ?_
            refine ro_V (As := [.int p0]) (rest := []) S (s_X5_hasWornWheel l D k a s110 sl 119 p0 _ (by decide) hBs110  ) lkX7_40 ok_X5_hasWornWheel ⟨rfl, rfl, Nat.le_of_ble_eq_true rfl, Nat.le_of_ble_eq_true rfl⟩ (pw_V (ci := 5) (q0 := 119) hK hN rfl cw_119 hP (hD.weaken (fun _ _ _ _ => trivial))) rfl hl.1 rfl (Nat.le_of_ble_eq_true rfl) ⟨Nat.zero_le _, Nat.zero_le _⟩ dX7_goOn_67 (fun r121 er121 => ?_)
            rcases er121 with ⟨rfl, g9⟩ | ⟨rfl, g9⟩
            · skip
              have g122 := g9
              refine lv_if_eq (tgt := 81) hx hb dX7_goOn_70 (by decide) (fun c123 => ?_) (fun c123 => ?_)
              · first | exact absurd c123 (by decide) | exact absurd (by decide) c123
              refine lv_aload_n hx hb dX7_goOn_73 rfl (lv_at hl 1 rfl) ?_
              refine lv_aload_n hx hb dX7_goOn_74 rfl (lv_at hl 1 rfl) ?_
              refine va_get (D := D) (ci := 7) (v := .int (s110 125 0)) (C := RX7) (T := TX7) (N := 6) hx hb hT in_X7 hown hK hP 125 cw_125 rfl 0 (by decide) (hT _ t366) (fun _ h9 => h9) rfl dX7_goOn_75 ?_
              refine k_top (y := (st 125 0)) (Eq.trans (congrFun (sw_it es110) 0) (Eq.trans (congrFun (sw_it es75) 0) (congrFun (gs1 125 (nm_1 (by decide) (nm_1 (by decide) (nm_1 (by decide) (nm_1 (by decide) nm_0))))) 0))) ?_
              refine c_put (ci := 7) (C := RX7) (T := TX7) (N := 6) (j := 5) (v := (st 125 0)) hx hb hT in_X7 tyX7 tyX7_ok nmX7 hown hK hP hD hS cw_125 rfl (by decide) (hT _ t376) (by decide +kernel) (by decide +kernel) rfl rfl (Nat.le_of_ble_eq_true rfl) (cs_125 (upd (s110 125) 5 (st 125 0))) dX7_goOn_78 (fun s124 H9 locs9 es124 hP9 hD9 hS9 => ?_)
              clear hP hD hS
              have hS := hS9
              have hP := hP9
              have hD := hD9
              clear hP9 hD9 hS9
              have hBs124 : CB s124 := by rw [es124]; exact cb_sw hBs110 trivial
              have hFs124 : FR [120, 121, 123, 124, 125] st s124 := fr_sw hFs110 (List.mem_of_getElem? (i := 4) rfl) es124
              refine lv_aload_n hx hb dX7_goOn_81 rfl (lv_at hl 1 rfl) ?_
              refine lv_dup hx hb dX7_goOn_82 rfl ?_
              refine va_get (D := D) (ci := 7) (v := .int (s124 125 0)) (C := RX7) (T := TX7) (N := 6) hx hb hT in_X7 hown hK hP 125 cw_125 rfl 0 (by decide) (hT _ t366) (fun _ h9 => h9) rfl dX7_goOn_83 ?_
              refine k_top (y := (st 125 0)) (Eq.trans (congrFun (sw_it es124) 0) (Eq.trans (congrFun (sw_it es110) 0) (Eq.trans (congrFun (sw_it es75) 0) (congrFun (gs1 125 (nm_1 (by decide) (nm_1 (by decide) (nm_1 (by decide) (nm_1 (by decide) nm_0))))) 0)))) ?_
              refine lv_iconst (v := 1) hx hb dX7_goOn_86 (by decide) ?_
              refine lv_iadd hx hb dX7_goOn_87 ?_
              refine lv_topi (fun z125 ez125 => ?_)
              refine c_put (ci := 7) (C := RX7) (T := TX7) (N := 6) (j := 0) (v := z125) hx hb hT in_X7 tyX7 tyX7_ok nmX7 hown hK hP hD hS cw_125 rfl (by decide) (hT _ t366) (by decide +kernel) (by decide +kernel) rfl rfl (Nat.le_of_ble_eq_true rfl) (cs_125 (upd (s124 125) 0 z125)) dX7_goOn_88 (fun s126 H9 locs9 es126 hP9 hD9 hS9 => ?_)
              clear hP hD hS
              have hS := hS9
              have hP := hP9
              have hD := hD9
              clear hP9 hD9 hS9
              have hBs126 : CB s126 := by rw [es126]; exact cb_sw hBs124 trivial
              have hFs126 : FR [120, 121, 123, 124, 125] st s126 := fr_sw hFs124 (List.mem_of_getElem? (i := 4) rfl) es126
              refine lv_aload_n hx hb dX7_goOn_91 rfl (lv_at hl 1 rfl) ?_
              refine lv_aload_n hx hb dX7_goOn_92 rfl (lv_at hl 3 rfl) ?_
              refine va_get (D := D) (ci := 5) (v := .ref (a 123)) (C := RX5) (T := TX5) (N := 5) hx hb hT in_X5 hown hK hP 119 cw_119 rfl 3 (by decide) (hT _ t177) (fun _ h9 => h9) rfl dX7_goOn_93 ?_
              refine lv_iload_n hx hb dX7_goOn_96 rfl (lv_at hl 4 rfl) ?_
              refine va_iald hx hb hK hP 123 0 cw_123 rfl (iv_in hp0 (by decide) (by decide)) dX7_goOn_97 ?_
              refine lv_topi (fun z127 ez127 => ?_)
              have h128 : Iv 0 5 z127 := by rw [ez127]; exact (rb_123 hBs126 (vp_in_lt (iv_in hp0 (by decide) (by decide))))
              refine c_put (ci := 7) (C := RX7) (T := TX7) (N := 6) (j := 1) (v := z127) hx hb hT in_X7 tyX7 tyX7_ok nmX7 hown hK hP hD hS cw_125 rfl (by decide) (hT _ t368) (by decide +kernel) (by decide +kernel) rfl rfl (Nat.le_of_ble_eq_true rfl) (cs_125 (upd (s126 125) 1 z127)) dX7_goOn_98 (fun s129 H9 locs9 es129 hP9 hD9 hS9 => ?_)
              clear hP hD hS
              have hS := hS9
              have hP := hP9
              have hD := hD9
              clear hP9 hD9 hS9
              have hBs129 : CB s129 := by rw [es129]; exact cb_sw hBs126 trivial
              have hFs129 : FR [120, 121, 123, 124, 125] st s129 := fr_sw hFs126 (List.mem_of_getElem? (i := 4) rfl) es129
              refine lv_aload_n hx hb dX7_goOn_101 rfl (lv_at hl 1 rfl) ?_
              refine lv_dup hx hb dX7_goOn_102 rfl ?_
              refine va_get (D := D) (ci := 7) (v := .int (s129 125 2)) (C := RX7) (T := TX7) (N := 6) hx hb hT in_X7 hown hK hP 125 cw_125 rfl 2 (by decide) (hT _ t370) (fun _ h9 => h9) rfl dX7_goOn_103 ?_
              refine k_top (y := (st 125 2)) (Eq.trans (congrFun (sw_it es129) 2) (Eq.trans (congrFun (sw_it es126) 2) (Eq.trans (congrFun (sw_it es124) 2) (Eq.trans (congrFun (sw_it es110) 2) (Eq.trans (congrFun (sw_it es75) 2) (congrFun (gs1 125 (nm_1 (by decide) (nm_1 (by decide) (nm_1 (by decide) (nm_1 (by decide) nm_0))))) 2)))))) ?_
              refine lv_aload_n hx hb dX7_goOn_106 rfl (lv_at hl 2 rfl) ?_
              refine va_get (D := D) (ci := 1) (v := .ref (a 21)) (C := RX1) (T := TX1) (N := 14) hx hb hT in_X1 hown hK hP 18 cw_18 rfl 9 (by decide) (hT _ t230) (fun _ h9 => h9) rfl dX7_goOn_107 ?_
              refine lv_iload hx hb dX7_goOn_110 (lv_at hl 0 rfl) ?_
              refine va_iald hx hb hK hP 21 0 cw_21 rfl (iv_in h5 (by decide) (by decide)) dX7_goOn_112 ?_
              refine lv_topi (fun z130 ez130 => ?_)
              refine lv_iadd hx hb dX7_goOn_113 ?_
              refine lv_topi (fun z131 ez131 => ?_)
              refine c_put (ci := 7) (C := RX7) (T := TX7) (N := 6) (j := 2) (v := z131) hx hb hT in_X7 tyX7 tyX7_ok nmX7 hown hK hP hD hS cw_125 rfl (by decide) (hT _ t370) (by decide +kernel) (by decide +kernel) rfl rfl (Nat.le_of_ble_eq_true rfl) (cs_125 (upd (s129 125) 2 z131)) dX7_goOn_114 (fun s132 H9 locs9 es132 hP9 hD9 hS9 => ?_)
              clear hP hD hS
              have hS := hS9
              have hP := hP9
              have hD := hD9
              clear hP9 hD9 hS9
              have hBs132 : CB s132 := by rw [es132]; exact cb_sw hBs129 trivial
              have hFs132 : FR [120, 121, 123, 124, 125] st s132 := fr_sw hFs129 (List.mem_of_getElem? (i := 4) rfl) es132
              refine lv_iconst (v := 1) hx hb dX7_goOn_117 (by decide) ?_
              rw [hQ]
              exact W.zret (v := 1) (ty := .boolean) hx hb hr rfl (fun t ht hW => ⟨⟨1, s132, rfl, ⟨hBs132, hFs132, Or.inl ⟨rfl, trivial⟩⟩, by rw [ht]; exact hP, va_K.moved hW.alike (hK.sub (tys' := []) [] rfl), by rw [hAe]; exact hD⟩, by rw [hAe]; exact hS.F ht⟩) hS.2.2 dX7_goOn_118
            · skip
              have g133 := g9
              refine lv_if_eq (tgt := 81) hx hb dX7_goOn_70 (by decide) (fun c134 => ?_) (fun c134 => ?_)
              rotate_left
              · first | exact absurd c134 (by decide) | exact absurd (by decide) c134
              refine lv_aload_n hx hb dX7_goOn_81 rfl (lv_at hl 1 rfl) ?_
              refine lv_dup hx hb dX7_goOn_82 rfl ?_
              refine va_get (D := D) (ci := 7) (v := .int (s110 125 0)) (C := RX7) (T := TX7) (N := 6) hx hb hT in_X7 hown hK hP 125 cw_125 rfl 0 (by decide) (hT _ t366) (fun _ h9 => h9) rfl dX7_goOn_83 ?_
              refine k_top (y := (st 125 0)) (Eq.trans (congrFun (sw_it es110) 0) (Eq.trans (congrFun (sw_it es75) 0) (congrFun (gs1 125 (nm_1 (by decide) (nm_1 (by decide) (nm_1 (by decide) (nm_1 (by decide) nm_0))))) 0))) ?_
              refine lv_iconst (v := 1) hx hb dX7_goOn_86 (by decide) ?_
              refine lv_iadd hx hb dX7_goOn_87 ?_
              refine lv_topi (fun z135 ez135 => ?_)
              refine c_put (ci := 7) (C := RX7) (T := TX7) (N := 6) (j := 0) (v := z135) hx hb hT in_X7 tyX7 tyX7_ok nmX7 hown hK hP hD hS cw_125 rfl (by decide) (hT _ t366) (by decide +kernel) (by decide +kernel) rfl rfl (Nat.le_of_ble_eq_true rfl) (cs_125 (upd (s110 125) 0 z135)) dX7_goOn_88 (fun s136 H9 locs9 es136 hP9 hD9 hS9 => ?_)
              clear hP hD hS
              have hS := hS9
              have hP := hP9
              have hD := hD9
              clear hP9 hD9 hS9
              have hBs136 : CB s136 := by rw [es136]; exact cb_sw hBs110 trivial
              have hFs136 : FR [120, 121, 123, 124, 125] st s136 := fr_sw hFs110 (List.mem_of_getElem? (i := 4) rfl) es136
              refine lv_aload_n hx hb dX7_goOn_91 rfl (lv_at hl 1 rfl) ?_
              refine lv_aload_n hx hb dX7_goOn_92 rfl (lv_at hl 3 rfl) ?_
              refine va_get (D := D) (ci := 5) (v := .ref (a 123)) (C := RX5) (T := TX5) (N := 5) hx hb hT in_X5 hown hK hP 119 cw_119 rfl 3 (by decide) (hT _ t177) (fun _ h9 => h9) rfl dX7_goOn_93 ?_
              refine lv_iload_n hx hb dX7_goOn_96 rfl (lv_at hl 4 rfl) ?_
              refine va_iald hx hb hK hP 123 0 cw_123 rfl (iv_in hp0 (by decide) (by decide)) dX7_goOn_97 ?_
              refine lv_topi (fun z137 ez137 => ?_)
              have h138 : Iv 0 5 z137 := by rw [ez137]; exact (rb_123 hBs136 (vp_in_lt (iv_in hp0 (by decide) (by decide))))
              refine c_put (ci := 7) (C := RX7) (T := TX7) (N := 6) (j := 1) (v := z137) hx hb hT in_X7 tyX7 tyX7_ok nmX7 hown hK hP hD hS cw_125 rfl (by decide) (hT _ t368) (by decide +kernel) (by decide +kernel) rfl rfl (Nat.le_of_ble_eq_true rfl) (cs_125 (upd (s136 125) 1 z137)) dX7_goOn_98 (fun s139 H9 locs9 es139 hP9 hD9 hS9 => ?_)
              clear hP hD hS
              have hS := hS9
              have hP := hP9
              have hD := hD9
              clear hP9 hD9 hS9
              have hBs139 : CB s139 := by rw [es139]; exact cb_sw hBs136 trivial
              have hFs139 : FR [120, 121, 123, 124, 125] st s139 := fr_sw hFs136 (List.mem_of_getElem? (i := 4) rfl) es139
              refine lv_aload_n hx hb dX7_goOn_101 rfl (lv_at hl 1 rfl) ?_
              refine lv_dup hx hb dX7_goOn_102 rfl ?_
              refine va_get (D := D) (ci := 7) (v := .int (s139 125 2)) (C := RX7) (T := TX7) (N := 6) hx hb hT in_X7 hown hK hP 125 cw_125 rfl 2 (by decide) (hT _ t370) (fun _ h9 => h9) rfl dX7_goOn_103 ?_
              refine k_top (y := (st 125 2)) (Eq.trans (congrFun (sw_it es139) 2) (Eq.trans (congrFun (sw_it es136) 2) (Eq.trans (congrFun (sw_it es110) 2) (Eq.trans (congrFun (sw_it es75) 2) (congrFun (gs1 125 (nm_1 (by decide) (nm_1 (by decide) (nm_1 (by decide) (nm_1 (by decide) nm_0))))) 2))))) ?_
              refine lv_aload_n hx hb dX7_goOn_106 rfl (lv_at hl 2 rfl) ?_
              refine va_get (D := D) (ci := 1) (v := .ref (a 21)) (C := RX1) (T := TX1) (N := 14) hx hb hT in_X1 hown hK hP 18 cw_18 rfl 9 (by decide) (hT _ t230) (fun _ h9 => h9) rfl dX7_goOn_107 ?_
              refine lv_iload hx hb dX7_goOn_110 (lv_at hl 0 rfl) ?_
              refine va_iald hx hb hK hP 21 0 cw_21 rfl (iv_in h5 (by decide) (by decide)) dX7_goOn_112 ?_
              refine lv_topi (fun z140 ez140 => ?_)
              refine lv_iadd hx hb dX7_goOn_113 ?_
              refine lv_topi (fun z141 ez141 => ?_)
              refine c_put (ci := 7) (C := RX7) (T := TX7) (N := 6) (j := 2) (v := z141) hx hb hT in_X7 tyX7 tyX7_ok nmX7 hown hK hP hD hS cw_125 rfl (by decide) (hT _ t370) (by decide +kernel) (by decide +kernel) rfl rfl (Nat.le_of_ble_eq_true rfl) (cs_125 (upd (s139 125) 2 z141)) dX7_goOn_114 (fun s142 H9 locs9 es142 hP9 hD9 hS9 => ?_)
              clear hP hD hS
              have hS := hS9
              have hP := hP9
              have hD := hD9
              clear hP9 hD9 hS9
              have hBs142 : CB s142 := by rw [es142]; exact cb_sw hBs139 trivial
              have hFs142 : FR [120, 121, 123, 124, 125] st s142 := fr_sw hFs139 (List.mem_of_getElem? (i := 4) rfl) es142
              refine lv_iconst (v := 1) hx hb dX7_goOn_117 (by decide) ?_
              rw [hQ]
              exact W.zret (v := 1) (ty := .boolean) hx hb hr rfl (fun t ht hW => ⟨⟨1, s142, rfl, ⟨hBs142, hFs142, Or.inl ⟨rfl, trivial⟩⟩, by rw [ht]; exact hP, va_K.moved hW.alike (hK.sub (tys' := []) [] rfl), by rw [hAe]; exact hD⟩, by rw [hAe]; exact hS.F ht⟩) hS.2.2 dX7_goOn_118
  · skip
    have h143 : Iv (-1) (-1) r2 := eq_l c4 (iv_c (by decide) : Iv (-1) (-1) (-1))
    refine lv_iconst (v := 0) hx hb dX7_goOn_16 (by decide) ?_
    rw [hQ]
    exact W.zret (v := 0) (ty := .boolean) hx hb hr rfl (fun t ht hW => ⟨⟨0, s1, rfl, ⟨hBs1, hFs1, Or.inr ⟨rfl, trivial⟩⟩, by rw [ht]; exact hP, va_K.moved hW.alike (hK.sub (tys' := []) [] rfl), by rw [hAe]; exact hD⟩, by rw [hAe]; exact hS.F ht⟩) hS.2.2 dX7_goOn_17
