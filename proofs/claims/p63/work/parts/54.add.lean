set_option maxHeartbeats 4000000 in
set_option maxRecDepth 100000 in
theorem s_X1_addRoad (l : Launch) (D : va_G) (k : Nat → ClassId) (a : Nat → Nat) (st : CT) (sl : CL) (p0 : Int32) (p1 : Int32) (p2 : Int32) (sz : Nat) (hB : CB st) (hp0 : Iv 0 5 p0) (hp1 : Iv 0 5 p1) : Met l yX1_addRoad (.code yX1_addRoad cX1_addRoad 4 none :: TB) (rmw 1 0 0) (va_Pc [.ref (a 4), .int p0, .int p1, .int p2] (PW D k sz (CWS k a st sl))) (QV D (S := CT) (fun u => CB u ∧ FR [5, 6, 7, 4] st u ∧ u 4 0 = st 4 0 ∧ u 4 1 = st 4 1 ∧ u 4 2 = st 4 2 ∧ u 4 4 = st 4 4 ∧ u 4 5 = st 4 5 ∧ u 4 6 = st 4 6 ∧ (True)) (fun u => CWS k a u sl) (fun _ => []) (CWS k a st sl) sz) 0 0 (va_A (CWS k a st sl) sz) := by
  refine Met.ofW (cc := cX1_addRoad) (maxL := 4) (ret := none) (by decide) rfl ?_
  intro p e s m args below meth c s₁ B hml hv
  obtain ⟨rfl, hsz, hP, hK, hD0, hN⟩ := hv
  have hx := B.exec
  have hb := B.bytes
  have hr := B.returns
  have hT : ∀ w9 ∈ TB, w9.before ([.ref (a 4), .int p0, .int p1, .int p2] : List Value).toArray s = true := fun w9 h => atoms_spec (ws := .code yX1_addRoad cX1_addRoad 4 none :: TB) B.pre w9 (List.mem_cons_of_mem _ h)
  have hown : s.vm.findClass RX1 = some m.cls := findClass_of_methodNamed B.named
  have S : CallFix p m c cX1_addRoad 4 s _ TB RX1 := ⟨hx, hb, hml, hown, hT⟩
  subst hsz
  have hD := hD0.self (sz := s.heap.size)
  generalize hAe : va_A (CWS k a st sl) s.heap.size = A at hD ⊢
  have hA : ∀ q : Nat, s.heap.size ≤ q → A q := fun q h => by rw [← hAe]; exact Or.inr h
  have hS : va_S A s.heap s.heap [] := va_S.rf
  have hl := lv_entry ([.ref (a 4), .int p0, .int p1, .int p2]) (n := 4) (Nat.le_of_ble_eq_true rfl)
  rw [lg_entry_eq]
  generalize (lg_sl ([.ref (a 4), .int p0, .int p1, .int p2]) ++ List.replicate (4 - (lg_sl ([.ref (a 4), .int p0, .int p1, .int p2])).length) Slot.unset).toArray = ls at hl ⊢
  have hl : lv_has ls 4 [(0, .ref (a 4)), (1, .int p0), (2, .int p1), (3, .int p2)] := hl
  refine nameQ (fun Q hQ => ?_)
  refine lv_aload_n hx hb dX1_addRoad_0 rfl (lv_at hl 0 rfl) ?_
  refine va_get (D := D) (ci := 1) (v := .int (st 4 3)) (C := RX1) (T := TX1) (N := 14) hx hb hT in_X1 hown hK hP 4 cw_4 rfl 3 (by decide) (hT _ t207) (fun _ h9 => h9) rfl dX1_addRoad_1 ?_
  have h1 : Iv 0 8 (st 4 3) := (rb_4_3 hB)
  refine lv_bipush (v := 8) hx hb dX1_addRoad_4 (by decide) ?_
  refine lv_icmp_ge (tgt := 49) hx hb dX1_addRoad_6 (by decide) (fun c2 => ?_) (fun c2 => ?_)
  · skip
    have n3 : (8 : Int32).toInt ≤ (st 4 3).toInt := (i_le c2)
    have h4 : Iv 8 8 (st 4 3) := le_r (iv_c (by decide) : Iv 8 8 8) n3 h1 (by decide)
    rw [hQ]
    exact W.vret hx hb hr (fun t ht hW => ⟨⟨st, rfl, ⟨hB, fr_rf, rfl, rfl, rfl, rfl, rfl, rfl, trivial⟩, by rw [ht]; exact hP, va_K.moved hW.alike (hK.sub (tys' := []) [] rfl), by rw [hAe]; exact hD⟩, by rw [hAe]; exact hS.F ht⟩) hS.2.2 dX1_addRoad_49
  · skip
    have n5 : (st 4 3).toInt < (8 : Int32).toInt := (i_nle c2)
    have h6 : Iv 0 7 (st 4 3) := lt_l h1 n5 (iv_c (by decide) : Iv 8 8 8) (by decide)
    refine lv_aload_n hx hb dX1_addRoad_9 rfl (lv_at hl 0 rfl) ?_
    refine va_get (D := D) (ci := 1) (v := .ref (a 5)) (C := RX1) (T := TX1) (N := 14) hx hb hT in_X1 hown hK hP 4 cw_4 rfl 7 (by decide) (hT _ t222) (fun _ h9 => h9) rfl dX1_addRoad_10 ?_
    refine lv_aload_n hx hb dX1_addRoad_13 rfl (lv_at hl 0 rfl) ?_
    refine va_get (D := D) (ci := 1) (v := .int (st 4 3)) (C := RX1) (T := TX1) (N := 14) hx hb hT in_X1 hown hK hP 4 cw_4 rfl 3 (by decide) (hT _ t207) (fun _ h9 => h9) rfl dX1_addRoad_14 ?_
    refine lv_iload_n hx hb dX1_addRoad_17 rfl (lv_at hl 1 rfl) ?_
    refine c_ist hx hb hK hP hD hS cw_5 cs_5 (iv_in h6 (by decide) (by decide)) dX1_addRoad_18 (fun s7 H9 locs9 es7 hP9 hD9 hS9 => ?_)
    clear hP hD hS
    have hS := hS9
    have hP := hP9
    have hD := hD9
    clear hP9 hD9 hS9
    have hBs7 : CB s7 := by rw [es7]; exact cb_sw hB (ki_4 (hB 5) hp0)
    have hFs7 : FR [5, 6, 7, 4] st s7 := fr_sw fr_rf (List.mem_of_getElem? (i := 0) rfl) es7
    refine lv_aload_n hx hb dX1_addRoad_19 rfl (lv_at hl 0 rfl) ?_
    refine va_get (D := D) (ci := 1) (v := .ref (a 6)) (C := RX1) (T := TX1) (N := 14) hx hb hT in_X1 hown hK hP 4 cw_4 rfl 8 (by decide) (hT _ t225) (fun _ h9 => h9) rfl dX1_addRoad_20 ?_
    refine lv_aload_n hx hb dX1_addRoad_23 rfl (lv_at hl 0 rfl) ?_
    refine va_get (D := D) (ci := 1) (v := .int (s7 4 3)) (C := RX1) (T := TX1) (N := 14) hx hb hT in_X1 hown hK hP 4 cw_4 rfl 3 (by decide) (hT _ t207) (fun _ h9 => h9) rfl dX1_addRoad_24 ?_
    refine k_top (y := (st 4 3)) (congrFun (sw_at es7 (by decide)) 3) ?_
    refine lv_iload_n hx hb dX1_addRoad_27 rfl (lv_at hl 2 rfl) ?_
    refine c_ist hx hb hK hP hD hS cw_6 cs_6 (iv_in h6 (by decide) (by decide)) dX1_addRoad_28 (fun s8 H9 locs9 es8 hP9 hD9 hS9 => ?_)
    clear hP hD hS
    have hS := hS9
    have hP := hP9
    have hD := hD9
    clear hP9 hD9 hS9
    have hBs8 : CB s8 := by rw [es8]; exact cb_sw hBs7 (ki_4 (hBs7 6) hp1)
    have hFs8 : FR [5, 6, 7, 4] st s8 := fr_sw hFs7 (List.mem_of_getElem? (i := 1) rfl) es8
    refine lv_aload_n hx hb dX1_addRoad_29 rfl (lv_at hl 0 rfl) ?_
    refine va_get (D := D) (ci := 1) (v := .ref (a 7)) (C := RX1) (T := TX1) (N := 14) hx hb hT in_X1 hown hK hP 4 cw_4 rfl 9 (by decide) (hT _ t228) (fun _ h9 => h9) rfl dX1_addRoad_30 ?_
    refine lv_aload_n hx hb dX1_addRoad_33 rfl (lv_at hl 0 rfl) ?_
    refine va_get (D := D) (ci := 1) (v := .int (s8 4 3)) (C := RX1) (T := TX1) (N := 14) hx hb hT in_X1 hown hK hP 4 cw_4 rfl 3 (by decide) (hT _ t207) (fun _ h9 => h9) rfl dX1_addRoad_34 ?_
    refine k_top (y := (st 4 3)) (Eq.trans (congrFun (sw_at es8 (by decide)) 3) (congrFun (sw_at es7 (by decide)) 3)) ?_
    refine lv_iload_n hx hb dX1_addRoad_37 rfl (lv_at hl 3 rfl) ?_
    refine c_ist hx hb hK hP hD hS cw_7 cs_7 (iv_in h6 (by decide) (by decide)) dX1_addRoad_38 (fun s9 H9 locs9 es9 hP9 hD9 hS9 => ?_)
    clear hP hD hS
    have hS := hS9
    have hP := hP9
    have hD := hD9
    clear hP9 hD9 hS9
    have hBs9 : CB s9 := by rw [es9]; exact cb_sw hBs8 trivial
    have hFs9 : FR [5, 6, 7, 4] st s9 := fr_sw hFs8 (List.mem_of_getElem? (i := 2) rfl) es9
    refine lv_aload_n hx hb dX1_addRoad_39 rfl (lv_at hl 0 rfl) ?_
    refine lv_dup hx hb dX1_addRoad_40 rfl ?_
    refine va_get (D := D) (ci := 1) (v := .int (s9 4 3)) (C := RX1) (T := TX1) (N := 14) hx hb hT in_X1 hown hK hP 4 cw_4 rfl 3 (by decide) (hT _ t207) (fun _ h9 => h9) rfl dX1_addRoad_41 ?_
    refine k_top (y := (st 4 3)) (Eq.trans (congrFun (sw_at es9 (by decide)) 3) (Eq.trans (congrFun (sw_at es8 (by decide)) 3) (congrFun (sw_at es7 (by decide)) 3))) ?_
    refine lv_iconst (v := 1) hx hb dX1_addRoad_44 (by decide) ?_
    refine lv_iadd hx hb dX1_addRoad_45 ?_
    refine lv_topi (fun z10 ez10 => ?_)
    have h11 : Iv 1 8 z10 := iv_add ez10 h6 (iv_c (by decide) : Iv 1 1 1) (by decide) (by decide) (by decide) (by decide)
    refine c_put (ci := 1) (C := RX1) (T := TX1) (N := 14) (j := 3) (v := z10) hx hb hT in_X1 tyX1 tyX1_ok nmX1 hown hK hP hD hS cw_4 rfl (by decide) (hT _ t207) (by decide +kernel) (by decide +kernel) rfl rfl (Nat.le_of_ble_eq_true rfl) (cs_4 (upd (s9 4) 3 z10)) dX1_addRoad_46 (fun s12 H9 locs9 es12 hP9 hD9 hS9 => ?_)
    clear hP hD hS
    have hS := hS9
    have hP := hP9
    have hD := hD9
    clear hP9 hD9 hS9
    have hBs12 : CB s12 := by rw [es12]; exact cb_sw hBs9 (ki_3_3 (hBs9 4) (iv_mono (c := 0) (d := 8) h11 (by decide) (by decide)))
    have hFs12 : FR [5, 6, 7, 4] st s12 := fr_sw hFs9 (List.mem_of_getElem? (i := 3) rfl) es12
    rw [hQ]
    exact W.vret hx hb hr (fun t ht hW => ⟨⟨s12, rfl, ⟨hBs12, hFs12, (Eq.trans (congrFun (sw_it es12) 0) (Eq.trans (congrFun (sw_at es9 (by decide)) 0) (Eq.trans (congrFun (sw_at es8 (by decide)) 0) (congrFun (sw_at es7 (by decide)) 0)))), (Eq.trans (congrFun (sw_it es12) 1) (Eq.trans (congrFun (sw_at es9 (by decide)) 1) (Eq.trans (congrFun (sw_at es8 (by decide)) 1) (congrFun (sw_at es7 (by decide)) 1)))), (Eq.trans (congrFun (sw_it es12) 2) (Eq.trans (congrFun (sw_at es9 (by decide)) 2) (Eq.trans (congrFun (sw_at es8 (by decide)) 2) (congrFun (sw_at es7 (by decide)) 2)))), (Eq.trans (congrFun (sw_it es12) 4) (Eq.trans (congrFun (sw_at es9 (by decide)) 4) (Eq.trans (congrFun (sw_at es8 (by decide)) 4) (congrFun (sw_at es7 (by decide)) 4)))), (Eq.trans (congrFun (sw_it es12) 5) (Eq.trans (congrFun (sw_at es9 (by decide)) 5) (Eq.trans (congrFun (sw_at es8 (by decide)) 5) (congrFun (sw_at es7 (by decide)) 5)))), (Eq.trans (congrFun (sw_it es12) 6) (Eq.trans (congrFun (sw_at es9 (by decide)) 6) (Eq.trans (congrFun (sw_at es8 (by decide)) 6) (congrFun (sw_at es7 (by decide)) 6)))), trivial⟩, by rw [ht]; exact hP, va_K.moved hW.alike (hK.sub (tys' := []) [] rfl), by rw [hAe]; exact hD⟩, by rw [hAe]; exact hS.F ht⟩) hS.2.2 dX1_addRoad_49
set_option maxHeartbeats 4000000 in
set_option maxRecDepth 100000 in
theorem s_X1_addWheel (l : Launch) (D : va_G) (k : Nat → ClassId) (a : Nat → Nat) (st : CT) (sl : CL) (p0 : Int32) (sz : Nat) (hB : CB st)  : Met l yX1_addWheel (.code yX1_addWheel cX1_addWheel 2 none :: TB) (rmw 1 0 0) (va_Pc [.ref (a 4), .int p0] (PW D k sz (CWS k a st sl))) (QV D (S := CT) (fun u => CB u ∧ FR [13, 4] st u ∧ u 4 0 = st 4 0 ∧ u 4 1 = st 4 1 ∧ u 4 2 = st 4 2 ∧ u 4 3 = st 4 3 ∧ u 4 5 = st 4 5 ∧ u 4 6 = st 4 6 ∧ (Iv 1 8 (u 4 4))) (fun u => CWS k a u sl) (fun _ => []) (CWS k a st sl) sz) 0 0 (va_A (CWS k a st sl) sz) := by
  refine Met.ofW (cc := cX1_addWheel) (maxL := 2) (ret := none) (by decide) rfl ?_
  intro p e s m args below meth c s₁ B hml hv
  obtain ⟨rfl, hsz, hP, hK, hD0, hN⟩ := hv
  have hx := B.exec
  have hb := B.bytes
  have hr := B.returns
  have hT : ∀ w9 ∈ TB, w9.before ([.ref (a 4), .int p0] : List Value).toArray s = true := fun w9 h => atoms_spec (ws := .code yX1_addWheel cX1_addWheel 2 none :: TB) B.pre w9 (List.mem_cons_of_mem _ h)
  have hown : s.vm.findClass RX1 = some m.cls := findClass_of_methodNamed B.named
  have S : CallFix p m c cX1_addWheel 2 s _ TB RX1 := ⟨hx, hb, hml, hown, hT⟩
  subst hsz
  have hD := hD0.self (sz := s.heap.size)
  generalize hAe : va_A (CWS k a st sl) s.heap.size = A at hD ⊢
  have hA : ∀ q : Nat, s.heap.size ≤ q → A q := fun q h => by rw [← hAe]; exact Or.inr h
  have hS : va_S A s.heap s.heap [] := va_S.rf
  have hl := lv_entry ([.ref (a 4), .int p0]) (n := 2) (Nat.le_of_ble_eq_true rfl)
  rw [lg_entry_eq]
  generalize (lg_sl ([.ref (a 4), .int p0]) ++ List.replicate (2 - (lg_sl ([.ref (a 4), .int p0])).length) Slot.unset).toArray = ls at hl ⊢
  have hl : lv_has ls 2 [(0, .ref (a 4)), (1, .int p0)] := hl
  refine nameQ (fun Q hQ => ?_)
  refine lv_aload_n hx hb dX1_addWheel_0 rfl (lv_at hl 0 rfl) ?_
  refine va_get (D := D) (ci := 1) (v := .int (st 4 4)) (C := RX1) (T := TX1) (N := 14) hx hb hT in_X1 hown hK hP 4 cw_4 rfl 4 (by decide) (hT _ t213) (fun _ h9 => h9) rfl dX1_addWheel_1 ?_
  have h1 : Iv 0 8 (st 4 4) := (rb_4_4 hB)
  refine lv_bipush (v := 8) hx hb dX1_addWheel_4 (by decide) ?_
  refine lv_icmp_ge (tgt := 32) hx hb dX1_addWheel_6 (by decide) (fun c2 => ?_) (fun c2 => ?_)
  · skip
    have n3 : (8 : Int32).toInt ≤ (st 4 4).toInt := (i_le c2)
    have h4 : Iv 8 8 (st 4 4) := le_r (iv_c (by decide) : Iv 8 8 8) n3 h1 (by decide)
    rw [hQ]
    exact W.vret hx hb hr (fun t ht hW => ⟨⟨st, rfl, ⟨hB, fr_rf, rfl, rfl, rfl, rfl, rfl, rfl, (iv_mono (c := 1) (d := 8) h4 (by decide) (by decide))⟩, by rw [ht]; exact hP, va_K.moved hW.alike (hK.sub (tys' := []) [] rfl), by rw [hAe]; exact hD⟩, by rw [hAe]; exact hS.F ht⟩) hS.2.2 dX1_addWheel_32
  · skip
    have n5 : (st 4 4).toInt < (8 : Int32).toInt := (i_nle c2)
    have h6 : Iv 0 7 (st 4 4) := lt_l h1 n5 (iv_c (by decide) : Iv 8 8 8) (by decide)
    refine lv_aload_n hx hb dX1_addWheel_9 rfl (lv_at hl 0 rfl) ?_
    refine va_get (D := D) (ci := 1) (v := .ref (a 11)) (C := RX1) (T := TX1) (N := 14) hx hb hT in_X1 hown hK hP 4 cw_4 rfl 13 (by decide) (hT _ t239) (fun _ h9 => h9) rfl dX1_addWheel_10 ?_
    refine va_get (D := D) (ci := 5) (v := .ref (a 13)) (C := RX5) (T := TX5) (N := 5) hx hb hT in_X5 hown hK hP 11 cw_11 rfl 1 (by decide) (hT _ t170) (fun _ h9 => h9) rfl dX1_addWheel_13 ?_
    refine lv_aload_n hx hb dX1_addWheel_16 rfl (lv_at hl 0 rfl) ?_
    refine va_get (D := D) (ci := 1) (v := .int (st 4 4)) (C := RX1) (T := TX1) (N := 14) hx hb hT in_X1 hown hK hP 4 cw_4 rfl 4 (by decide) (hT _ t213) (fun _ h9 => h9) rfl dX1_addWheel_17 ?_
    refine lv_iload_n hx hb dX1_addWheel_20 rfl (lv_at hl 1 rfl) ?_
    refine c_ist hx hb hK hP hD hS cw_13 cs_13 (iv_in h6 (by decide) (by decide)) dX1_addWheel_21 (fun s7 H9 locs9 es7 hP9 hD9 hS9 => ?_)
    clear hP hD hS
    have hS := hS9
    have hP := hP9
    have hD := hD9
    clear hP9 hD9 hS9
    have hBs7 : CB s7 := by rw [es7]; exact cb_sw hB trivial
    have hFs7 : FR [13, 4] st s7 := fr_sw fr_rf (List.mem_of_getElem? (i := 0) rfl) es7
    refine lv_aload_n hx hb dX1_addWheel_22 rfl (lv_at hl 0 rfl) ?_
    refine lv_dup hx hb dX1_addWheel_23 rfl ?_
    refine va_get (D := D) (ci := 1) (v := .int (s7 4 4)) (C := RX1) (T := TX1) (N := 14) hx hb hT in_X1 hown hK hP 4 cw_4 rfl 4 (by decide) (hT _ t213) (fun _ h9 => h9) rfl dX1_addWheel_24 ?_
    refine k_top (y := (st 4 4)) (congrFun (sw_at es7 (by decide)) 4) ?_
    refine lv_iconst (v := 1) hx hb dX1_addWheel_27 (by decide) ?_
    refine lv_iadd hx hb dX1_addWheel_28 ?_
    refine lv_topi (fun z8 ez8 => ?_)
    have h9 : Iv 1 8 z8 := iv_add ez8 h6 (iv_c (by decide) : Iv 1 1 1) (by decide) (by decide) (by decide) (by decide)
    refine c_put (ci := 1) (C := RX1) (T := TX1) (N := 14) (j := 4) (v := z8) hx hb hT in_X1 tyX1 tyX1_ok nmX1 hown hK hP hD hS cw_4 rfl (by decide) (hT _ t213) (by decide +kernel) (by decide +kernel) rfl rfl (Nat.le_of_ble_eq_true rfl) (cs_4 (upd (s7 4) 4 z8)) dX1_addWheel_29 (fun s10 H9 locs9 es10 hP9 hD9 hS9 => ?_)
    clear hP hD hS
    have hS := hS9
    have hP := hP9
    have hD := hD9
    clear hP9 hD9 hS9
    have hBs10 : CB s10 := by rw [es10]; exact cb_sw hBs7 (ki_3_4 (hBs7 4) (iv_mono (c := 0) (d := 8) h9 (by decide) (by decide)))
    have hFs10 : FR [13, 4] st s10 := fr_sw hFs7 (List.mem_of_getElem? (i := 1) rfl) es10
    rw [hQ]
    exact W.vret hx hb hr (fun t ht hW => ⟨⟨s10, rfl, ⟨hBs10, hFs10, (Eq.trans (congrFun (sw_it es10) 0) (congrFun (sw_at es7 (by decide)) 0)), (Eq.trans (congrFun (sw_it es10) 1) (congrFun (sw_at es7 (by decide)) 1)), (Eq.trans (congrFun (sw_it es10) 2) (congrFun (sw_at es7 (by decide)) 2)), (Eq.trans (congrFun (sw_it es10) 3) (congrFun (sw_at es7 (by decide)) 3)), (Eq.trans (congrFun (sw_it es10) 5) (congrFun (sw_at es7 (by decide)) 5)), (Eq.trans (congrFun (sw_it es10) 6) (congrFun (sw_at es7 (by decide)) 6)), (eq_l (congrFun (sw_it es10) 4) h9)⟩, by rw [ht]; exact hP, va_K.moved hW.alike (hK.sub (tys' := []) [] rfl), by rw [hAe]; exact hD⟩, by rw [hAe]; exact hS.F ht⟩) hS.2.2 dX1_addWheel_32
set_option maxHeartbeats 4000000 in
set_option maxRecDepth 100000 in
theorem s_X1_addCart (l : Launch) (D : va_G) (k : Nat → ClassId) (a : Nat → Nat) (st : CT) (sl : CL) (p0 : Int32) (sz : Nat) (hB : CB st) (hp0 : Iv 0 5 p0) : Met l yX1_addCart (.code yX1_addCart cX1_addCart 2 none :: TB) (rmw 1 0 0) (va_Pc [.ref (a 4), .int p0] (PW D k sz (CWS k a st sl))) (QV D (S := CT) (fun u => CB u ∧ FR [15, 4] st u ∧ u 4 0 = st 4 0 ∧ u 4 1 = st 4 1 ∧ u 4 2 = st 4 2 ∧ u 4 3 = st 4 3 ∧ u 4 4 = st 4 4 ∧ u 4 6 = st 4 6 ∧ (True)) (fun u => CWS k a u sl) (fun _ => []) (CWS k a st sl) sz) 0 0 (va_A (CWS k a st sl) sz) := by
  refine Met.ofW (cc := cX1_addCart) (maxL := 2) (ret := none) (by decide) rfl ?_
  intro p e s m args below meth c s₁ B hml hv
  obtain ⟨rfl, hsz, hP, hK, hD0, hN⟩ := hv
  have hx := B.exec
  have hb := B.bytes
  have hr := B.returns
  have hT : ∀ w9 ∈ TB, w9.before ([.ref (a 4), .int p0] : List Value).toArray s = true := fun w9 h => atoms_spec (ws := .code yX1_addCart cX1_addCart 2 none :: TB) B.pre w9 (List.mem_cons_of_mem _ h)
  have hown : s.vm.findClass RX1 = some m.cls := findClass_of_methodNamed B.named
  have S : CallFix p m c cX1_addCart 2 s _ TB RX1 := ⟨hx, hb, hml, hown, hT⟩
  subst hsz
  have hD := hD0.self (sz := s.heap.size)
  generalize hAe : va_A (CWS k a st sl) s.heap.size = A at hD ⊢
  have hA : ∀ q : Nat, s.heap.size ≤ q → A q := fun q h => by rw [← hAe]; exact Or.inr h
  have hS : va_S A s.heap s.heap [] := va_S.rf
  have hl := lv_entry ([.ref (a 4), .int p0]) (n := 2) (Nat.le_of_ble_eq_true rfl)
  rw [lg_entry_eq]
  generalize (lg_sl ([.ref (a 4), .int p0]) ++ List.replicate (2 - (lg_sl ([.ref (a 4), .int p0])).length) Slot.unset).toArray = ls at hl ⊢
  have hl : lv_has ls 2 [(0, .ref (a 4)), (1, .int p0)] := hl
  refine nameQ (fun Q hQ => ?_)
  refine lv_aload_n hx hb dX1_addCart_0 rfl (lv_at hl 0 rfl) ?_
  refine va_get (D := D) (ci := 1) (v := .int (st 4 5)) (C := RX1) (T := TX1) (N := 14) hx hb hT in_X1 hown hK hP 4 cw_4 rfl 5 (by decide) (hT _ t216) (fun _ h9 => h9) rfl dX1_addCart_1 ?_
  have h1 : Iv 0 3 (st 4 5) := (rb_4_5 hB)
  refine lv_iconst (v := 3) hx hb dX1_addCart_4 (by decide) ?_
  refine lv_icmp_ge (tgt := 31) hx hb dX1_addCart_5 (by decide) (fun c2 => ?_) (fun c2 => ?_)
  · skip
    have n3 : (3 : Int32).toInt ≤ (st 4 5).toInt := (i_le c2)
    have h4 : Iv 3 3 (st 4 5) := le_r (iv_c (by decide) : Iv 3 3 3) n3 h1 (by decide)
    rw [hQ]
    exact W.vret hx hb hr (fun t ht hW => ⟨⟨st, rfl, ⟨hB, fr_rf, rfl, rfl, rfl, rfl, rfl, rfl, trivial⟩, by rw [ht]; exact hP, va_K.moved hW.alike (hK.sub (tys' := []) [] rfl), by rw [hAe]; exact hD⟩, by rw [hAe]; exact hS.F ht⟩) hS.2.2 dX1_addCart_31
  · skip
    have n5 : (st 4 5).toInt < (3 : Int32).toInt := (i_nle c2)
    have h6 : Iv 0 2 (st 4 5) := lt_l h1 n5 (iv_c (by decide) : Iv 3 3 3) (by decide)
    refine lv_aload_n hx hb dX1_addCart_8 rfl (lv_at hl 0 rfl) ?_
    refine va_get (D := D) (ci := 1) (v := .ref (a 11)) (C := RX1) (T := TX1) (N := 14) hx hb hT in_X1 hown hK hP 4 cw_4 rfl 13 (by decide) (hT _ t239) (fun _ h9 => h9) rfl dX1_addCart_9 ?_
    refine va_get (D := D) (ci := 5) (v := .ref (a 15)) (C := RX5) (T := TX5) (N := 5) hx hb hT in_X5 hown hK hP 11 cw_11 rfl 3 (by decide) (hT _ t178) (fun _ h9 => h9) rfl dX1_addCart_12 ?_
    refine lv_aload_n hx hb dX1_addCart_15 rfl (lv_at hl 0 rfl) ?_
    refine va_get (D := D) (ci := 1) (v := .int (st 4 5)) (C := RX1) (T := TX1) (N := 14) hx hb hT in_X1 hown hK hP 4 cw_4 rfl 5 (by decide) (hT _ t216) (fun _ h9 => h9) rfl dX1_addCart_16 ?_
    refine lv_iload_n hx hb dX1_addCart_19 rfl (lv_at hl 1 rfl) ?_
    refine c_ist hx hb hK hP hD hS cw_15 cs_15 (iv_in h6 (by decide) (by decide)) dX1_addCart_20 (fun s7 H9 locs9 es7 hP9 hD9 hS9 => ?_)
    clear hP hD hS
    have hS := hS9
    have hP := hP9
    have hD := hD9
    clear hP9 hD9 hS9
    have hBs7 : CB s7 := by rw [es7]; exact cb_sw hB (ki_2 (hB 15) hp0)
    have hFs7 : FR [15, 4] st s7 := fr_sw fr_rf (List.mem_of_getElem? (i := 0) rfl) es7
    refine lv_aload_n hx hb dX1_addCart_21 rfl (lv_at hl 0 rfl) ?_
    refine lv_dup hx hb dX1_addCart_22 rfl ?_
    refine va_get (D := D) (ci := 1) (v := .int (s7 4 5)) (C := RX1) (T := TX1) (N := 14) hx hb hT in_X1 hown hK hP 4 cw_4 rfl 5 (by decide) (hT _ t216) (fun _ h9 => h9) rfl dX1_addCart_23 ?_
    refine k_top (y := (st 4 5)) (congrFun (sw_at es7 (by decide)) 5) ?_
    refine lv_iconst (v := 1) hx hb dX1_addCart_26 (by decide) ?_
    refine lv_iadd hx hb dX1_addCart_27 ?_
    refine lv_topi (fun z8 ez8 => ?_)
    have h9 : Iv 1 3 z8 := iv_add ez8 h6 (iv_c (by decide) : Iv 1 1 1) (by decide) (by decide) (by decide) (by decide)
    refine c_put (ci := 1) (C := RX1) (T := TX1) (N := 14) (j := 5) (v := z8) hx hb hT in_X1 tyX1 tyX1_ok nmX1 hown hK hP hD hS cw_4 rfl (by decide) (hT _ t216) (by decide +kernel) (by decide +kernel) rfl rfl (Nat.le_of_ble_eq_true rfl) (cs_4 (upd (s7 4) 5 z8)) dX1_addCart_28 (fun s10 H9 locs9 es10 hP9 hD9 hS9 => ?_)
    clear hP hD hS
    have hS := hS9
    have hP := hP9
    have hD := hD9
    clear hP9 hD9 hS9
    have hBs10 : CB s10 := by rw [es10]; exact cb_sw hBs7 (ki_3_5 (hBs7 4) (iv_mono (c := 0) (d := 3) h9 (by decide) (by decide)))
    have hFs10 : FR [15, 4] st s10 := fr_sw hFs7 (List.mem_of_getElem? (i := 1) rfl) es10
    rw [hQ]
    exact W.vret hx hb hr (fun t ht hW => ⟨⟨s10, rfl, ⟨hBs10, hFs10, (Eq.trans (congrFun (sw_it es10) 0) (congrFun (sw_at es7 (by decide)) 0)), (Eq.trans (congrFun (sw_it es10) 1) (congrFun (sw_at es7 (by decide)) 1)), (Eq.trans (congrFun (sw_it es10) 2) (congrFun (sw_at es7 (by decide)) 2)), (Eq.trans (congrFun (sw_it es10) 3) (congrFun (sw_at es7 (by decide)) 3)), (Eq.trans (congrFun (sw_it es10) 4) (congrFun (sw_at es7 (by decide)) 4)), (Eq.trans (congrFun (sw_it es10) 6) (congrFun (sw_at es7 (by decide)) 6)), trivial⟩, by rw [ht]; exact hP, va_K.moved hW.alike (hK.sub (tys' := []) [] rfl), by rw [hAe]; exact hD⟩, by rw [hAe]; exact hS.F ht⟩) hS.2.2 dX1_addCart_31
set_option maxHeartbeats 4000000 in
set_option maxRecDepth 100000 in
theorem s_X1_addErrand (l : Launch) (D : va_G) (k : Nat → ClassId) (a : Nat → Nat) (st : CT) (sl : CL) (p0 : Int32) (p1 : Int32) (p2 : Int32) (sz : Nat) (hB : CB st) (hp0 : Iv 0 2 p0) (hp1 : Iv 0 5 p1) : Met l yX1_addErrand (.code yX1_addErrand cX1_addErrand 4 none :: TB) (rmw 1 0 0) (va_Pc [.ref (a 4), .int p0, .int p1, .int p2] (PW D k sz (CWS k a st sl))) (QV D (S := CT) (fun u => CB u ∧ FR [8, 9, 10, 4] st u ∧ u 4 0 = st 4 0 ∧ u 4 1 = st 4 1 ∧ u 4 2 = st 4 2 ∧ u 4 3 = st 4 3 ∧ u 4 4 = st 4 4 ∧ u 4 5 = st 4 5 ∧ (True)) (fun u => CWS k a u sl) (fun _ => []) (CWS k a st sl) sz) 0 0 (va_A (CWS k a st sl) sz) := by
  refine Met.ofW (cc := cX1_addErrand) (maxL := 4) (ret := none) (by decide) rfl ?_
  intro p e s m args below meth c s₁ B hml hv
  obtain ⟨rfl, hsz, hP, hK, hD0, hN⟩ := hv
  have hx := B.exec
  have hb := B.bytes
  have hr := B.returns
  have hT : ∀ w9 ∈ TB, w9.before ([.ref (a 4), .int p0, .int p1, .int p2] : List Value).toArray s = true := fun w9 h => atoms_spec (ws := .code yX1_addErrand cX1_addErrand 4 none :: TB) B.pre w9 (List.mem_cons_of_mem _ h)
  have hown : s.vm.findClass RX1 = some m.cls := findClass_of_methodNamed B.named
  have S : CallFix p m c cX1_addErrand 4 s _ TB RX1 := ⟨hx, hb, hml, hown, hT⟩
  subst hsz
  have hD := hD0.self (sz := s.heap.size)
  generalize hAe : va_A (CWS k a st sl) s.heap.size = A at hD ⊢
  have hA : ∀ q : Nat, s.heap.size ≤ q → A q := fun q h => by rw [← hAe]; exact Or.inr h
  have hS : va_S A s.heap s.heap [] := va_S.rf
  have hl := lv_entry ([.ref (a 4), .int p0, .int p1, .int p2]) (n := 4) (Nat.le_of_ble_eq_true rfl)
  rw [lg_entry_eq]
  generalize (lg_sl ([.ref (a 4), .int p0, .int p1, .int p2]) ++ List.replicate (4 - (lg_sl ([.ref (a 4), .int p0, .int p1, .int p2])).length) Slot.unset).toArray = ls at hl ⊢
  have hl : lv_has ls 4 [(0, .ref (a 4)), (1, .int p0), (2, .int p1), (3, .int p2)] := hl
  refine nameQ (fun Q hQ => ?_)
  refine lv_aload_n hx hb dX1_addErrand_0 rfl (lv_at hl 0 rfl) ?_
  refine va_get (D := D) (ci := 1) (v := .int (st 4 6)) (C := RX1) (T := TX1) (N := 14) hx hb hT in_X1 hown hK hP 4 cw_4 rfl 6 (by decide) (hT _ t219) (fun _ h9 => h9) rfl dX1_addErrand_1 ?_
  have h1 : Iv 0 6 (st 4 6) := (rb_4_6 hB)
  refine lv_bipush (v := 6) hx hb dX1_addErrand_4 (by decide) ?_
  refine lv_icmp_ge (tgt := 49) hx hb dX1_addErrand_6 (by decide) (fun c2 => ?_) (fun c2 => ?_)
  · skip
    have n3 : (6 : Int32).toInt ≤ (st 4 6).toInt := (i_le c2)
    have h4 : Iv 6 6 (st 4 6) := le_r (iv_c (by decide) : Iv 6 6 6) n3 h1 (by decide)
    rw [hQ]
    exact W.vret hx hb hr (fun t ht hW => ⟨⟨st, rfl, ⟨hB, fr_rf, rfl, rfl, rfl, rfl, rfl, rfl, trivial⟩, by rw [ht]; exact hP, va_K.moved hW.alike (hK.sub (tys' := []) [] rfl), by rw [hAe]; exact hD⟩, by rw [hAe]; exact hS.F ht⟩) hS.2.2 dX1_addErrand_49
  · skip
    have n5 : (st 4 6).toInt < (6 : Int32).toInt := (i_nle c2)
    have h6 : Iv 0 5 (st 4 6) := lt_l h1 n5 (iv_c (by decide) : Iv 6 6 6) (by decide)
    refine lv_aload_n hx hb dX1_addErrand_9 rfl (lv_at hl 0 rfl) ?_
    refine va_get (D := D) (ci := 1) (v := .ref (a 8)) (C := RX1) (T := TX1) (N := 14) hx hb hT in_X1 hown hK hP 4 cw_4 rfl 10 (by decide) (hT _ t233) (fun _ h9 => h9) rfl dX1_addErrand_10 ?_
    refine lv_aload_n hx hb dX1_addErrand_13 rfl (lv_at hl 0 rfl) ?_
    refine va_get (D := D) (ci := 1) (v := .int (st 4 6)) (C := RX1) (T := TX1) (N := 14) hx hb hT in_X1 hown hK hP 4 cw_4 rfl 6 (by decide) (hT _ t219) (fun _ h9 => h9) rfl dX1_addErrand_14 ?_
    refine lv_iload_n hx hb dX1_addErrand_17 rfl (lv_at hl 1 rfl) ?_
    refine c_ist hx hb hK hP hD hS cw_8 cs_8 (iv_in h6 (by decide) (by decide)) dX1_addErrand_18 (fun s7 H9 locs9 es7 hP9 hD9 hS9 => ?_)
    clear hP hD hS
    have hS := hS9
    have hP := hP9
    have hD := hD9
    clear hP9 hD9 hS9
    have hBs7 : CB s7 := by rw [es7]; exact cb_sw hB (ki_5 (hB 8) hp0)
    have hFs7 : FR [8, 9, 10, 4] st s7 := fr_sw fr_rf (List.mem_of_getElem? (i := 0) rfl) es7
    refine lv_aload_n hx hb dX1_addErrand_19 rfl (lv_at hl 0 rfl) ?_
    refine va_get (D := D) (ci := 1) (v := .ref (a 9)) (C := RX1) (T := TX1) (N := 14) hx hb hT in_X1 hown hK hP 4 cw_4 rfl 11 (by decide) (hT _ t235) (fun _ h9 => h9) rfl dX1_addErrand_20 ?_
    refine lv_aload_n hx hb dX1_addErrand_23 rfl (lv_at hl 0 rfl) ?_
    refine va_get (D := D) (ci := 1) (v := .int (s7 4 6)) (C := RX1) (T := TX1) (N := 14) hx hb hT in_X1 hown hK hP 4 cw_4 rfl 6 (by decide) (hT _ t219) (fun _ h9 => h9) rfl dX1_addErrand_24 ?_
    refine k_top (y := (st 4 6)) (congrFun (sw_at es7 (by decide)) 6) ?_
    refine lv_iload_n hx hb dX1_addErrand_27 rfl (lv_at hl 2 rfl) ?_
    refine c_ist hx hb hK hP hD hS cw_9 cs_9 (iv_in h6 (by decide) (by decide)) dX1_addErrand_28 (fun s8 H9 locs9 es8 hP9 hD9 hS9 => ?_)
    clear hP hD hS
    have hS := hS9
    have hP := hP9
    have hD := hD9
    clear hP9 hD9 hS9
    have hBs8 : CB s8 := by rw [es8]; exact cb_sw hBs7 (ki_6 (hBs7 9) hp1)
    have hFs8 : FR [8, 9, 10, 4] st s8 := fr_sw hFs7 (List.mem_of_getElem? (i := 1) rfl) es8
    refine lv_aload_n hx hb dX1_addErrand_29 rfl (lv_at hl 0 rfl) ?_
    refine va_get (D := D) (ci := 1) (v := .ref (a 10)) (C := RX1) (T := TX1) (N := 14) hx hb hT in_X1 hown hK hP 4 cw_4 rfl 12 (by decide) (hT _ t237) (fun _ h9 => h9) rfl dX1_addErrand_30 ?_
    refine lv_aload_n hx hb dX1_addErrand_33 rfl (lv_at hl 0 rfl) ?_
    refine va_get (D := D) (ci := 1) (v := .int (s8 4 6)) (C := RX1) (T := TX1) (N := 14) hx hb hT in_X1 hown hK hP 4 cw_4 rfl 6 (by decide) (hT _ t219) (fun _ h9 => h9) rfl dX1_addErrand_34 ?_
    refine k_top (y := (st 4 6)) (Eq.trans (congrFun (sw_at es8 (by decide)) 6) (congrFun (sw_at es7 (by decide)) 6)) ?_
    refine lv_iload_n hx hb dX1_addErrand_37 rfl (lv_at hl 3 rfl) ?_
    refine c_ist hx hb hK hP hD hS cw_10 cs_10 (iv_in h6 (by decide) (by decide)) dX1_addErrand_38 (fun s9 H9 locs9 es9 hP9 hD9 hS9 => ?_)
    clear hP hD hS
    have hS := hS9
    have hP := hP9
    have hD := hD9
    clear hP9 hD9 hS9
    have hBs9 : CB s9 := by rw [es9]; exact cb_sw hBs8 trivial
    have hFs9 : FR [8, 9, 10, 4] st s9 := fr_sw hFs8 (List.mem_of_getElem? (i := 2) rfl) es9
    refine lv_aload_n hx hb dX1_addErrand_39 rfl (lv_at hl 0 rfl) ?_
    refine lv_dup hx hb dX1_addErrand_40 rfl ?_
    refine va_get (D := D) (ci := 1) (v := .int (s9 4 6)) (C := RX1) (T := TX1) (N := 14) hx hb hT in_X1 hown hK hP 4 cw_4 rfl 6 (by decide) (hT _ t219) (fun _ h9 => h9) rfl dX1_addErrand_41 ?_
    refine k_top (y := (st 4 6)) (Eq.trans (congrFun (sw_at es9 (by decide)) 6) (Eq.trans (congrFun (sw_at es8 (by decide)) 6) (congrFun (sw_at es7 (by decide)) 6))) ?_
    refine lv_iconst (v := 1) hx hb dX1_addErrand_44 (by decide) ?_
    refine lv_iadd hx hb dX1_addErrand_45 ?_
    refine lv_topi (fun z10 ez10 => ?_)
    have h11 : Iv 1 6 z10 := iv_add ez10 h6 (iv_c (by decide) : Iv 1 1 1) (by decide) (by decide) (by decide) (by decide)
    refine c_put (ci := 1) (C := RX1) (T := TX1) (N := 14) (j := 6) (v := z10) hx hb hT in_X1 tyX1 tyX1_ok nmX1 hown hK hP hD hS cw_4 rfl (by decide) (hT _ t219) (by decide +kernel) (by decide +kernel) rfl rfl (Nat.le_of_ble_eq_true rfl) (cs_4 (upd (s9 4) 6 z10)) dX1_addErrand_46 (fun s12 H9 locs9 es12 hP9 hD9 hS9 => ?_)
    clear hP hD hS
    have hS := hS9
    have hP := hP9
    have hD := hD9
    clear hP9 hD9 hS9
    have hBs12 : CB s12 := by rw [es12]; exact cb_sw hBs9 (ki_3_6 (hBs9 4) (iv_mono (c := 0) (d := 6) h11 (by decide) (by decide)))
    have hFs12 : FR [8, 9, 10, 4] st s12 := fr_sw hFs9 (List.mem_of_getElem? (i := 3) rfl) es12
    rw [hQ]
    exact W.vret hx hb hr (fun t ht hW => ⟨⟨s12, rfl, ⟨hBs12, hFs12, (Eq.trans (congrFun (sw_it es12) 0) (Eq.trans (congrFun (sw_at es9 (by decide)) 0) (Eq.trans (congrFun (sw_at es8 (by decide)) 0) (congrFun (sw_at es7 (by decide)) 0)))), (Eq.trans (congrFun (sw_it es12) 1) (Eq.trans (congrFun (sw_at es9 (by decide)) 1) (Eq.trans (congrFun (sw_at es8 (by decide)) 1) (congrFun (sw_at es7 (by decide)) 1)))), (Eq.trans (congrFun (sw_it es12) 2) (Eq.trans (congrFun (sw_at es9 (by decide)) 2) (Eq.trans (congrFun (sw_at es8 (by decide)) 2) (congrFun (sw_at es7 (by decide)) 2)))), (Eq.trans (congrFun (sw_it es12) 3) (Eq.trans (congrFun (sw_at es9 (by decide)) 3) (Eq.trans (congrFun (sw_at es8 (by decide)) 3) (congrFun (sw_at es7 (by decide)) 3)))), (Eq.trans (congrFun (sw_it es12) 4) (Eq.trans (congrFun (sw_at es9 (by decide)) 4) (Eq.trans (congrFun (sw_at es8 (by decide)) 4) (congrFun (sw_at es7 (by decide)) 4)))), (Eq.trans (congrFun (sw_it es12) 5) (Eq.trans (congrFun (sw_at es9 (by decide)) 5) (Eq.trans (congrFun (sw_at es8 (by decide)) 5) (congrFun (sw_at es7 (by decide)) 5)))), trivial⟩, by rw [ht]; exact hP, va_K.moved hW.alike (hK.sub (tys' := []) [] rfl), by rw [hAe]; exact hD⟩, by rw [hAe]; exact hS.F ht⟩) hS.2.2 dX1_addErrand_49
set_option maxHeartbeats 4000000 in
set_option maxRecDepth 100000 in
theorem s_X6_hasRoom (l : Launch) (D : va_G) (k : Nat → ClassId) (a : Nat → Nat) (st : CT) (sl : CL) (sz : Nat) (hB : CB st)  : Met l yX6_hasRoom (.code yX6_hasRoom cX6_hasRoom 1 (some .boolean) :: TB) (rmk 1) (va_Pc [.ref (a 2)] (PW D k sz (CWS k a st sl))) (vp_Si (fun r => (r = 1 ∧ (True)) ∨ (r = 0 ∧ (True)))) 0 0 (fun _ => False) := by
  refine Met.ofW (cc := cX6_hasRoom) (maxL := 1) (ret := (some .boolean)) (by decide) rfl ?_
  intro p e s m args below meth c s₁ B hml hv
  obtain ⟨rfl, hsz, hP, hK, hD0, hN⟩ := hv
  have hx := B.exec
  have hb := B.bytes
  have hr := B.returns
  have hT : ∀ w9 ∈ TB, w9.before ([.ref (a 2)] : List Value).toArray s = true := fun w9 h => atoms_spec (ws := .code yX6_hasRoom cX6_hasRoom 1 (some .boolean) :: TB) B.pre w9 (List.mem_cons_of_mem _ h)
  have hown : s.vm.findClass RX6 = some m.cls := findClass_of_methodNamed B.named
  have S : CallFix p m c cX6_hasRoom 1 s _ TB RX6 := ⟨hx, hb, hml, hown, hT⟩
  subst hsz
  have hl := lv_entry ([.ref (a 2)]) (n := 1) (Nat.le_of_ble_eq_true rfl)
  rw [lg_entry_eq]
  generalize (lg_sl ([.ref (a 2)]) ++ List.replicate (1 - (lg_sl ([.ref (a 2)])).length) Slot.unset).toArray = ls at hl ⊢
  have hl : lv_has ls 1 [(0, .ref (a 2))] := hl
  refine nameQ (fun Q hQ => ?_)
  refine lv_aload_n hx hb dX6_hasRoom_0 rfl (lv_at hl 0 rfl) ?_
  refine va_get (D := D) (ci := 6) (v := .int (st 2 1)) (C := RX6) (T := TX6) (N := 2) hx hb hT in_X6 hown hK hP 2 cw_2 rfl 1 (by decide) (hT _ t144) (fun _ h9 => h9) rfl dX6_hasRoom_1 ?_
  have h1 : Iv 0 1000 (st 2 1) := (rb_2_1 hB)
  refine lv_bipush (v := 20) hx hb dX6_hasRoom_4 (by decide) ?_
  refine lv_iadd hx hb dX6_hasRoom_6 ?_
  refine lv_topi (fun z2 ez2 => ?_)
  have h3 : Iv 20 1020 z2 := iv_add ez2 h1 (iv_c (by decide) : Iv 20 20 20) (by decide) (by decide) (by decide) (by decide)
  refine lv_sipush (v := 1000) hx hb dX6_hasRoom_7 (by decide) ?_
  refine lv_icmp_gt (tgt := 17) hx hb dX6_hasRoom_10 (by decide) (fun c4 => ?_) (fun c4 => ?_)
  · skip
    have n5 : (1000 : Int32).toInt < z2.toInt := (i_lt c4)
    have h6 : Iv 1001 1020 z2 := lt_r (iv_c (by decide) : Iv 1000 1000 1000) n5 h3 (by decide)
    have h7 : Iv 981 1000 (st 2 1) := (by have e9 := ti_add ez2 h1 (iv_c (by decide) : Iv 20 20 20) (by decide) (by decide); obtain ⟨y1, y2⟩ := id (h6); obtain ⟨y3, y4⟩ := id (h1); have y5 : (20 : Int32).toInt = 20 := rfl; exact ⟨by omega, by omega⟩)
    refine lv_iconst (v := 0) hx hb dX6_hasRoom_17 (by decide) ?_
    rw [hQ]
    exact W.zret (v := 0) (ty := .boolean) hx hb hr rfl (fun t ht hW => ⟨0, rfl, Or.inr ⟨rfl, trivial⟩, ht⟩) (fun _ h9 => by cases h9) dX6_hasRoom_18
  · skip
    have n8 : z2.toInt ≤ (1000 : Int32).toInt := (i_nlt c4)
    have h9 : Iv 20 1000 z2 := le_l h3 n8 (iv_c (by decide) : Iv 1000 1000 1000) (by decide)
    have h10 : Iv 0 980 (st 2 1) := (by have e9 := ti_add ez2 h1 (iv_c (by decide) : Iv 20 20 20) (by decide) (by decide); obtain ⟨y1, y2⟩ := id (h9); obtain ⟨y3, y4⟩ := id (h1); have y5 : (20 : Int32).toInt = 20 := rfl; exact ⟨by omega, by omega⟩)
    refine lv_iconst (v := 1) hx hb dX6_hasRoom_13 (by decide) ?_
    refine lv_goto (tgt := 18) hx hb dX6_hasRoom_14 (by decide) ?_
    rw [hQ]
    exact W.zret (v := 1) (ty := .boolean) hx hb hr rfl (fun t ht hW => ⟨1, rfl, Or.inl ⟨rfl, trivial⟩, ht⟩) (fun _ h9 => by cases h9) dX6_hasRoom_18
set_option maxHeartbeats 4000000 in
set_option maxRecDepth 100000 in
theorem s_X6_append (l : Launch) (D : va_G) (k : Nat → ClassId) (a : Nat → Nat) (st : CT) (sl : CL) (p0 : Int32) (sz : Nat) (hB : CB st)  : Met l yX6_append (.code yX6_append cX6_append 3 none :: TB) (rmw 1 0 0) (va_Pc [.ref (a 2), .int p0] (PW D k sz (CWS k a st sl))) (QV D (S := CT) (fun u => CB u ∧ FR [3, 2] st u ∧ (True)) (fun u => CWS k a u sl) (fun _ => []) (CWS k a st sl) sz) 0 0 (va_A (CWS k a st sl) sz) := by
  refine Met.ofW (cc := cX6_append) (maxL := 3) (ret := none) (by decide) rfl ?_
  intro p e s m args below meth c s₁ B hml hv
  obtain ⟨rfl, hsz, hP, hK, hD0, hN⟩ := hv
  have hx := B.exec
  have hb := B.bytes
  have hr := B.returns
  have hT : ∀ w9 ∈ TB, w9.before ([.ref (a 2), .int p0] : List Value).toArray s = true := fun w9 h => atoms_spec (ws := .code yX6_append cX6_append 3 none :: TB) B.pre w9 (List.mem_cons_of_mem _ h)
  have hown : s.vm.findClass RX6 = some m.cls := findClass_of_methodNamed B.named
  have S : CallFix p m c cX6_append 3 s _ TB RX6 := ⟨hx, hb, hml, hown, hT⟩
  subst hsz
  have hD := hD0.self (sz := s.heap.size)
  generalize hAe : va_A (CWS k a st sl) s.heap.size = A at hD ⊢
  have hA : ∀ q : Nat, s.heap.size ≤ q → A q := fun q h => by rw [← hAe]; exact Or.inr h
  have hS : va_S A s.heap s.heap [] := va_S.rf
  have hl := lv_entry ([.ref (a 2), .int p0]) (n := 3) (Nat.le_of_ble_eq_true rfl)
  rw [lg_entry_eq]
  generalize (lg_sl ([.ref (a 2), .int p0]) ++ List.replicate (3 - (lg_sl ([.ref (a 2), .int p0])).length) Slot.unset).toArray = ls at hl ⊢
  have hl : lv_has ls 3 [(0, .ref (a 2)), (1, .int p0)] := hl
  refine nameQ (fun Q hQ => ?_)
  refine lv_bipush (v := 24) hx hb dX6_append_0 (by decide) ?_
  refine lv_istore_n (lv' := [(2, .int 24), (0, .ref (a 2)), (1, .int p0)]) hx hb dX6_append_2 rfl hl (by decide) rfl (fun ls hl => ?_)
  have lp3 : ∀ (n9_3 : Nat) (v2_3 : Int32) (t3 : CT) (H9 : Heap) (locs9 : List Loc) (ls : Array Slot), Iv (-8) 24 v2_3 → CB t3 → FR [3, 2] st t3 → va_P D vwCl (CWS k a t3 sl) H9 → va_D A (CWS k a t3 sl) → va_S A s.heap H9 locs9 → lv_has ls 3 [(2, .int v2_3), (0, .ref (a 2)), (1, .int p0)] → v2_3.toInt - ((-8) : Int) < (n9_3 : Int) → W p l e (rmw 1 0 0) s m ([.ref (a 2), .int p0] : List Value).toArray below meth c H9 locs9 0 0 Q (F0 m 3 ls []) := by
    clear hl hP hD hS
    intro n9_3
    induction n9_3 with
    | zero =>
      intro v2_3 t3 H9 locs9 ls iv2_3 hBt3 gt3 hP hD hS hl hm3
      exact (fd_0 iv2_3 hm3).elim
    | succ n9_3 ih3 =>
      intro v2_3 t3 H9 locs9 ls iv2_3 hBt3 gt3 hP hD hS hl hm3
      have hFt3 : FR [3, 2] st t3 := fr_ca fr_rf gt3 (sub_1 (List.mem_of_getElem? (i := 0) rfl) (sub_1 (List.mem_of_getElem? (i := 1) rfl) sub_0))
      refine lv_iload_n hx hb dX6_append_3 rfl (lv_at hl 0 rfl) ?_
      refine lv_if_lt (tgt := 46) hx hb dX6_append_4 (by decide) (fun c98 => ?_) (fun c98 => ?_)
      · skip
        have n99 : v2_3.toInt < (0 : Int32).toInt := (i_lt c98)
        have h100 : Iv (-8) (-1) v2_3 := lt_l iv2_3 n99 (iv_c (by decide) : Iv 0 0 0) (by decide)
        rw [hQ]
        exact W.vret hx hb hr (fun t ht hW => ⟨⟨t3, rfl, ⟨hBt3, hFt3, trivial⟩, by rw [ht]; exact hP, va_K.moved hW.alike (hK.sub (tys' := []) [] rfl), by rw [hAe]; exact hD⟩, by rw [hAe]; exact hS.F ht⟩) hS.2.2 dX6_append_46
      · skip
        have n101 : (0 : Int32).toInt ≤ v2_3.toInt := (i_nlt c98)
        have h102 : Iv 0 24 v2_3 := le_r (iv_c (by decide) : Iv 0 0 0) n101 iv2_3 (by decide)
        refine lv_aload_n hx hb dX6_append_7 rfl (lv_at hl 1 rfl) ?_
        refine va_get (D := D) (ci := 6) (v := .int (t3 2 1)) (C := RX6) (T := TX6) (N := 2) hx hb hT in_X6 hown hK hP 2 cw_2 rfl 1 (by decide) (hT _ t144) (fun _ h9 => h9) rfl dX6_append_8 ?_
        have h103 : Iv 0 1000 (t3 2 1) := (rb_2_1 hBt3)
        refine lv_sipush (v := 1000) hx hb dX6_append_11 (by decide) ?_
        refine lv_icmp_ge (tgt := 40) hx hb dX6_append_14 (by decide) (fun c104 => ?_) (fun c104 => ?_)
        · skip
          have n105 : (1000 : Int32).toInt ≤ (t3 2 1).toInt := (i_le c104)
          have h106 : Iv 1000 1000 (t3 2 1) := le_r (iv_c (by decide) : Iv 1000 1000 1000) n105 h103 (by decide)
          obtain ⟨z107, ez107⟩ : ∃ z9 : Int32, z9 = v2_3 + Int32.ofInt (-8) := ⟨_, rfl⟩
          have h108 : Iv (-8) 16 z107 := iv_inc ez107 h102 (by decide) (by decide) (by decide) (by decide) (by decide) (by decide)
          refine lv_iinc (v := z107) (lv' := [(2, .int z107), (0, .ref (a 2)), (1, .int p0)]) hx hb dX6_append_40 hl (k := 0) rfl ez107.symm (by decide) rfl (fun ls hl => ?_)
          refine lv_goto (tgt := 3) hx hb dX6_append_43 (by decide) ?_
          exact ih3 z107 t3 _ _ _ (iv_mono (c := (-8)) (d := 24) h108 (by decide) (by decide)) hBt3 gt3 hP hD hS (lv_sub hl [0, 1, 2] rfl) (fd_s (ti_inc ez107 h102 (by decide) (by decide) (by decide) (by decide)) (by decide) hm3)
        · skip
          have n109 : (t3 2 1).toInt < (1000 : Int32).toInt := (i_nle c104)
          have h110 : Iv 0 999 (t3 2 1) := lt_l h103 n109 (iv_c (by decide) : Iv 1000 1000 1000) (by decide)
          refine lv_aload_n hx hb dX6_append_17 rfl (lv_at hl 1 rfl) ?_
          refine va_get (D := D) (ci := 6) (v := .ref (a 3)) (C := RX6) (T := TX6) (N := 2) hx hb hT in_X6 hown hK hP 2 cw_2 rfl 0 (by decide) (hT _ t143) (fun _ h9 => h9) rfl dX6_append_18 ?_
          refine lv_aload_n hx hb dX6_append_21 rfl (lv_at hl 1 rfl) ?_
          refine va_get (D := D) (ci := 6) (v := .int (t3 2 1)) (C := RX6) (T := TX6) (N := 2) hx hb hT in_X6 hown hK hP 2 cw_2 rfl 1 (by decide) (hT _ t144) (fun _ h9 => h9) rfl dX6_append_22 ?_
          refine lv_iload_n hx hb dX6_append_25 rfl (lv_at hl 2 rfl) ?_
          refine lv_iload_n hx hb dX6_append_26 rfl (lv_at hl 0 rfl) ?_
          refine lv_ishr hx hb dX6_append_27 ?_
          refine lv_topi (fun z111 ez111 => ?_)
          refine lv_i2b hx hb dX6_append_28 rfl ?_
          refine lv_topi (fun z112 ez112 => ?_)
          refine c_bst hx hb hK hP hD hS cw_3 cs_3 (iv_in h110 (by decide) (by decide)) dX6_append_29 (fun s113 H9 locs9 es113 hP9 hD9 hS9 => ?_)
          clear hP hD hS
          have hS := hS9
          have hP := hP9
          have hD := hD9
          clear hP9 hD9 hS9
          have hBs113 : CB s113 := by rw [es113]; exact cb_sw hBt3 trivial
          have hFs113 : FR [3, 2] st s113 := fr_sw hFt3 (List.mem_of_getElem? (i := 0) rfl) es113
          refine lv_aload_n hx hb dX6_append_30 rfl (lv_at hl 1 rfl) ?_
          refine lv_dup hx hb dX6_append_31 rfl ?_
          refine va_get (D := D) (ci := 6) (v := .int (s113 2 1)) (C := RX6) (T := TX6) (N := 2) hx hb hT in_X6 hown hK hP 2 cw_2 rfl 1 (by decide) (hT _ t144) (fun _ h9 => h9) rfl dX6_append_32 ?_
          refine k_top (y := (t3 2 1)) (congrFun (sw_at es113 (by decide)) 1) ?_
          refine lv_iconst (v := 1) hx hb dX6_append_35 (by decide) ?_
          refine lv_iadd hx hb dX6_append_36 ?_
          refine lv_topi (fun z114 ez114 => ?_)
          have h115 : Iv 1 1000 z114 := iv_add ez114 h110 (iv_c (by decide) : Iv 1 1 1) (by decide) (by decide) (by decide) (by decide)
          refine c_put (ci := 6) (C := RX6) (T := TX6) (N := 2) (j := 1) (v := z114) hx hb hT in_X6 tyX6 tyX6_ok nmX6 hown hK hP hD hS cw_2 rfl (by decide) (hT _ t144) (by decide +kernel) (by decide +kernel) rfl rfl (Nat.le_of_ble_eq_true rfl) (cs_2 (upd (s113 2) 1 z114)) dX6_append_37 (fun s116 H9 locs9 es116 hP9 hD9 hS9 => ?_)
          clear hP hD hS
          have hS := hS9
          have hP := hP9
          have hD := hD9
          clear hP9 hD9 hS9
          have hBs116 : CB s116 := by rw [es116]; exact cb_sw hBs113 (ki_8_1 (hBs113 2) (iv_mono (c := 0) (d := 1000) h115 (by decide) (by decide)))
          have hFs116 : FR [3, 2] st s116 := fr_sw hFs113 (List.mem_of_getElem? (i := 1) rfl) es116
          obtain ⟨z117, ez117⟩ : ∃ z9 : Int32, z9 = v2_3 + Int32.ofInt (-8) := ⟨_, rfl⟩
          have h118 : Iv (-8) 16 z117 := iv_inc ez117 h102 (by decide) (by decide) (by decide) (by decide) (by decide) (by decide)
          refine lv_iinc (v := z117) (lv' := [(2, .int z117), (0, .ref (a 2)), (1, .int p0)]) hx hb dX6_append_40 hl (k := 0) rfl ez117.symm (by decide) rfl (fun ls hl => ?_)
          refine lv_goto (tgt := 3) hx hb dX6_append_43 (by decide) ?_
          exact ih3 z117 s116 _ _ _ (iv_mono (c := (-8)) (d := 24) h118 (by decide) (by decide)) hBs116 (fr_sw (fr_sw gt3 (List.mem_of_getElem? (i := 0) rfl) es113) (List.mem_of_getElem? (i := 1) rfl) es116) hP hD hS (lv_sub hl [0, 1, 2] rfl) (fd_s (ti_inc ez117 h102 (by decide) (by decide) (by decide) (by decide)) (by decide) hm3)
  exact lp3 33 24 st _ _ _ (iv_mono (c := (-8)) (d := 24) (iv_c (by decide) : Iv 24 24 24) (by decide) (by decide)) hB fr_rf hP hD hS (lv_sub hl [0, 1, 2] rfl) (fd_i (iv_mono (c := (-8)) (d := 24) (iv_c (by decide) : Iv 24 24 24) (by decide) (by decide)) (by decide))
set_option maxHeartbeats 4000000 in
set_option maxRecDepth 100000 in
theorem s_X6_byteAt (l : Launch) (D : va_G) (k : Nat → ClassId) (a : Nat → Nat) (st : CT) (sl : CL) (p0 : Int32) (sz : Nat) (hB : CB st)  : Met l yX6_byteAt (.code yX6_byteAt cX6_byteAt 2 (some .int) :: TB) (rmk 1) (va_Pc [.ref (a 2), .int p0] (PW D k sz (CWS k a st sl))) (vp_Si (fun r => Iv (-1) 255 r ∧ (True))) 0 0 (fun _ => False) := by
  refine Met.ofW (cc := cX6_byteAt) (maxL := 2) (ret := (some .int)) (by decide) rfl ?_
  intro p e s m args below meth c s₁ B hml hv
  obtain ⟨rfl, hsz, hP, hK, hD0, hN⟩ := hv
  have hx := B.exec
  have hb := B.bytes
  have hr := B.returns
  have hT : ∀ w9 ∈ TB, w9.before ([.ref (a 2), .int p0] : List Value).toArray s = true := fun w9 h => atoms_spec (ws := .code yX6_byteAt cX6_byteAt 2 (some .int) :: TB) B.pre w9 (List.mem_cons_of_mem _ h)
  have hown : s.vm.findClass RX6 = some m.cls := findClass_of_methodNamed B.named
  have S : CallFix p m c cX6_byteAt 2 s _ TB RX6 := ⟨hx, hb, hml, hown, hT⟩
  subst hsz
  have hl := lv_entry ([.ref (a 2), .int p0]) (n := 2) (Nat.le_of_ble_eq_true rfl)
  rw [lg_entry_eq]
  generalize (lg_sl ([.ref (a 2), .int p0]) ++ List.replicate (2 - (lg_sl ([.ref (a 2), .int p0])).length) Slot.unset).toArray = ls at hl ⊢
  have hl : lv_has ls 2 [(0, .ref (a 2)), (1, .int p0)] := hl
  refine nameQ (fun Q hQ => ?_)
  refine lv_iload_n hx hb dX6_byteAt_0 rfl (lv_at hl 1 rfl) ?_
  refine lv_if_lt (tgt := 25) hx hb dX6_byteAt_1 (by decide) (fun c1 => ?_) (fun c1 => ?_)
  · skip
    have n2 : p0.toInt < (0 : Int32).toInt := (i_lt c1)
    have h3 : Iv (-2147483648) (-1) p0 := lt_l (iv_full p0) n2 (iv_c (by decide) : Iv 0 0 0) (by decide)
    refine lv_iconst (v := (-1)) hx hb dX6_byteAt_25 (by decide) ?_
    rw [hQ]
    exact W.iret (v := (-1)) hx hb hr (fun t ht hW => ⟨(-1), rfl, ⟨(iv_mono (c := (-1)) (d := 255) (iv_c (by decide) : Iv (-1) (-1) (-1)) (by decide) (by decide)), trivial⟩, ht⟩) (fun _ h9 => by cases h9) dX6_byteAt_26
  · skip
    have n4 : (0 : Int32).toInt ≤ p0.toInt := (i_nlt c1)
    have h5 : Iv 0 2147483647 p0 := le_r (iv_c (by decide) : Iv 0 0 0) n4 (iv_full p0) (by decide)
    refine lv_iload_n hx hb dX6_byteAt_4 rfl (lv_at hl 1 rfl) ?_
    refine lv_aload_n hx hb dX6_byteAt_5 rfl (lv_at hl 0 rfl) ?_
    refine va_get (D := D) (ci := 6) (v := .int (st 2 1)) (C := RX6) (T := TX6) (N := 2) hx hb hT in_X6 hown hK hP 2 cw_2 rfl 1 (by decide) (hT _ t144) (fun _ h9 => h9) rfl dX6_byteAt_6 ?_
    have h6 : Iv 0 1000 (st 2 1) := (rb_2_1 hB)
    refine lv_icmp_ge (tgt := 25) hx hb dX6_byteAt_9 (by decide) (fun c7 => ?_) (fun c7 => ?_)
    · skip
      have n8 : (st 2 1).toInt ≤ p0.toInt := (i_le c7)
      refine lv_iconst (v := (-1)) hx hb dX6_byteAt_25 (by decide) ?_
      rw [hQ]
      exact W.iret (v := (-1)) hx hb hr (fun t ht hW => ⟨(-1), rfl, ⟨(iv_mono (c := (-1)) (d := 255) (iv_c (by decide) : Iv (-1) (-1) (-1)) (by decide) (by decide)), trivial⟩, ht⟩) (fun _ h9 => by cases h9) dX6_byteAt_26
    · skip
      have n9 : p0.toInt < (st 2 1).toInt := (i_nle c7)
      have h10 : Iv 0 999 p0 := lt_l h5 n9 h6 (by decide)
      have h11 : Iv 1 1000 (st 2 1) := lt_r h5 n9 h6 (by decide)
      refine lv_aload_n hx hb dX6_byteAt_12 rfl (lv_at hl 0 rfl) ?_
      refine va_get (D := D) (ci := 6) (v := .ref (a 3)) (C := RX6) (T := TX6) (N := 2) hx hb hT in_X6 hown hK hP 2 cw_2 rfl 0 (by decide) (hT _ t143) (fun _ h9 => h9) rfl dX6_byteAt_13 ?_
      refine lv_iload_n hx hb dX6_byteAt_16 rfl (lv_at hl 1 rfl) ?_
      refine va_bald hx hb hK hP 3 1 cw_3 rfl (iv_in h10 (by decide) (by decide)) dX6_byteAt_17 ?_
      refine lv_topi (fun z12 ez12 => ?_)
      refine lv_sipush (v := 255) hx hb dX6_byteAt_18 (by decide) ?_
      refine lv_iand hx hb dX6_byteAt_21 ?_
      refine lv_topi (fun z13 ez13 => ?_)
      have h14 : Iv 0 255 z13 := iv_andr ez13 (iv_mono (c := 0) (d := 255) (iv_c (by decide) : Iv 255 255 255) (by decide) (by decide))
      refine lv_goto (tgt := 26) hx hb dX6_byteAt_22 (by decide) ?_
      rw [hQ]
      exact W.iret (v := z13) hx hb hr (fun t ht hW => ⟨z13, rfl, ⟨(iv_mono (c := (-1)) (d := 255) h14 (by decide) (by decide)), trivial⟩, ht⟩) (fun _ h9 => by cases h9) dX6_byteAt_26
