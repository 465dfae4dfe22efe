set_option maxHeartbeats 4000000 in
set_option maxRecDepth 100000 in
theorem s_X3_lookFrom_4 (l : Launch) (D : va_G) (k : Nat → ClassId) (a : Nat → Nat) (st : CT) (sl : CL) (p0 : Int32) (p1 : Int32) (sz : Nat) (hB : CB st) (hp0 : Iv 4 4 p0) (hc : Iv 0 2 (st 126 7)) : Met l yX3_lookFrom (.code yX3_lookFrom cX3_lookFrom 10 none :: TB) (rmw 2 0 0) (va_Pc [.ref (a 126), .ref (a 18), .int p0, .int p1] (PW D k sz (CWS k a st sl))) (QV D (S := CT) (fun u => CB u ∧ FR [126, 161] st u ∧ u 126 7 = st 126 7 ∧ u 126 8 = st 126 8 ∧ u 126 9 = st 126 9 ∧ (True)) (fun u => CWS k a u sl) (fun _ => []) (CWS k a st sl) sz) 0 0 (va_A (CWS k a st sl) sz) := by
  refine Met.ofW (cc := cX3_lookFrom) (maxL := 10) (ret := none) (by decide) rfl ?_
  intro p e s m args below meth c s₁ B hml hv
  obtain ⟨rfl, hsz, hP, hK, hD0, hN⟩ := hv
  have hx := B.exec
  have hb := B.bytes
  have hr := B.returns
  have hT : ∀ w9 ∈ TB, w9.before ([.ref (a 126), .ref (a 18), .int p0, .int p1] : List Value).toArray s = true := fun w9 h => atoms_spec (ws := .code yX3_lookFrom cX3_lookFrom 10 none :: TB) B.pre w9 (List.mem_cons_of_mem _ h)
  have hown : s.vm.findClass RX3 = some m.cls := findClass_of_methodNamed B.named
  have S : CallFix p m c cX3_lookFrom 10 s _ TB RX3 := ⟨hx, hb, hml, hown, hT⟩
  subst hsz
  have hD := hD0.self (sz := s.heap.size)
  generalize hAe : va_A (CWS k a st sl) s.heap.size = A at hD ⊢
  have hA : ∀ q : Nat, s.heap.size ≤ q → A q := fun q h => by rw [← hAe]; exact Or.inr h
  have hS : va_S A s.heap s.heap [] := va_S.rf
  have hl := lv_entry ([.ref (a 126), .ref (a 18), .int p0, .int p1]) (n := 10) (Nat.le_of_ble_eq_true rfl)
  rw [lg_entry_eq]
  generalize (lg_sl ([.ref (a 126), .ref (a 18), .int p0, .int p1]) ++ List.replicate (10 - (lg_sl ([.ref (a 126), .ref (a 18), .int p0, .int p1])).length) Slot.unset).toArray = ls at hl ⊢
  have hl : lv_has ls 10 [(0, .ref (a 126)), (1, .ref (a 18)), (2, .int p0), (3, .int p1)] := hl
  refine nameQ (fun Q hQ => ?_)
  refine lv_aload_n hx hb dX3_lookFrom_0 rfl (lv_at hl 0 rfl) ?_
  refine va_get (D := D) (ci := 3) (v := .ref (a 127)) (C := RX3) (T := TX3) (N := 10) hx hb hT in_X3 hown hK hP 126 cw_126 rfl 0 (by decide) (hT _ t400) (fun _ h9 => h9) rfl dX3_lookFrom_1 ?_
  refine lv_iload_n hx hb dX3_lookFrom_4 rfl (lv_at hl 2 rfl) ?_
  rcases iv_ca1 hp0 4 (by decide) (by decide) with q9
  · refine k_top (y := 4) q9 ?_
    have h1 : Iv 4 4 p0 := (by rw [q9]; exact iv_c (by decide))
    have q2 := q9
    refine va_aldq hx hb hK hP 127 5 cw_127 rfl (by unfold vp_in; decide) dX3_lookFrom_5 ?_
    refine W.eq (g2 := F0 m 6 ls [.ref (a 152)]) rfl ?_
    refine lv_astore (lv' := [(4, .ref (a 152)), (0, .ref (a 126)), (1, .ref (a 18)), (2, .int p0), (3, .int p1)]) hx hb dX3_lookFrom_6 hl (by decide) rfl (fun ls hl => ?_)
    refine lv_aload hx hb dX3_lookFrom_8 (lv_at hl 0 rfl) ?_
    refine va_get (D := D) (ci := 5) (v := .ref (a 156)) (C := RX5) (T := TX5) (N := 5) hx hb hT in_X5 hown hK hP 152 cw_152 rfl 3 (by decide) (hT _ t179) (fun _ h9 => h9) rfl dX3_lookFrom_10 ?_
    refine lv_aload_n hx hb dX3_lookFrom_13 rfl (lv_at hl 1 rfl) ?_
    refine va_get (D := D) (ci := 3) (v := .int (st 126 7)) (C := RX3) (T := TX3) (N := 10) hx hb hT in_X3 hown hK hP 126 cw_126 rfl 7 (by decide) (hT _ t411) (fun _ h9 => h9) rfl dX3_lookFrom_14 ?_
    refine va_iald hx hb hK hP 156 0 cw_156 rfl (iv_in hc (by decide) (by decide)) dX3_lookFrom_17 ?_
    refine lv_topi (fun z3 ez3 => ?_)
    have h4 : Iv 0 5 z3 := by rw [ez3]; exact (rb_156 hB (vp_in_lt (iv_in hc (by decide) (by decide))))
    refine lv_istore (lv' := [(5, .int z3), (4, .ref (a 152)), (0, .ref (a 126)), (1, .ref (a 18)), (2, .int p0), (3, .int p1)]) hx hb dX3_lookFrom_18 hl (by decide) rfl (fun ls hl => ?_)
    refine lv_iload hx hb dX3_lookFrom_20 (lv_at hl 0 rfl) ?_
    refine lv_aload_n hx hb dX3_lookFrom_22 rfl (lv_at hl 2 rfl) ?_
    refine va_get (D := D) (ci := 3) (v := .int (st 126 8)) (C := RX3) (T := TX3) (N := 10) hx hb hT in_X3 hown hK hP 126 cw_126 rfl 8 (by decide) (hT _ t412) (fun _ h9 => h9) rfl dX3_lookFrom_23 ?_
    refine lv_icmp_ne (tgt := 36) hx hb dX3_lookFrom_26 (by decide) (fun c5 => ?_) (fun c5 => ?_)
    · skip
      refine lv_iload_n hx hb dX3_lookFrom_36 rfl (lv_at hl 4 rfl) ?_
      refine lv_iconst (v := 4) hx hb dX3_lookFrom_37 (by decide) ?_
      refine lv_icmp_lt (tgt := 42) hx hb dX3_lookFrom_38 (by decide) (fun c6 => ?_) (fun c6 => ?_)
      · skip
        have n7 : p0.toInt < (4 : Int32).toInt := (i_lt c6)
        exact (iv_no (lt_l (u := 3) h1 n7 (iv_c (by decide) : Iv 4 4 4) (by decide)) (by decide)).elim
      · skip
        have n8 : (4 : Int32).toInt ≤ p0.toInt := (i_nlt c6)
        rw [hQ]
        exact W.vret hx hb hr (fun t ht hW => ⟨⟨st, rfl, ⟨hB, fr_rf, rfl, rfl, rfl, trivial⟩, by rw [ht]; exact hP, va_K.moved hW.alike (hK.sub (tys' := []) [] rfl), by rw [hAe]; exact hD⟩, by rw [hAe]; exact hS.F ht⟩) hS.2.2 dX3_lookFrom_41
    · skip
      have h9 : Iv 0 5 (st 126 8) := eq_l c5.symm h4
      refine lv_aload_n hx hb dX3_lookFrom_29 rfl (lv_at hl 2 rfl) ?_
      refine lv_iload_n hx hb dX3_lookFrom_30 rfl (lv_at hl 4 rfl) ?_
      refine lv_iload_n hx hb dX3_lookFrom_31 rfl (lv_at hl 5 rfl) ?_
      refine ca_v hP hD hS hA (fun hDc => run_V (mc := 0) (ms := 0) (As := [.int p0, .int p1]) (rest := []) S (s_X3_keepIfBetter l D k a st sl  p0 p1 _  hB (iv_mono (c := 0) (d := 4) h1 (by decide) (by decide)) ) lkX3_92 ok_X3_keepIfBetter ⟨rfl, rfl, Nat.le_of_ble_eq_true rfl, Nat.le_of_ble_eq_true rfl⟩ (pw_V (ci := 3) (q0 := 126) hK hN rfl cw_126 hP hDc) rfl hl.1 rfl (Nat.le_of_ble_eq_true rfl) ⟨Nat.zero_le _, Nat.zero_le _⟩ dX3_lookFrom_32) (fun s10 H9 locs9 hs10 hP9 hD9 hS9 => ?_)
      clear hP hD hS
      have hS := hS9
      have hP := hP9
      have hD := hD9
      clear hP9 hD9 hS9
      obtain ⟨hBs10, gs10, qs10_0, qs10_1, qs10_2, fs10⟩ := hs10
      have hFs10 : FR [126, 161] st s10 := fr_ca fr_rf gs10 (sub_1 (List.mem_of_getElem? (i := 0) rfl) (sub_1 (List.mem_of_getElem? (i := 1) rfl) sub_0))
      rw [hQ]
      exact W.vret hx hb hr (fun t ht hW => ⟨⟨s10, rfl, ⟨hBs10, hFs10, qs10_0, qs10_1, qs10_2, trivial⟩, by rw [ht]; exact hP, va_K.moved hW.alike (hK.sub (tys' := []) [] rfl), by rw [hAe]; exact hD⟩, by rw [hAe]; exact hS.F ht⟩) hS.2.2 dX3_lookFrom_35
set_option maxHeartbeats 4000000 in
set_option maxRecDepth 100000 in
theorem s_X3_lookBy_3 (l : Launch) (D : va_G) (k : Nat → ClassId) (a : Nat → Nat) (st : CT) (sl : CL) (p0 : Int32) (p1 : Int32) (p2 : Int32) (sz : Nat) (hB : CB st) (hp0 : Iv 0 7 p0) (hp1 : Iv 3 3 p1) (hc : Iv 0 2 (st 126 7)) : Met l yX3_lookBy (.code yX3_lookBy cX3_lookBy 8 none :: TB) (rmw 4 0 0) (va_Pc [.ref (a 126), .ref (a 18), .int p0, .int p1, .int p2] (PW D k sz (CWS k a st sl))) (QV D (S := CT) (fun u => CB u ∧ FR [153, 154, 155, 156, 157, 126, 161] st u ∧ u 126 7 = st 126 7 ∧ u 126 8 = st 126 8 ∧ u 126 9 = st 126 9 ∧ (True)) (fun u => CWS k a u sl) (fun _ => []) (CWS k a st sl) sz) 0 0 (va_A (CWS k a st sl) sz) := by
  refine Met.ofW (cc := cX3_lookBy) (maxL := 8) (ret := none) (by decide) rfl ?_
  intro p e s m args below meth c s₁ B hml hv
  obtain ⟨rfl, hsz, hP, hK, hD0, hN⟩ := hv
  have hx := B.exec
  have hb := B.bytes
  have hr := B.returns
  have hT : ∀ w9 ∈ TB, w9.before ([.ref (a 126), .ref (a 18), .int p0, .int p1, .int p2] : List Value).toArray s = true := fun w9 h => atoms_spec (ws := .code yX3_lookBy cX3_lookBy 8 none :: TB) B.pre w9 (List.mem_cons_of_mem _ h)
  have hown : s.vm.findClass RX3 = some m.cls := findClass_of_methodNamed B.named
  have S : CallFix p m c cX3_lookBy 8 s _ TB RX3 := ⟨hx, hb, hml, hown, hT⟩
  subst hsz
  have hD := hD0.self (sz := s.heap.size)
  generalize hAe : va_A (CWS k a st sl) s.heap.size = A at hD ⊢
  have hA : ∀ q : Nat, s.heap.size ≤ q → A q := fun q h => by rw [← hAe]; exact Or.inr h
  have hS : va_S A s.heap s.heap [] := va_S.rf
  have hl := lv_entry ([.ref (a 126), .ref (a 18), .int p0, .int p1, .int p2]) (n := 8) (Nat.le_of_ble_eq_true rfl)
  rw [lg_entry_eq]
  generalize (lg_sl ([.ref (a 126), .ref (a 18), .int p0, .int p1, .int p2]) ++ List.replicate (8 - (lg_sl ([.ref (a 126), .ref (a 18), .int p0, .int p1, .int p2])).length) Slot.unset).toArray = ls at hl ⊢
  have hl : lv_has ls 8 [(0, .ref (a 126)), (1, .ref (a 18)), (2, .int p0), (3, .int p1), (4, .int p2)] := hl
  refine nameQ (fun Q hQ => ?_)
  refine lv_aload_n hx hb dX3_lookBy_0 rfl (lv_at hl 0 rfl) ?_
  refine va_get (D := D) (ci := 3) (v := .ref (a 127)) (C := RX3) (T := TX3) (N := 10) hx hb hT in_X3 hown hK hP 126 cw_126 rfl 0 (by decide) (hT _ t400) (fun _ h9 => h9) rfl dX3_lookBy_1 ?_
  refine lv_iload_n hx hb dX3_lookBy_4 rfl (lv_at hl 3 rfl) ?_
  rcases iv_ca1 hp1 3 (by decide) (by decide) with q9
  · refine k_top (y := 3) q9 ?_
    have h1 : Iv 3 3 p1 := (by rw [q9]; exact iv_c (by decide))
    have q2 := q9
    refine va_aldq hx hb hK hP 127 5 cw_127 rfl (by unfold vp_in; decide) dX3_lookBy_5 ?_
    refine W.eq (g2 := F0 m 6 ls [.ref (a 146)]) rfl ?_
    refine lv_astore (lv' := [(5, .ref (a 146)), (0, .ref (a 126)), (1, .ref (a 18)), (2, .int p0), (3, .int p1), (4, .int p2)]) hx hb dX3_lookBy_6 hl (by decide) rfl (fun ls hl => ?_)
    refine lv_iload hx hb dX3_lookBy_8 (lv_at hl 5 rfl) ?_
    refine lv_aload_n hx hb dX3_lookBy_10 rfl (lv_at hl 2 rfl) ?_
    refine va_get (D := D) (ci := 1) (v := .ref (a 21)) (C := RX1) (T := TX1) (N := 14) hx hb hT in_X1 hown hK hP 18 cw_18 rfl 9 (by decide) (hT _ t229) (fun _ h9 => h9) rfl dX3_lookBy_11 ?_
    refine lv_iload_n hx hb dX3_lookBy_14 rfl (lv_at hl 3 rfl) ?_
    refine va_iald hx hb hK hP 21 0 cw_21 rfl (iv_in hp0 (by decide) (by decide)) dX3_lookBy_15 ?_
    refine lv_topi (fun z3 ez3 => ?_)
    refine lv_iadd hx hb dX3_lookBy_16 ?_
    refine lv_topi (fun z4 ez4 => ?_)
    refine lv_istore (lv' := [(6, .int z4), (5, .ref (a 146)), (0, .ref (a 126)), (1, .ref (a 18)), (2, .int p0), (3, .int p1), (4, .int p2)]) hx hb dX3_lookBy_17 hl (by decide) rfl (fun ls hl => ?_)
    refine lv_aload_n hx hb dX3_lookBy_19 rfl (lv_at hl 3 rfl) ?_
    refine lv_iload_n hx hb dX3_lookBy_20 rfl (lv_at hl 4 rfl) ?_
    refine lv_aload hx hb dX3_lookBy_21 (lv_at hl 1 rfl) ?_
    refine va_get (D := D) (ci := 5) (v := .ref (a 150)) (C := RX5) (T := TX5) (N := 5) hx hb hT in_X5 hown hK hP 146 cw_146 rfl 3 (by decide) (hT _ t179) (fun _ h9 => h9) rfl dX3_lookBy_23 ?_
    refine lv_aload_n hx hb dX3_lookBy_26 rfl (lv_at hl 2 rfl) ?_
    refine va_get (D := D) (ci := 3) (v := .int (st 126 7)) (C := RX3) (T := TX3) (N := 10) hx hb hT in_X3 hown hK hP 126 cw_126 rfl 7 (by decide) (hT _ t411) (fun _ h9 => h9) rfl dX3_lookBy_27 ?_
    refine va_iald hx hb hK hP 150 0 cw_150 rfl (iv_in hc (by decide) (by decide)) dX3_lookBy_30 ?_
    refine lv_topi (fun z5 ez5 => ?_)
    have h6 : Iv 0 5 z5 := by rw [ez5]; exact (rb_150 hB (vp_in_lt (iv_in hc (by decide) (by decide))))
    refine ro_V (As := [.int p0, .int z5]) (rest := []) S (s_X1_otherEnd l D k a st sl  p0 z5 _  hB hp0 ) lkX3_115 ok_X1_otherEnd ⟨rfl, rfl, Nat.le_of_ble_eq_true rfl, Nat.le_of_ble_eq_true rfl⟩ (pw_V (ci := 1) (q0 := 18) hK hN rfl cw_18 hP (hD.weaken (fun _ _ _ _ => trivial))) rfl hl.1 rfl (Nat.le_of_ble_eq_true rfl) ⟨Nat.zero_le _, Nat.zero_le _⟩ dX3_lookBy_31 (fun r7 er7 => ?_)
    have h8 : Iv 0 5 r7 := er7.1
    refine lv_istore (lv' := [(7, .int r7), (6, .int z4), (5, .ref (a 146)), (0, .ref (a 126)), (1, .ref (a 18)), (2, .int p0), (3, .int p1), (4, .int p2)]) hx hb dX3_lookBy_34 hl (by decide) rfl (fun ls hl => ?_)
    refine lv_iload hx hb dX3_lookBy_36 (lv_at hl 1 rfl) ?_
    refine lv_aload_n hx hb dX3_lookBy_38 rfl (lv_at hl 3 rfl) ?_
    refine va_get (D := D) (ci := 3) (v := .ref (a 158)) (C := RX3) (T := TX3) (N := 10) hx hb hT in_X3 hown hK hP 126 cw_126 rfl 1 (by decide) (hT _ t401) (fun _ h9 => h9) rfl dX3_lookBy_39 ?_
    refine lv_iload hx hb dX3_lookBy_42 (lv_at hl 0 rfl) ?_
    refine va_iald hx hb hK hP 158 0 cw_158 rfl (iv_in h8 (by decide) (by decide)) dX3_lookBy_44 ?_
    refine lv_topi (fun z9 ez9 => ?_)
    refine lv_iadd hx hb dX3_lookBy_45 ?_
    refine lv_topi (fun z10 ez10 => ?_)
    refine lv_aload_n hx hb dX3_lookBy_46 rfl (lv_at hl 3 rfl) ?_
    refine va_get (D := D) (ci := 3) (v := .int (st 126 6)) (C := RX3) (T := TX3) (N := 10) hx hb hT in_X3 hown hK hP 126 cw_126 rfl 6 (by decide) (hT _ t409) (fun _ h9 => h9) rfl dX3_lookBy_47 ?_
    refine lv_icmp_gt (tgt := 108) hx hb dX3_lookBy_50 (by decide) (fun c11 => ?_) (fun c11 => ?_)
    · skip
      have n12 : (st 126 6).toInt < z10.toInt := (i_lt c11)
      have h13 : Iv (-2147483648) 2147483646 (st 126 6) := lt_l (iv_full (st 126 6)) n12 (iv_full z10) (by decide)
      have h14 : Iv (-2147483647) 2147483647 z10 := lt_r (iv_full (st 126 6)) n12 (iv_full z10) (by decide)
      rw [hQ]
      exact W.vret hx hb hr (fun t ht hW => ⟨⟨st, rfl, ⟨hB, fr_rf, rfl, rfl, rfl, trivial⟩, by rw [ht]; exact hP, va_K.moved hW.alike (hK.sub (tys' := []) [] rfl), by rw [hAe]; exact hD⟩, by rw [hAe]; exact hS.F ht⟩) hS.2.2 dX3_lookBy_108
    · skip
      have n15 : z10.toInt ≤ (st 126 6).toInt := (i_nlt c11)
      refine lv_iload_n hx hb dX3_lookBy_53 rfl (lv_at hl 6 rfl) ?_
      refine lv_iconst (v := 1) hx hb dX3_lookBy_54 (by decide) ?_
      refine lv_iadd hx hb dX3_lookBy_55 ?_
      refine lv_topi (fun z16 ez16 => ?_)
      have h17 : Iv 4 4 z16 := iv_add ez16 h1 (iv_c (by decide) : Iv 1 1 1) (by decide) (by decide) (by decide) (by decide)
      refine lv_aload_n hx hb dX3_lookBy_56 rfl (lv_at hl 3 rfl) ?_
      refine va_get (D := D) (ci := 3) (v := .ref (a 159)) (C := RX3) (T := TX3) (N := 10) hx hb hT in_X3 hown hK hP 126 cw_126 rfl 2 (by decide) (hT _ t403) (fun _ h9 => h9) rfl dX3_lookBy_57 ?_
      refine lv_iload hx hb dX3_lookBy_60 (lv_at hl 0 rfl) ?_
      refine va_iald hx hb hK hP 159 0 cw_159 rfl (iv_in h8 (by decide) (by decide)) dX3_lookBy_62 ?_
      refine lv_topi (fun z18 ez18 => ?_)
      refine lv_iadd hx hb dX3_lookBy_63 ?_
      refine lv_topi (fun z19 ez19 => ?_)
      refine lv_iconst (v := 4) hx hb dX3_lookBy_64 (by decide) ?_
      refine lv_icmp_gt (tgt := 108) hx hb dX3_lookBy_65 (by decide) (fun c20 => ?_) (fun c20 => ?_)
      · skip
        have n21 : (4 : Int32).toInt < z19.toInt := (i_lt c20)
        have h22 : Iv 5 2147483647 z19 := lt_r (iv_c (by decide) : Iv 4 4 4) n21 (iv_full z19) (by decide)
        rw [hQ]
        exact W.vret hx hb hr (fun t ht hW => ⟨⟨st, rfl, ⟨hB, fr_rf, rfl, rfl, rfl, trivial⟩, by rw [ht]; exact hP, va_K.moved hW.alike (hK.sub (tys' := []) [] rfl), by rw [hAe]; exact hD⟩, by rw [hAe]; exact hS.F ht⟩) hS.2.2 dX3_lookBy_108
      · skip
        have n23 : z19.toInt ≤ (4 : Int32).toInt := (i_nlt c20)
        have h24 : Iv (-2147483648) 4 z19 := le_l (iv_full z19) n23 (iv_c (by decide) : Iv 4 4 4) (by decide)
        refine lv_aload_n hx hb dX3_lookBy_68 rfl (lv_at hl 3 rfl) ?_
        refine va_get (D := D) (ci := 3) (v := .ref (a 127)) (C := RX3) (T := TX3) (N := 10) hx hb hT in_X3 hown hK hP 126 cw_126 rfl 0 (by decide) (hT _ t400) (fun _ h9 => h9) rfl dX3_lookBy_69 ?_
        refine lv_iload_n hx hb dX3_lookBy_72 rfl (lv_at hl 6 rfl) ?_
        refine lv_iconst (v := 1) hx hb dX3_lookBy_73 (by decide) ?_
        refine lv_iadd hx hb dX3_lookBy_74 ?_
        refine lv_topi (fun z25 ez25 => ?_)
        have h26 : Iv 4 4 z25 := iv_add ez25 h1 (iv_c (by decide) : Iv 1 1 1) (by decide) (by decide) (by decide) (by decide)
        rcases iv_ca1 h26 4 (by decide) (by decide) with q9
        · refine k_top (y := 4) q9 ?_
          have h27 : Iv 4 4 z25 := (by rw [q9]; exact iv_c (by decide))
          have q28 := q9
          refine va_aldq hx hb hK hP 127 5 cw_127 rfl (by unfold vp_in; decide) dX3_lookBy_75 ?_
          refine W.eq (g2 := F0 m 76 ls [.ref (a 152)]) rfl ?_
          refine lv_aload hx hb dX3_lookBy_76 (lv_at hl 2 rfl) ?_
          refine ca_v hP hD hS hA (fun hDc => run_V (mc := 0) (ms := 0) (As := [.ref (a 146)]) (rest := []) S (s_X5_copy l D k a st sl 152 146  _ (by decide) (by decide) hB  ) lkX3_118 ok_X5_copy ⟨rfl, rfl, Nat.le_of_ble_eq_true rfl, Nat.le_of_ble_eq_true rfl⟩ (pw_V (ci := 5) (q0 := 152) hK hN rfl cw_152 hP hDc) rfl hl.1 rfl (Nat.le_of_ble_eq_true rfl) ⟨Nat.zero_le _, Nat.zero_le _⟩ dX3_lookBy_78) (fun s29 H9 locs9 hs29 hP9 hD9 hS9 => ?_)
          clear hP hD hS
          have hS := hS9
          have hP := hP9
          have hD := hD9
          clear hP9 hD9 hS9
          obtain ⟨hBs29, gs29, fs29⟩ := hs29
          have hFs29 : FR [153, 154, 155, 156, 157, 126, 161] st s29 := fr_ca fr_rf gs29 (sub_1 (List.mem_of_getElem? (i := 0) rfl) (sub_1 (List.mem_of_getElem? (i := 1) rfl) (sub_1 (List.mem_of_getElem? (i := 2) rfl) (sub_1 (List.mem_of_getElem? (i := 3) rfl) (sub_1 (List.mem_of_getElem? (i := 4) rfl) sub_0)))))
          refine lv_aload_n hx hb dX3_lookBy_81 rfl (lv_at hl 3 rfl) ?_
          refine va_get (D := D) (ci := 3) (v := .ref (a 127)) (C := RX3) (T := TX3) (N := 10) hx hb hT in_X3 hown hK hP 126 cw_126 rfl 0 (by decide) (hT _ t400) (fun _ h9 => h9) rfl dX3_lookBy_82 ?_
          refine lv_iload_n hx hb dX3_lookBy_85 rfl (lv_at hl 6 rfl) ?_
          refine lv_iconst (v := 1) hx hb dX3_lookBy_86 (by decide) ?_
          refine lv_iadd hx hb dX3_lookBy_87 ?_
          refine lv_topi (fun z31 ez31 => ?_)
          have h32 : Iv 4 4 z31 := iv_add ez31 h1 (iv_c (by decide) : Iv 1 1 1) (by decide) (by decide) (by decide) (by decide)
          rcases iv_ca1 h32 4 (by decide) (by decide) with q9
          · refine k_top (y := 4) q9 ?_
            have h33 : Iv 4 4 z31 := (by rw [q9]; exact iv_c (by decide))
            have q34 := q9
            refine va_aldq hx hb hK hP 127 5 cw_127 rfl (by unfold vp_in; decide) dX3_lookBy_88 ?_
            refine W.eq (g2 := F0 m 89 ls [.ref (a 152)]) rfl ?_
            refine lv_aload_n hx hb dX3_lookBy_89 rfl (lv_at hl 4 rfl) ?_
            refine lv_aload_n hx hb dX3_lookBy_90 rfl (lv_at hl 3 rfl) ?_
            refine va_get (D := D) (ci := 3) (v := .int (s29 126 7)) (C := RX3) (T := TX3) (N := 10) hx hb hT in_X3 hown hK hP 126 cw_126 rfl 7 (by decide) (hT _ t411) (fun _ h9 => h9) rfl dX3_lookBy_91 ?_
            refine k_top (y := (st 126 7)) (congrFun (gs29 126 (nm_1 (by decide) (nm_1 (by decide) (nm_1 (by decide) (nm_1 (by decide) (nm_1 (by decide) nm_0)))))) 7) ?_
            refine lv_iload_n hx hb dX3_lookBy_94 rfl (lv_at hl 5 rfl) ?_
            refine ca_v hP hD hS hA (fun hDc => run_V (mc := 0) (ms := 0) (As := [.ref (a 18), .int (st 126 7), .int p0]) (rest := []) S (s_X5_goBy l D k a s29 sl 152 (st 126 7) p0 _ (by decide) hBs29 hc hp0 ) lkX3_122 ok_X5_goBy ⟨rfl, rfl, Nat.le_of_ble_eq_true rfl, Nat.le_of_ble_eq_true rfl⟩ (pw_V (ci := 5) (q0 := 152) hK hN rfl cw_152 hP hDc) rfl hl.1 rfl (Nat.le_of_ble_eq_true rfl) ⟨Nat.zero_le _, Nat.zero_le _⟩ dX3_lookBy_95) (fun s35 H9 locs9 hs35 hP9 hD9 hS9 => ?_)
            clear hP hD hS
            have hS := hS9
            have hP := hP9
            have hD := hD9
            clear hP9 hD9 hS9
            obtain ⟨hBs35, gs35, fs35⟩ := hs35
            have hFs35 : FR [153, 154, 155, 156, 157, 126, 161] st s35 := fr_ca hFs29 gs35 (sub_1 (List.mem_of_getElem? (i := 0) rfl) (sub_1 (List.mem_of_getElem? (i := 1) rfl) (sub_1 (List.mem_of_getElem? (i := 3) rfl) (sub_1 (List.mem_of_getElem? (i := 4) rfl) sub_0))))
            refine lv_aload_n hx hb dX3_lookBy_98 rfl (lv_at hl 3 rfl) ?_
            refine lv_aload_n hx hb dX3_lookBy_99 rfl (lv_at hl 4 rfl) ?_
            refine lv_iload_n hx hb dX3_lookBy_100 rfl (lv_at hl 6 rfl) ?_
            refine lv_iconst (v := 1) hx hb dX3_lookBy_101 (by decide) ?_
            refine lv_iadd hx hb dX3_lookBy_102 ?_
            refine lv_topi (fun z37 ez37 => ?_)
            have h38 : Iv 4 4 z37 := iv_add ez37 h1 (iv_c (by decide) : Iv 1 1 1) (by decide) (by decide) (by decide) (by decide)
            refine lv_iload hx hb dX3_lookBy_103 (lv_at hl 1 rfl) ?_
            refine ca_v hP hD hS hA (fun hDc => run_V (mc := 0) (ms := 0) (As := [.ref (a 18), .int z37, .int z4]) (rest := []) S (s_X3_lookFrom_4 l D k a s35 sl  z37 z4 _  hBs35 h38 (eq_l (Eq.trans (congrFun (gs35 126 (nm_1 (by decide) (nm_1 (by decide) (nm_1 (by decide) (nm_1 (by decide) nm_0))))) 7) (congrFun (gs29 126 (nm_1 (by decide) (nm_1 (by decide) (nm_1 (by decide) (nm_1 (by decide) (nm_1 (by decide) nm_0)))))) 7)) hc)) lkX3_85 ok_X3_lookFrom ⟨rfl, rfl, Nat.le_of_ble_eq_true rfl, Nat.le_of_ble_eq_true rfl⟩ (pw_V (ci := 3) (q0 := 126) hK hN rfl cw_126 hP hDc) rfl hl.1 rfl (Nat.le_of_ble_eq_true rfl) ⟨Nat.zero_le _, Nat.zero_le _⟩ dX3_lookBy_105) (fun s39 H9 locs9 hs39 hP9 hD9 hS9 => ?_)
            clear hP hD hS
            have hS := hS9
            have hP := hP9
            have hD := hD9
            clear hP9 hD9 hS9
            obtain ⟨hBs39, gs39, qs39_0, qs39_1, qs39_2, fs39⟩ := hs39
            have hFs39 : FR [153, 154, 155, 156, 157, 126, 161] st s39 := fr_ca hFs35 gs39 (sub_1 (List.mem_of_getElem? (i := 5) rfl) (sub_1 (List.mem_of_getElem? (i := 6) rfl) sub_0))
            rw [hQ]
            exact W.vret hx hb hr (fun t ht hW => ⟨⟨s39, rfl, ⟨hBs39, hFs39, (Eq.trans qs39_0 (Eq.trans (congrFun (gs35 126 (nm_1 (by decide) (nm_1 (by decide) (nm_1 (by decide) (nm_1 (by decide) nm_0))))) 7) (congrFun (gs29 126 (nm_1 (by decide) (nm_1 (by decide) (nm_1 (by decide) (nm_1 (by decide) (nm_1 (by decide) nm_0)))))) 7))), (Eq.trans qs39_1 (Eq.trans (congrFun (gs35 126 (nm_1 (by decide) (nm_1 (by decide) (nm_1 (by decide) (nm_1 (by decide) nm_0))))) 8) (congrFun (gs29 126 (nm_1 (by decide) (nm_1 (by decide) (nm_1 (by decide) (nm_1 (by decide) (nm_1 (by decide) nm_0)))))) 8))), (Eq.trans qs39_2 (Eq.trans (congrFun (gs35 126 (nm_1 (by decide) (nm_1 (by decide) (nm_1 (by decide) (nm_1 (by decide) nm_0))))) 9) (congrFun (gs29 126 (nm_1 (by decide) (nm_1 (by decide) (nm_1 (by decide) (nm_1 (by decide) (nm_1 (by decide) nm_0)))))) 9))), trivial⟩, by rw [ht]; exact hP, va_K.moved hW.alike (hK.sub (tys' := []) [] rfl), by rw [hAe]; exact hD⟩, by rw [hAe]; exact hS.F ht⟩) hS.2.2 dX3_lookBy_108
set_option maxHeartbeats 4000000 in
set_option maxRecDepth 100000 in
theorem s_X3_lookFrom_3 (l : Launch) (D : va_G) (k : Nat → ClassId) (a : Nat → Nat) (st : CT) (sl : CL) (p0 : Int32) (p1 : Int32) (sz : Nat) (hB : CB st) (hp0 : Iv 3 3 p0) (hc : Iv 0 2 (st 126 7)) : Met l yX3_lookFrom (.code yX3_lookFrom cX3_lookFrom 10 none :: TB) (rmw 5 0 0) (va_Pc [.ref (a 126), .ref (a 18), .int p0, .int p1] (PW D k sz (CWS k a st sl))) (QV D (S := CT) (fun u => CB u ∧ FR [160, 153, 154, 155, 156, 157, 126, 161] st u ∧ u 126 7 = st 126 7 ∧ u 126 8 = st 126 8 ∧ u 126 9 = st 126 9 ∧ (True)) (fun u => CWS k a u sl) (fun _ => []) (CWS k a st sl) sz) 0 0 (va_A (CWS k a st sl) sz) := by
  refine Met.ofW (cc := cX3_lookFrom) (maxL := 10) (ret := none) (by decide) rfl ?_
  intro p e s m args below meth c s₁ B hml hv
  obtain ⟨rfl, hsz, hP, hK, hD0, hN⟩ := hv
  have hx := B.exec
  have hb := B.bytes
  have hr := B.returns
  have hT : ∀ w9 ∈ TB, w9.before ([.ref (a 126), .ref (a 18), .int p0, .int p1] : List Value).toArray s = true := fun w9 h => atoms_spec (ws := .code yX3_lookFrom cX3_lookFrom 10 none :: TB) B.pre w9 (List.mem_cons_of_mem _ h)
  have hown : s.vm.findClass RX3 = some m.cls := findClass_of_methodNamed B.named
  have S : CallFix p m c cX3_lookFrom 10 s _ TB RX3 := ⟨hx, hb, hml, hown, hT⟩
  subst hsz
  have hD := hD0.self (sz := s.heap.size)
  generalize hAe : va_A (CWS k a st sl) s.heap.size = A at hD ⊢
  have hA : ∀ q : Nat, s.heap.size ≤ q → A q := fun q h => by rw [← hAe]; exact Or.inr h
  have hS : va_S A s.heap s.heap [] := va_S.rf
  have hl := lv_entry ([.ref (a 126), .ref (a 18), .int p0, .int p1]) (n := 10) (Nat.le_of_ble_eq_true rfl)
  rw [lg_entry_eq]
  generalize (lg_sl ([.ref (a 126), .ref (a 18), .int p0, .int p1]) ++ List.replicate (10 - (lg_sl ([.ref (a 126), .ref (a 18), .int p0, .int p1])).length) Slot.unset).toArray = ls at hl ⊢
  have hl : lv_has ls 10 [(0, .ref (a 126)), (1, .ref (a 18)), (2, .int p0), (3, .int p1)] := hl
  refine nameQ (fun Q hQ => ?_)
  refine lv_aload_n hx hb dX3_lookFrom_0 rfl (lv_at hl 0 rfl) ?_
  refine va_get (D := D) (ci := 3) (v := .ref (a 127)) (C := RX3) (T := TX3) (N := 10) hx hb hT in_X3 hown hK hP 126 cw_126 rfl 0 (by decide) (hT _ t400) (fun _ h9 => h9) rfl dX3_lookFrom_1 ?_
  refine lv_iload_n hx hb dX3_lookFrom_4 rfl (lv_at hl 2 rfl) ?_
  rcases iv_ca1 hp0 3 (by decide) (by decide) with q9
  · refine k_top (y := 3) q9 ?_
    have h1 : Iv 3 3 p0 := (by rw [q9]; exact iv_c (by decide))
    have q2 := q9
    refine va_aldq hx hb hK hP 127 5 cw_127 rfl (by unfold vp_in; decide) dX3_lookFrom_5 ?_
    refine W.eq (g2 := F0 m 6 ls [.ref (a 146)]) rfl ?_
    refine lv_astore (lv' := [(4, .ref (a 146)), (0, .ref (a 126)), (1, .ref (a 18)), (2, .int p0), (3, .int p1)]) hx hb dX3_lookFrom_6 hl (by decide) rfl (fun ls hl => ?_)
    refine lv_aload hx hb dX3_lookFrom_8 (lv_at hl 0 rfl) ?_
    refine va_get (D := D) (ci := 5) (v := .ref (a 150)) (C := RX5) (T := TX5) (N := 5) hx hb hT in_X5 hown hK hP 146 cw_146 rfl 3 (by decide) (hT _ t179) (fun _ h9 => h9) rfl dX3_lookFrom_10 ?_
    refine lv_aload_n hx hb dX3_lookFrom_13 rfl (lv_at hl 1 rfl) ?_
    refine va_get (D := D) (ci := 3) (v := .int (st 126 7)) (C := RX3) (T := TX3) (N := 10) hx hb hT in_X3 hown hK hP 126 cw_126 rfl 7 (by decide) (hT _ t411) (fun _ h9 => h9) rfl dX3_lookFrom_14 ?_
    refine va_iald hx hb hK hP 150 0 cw_150 rfl (iv_in hc (by decide) (by decide)) dX3_lookFrom_17 ?_
    refine lv_topi (fun z3 ez3 => ?_)
    have h4 : Iv 0 5 z3 := by rw [ez3]; exact (rb_150 hB (vp_in_lt (iv_in hc (by decide) (by decide))))
    refine lv_istore (lv' := [(5, .int z3), (4, .ref (a 146)), (0, .ref (a 126)), (1, .ref (a 18)), (2, .int p0), (3, .int p1)]) hx hb dX3_lookFrom_18 hl (by decide) rfl (fun ls hl => ?_)
    refine lv_iload hx hb dX3_lookFrom_20 (lv_at hl 0 rfl) ?_
    refine lv_aload_n hx hb dX3_lookFrom_22 rfl (lv_at hl 2 rfl) ?_
    refine va_get (D := D) (ci := 3) (v := .int (st 126 8)) (C := RX3) (T := TX3) (N := 10) hx hb hT in_X3 hown hK hP 126 cw_126 rfl 8 (by decide) (hT _ t412) (fun _ h9 => h9) rfl dX3_lookFrom_23 ?_
    refine lv_icmp_ne (tgt := 36) hx hb dX3_lookFrom_26 (by decide) (fun c5 => ?_) (fun c5 => ?_)
    · skip
      refine lv_iload_n hx hb dX3_lookFrom_36 rfl (lv_at hl 4 rfl) ?_
      refine lv_iconst (v := 4) hx hb dX3_lookFrom_37 (by decide) ?_
      refine lv_icmp_lt (tgt := 42) hx hb dX3_lookFrom_38 (by decide) (fun c6 => ?_) (fun c6 => ?_)
      · skip
        have n7 : p0.toInt < (4 : Int32).toInt := (i_lt c6)
        refine lv_aload hx hb dX3_lookFrom_42 (lv_at hl 1 rfl) ?_
        refine lv_aload_n hx hb dX3_lookFrom_44 rfl (lv_at hl 3 rfl) ?_
        refine lv_aload_n hx hb dX3_lookFrom_45 rfl (lv_at hl 2 rfl) ?_
        refine va_get (D := D) (ci := 3) (v := .int (st 126 9)) (C := RX3) (T := TX3) (N := 10) hx hb hT in_X3 hown hK hP 126 cw_126 rfl 9 (by decide) (hT _ t413) (fun _ h9 => h9) rfl dX3_lookFrom_46 ?_
        refine lv_iload hx hb dX3_lookFrom_49 (lv_at hl 0 rfl) ?_
        refine ro_V (As := [.ref (a 18), .int (st 126 9), .int z3]) (rest := []) S (s_X5_favourite l D k a st sl 146 (st 126 9) z3 _ (by decide) hB  ) lkX3_96 ok_X5_favourite ⟨rfl, rfl, Nat.le_of_ble_eq_true rfl, Nat.le_of_ble_eq_true rfl⟩ (pw_V (ci := 5) (q0 := 146) hK hN rfl cw_146 hP (hD.weaken (fun _ _ _ _ => trivial))) rfl hl.1 rfl (Nat.le_of_ble_eq_true rfl) ⟨Nat.zero_le _, Nat.zero_le _⟩ dX3_lookFrom_51 (fun r8 er8 => ?_)
        have h9 : Iv (-1) 7 r8 := er8.1
        have k10 := er8.2
        refine lv_istore (lv' := [(6, .int r8), (5, .int z3), (4, .ref (a 146)), (0, .ref (a 126)), (1, .ref (a 18)), (2, .int p0), (3, .int p1)]) hx hb dX3_lookFrom_54 hl (by decide) rfl (fun ls hl => ?_)
        refine lv_iconst (v := 0) hx hb dX3_lookFrom_56 (by decide) ?_
        refine lv_istore (lv' := [(7, .int 0), (6, .int r8), (5, .int z3), (4, .ref (a 146)), (0, .ref (a 126)), (1, .ref (a 18)), (2, .int p0), (3, .int p1)]) hx hb dX3_lookFrom_57 hl (by decide) rfl (fun ls hl => ?_)
        refine lv_iconst (v := 0) hx hb dX3_lookFrom_59 (by decide) ?_
        refine lv_istore (lv' := [(8, .int 0), (7, .int 0), (6, .int r8), (5, .int z3), (4, .ref (a 146)), (0, .ref (a 126)), (1, .ref (a 18)), (2, .int p0), (3, .int p1)]) hx hb dX3_lookFrom_60 hl (by decide) rfl (fun ls hl => ?_)
        have lp62 : ∀ (n9_62 : Nat) (v8_62 : Int32) (v7_62 : Int32) (t62 : CT) (H9 : Heap) (locs9 : List Loc) (ls : Array Slot), Iv 0 8 v8_62 → Iv 0 255 v7_62 → CB t62 → FR [160, 153, 154, 155, 156, 157, 126, 161] st t62 → t62 126 7 = st 126 7 → t62 126 8 = st 126 8 → t62 126 9 = st 126 9 → va_P D vwCl (CWS k a t62 sl) H9 → va_D A (CWS k a t62 sl) → va_S A s.heap H9 locs9 → lv_has ls 10 [(8, .int v8_62), (7, .int v7_62), (6, .int r8), (5, .int z3), (4, .ref (a 146)), (0, .ref (a 126)), (1, .ref (a 18)), (2, .int p0), (3, .int p1)] → (8 : Int) - v8_62.toInt < (n9_62 : Int) → W p l e (rmw 5 0 0) s m ([.ref (a 126), .ref (a 18), .int p0, .int p1] : List Value).toArray below meth c H9 locs9 0 0 Q (F0 m 62 ls []) := by
          clear hl hP hD hS
          intro n9_62
          induction n9_62 with
          | zero =>
            intro v8_62 v7_62 t62 H9 locs9 ls iv8_62 iv7_62 hBt62 gt62 qt62_0 qt62_1 qt62_2 hP hD hS hl hm62
            exact (fu_0 iv8_62 hm62).elim
          | succ n9_62 ih62 =>
            intro v8_62 v7_62 t62 H9 locs9 ls iv8_62 iv7_62 hBt62 gt62 qt62_0 qt62_1 qt62_2 hP hD hS hl hm62
            have hFt62 : FR [160, 153, 154, 155, 156, 157, 126, 161] st t62 := fr_ca fr_rf gt62 (sub_1 (List.mem_of_getElem? (i := 0) rfl) (sub_1 (List.mem_of_getElem? (i := 1) rfl) (sub_1 (List.mem_of_getElem? (i := 2) rfl) (sub_1 (List.mem_of_getElem? (i := 3) rfl) (sub_1 (List.mem_of_getElem? (i := 4) rfl) (sub_1 (List.mem_of_getElem? (i := 5) rfl) (sub_1 (List.mem_of_getElem? (i := 6) rfl) (sub_1 (List.mem_of_getElem? (i := 7) rfl) sub_0))))))))
            refine lv_iload hx hb dX3_lookFrom_62 (lv_at hl 0 rfl) ?_
            refine lv_aload_n hx hb dX3_lookFrom_64 rfl (lv_at hl 6 rfl) ?_
            refine va_get (D := D) (ci := 1) (v := .int (t62 18 3)) (C := RX1) (T := TX1) (N := 14) hx hb hT in_X1 hown hK hP 18 cw_18 rfl 3 (by decide) (hT _ t208) (fun _ h9 => h9) rfl dX3_lookFrom_65 ?_
            refine k_top (y := (st 18 3)) (congrFun (hFt62 18 (nm_1 (by decide) (nm_1 (by decide) (nm_1 (by decide) (nm_1 (by decide) (nm_1 (by decide) (nm_1 (by decide) (nm_1 (by decide) (nm_1 (by decide) nm_0))))))))) 3) ?_
            have h326 : Iv 0 8 (st 18 3) := (rb_18_3 hB)
            refine lv_icmp_ge (tgt := 143) hx hb dX3_lookFrom_68 (by decide) (fun c327 => ?_) (fun c327 => ?_)
            · skip
              have n328 : (st 18 3).toInt ≤ v8_62.toInt := (i_le c327)
              rw [hQ]
              exact W.vret hx hb hr (fun t ht hW => ⟨⟨t62, rfl, ⟨hBt62, hFt62, qt62_0, qt62_1, qt62_2, trivial⟩, by rw [ht]; exact hP, va_K.moved hW.alike (hK.sub (tys' := []) [] rfl), by rw [hAe]; exact hD⟩, by rw [hAe]; exact hS.F ht⟩) hS.2.2 dX3_lookFrom_143
            · skip
              have n329 : v8_62.toInt < (st 18 3).toInt := (i_nle c327)
              have h330 : Iv 0 7 v8_62 := lt_l iv8_62 n329 h326 (by decide)
              have h331 : Iv 1 8 (st 18 3) := lt_r iv8_62 n329 h326 (by decide)
              refine lv_aload_n hx hb dX3_lookFrom_71 rfl (lv_at hl 6 rfl) ?_
              refine lv_iload hx hb dX3_lookFrom_72 (lv_at hl 0 rfl) ?_
              refine lv_iload hx hb dX3_lookFrom_74 (lv_at hl 3 rfl) ?_
              refine ro_V (As := [.int v8_62, .int z3]) (rest := []) S (s_X1_touches l D k a t62 sl  v8_62 z3 _  hBt62  ) lkX3_100 ok_X1_touches ⟨rfl, rfl, Nat.le_of_ble_eq_true rfl, Nat.le_of_ble_eq_true rfl⟩ (pw_V (ci := 1) (q0 := 18) hK hN rfl cw_18 hP (hD.weaken (fun _ _ _ _ => trivial))) rfl hl.1 rfl (Nat.le_of_ble_eq_true rfl) ⟨Nat.zero_le _, Nat.zero_le _⟩ dX3_lookFrom_76 (fun r332 er332 => ?_)
              rcases er332 with ⟨rfl, g9⟩ | ⟨rfl, g9⟩
              · skip
                have g333 := g9
                have k334 := g333.2.2
                have h335 : Iv 0 7 r8 := ⟨k10 v8_62 (h330).1 (by have y9 := k334.1; rw [(congrFun (hFt62 18 (nm_1 (by decide) (nm_1 (by decide) (nm_1 (by decide) (nm_1 (by decide) (nm_1 (by decide) (nm_1 (by decide) (nm_1 (by decide) (nm_1 (by decide) nm_0))))))))) 3)] at y9; exact y9) (tp_of (hFt62 19 (nm_1 (by decide) (nm_1 (by decide) (nm_1 (by decide) (nm_1 (by decide) (nm_1 (by decide) (nm_1 (by decide) (nm_1 (by decide) (nm_1 (by decide) nm_0))))))))) (hFt62 20 (nm_1 (by decide) (nm_1 (by decide) (nm_1 (by decide) (nm_1 (by decide) (nm_1 (by decide) (nm_1 (by decide) (nm_1 (by decide) (nm_1 (by decide) nm_0))))))))) k334.2), (h9).2⟩
                refine lv_if_eq (tgt := 137) hx hb dX3_lookFrom_79 (by decide) (fun c336 => ?_) (fun c336 => ?_)
                · first | exact absurd c336 (by decide) | exact absurd (by decide) c336
                refine lv_aload hx hb dX3_lookFrom_82 (lv_at hl 4 rfl) ?_
                refine lv_aload_n hx hb dX3_lookFrom_84 rfl (lv_at hl 5 rfl) ?_
                refine va_get (D := D) (ci := 3) (v := .int (t62 126 9)) (C := RX3) (T := TX3) (N := 10) hx hb hT in_X3 hown hK hP 126 cw_126 rfl 9 (by decide) (hT _ t413) (fun _ h9 => h9) rfl dX3_lookFrom_85 ?_
                refine k_top (y := (st 126 9)) qt62_2 ?_
                refine lv_iload hx hb dX3_lookFrom_88 (lv_at hl 2 rfl) ?_
                refine lv_iload hx hb dX3_lookFrom_90 (lv_at hl 0 rfl) ?_
                refine lv_aload_n hx hb dX3_lookFrom_92 rfl (lv_at hl 6 rfl) ?_
                refine va_get (D := D) (ci := 1) (v := .int (t62 18 2)) (C := RX1) (T := TX1) (N := 14) hx hb hT in_X1 hown hK hP 18 cw_18 rfl 2 (by decide) (hT _ t204) (fun _ h9 => h9) rfl dX3_lookFrom_93 ?_
                refine k_top (y := (st 18 2)) (congrFun (hFt62 18 (nm_1 (by decide) (nm_1 (by decide) (nm_1 (by decide) (nm_1 (by decide) (nm_1 (by decide) (nm_1 (by decide) (nm_1 (by decide) (nm_1 (by decide) nm_0))))))))) 2) ?_
                refine ro_V (As := [.int (st 126 9), .int r8, .int v8_62, .int (st 18 2)]) (rest := []) S (s_X5_yieldTo_b l D k a t62 sl 146 (st 126 9) r8 v8_62 (st 18 2) _ (by decide) hBt62 h335 h330 ) lkX3_107 ok_X5_yieldTo ⟨rfl, rfl, Nat.le_of_ble_eq_true rfl, Nat.le_of_ble_eq_true rfl⟩ (pw_V (ci := 5) (q0 := 146) hK hN rfl cw_146 hP (hD.weaken (fun _ _ _ _ => trivial))) rfl hl.1 rfl (Nat.le_of_ble_eq_true rfl) ⟨Nat.zero_le _, Nat.zero_le _⟩ dX3_lookFrom_96 (fun r337 er337 => ?_)
                have h338 : Iv 0 7 r337 := er337.1
                refine lv_istore (lv' := [(9, .int r337), (8, .int v8_62), (7, .int v7_62), (6, .int r8), (5, .int z3), (4, .ref (a 146)), (0, .ref (a 126)), (1, .ref (a 18)), (2, .int p0), (3, .int p1)]) hx hb dX3_lookFrom_99 hl (by decide) rfl (fun ls hl => ?_)
                refine lv_iload hx hb dX3_lookFrom_101 (lv_at hl 2 rfl) ?_
                refine lv_iload hx hb dX3_lookFrom_103 (lv_at hl 0 rfl) ?_
                refine lv_ishr hx hb dX3_lookFrom_105 ?_
                refine lv_topi (fun z339 ez339 => ?_)
                refine lv_iconst (v := 1) hx hb dX3_lookFrom_106 (by decide) ?_
                refine lv_iand hx hb dX3_lookFrom_107 ?_
                refine lv_topi (fun z340 ez340 => ?_)
                have h341 : Iv 0 1 z340 := iv_andr ez340 (iv_mono (c := 0) (d := 1) (iv_c (by decide) : Iv 1 1 1) (by decide) (by decide))
                refine lv_if_ne (tgt := 137) hx hb dX3_lookFrom_108 (by decide) (fun c342 => ?_) (fun c342 => ?_)
                · skip
                  have h343 : Iv 1 1 z340 := ne_lo h341 (show ¬ z340 = 0 from c342) (by decide) (by decide)
                  obtain ⟨z344, ez344⟩ : ∃ z9 : Int32, z9 = v8_62 + Int32.ofInt 1 := ⟨_, rfl⟩
                  have h345 : Iv 1 8 z344 := iv_inc ez344 h330 (by decide) (by decide) (by decide) (by decide) (by decide) (by decide)
                  refine lv_iinc (v := z344) (lv' := [(8, .int z344), (9, .int r337), (7, .int v7_62), (6, .int r8), (5, .int z3), (4, .ref (a 146)), (0, .ref (a 126)), (1, .ref (a 18)), (2, .int p0), (3, .int p1)]) hx hb dX3_lookFrom_137 hl (k := 1) rfl ez344.symm (by decide) rfl (fun ls hl => ?_)
                  refine lv_goto (tgt := 62) hx hb dX3_lookFrom_140 (by decide) ?_
                  exact ih62 z344 v7_62 t62 _ _ _ (iv_mono (c := 0) (d := 8) h345 (by decide) (by decide)) iv7_62 hBt62 gt62 qt62_0 qt62_1 qt62_2 hP hD hS (lv_sub hl [0, 2, 3, 4, 5, 6, 7, 8, 9] rfl) (fu_s (lo := 0) (ti_inc ez344 h330 (by decide) (by decide) (by decide) (by decide)) (by decide) hm62)
                · skip
                  have h346 : Iv 0 0 z340 := eq_l c342 (iv_c (by decide) : Iv 0 0 0)
                  refine lv_iload hx hb dX3_lookFrom_111 (lv_at hl 2 rfl) ?_
                  refine lv_iconst (v := 1) hx hb dX3_lookFrom_113 (by decide) ?_
                  refine lv_iload hx hb dX3_lookFrom_114 (lv_at hl 0 rfl) ?_
                  refine lv_ishl hx hb dX3_lookFrom_116 ?_
                  refine lv_topi (fun z347 ez347 => ?_)
                  have h348 : Iv 1 128 z347 := iv_shl 7 ez347 h338 (by decide) (by decide) (by decide)
                  refine lv_ior hx hb dX3_lookFrom_117 ?_
                  refine lv_topi (fun z349 ez349 => ?_)
                  have h350 : Iv 0 255 z349 := iv_or 8 ez349 iv7_62 (iv_mono (c := 0) (d := 128) h348 (by decide) (by decide)) (by decide) (by decide) (by decide) (by decide)
                  refine lv_istore (lv' := [(7, .int z349), (9, .int r337), (8, .int v8_62), (6, .int r8), (5, .int z3), (4, .ref (a 146)), (0, .ref (a 126)), (1, .ref (a 18)), (2, .int p0), (3, .int p1)]) hx hb dX3_lookFrom_118 hl (by decide) rfl (fun ls hl => ?_)
                  refine lv_aload_n hx hb dX3_lookFrom_120 rfl (lv_at hl 6 rfl) ?_
                  refine va_get (D := D) (ci := 3) (v := .ref (a 160)) (C := RX3) (T := TX3) (N := 10) hx hb hT in_X3 hown hK hP 126 cw_126 rfl 3 (by decide) (hT _ t404) (fun _ h9 => h9) rfl dX3_lookFrom_121 ?_
                  refine lv_iload_n hx hb dX3_lookFrom_124 rfl (lv_at hl 8 rfl) ?_
                  refine lv_iload hx hb dX3_lookFrom_125 (lv_at hl 2 rfl) ?_
                  refine c_ist hx hb hK hP hD hS cw_160 cs_160 (iv_in h1 (by decide) (by decide)) dX3_lookFrom_127 (fun s351 H9 locs9 es351 hP9 hD9 hS9 => ?_)
                  clear hP hD hS
                  have hS := hS9
                  have hP := hP9
                  have hD := hD9
                  clear hP9 hD9 hS9
                  have hBs351 : CB s351 := by rw [es351]; exact cb_sw hBt62 trivial
                  have hFs351 : FR [160, 153, 154, 155, 156, 157, 126, 161] st s351 := fr_sw hFt62 (List.mem_of_getElem? (i := 0) rfl) es351
                  refine lv_aload_n hx hb dX3_lookFrom_128 rfl (lv_at hl 6 rfl) ?_
                  refine lv_aload_n hx hb dX3_lookFrom_129 rfl (lv_at hl 7 rfl) ?_
                  refine lv_iload hx hb dX3_lookFrom_130 (lv_at hl 1 rfl) ?_
                  refine lv_iload_n hx hb dX3_lookFrom_132 rfl (lv_at hl 8 rfl) ?_
                  refine lv_iload_n hx hb dX3_lookFrom_133 rfl (lv_at hl 9 rfl) ?_
                  refine ca_v hP hD hS hA (fun hDc => run_V (mc := 0) (ms := 0) (As := [.ref (a 18), .int r337, .int p0, .int p1]) (rest := []) S (s_X3_lookBy_3 l D k a s351 sl  r337 p0 p1 _  hBs351 h338 h1 (eq_l (Eq.trans (congrFun (sw_at es351 (by decide)) 7) qt62_0) hc)) lkX3_111 ok_X3_lookBy ⟨rfl, rfl, Nat.le_of_ble_eq_true rfl, Nat.le_of_ble_eq_true rfl⟩ (pw_V (ci := 3) (q0 := 126) hK hN rfl cw_126 hP hDc) rfl hl.1 rfl (Nat.le_of_ble_eq_true rfl) ⟨Nat.zero_le _, Nat.zero_le _⟩ dX3_lookFrom_134) (fun s352 H9 locs9 hs352 hP9 hD9 hS9 => ?_)
                  clear hP hD hS
                  have hS := hS9
                  have hP := hP9
                  have hD := hD9
                  clear hP9 hD9 hS9
                  obtain ⟨hBs352, gs352, qs352_0, qs352_1, qs352_2, fs352⟩ := hs352
                  have hFs352 : FR [160, 153, 154, 155, 156, 157, 126, 161] st s352 := fr_ca hFs351 gs352 (sub_1 (List.mem_of_getElem? (i := 1) rfl) (sub_1 (List.mem_of_getElem? (i := 2) rfl) (sub_1 (List.mem_of_getElem? (i := 3) rfl) (sub_1 (List.mem_of_getElem? (i := 4) rfl) (sub_1 (List.mem_of_getElem? (i := 5) rfl) (sub_1 (List.mem_of_getElem? (i := 6) rfl) (sub_1 (List.mem_of_getElem? (i := 7) rfl) sub_0)))))))
                  obtain ⟨z354, ez354⟩ : ∃ z9 : Int32, z9 = v8_62 + Int32.ofInt 1 := ⟨_, rfl⟩
                  have h355 : Iv 1 8 z354 := iv_inc ez354 h330 (by decide) (by decide) (by decide) (by decide) (by decide) (by decide)
                  refine lv_iinc (v := z354) (lv' := [(8, .int z354), (7, .int z349), (9, .int r337), (6, .int r8), (5, .int z3), (4, .ref (a 146)), (0, .ref (a 126)), (1, .ref (a 18)), (2, .int p0), (3, .int p1)]) hx hb dX3_lookFrom_137 hl (k := 2) rfl ez354.symm (by decide) rfl (fun ls hl => ?_)
                  refine lv_goto (tgt := 62) hx hb dX3_lookFrom_140 (by decide) ?_
                  exact ih62 z354 z349 s352 _ _ _ (iv_mono (c := 0) (d := 8) h355 (by decide) (by decide)) h350 hBs352 (fr_ca (fr_sw gt62 (List.mem_of_getElem? (i := 0) rfl) es351) gs352 (sub_1 (List.mem_of_getElem? (i := 1) rfl) (sub_1 (List.mem_of_getElem? (i := 2) rfl) (sub_1 (List.mem_of_getElem? (i := 3) rfl) (sub_1 (List.mem_of_getElem? (i := 4) rfl) (sub_1 (List.mem_of_getElem? (i := 5) rfl) (sub_1 (List.mem_of_getElem? (i := 6) rfl) (sub_1 (List.mem_of_getElem? (i := 7) rfl) sub_0)))))))) (Eq.trans qs352_0 (Eq.trans (congrFun (sw_at es351 (by decide)) 7) qt62_0)) (Eq.trans qs352_1 (Eq.trans (congrFun (sw_at es351 (by decide)) 8) qt62_1)) (Eq.trans qs352_2 (Eq.trans (congrFun (sw_at es351 (by decide)) 9) qt62_2)) hP hD hS (lv_sub hl [0, 1, 3, 4, 5, 6, 7, 8, 9] rfl) (fu_s (lo := 0) (ti_inc ez354 h330 (by decide) (by decide) (by decide) (by decide)) (by decide) hm62)
              · skip
                have g356 := g9
                have k357 := g356
                refine lv_if_eq (tgt := 137) hx hb dX3_lookFrom_79 (by decide) (fun c358 => ?_) (fun c358 => ?_)
                rotate_left
                · first | exact absurd c358 (by decide) | exact absurd (by decide) c358
                obtain ⟨z359, ez359⟩ : ∃ z9 : Int32, z9 = v8_62 + Int32.ofInt 1 := ⟨_, rfl⟩
                have h360 : Iv 1 8 z359 := iv_inc ez359 h330 (by decide) (by decide) (by decide) (by decide) (by decide) (by decide)
                refine lv_iinc (v := z359) (lv' := [(8, .int z359), (7, .int v7_62), (6, .int r8), (5, .int z3), (4, .ref (a 146)), (0, .ref (a 126)), (1, .ref (a 18)), (2, .int p0), (3, .int p1)]) hx hb dX3_lookFrom_137 hl (k := 0) rfl ez359.symm (by decide) rfl (fun ls hl => ?_)
                refine lv_goto (tgt := 62) hx hb dX3_lookFrom_140 (by decide) ?_
                exact ih62 z359 v7_62 t62 _ _ _ (iv_mono (c := 0) (d := 8) h360 (by decide) (by decide)) iv7_62 hBt62 gt62 qt62_0 qt62_1 qt62_2 hP hD hS (lv_sub hl [0, 1, 2, 3, 4, 5, 6, 7, 8] rfl) (fu_s (lo := 0) (ti_inc ez359 h330 (by decide) (by decide) (by decide) (by decide)) (by decide) hm62)
        exact lp62 9 0 0 st _ _ _ (iv_mono (c := 0) (d := 8) (iv_c (by decide) : Iv 0 0 0) (by decide) (by decide)) (iv_mono (c := 0) (d := 255) (iv_c (by decide) : Iv 0 0 0) (by decide) (by decide)) hB fr_rf rfl rfl rfl hP hD hS (lv_sub hl [0, 1, 2, 3, 4, 5, 6, 7, 8] rfl) (fu_i (iv_mono (c := 0) (d := 8) (iv_c (by decide) : Iv 0 0 0) (by decide) (by decide)) (by decide))
      · skip
        have n361 : (4 : Int32).toInt ≤ p0.toInt := (i_nlt c6)
        exact (iv_no (le_l (u := 3) (iv_c (by decide) : Iv 4 4 4) n361 h1 (by decide)) (by decide)).elim
    · skip
      have h362 : Iv 0 5 (st 126 8) := eq_l c5.symm h4
      refine lv_aload_n hx hb dX3_lookFrom_29 rfl (lv_at hl 2 rfl) ?_
      refine lv_iload_n hx hb dX3_lookFrom_30 rfl (lv_at hl 4 rfl) ?_
      refine lv_iload_n hx hb dX3_lookFrom_31 rfl (lv_at hl 5 rfl) ?_
      refine ca_v hP hD hS hA (fun hDc => run_V (mc := 0) (ms := 0) (As := [.int p0, .int p1]) (rest := []) S (s_X3_keepIfBetter l D k a st sl  p0 p1 _  hB (iv_mono (c := 0) (d := 4) h1 (by decide) (by decide)) ) lkX3_92 ok_X3_keepIfBetter ⟨rfl, rfl, Nat.le_of_ble_eq_true rfl, Nat.le_of_ble_eq_true rfl⟩ (pw_V (ci := 3) (q0 := 126) hK hN rfl cw_126 hP hDc) rfl hl.1 rfl (Nat.le_of_ble_eq_true rfl) ⟨Nat.zero_le _, Nat.zero_le _⟩ dX3_lookFrom_32) (fun s363 H9 locs9 hs363 hP9 hD9 hS9 => ?_)
      clear hP hD hS
      have hS := hS9
      have hP := hP9
      have hD := hD9
      clear hP9 hD9 hS9
      obtain ⟨hBs363, gs363, qs363_0, qs363_1, qs363_2, fs363⟩ := hs363
      have hFs363 : FR [160, 153, 154, 155, 156, 157, 126, 161] st s363 := fr_ca fr_rf gs363 (sub_1 (List.mem_of_getElem? (i := 6) rfl) (sub_1 (List.mem_of_getElem? (i := 7) rfl) sub_0))
      rw [hQ]
      exact W.vret hx hb hr (fun t ht hW => ⟨⟨s363, rfl, ⟨hBs363, hFs363, qs363_0, qs363_1, qs363_2, trivial⟩, by rw [ht]; exact hP, va_K.moved hW.alike (hK.sub (tys' := []) [] rfl), by rw [hAe]; exact hD⟩, by rw [hAe]; exact hS.F ht⟩) hS.2.2 dX3_lookFrom_35
set_option maxHeartbeats 4000000 in
set_option maxRecDepth 100000 in
theorem s_X3_lookBy_2 (l : Launch) (D : va_G) (k : Nat → ClassId) (a : Nat → Nat) (st : CT) (sl : CL) (p0 : Int32) (p1 : Int32) (p2 : Int32) (sz : Nat) (hB : CB st) (hp0 : Iv 0 7 p0) (hp1 : Iv 2 2 p1) (hc : Iv 0 2 (st 126 7)) : Met l yX3_lookBy (.code yX3_lookBy cX3_lookBy 8 none :: TB) (rmw 6 0 0) (va_Pc [.ref (a 126), .ref (a 18), .int p0, .int p1, .int p2] (PW D k sz (CWS k a st sl))) (QV D (S := CT) (fun u => CB u ∧ FR [147, 148, 149, 150, 151, 160, 153, 154, 155, 156, 157, 126, 161] st u ∧ u 126 7 = st 126 7 ∧ u 126 8 = st 126 8 ∧ u 126 9 = st 126 9 ∧ (True)) (fun u => CWS k a u sl) (fun _ => []) (CWS k a st sl) sz) 0 0 (va_A (CWS k a st sl) sz) := by
  refine Met.ofW (cc := cX3_lookBy) (maxL := 8) (ret := none) (by decide) rfl ?_
  intro p e s m args below meth c s₁ B hml hv
  obtain ⟨rfl, hsz, hP, hK, hD0, hN⟩ := hv
  have hx := B.exec
  have hb := B.bytes
  have hr := B.returns
  have hT : ∀ w9 ∈ TB, w9.before ([.ref (a 126), .ref (a 18), .int p0, .int p1, .int p2] : List Value).toArray s = true := fun w9 h => atoms_spec (ws := .code yX3_lookBy cX3_lookBy 8 none :: TB) B.pre w9 (List.mem_cons_of_mem _ h)
  have hown : s.vm.findClass RX3 = some m.cls := findClass_of_methodNamed B.named
  have S : CallFix p m c cX3_lookBy 8 s _ TB RX3 := ⟨hx, hb, hml, hown, hT⟩
  subst hsz
  have hD := hD0.self (sz := s.heap.size)
  generalize hAe : va_A (CWS k a st sl) s.heap.size = A at hD ⊢
  have hA : ∀ q : Nat, s.heap.size ≤ q → A q := fun q h => by rw [← hAe]; exact Or.inr h
  have hS : va_S A s.heap s.heap [] := va_S.rf
  have hl := lv_entry ([.ref (a 126), .ref (a 18), .int p0, .int p1, .int p2]) (n := 8) (Nat.le_of_ble_eq_true rfl)
  rw [lg_entry_eq]
  generalize (lg_sl ([.ref (a 126), .ref (a 18), .int p0, .int p1, .int p2]) ++ List.replicate (8 - (lg_sl ([.ref (a 126), .ref (a 18), .int p0, .int p1, .int p2])).length) Slot.unset).toArray = ls at hl ⊢
  have hl : lv_has ls 8 [(0, .ref (a 126)), (1, .ref (a 18)), (2, .int p0), (3, .int p1), (4, .int p2)] := hl
  refine nameQ (fun Q hQ => ?_)
  refine lv_aload_n hx hb dX3_lookBy_0 rfl (lv_at hl 0 rfl) ?_
  refine va_get (D := D) (ci := 3) (v := .ref (a 127)) (C := RX3) (T := TX3) (N := 10) hx hb hT in_X3 hown hK hP 126 cw_126 rfl 0 (by decide) (hT _ t400) (fun _ h9 => h9) rfl dX3_lookBy_1 ?_
  refine lv_iload_n hx hb dX3_lookBy_4 rfl (lv_at hl 3 rfl) ?_
  rcases iv_ca1 hp1 2 (by decide) (by decide) with q9
  · refine k_top (y := 2) q9 ?_
    have h1 : Iv 2 2 p1 := (by rw [q9]; exact iv_c (by decide))
    have q2 := q9
    refine va_aldq hx hb hK hP 127 5 cw_127 rfl (by unfold vp_in; decide) dX3_lookBy_5 ?_
    refine W.eq (g2 := F0 m 6 ls [.ref (a 140)]) rfl ?_
    refine lv_astore (lv' := [(5, .ref (a 140)), (0, .ref (a 126)), (1, .ref (a 18)), (2, .int p0), (3, .int p1), (4, .int p2)]) hx hb dX3_lookBy_6 hl (by decide) rfl (fun ls hl => ?_)
    refine lv_iload hx hb dX3_lookBy_8 (lv_at hl 5 rfl) ?_
    refine lv_aload_n hx hb dX3_lookBy_10 rfl (lv_at hl 2 rfl) ?_
    refine va_get (D := D) (ci := 1) (v := .ref (a 21)) (C := RX1) (T := TX1) (N := 14) hx hb hT in_X1 hown hK hP 18 cw_18 rfl 9 (by decide) (hT _ t229) (fun _ h9 => h9) rfl dX3_lookBy_11 ?_
    refine lv_iload_n hx hb dX3_lookBy_14 rfl (lv_at hl 3 rfl) ?_
    refine va_iald hx hb hK hP 21 0 cw_21 rfl (iv_in hp0 (by decide) (by decide)) dX3_lookBy_15 ?_
    refine lv_topi (fun z3 ez3 => ?_)
    refine lv_iadd hx hb dX3_lookBy_16 ?_
    refine lv_topi (fun z4 ez4 => ?_)
    refine lv_istore (lv' := [(6, .int z4), (5, .ref (a 140)), (0, .ref (a 126)), (1, .ref (a 18)), (2, .int p0), (3, .int p1), (4, .int p2)]) hx hb dX3_lookBy_17 hl (by decide) rfl (fun ls hl => ?_)
    refine lv_aload_n hx hb dX3_lookBy_19 rfl (lv_at hl 3 rfl) ?_
    refine lv_iload_n hx hb dX3_lookBy_20 rfl (lv_at hl 4 rfl) ?_
    refine lv_aload hx hb dX3_lookBy_21 (lv_at hl 1 rfl) ?_
    refine va_get (D := D) (ci := 5) (v := .ref (a 144)) (C := RX5) (T := TX5) (N := 5) hx hb hT in_X5 hown hK hP 140 cw_140 rfl 3 (by decide) (hT _ t179) (fun _ h9 => h9) rfl dX3_lookBy_23 ?_
    refine lv_aload_n hx hb dX3_lookBy_26 rfl (lv_at hl 2 rfl) ?_
    refine va_get (D := D) (ci := 3) (v := .int (st 126 7)) (C := RX3) (T := TX3) (N := 10) hx hb hT in_X3 hown hK hP 126 cw_126 rfl 7 (by decide) (hT _ t411) (fun _ h9 => h9) rfl dX3_lookBy_27 ?_
    refine va_iald hx hb hK hP 144 0 cw_144 rfl (iv_in hc (by decide) (by decide)) dX3_lookBy_30 ?_
    refine lv_topi (fun z5 ez5 => ?_)
    have h6 : Iv 0 5 z5 := by rw [ez5]; exact (rb_144 hB (vp_in_lt (iv_in hc (by decide) (by decide))))
    refine ro_V (As := [.int p0, .int z5]) (rest := []) S (s_X1_otherEnd l D k a st sl  p0 z5 _  hB hp0 ) lkX3_115 ok_X1_otherEnd ⟨rfl, rfl, Nat.le_of_ble_eq_true rfl, Nat.le_of_ble_eq_true rfl⟩ (pw_V (ci := 1) (q0 := 18) hK hN rfl cw_18 hP (hD.weaken (fun _ _ _ _ => trivial))) rfl hl.1 rfl (Nat.le_of_ble_eq_true rfl) ⟨Nat.zero_le _, Nat.zero_le _⟩ dX3_lookBy_31 (fun r7 er7 => ?_)
    have h8 : Iv 0 5 r7 := er7.1
    refine lv_istore (lv' := [(7, .int r7), (6, .int z4), (5, .ref (a 140)), (0, .ref (a 126)), (1, .ref (a 18)), (2, .int p0), (3, .int p1), (4, .int p2)]) hx hb dX3_lookBy_34 hl (by decide) rfl (fun ls hl => ?_)
    refine lv_iload hx hb dX3_lookBy_36 (lv_at hl 1 rfl) ?_
    refine lv_aload_n hx hb dX3_lookBy_38 rfl (lv_at hl 3 rfl) ?_
    refine va_get (D := D) (ci := 3) (v := .ref (a 158)) (C := RX3) (T := TX3) (N := 10) hx hb hT in_X3 hown hK hP 126 cw_126 rfl 1 (by decide) (hT _ t401) (fun _ h9 => h9) rfl dX3_lookBy_39 ?_
    refine lv_iload hx hb dX3_lookBy_42 (lv_at hl 0 rfl) ?_
    refine va_iald hx hb hK hP 158 0 cw_158 rfl (iv_in h8 (by decide) (by decide)) dX3_lookBy_44 ?_
    refine lv_topi (fun z9 ez9 => ?_)
    refine lv_iadd hx hb dX3_lookBy_45 ?_
    refine lv_topi (fun z10 ez10 => ?_)
    refine lv_aload_n hx hb dX3_lookBy_46 rfl (lv_at hl 3 rfl) ?_
    refine va_get (D := D) (ci := 3) (v := .int (st 126 6)) (C := RX3) (T := TX3) (N := 10) hx hb hT in_X3 hown hK hP 126 cw_126 rfl 6 (by decide) (hT _ t409) (fun _ h9 => h9) rfl dX3_lookBy_47 ?_
    refine lv_icmp_gt (tgt := 108) hx hb dX3_lookBy_50 (by decide) (fun c11 => ?_) (fun c11 => ?_)
    · skip
      have n12 : (st 126 6).toInt < z10.toInt := (i_lt c11)
      have h13 : Iv (-2147483648) 2147483646 (st 126 6) := lt_l (iv_full (st 126 6)) n12 (iv_full z10) (by decide)
      have h14 : Iv (-2147483647) 2147483647 z10 := lt_r (iv_full (st 126 6)) n12 (iv_full z10) (by decide)
      rw [hQ]
      exact W.vret hx hb hr (fun t ht hW => ⟨⟨st, rfl, ⟨hB, fr_rf, rfl, rfl, rfl, trivial⟩, by rw [ht]; exact hP, va_K.moved hW.alike (hK.sub (tys' := []) [] rfl), by rw [hAe]; exact hD⟩, by rw [hAe]; exact hS.F ht⟩) hS.2.2 dX3_lookBy_108
    · skip
      have n15 : z10.toInt ≤ (st 126 6).toInt := (i_nlt c11)
      refine lv_iload_n hx hb dX3_lookBy_53 rfl (lv_at hl 6 rfl) ?_
      refine lv_iconst (v := 1) hx hb dX3_lookBy_54 (by decide) ?_
      refine lv_iadd hx hb dX3_lookBy_55 ?_
      refine lv_topi (fun z16 ez16 => ?_)
      have h17 : Iv 3 3 z16 := iv_add ez16 h1 (iv_c (by decide) : Iv 1 1 1) (by decide) (by decide) (by decide) (by decide)
      refine lv_aload_n hx hb dX3_lookBy_56 rfl (lv_at hl 3 rfl) ?_
      refine va_get (D := D) (ci := 3) (v := .ref (a 159)) (C := RX3) (T := TX3) (N := 10) hx hb hT in_X3 hown hK hP 126 cw_126 rfl 2 (by decide) (hT _ t403) (fun _ h9 => h9) rfl dX3_lookBy_57 ?_
      refine lv_iload hx hb dX3_lookBy_60 (lv_at hl 0 rfl) ?_
      refine va_iald hx hb hK hP 159 0 cw_159 rfl (iv_in h8 (by decide) (by decide)) dX3_lookBy_62 ?_
      refine lv_topi (fun z18 ez18 => ?_)
      refine lv_iadd hx hb dX3_lookBy_63 ?_
      refine lv_topi (fun z19 ez19 => ?_)
      refine lv_iconst (v := 4) hx hb dX3_lookBy_64 (by decide) ?_
      refine lv_icmp_gt (tgt := 108) hx hb dX3_lookBy_65 (by decide) (fun c20 => ?_) (fun c20 => ?_)
      · skip
        have n21 : (4 : Int32).toInt < z19.toInt := (i_lt c20)
        have h22 : Iv 5 2147483647 z19 := lt_r (iv_c (by decide) : Iv 4 4 4) n21 (iv_full z19) (by decide)
        rw [hQ]
        exact W.vret hx hb hr (fun t ht hW => ⟨⟨st, rfl, ⟨hB, fr_rf, rfl, rfl, rfl, trivial⟩, by rw [ht]; exact hP, va_K.moved hW.alike (hK.sub (tys' := []) [] rfl), by rw [hAe]; exact hD⟩, by rw [hAe]; exact hS.F ht⟩) hS.2.2 dX3_lookBy_108
      · skip
        have n23 : z19.toInt ≤ (4 : Int32).toInt := (i_nlt c20)
        have h24 : Iv (-2147483648) 4 z19 := le_l (iv_full z19) n23 (iv_c (by decide) : Iv 4 4 4) (by decide)
        refine lv_aload_n hx hb dX3_lookBy_68 rfl (lv_at hl 3 rfl) ?_
        refine va_get (D := D) (ci := 3) (v := .ref (a 127)) (C := RX3) (T := TX3) (N := 10) hx hb hT in_X3 hown hK hP 126 cw_126 rfl 0 (by decide) (hT _ t400) (fun _ h9 => h9) rfl dX3_lookBy_69 ?_
        refine lv_iload_n hx hb dX3_lookBy_72 rfl (lv_at hl 6 rfl) ?_
        refine lv_iconst (v := 1) hx hb dX3_lookBy_73 (by decide) ?_
        refine lv_iadd hx hb dX3_lookBy_74 ?_
        refine lv_topi (fun z25 ez25 => ?_)
        have h26 : Iv 3 3 z25 := iv_add ez25 h1 (iv_c (by decide) : Iv 1 1 1) (by decide) (by decide) (by decide) (by decide)
        rcases iv_ca1 h26 3 (by decide) (by decide) with q9
        · refine k_top (y := 3) q9 ?_
          have h27 : Iv 3 3 z25 := (by rw [q9]; exact iv_c (by decide))
          have q28 := q9
          refine va_aldq hx hb hK hP 127 5 cw_127 rfl (by unfold vp_in; decide) dX3_lookBy_75 ?_
          refine W.eq (g2 := F0 m 76 ls [.ref (a 146)]) rfl ?_
          refine lv_aload hx hb dX3_lookBy_76 (lv_at hl 2 rfl) ?_
          refine ca_v hP hD hS hA (fun hDc => run_V (mc := 0) (ms := 0) (As := [.ref (a 140)]) (rest := []) S (s_X5_copy l D k a st sl 146 140  _ (by decide) (by decide) hB  ) lkX3_118 ok_X5_copy ⟨rfl, rfl, Nat.le_of_ble_eq_true rfl, Nat.le_of_ble_eq_true rfl⟩ (pw_V (ci := 5) (q0 := 146) hK hN rfl cw_146 hP hDc) rfl hl.1 rfl (Nat.le_of_ble_eq_true rfl) ⟨Nat.zero_le _, Nat.zero_le _⟩ dX3_lookBy_78) (fun s29 H9 locs9 hs29 hP9 hD9 hS9 => ?_)
          clear hP hD hS
          have hS := hS9
          have hP := hP9
          have hD := hD9
          clear hP9 hD9 hS9
          obtain ⟨hBs29, gs29, fs29⟩ := hs29
          have hFs29 : FR [147, 148, 149, 150, 151, 160, 153, 154, 155, 156, 157, 126, 161] st s29 := fr_ca fr_rf gs29 (sub_1 (List.mem_of_getElem? (i := 0) rfl) (sub_1 (List.mem_of_getElem? (i := 1) rfl) (sub_1 (List.mem_of_getElem? (i := 2) rfl) (sub_1 (List.mem_of_getElem? (i := 3) rfl) (sub_1 (List.mem_of_getElem? (i := 4) rfl) sub_0)))))
          refine lv_aload_n hx hb dX3_lookBy_81 rfl (lv_at hl 3 rfl) ?_
          refine va_get (D := D) (ci := 3) (v := .ref (a 127)) (C := RX3) (T := TX3) (N := 10) hx hb hT in_X3 hown hK hP 126 cw_126 rfl 0 (by decide) (hT _ t400) (fun _ h9 => h9) rfl dX3_lookBy_82 ?_
          refine lv_iload_n hx hb dX3_lookBy_85 rfl (lv_at hl 6 rfl) ?_
          refine lv_iconst (v := 1) hx hb dX3_lookBy_86 (by decide) ?_
          refine lv_iadd hx hb dX3_lookBy_87 ?_
          refine lv_topi (fun z31 ez31 => ?_)
          have h32 : Iv 3 3 z31 := iv_add ez31 h1 (iv_c (by decide) : Iv 1 1 1) (by decide) (by decide) (by decide) (by decide)
          rcases iv_ca1 h32 3 (by decide) (by decide) with q9
          · refine k_top (y := 3) q9 ?_
            have h33 : Iv 3 3 z31 := (by rw [q9]; exact iv_c (by decide))
            have q34 := q9
            refine va_aldq hx hb hK hP 127 5 cw_127 rfl (by unfold vp_in; decide) dX3_lookBy_88 ?_
            refine W.eq (g2 := F0 m 89 ls [.ref (a 146)]) rfl ?_
            refine lv_aload_n hx hb dX3_lookBy_89 rfl (lv_at hl 4 rfl) ?_
            refine lv_aload_n hx hb dX3_lookBy_90 rfl (lv_at hl 3 rfl) ?_
            refine va_get (D := D) (ci := 3) (v := .int (s29 126 7)) (C := RX3) (T := TX3) (N := 10) hx hb hT in_X3 hown hK hP 126 cw_126 rfl 7 (by decide) (hT _ t411) (fun _ h9 => h9) rfl dX3_lookBy_91 ?_
            refine k_top (y := (st 126 7)) (congrFun (gs29 126 (nm_1 (by decide) (nm_1 (by decide) (nm_1 (by decide) (nm_1 (by decide) (nm_1 (by decide) nm_0)))))) 7) ?_
            refine lv_iload_n hx hb dX3_lookBy_94 rfl (lv_at hl 5 rfl) ?_
            refine ca_v hP hD hS hA (fun hDc => run_V (mc := 0) (ms := 0) (As := [.ref (a 18), .int (st 126 7), .int p0]) (rest := []) S (s_X5_goBy l D k a s29 sl 146 (st 126 7) p0 _ (by decide) hBs29 hc hp0 ) lkX3_122 ok_X5_goBy ⟨rfl, rfl, Nat.le_of_ble_eq_true rfl, Nat.le_of_ble_eq_true rfl⟩ (pw_V (ci := 5) (q0 := 146) hK hN rfl cw_146 hP hDc) rfl hl.1 rfl (Nat.le_of_ble_eq_true rfl) ⟨Nat.zero_le _, Nat.zero_le _⟩ dX3_lookBy_95) (fun s35 H9 locs9 hs35 hP9 hD9 hS9 => ?_)
            clear hP hD hS
            have hS := hS9
            have hP := hP9
            have hD := hD9
            clear hP9 hD9 hS9
            obtain ⟨hBs35, gs35, fs35⟩ := hs35
            have hFs35 : FR [147, 148, 149, 150, 151, 160, 153, 154, 155, 156, 157, 126, 161] st s35 := fr_ca hFs29 gs35 (sub_1 (List.mem_of_getElem? (i := 0) rfl) (sub_1 (List.mem_of_getElem? (i := 1) rfl) (sub_1 (List.mem_of_getElem? (i := 3) rfl) (sub_1 (List.mem_of_getElem? (i := 4) rfl) sub_0))))
            refine lv_aload_n hx hb dX3_lookBy_98 rfl (lv_at hl 3 rfl) ?_
            refine lv_aload_n hx hb dX3_lookBy_99 rfl (lv_at hl 4 rfl) ?_
            refine lv_iload_n hx hb dX3_lookBy_100 rfl (lv_at hl 6 rfl) ?_
            refine lv_iconst (v := 1) hx hb dX3_lookBy_101 (by decide) ?_
            refine lv_iadd hx hb dX3_lookBy_102 ?_
            refine lv_topi (fun z37 ez37 => ?_)
            have h38 : Iv 3 3 z37 := iv_add ez37 h1 (iv_c (by decide) : Iv 1 1 1) (by decide) (by decide) (by decide) (by decide)
            refine lv_iload hx hb dX3_lookBy_103 (lv_at hl 1 rfl) ?_
            refine ca_v hP hD hS hA (fun hDc => run_V (mc := 0) (ms := 0) (As := [.ref (a 18), .int z37, .int z4]) (rest := []) S (s_X3_lookFrom_3 l D k a s35 sl  z37 z4 _  hBs35 h38 (eq_l (Eq.trans (congrFun (gs35 126 (nm_1 (by decide) (nm_1 (by decide) (nm_1 (by decide) (nm_1 (by decide) nm_0))))) 7) (congrFun (gs29 126 (nm_1 (by decide) (nm_1 (by decide) (nm_1 (by decide) (nm_1 (by decide) (nm_1 (by decide) nm_0)))))) 7)) hc)) lkX3_85 ok_X3_lookFrom ⟨rfl, rfl, Nat.le_of_ble_eq_true rfl, Nat.le_of_ble_eq_true rfl⟩ (pw_V (ci := 3) (q0 := 126) hK hN rfl cw_126 hP hDc) rfl hl.1 rfl (Nat.le_of_ble_eq_true rfl) ⟨Nat.zero_le _, Nat.zero_le _⟩ dX3_lookBy_105) (fun s39 H9 locs9 hs39 hP9 hD9 hS9 => ?_)
            clear hP hD hS
            have hS := hS9
            have hP := hP9
            have hD := hD9
            clear hP9 hD9 hS9
            obtain ⟨hBs39, gs39, qs39_0, qs39_1, qs39_2, fs39⟩ := hs39
            have hFs39 : FR [147, 148, 149, 150, 151, 160, 153, 154, 155, 156, 157, 126, 161] st s39 := fr_ca hFs35 gs39 (sub_1 (List.mem_of_getElem? (i := 5) rfl) (sub_1 (List.mem_of_getElem? (i := 6) rfl) (sub_1 (List.mem_of_getElem? (i := 7) rfl) (sub_1 (List.mem_of_getElem? (i := 8) rfl) (sub_1 (List.mem_of_getElem? (i := 9) rfl) (sub_1 (List.mem_of_getElem? (i := 10) rfl) (sub_1 (List.mem_of_getElem? (i := 11) rfl) (sub_1 (List.mem_of_getElem? (i := 12) rfl) sub_0))))))))
            rw [hQ]
            exact W.vret hx hb hr (fun t ht hW => ⟨⟨s39, rfl, ⟨hBs39, hFs39, (Eq.trans qs39_0 (Eq.trans (congrFun (gs35 126 (nm_1 (by decide) (nm_1 (by decide) (nm_1 (by decide) (nm_1 (by decide) nm_0))))) 7) (congrFun (gs29 126 (nm_1 (by decide) (nm_1 (by decide) (nm_1 (by decide) (nm_1 (by decide) (nm_1 (by decide) nm_0)))))) 7))), (Eq.trans qs39_1 (Eq.trans (congrFun (gs35 126 (nm_1 (by decide) (nm_1 (by decide) (nm_1 (by decide) (nm_1 (by decide) nm_0))))) 8) (congrFun (gs29 126 (nm_1 (by decide) (nm_1 (by decide) (nm_1 (by decide) (nm_1 (by decide) (nm_1 (by decide) nm_0)))))) 8))), (Eq.trans qs39_2 (Eq.trans (congrFun (gs35 126 (nm_1 (by decide) (nm_1 (by decide) (nm_1 (by decide) (nm_1 (by decide) nm_0))))) 9) (congrFun (gs29 126 (nm_1 (by decide) (nm_1 (by decide) (nm_1 (by decide) (nm_1 (by decide) (nm_1 (by decide) nm_0)))))) 9))), trivial⟩, by rw [ht]; exact hP, va_K.moved hW.alike (hK.sub (tys' := []) [] rfl), by rw [hAe]; exact hD⟩, by rw [hAe]; exact hS.F ht⟩) hS.2.2 dX3_lookBy_108
set_option maxHeartbeats 4000000 in
set_option maxRecDepth 100000 in
theorem s_X3_lookFrom_2 (l : Launch) (D : va_G) (k : Nat → ClassId) (a : Nat → Nat) (st : CT) (sl : CL) (p0 : Int32) (p1 : Int32) (sz : Nat) (hB : CB st) (hp0 : Iv 2 2 p0) (hc : Iv 0 2 (st 126 7)) : Met l yX3_lookFrom (.code yX3_lookFrom cX3_lookFrom 10 none :: TB) (rmw 7 0 0) (va_Pc [.ref (a 126), .ref (a 18), .int p0, .int p1] (PW D k sz (CWS k a st sl))) (QV D (S := CT) (fun u => CB u ∧ FR [160, 147, 148, 149, 150, 151, 153, 154, 155, 156, 157, 126, 161] st u ∧ u 126 7 = st 126 7 ∧ u 126 8 = st 126 8 ∧ u 126 9 = st 126 9 ∧ (True)) (fun u => CWS k a u sl) (fun _ => []) (CWS k a st sl) sz) 0 0 (va_A (CWS k a st sl) sz) := by
  refine Met.ofW (cc := cX3_lookFrom) (maxL := 10) (ret := none) (by decide) rfl ?_
  intro p e s m args below meth c s₁ B hml hv
  obtain ⟨rfl, hsz, hP, hK, hD0, hN⟩ := hv
  have hx := B.exec
  have hb := B.bytes
  have hr := B.returns
  have hT : ∀ w9 ∈ TB, w9.before ([.ref (a 126), .ref (a 18), .int p0, .int p1] : List Value).toArray s = true := fun w9 h => atoms_spec (ws := .code yX3_lookFrom cX3_lookFrom 10 none :: TB) B.pre w9 (List.mem_cons_of_mem _ h)
  have hown : s.vm.findClass RX3 = some m.cls := findClass_of_methodNamed B.named
  have S : CallFix p m c cX3_lookFrom 10 s _ TB RX3 := ⟨hx, hb, hml, hown, hT⟩
  subst hsz
  have hD := hD0.self (sz := s.heap.size)
  generalize hAe : va_A (CWS k a st sl) s.heap.size = A at hD ⊢
  have hA : ∀ q : Nat, s.heap.size ≤ q → A q := fun q h => by rw [← hAe]; exact Or.inr h
  have hS : va_S A s.heap s.heap [] := va_S.rf
  have hl := lv_entry ([.ref (a 126), .ref (a 18), .int p0, .int p1]) (n := 10) (Nat.le_of_ble_eq_true rfl)
  rw [lg_entry_eq]
  generalize (lg_sl ([.ref (a 126), .ref (a 18), .int p0, .int p1]) ++ List.replicate (10 - (lg_sl ([.ref (a 126), .ref (a 18), .int p0, .int p1])).length) Slot.unset).toArray = ls at hl ⊢
  have hl : lv_has ls 10 [(0, .ref (a 126)), (1, .ref (a 18)), (2, .int p0), (3, .int p1)] := hl
  refine nameQ (fun Q hQ => ?_)
  refine lv_aload_n hx hb dX3_lookFrom_0 rfl (lv_at hl 0 rfl) ?_
  refine va_get (D := D) (ci := 3) (v := .ref (a 127)) (C := RX3) (T := TX3) (N := 10) hx hb hT in_X3 hown hK hP 126 cw_126 rfl 0 (by decide) (hT _ t400) (fun _ h9 => h9) rfl dX3_lookFrom_1 ?_
  refine lv_iload_n hx hb dX3_lookFrom_4 rfl (lv_at hl 2 rfl) ?_
  rcases iv_ca1 hp0 2 (by decide) (by decide) with q9
  · refine k_top (y := 2) q9 ?_
    have h1 : Iv 2 2 p0 := (by rw [q9]; exact iv_c (by decide))
    have q2 := q9
    refine va_aldq hx hb hK hP 127 5 cw_127 rfl (by unfold vp_in; decide) dX3_lookFrom_5 ?_
    refine W.eq (g2 := F0 m 6 ls [.ref (a 140)]) rfl ?_
    refine lv_astore (lv' := [(4, .ref (a 140)), (0, .ref (a 126)), (1, .ref (a 18)), (2, .int p0), (3, .int p1)]) hx hb dX3_lookFrom_6 hl (by decide) rfl (fun ls hl => ?_)
    refine lv_aload hx hb dX3_lookFrom_8 (lv_at hl 0 rfl) ?_
    refine va_get (D := D) (ci := 5) (v := .ref (a 144)) (C := RX5) (T := TX5) (N := 5) hx hb hT in_X5 hown hK hP 140 cw_140 rfl 3 (by decide) (hT _ t179) (fun _ h9 => h9) rfl dX3_lookFrom_10 ?_
    refine lv_aload_n hx hb dX3_lookFrom_13 rfl (lv_at hl 1 rfl) ?_
    refine va_get (D := D) (ci := 3) (v := .int (st 126 7)) (C := RX3) (T := TX3) (N := 10) hx hb hT in_X3 hown hK hP 126 cw_126 rfl 7 (by decide) (hT _ t411) (fun _ h9 => h9) rfl dX3_lookFrom_14 ?_
    refine va_iald hx hb hK hP 144 0 cw_144 rfl (iv_in hc (by decide) (by decide)) dX3_lookFrom_17 ?_
    refine lv_topi (fun z3 ez3 => ?_)
    have h4 : Iv 0 5 z3 := by rw [ez3]; exact (rb_144 hB (vp_in_lt (iv_in hc (by decide) (by decide))))
    refine lv_istore (lv' := [(5, .int z3), (4, .ref (a 140)), (0, .ref (a 126)), (1, .ref (a 18)), (2, .int p0), (3, .int p1)]) hx hb dX3_lookFrom_18 hl (by decide) rfl (fun ls hl => ?_)
    refine lv_iload hx hb dX3_lookFrom_20 (lv_at hl 0 rfl) ?_
    refine lv_aload_n hx hb dX3_lookFrom_22 rfl (lv_at hl 2 rfl) ?_
    refine va_get (D := D) (ci := 3) (v := .int (st 126 8)) (C := RX3) (T := TX3) (N := 10) hx hb hT in_X3 hown hK hP 126 cw_126 rfl 8 (by decide) (hT _ t412) (fun _ h9 => h9) rfl dX3_lookFrom_23 ?_
    refine lv_icmp_ne (tgt := 36) hx hb dX3_lookFrom_26 (by decide) (fun c5 => ?_) (fun c5 => ?_)
    · skip
      refine lv_iload_n hx hb dX3_lookFrom_36 rfl (lv_at hl 4 rfl) ?_
      refine lv_iconst (v := 4) hx hb dX3_lookFrom_37 (by decide) ?_
      refine lv_icmp_lt (tgt := 42) hx hb dX3_lookFrom_38 (by decide) (fun c6 => ?_) (fun c6 => ?_)
      · skip
        have n7 : p0.toInt < (4 : Int32).toInt := (i_lt c6)
        refine lv_aload hx hb dX3_lookFrom_42 (lv_at hl 1 rfl) ?_
        refine lv_aload_n hx hb dX3_lookFrom_44 rfl (lv_at hl 3 rfl) ?_
        refine lv_aload_n hx hb dX3_lookFrom_45 rfl (lv_at hl 2 rfl) ?_
        refine va_get (D := D) (ci := 3) (v := .int (st 126 9)) (C := RX3) (T := TX3) (N := 10) hx hb hT in_X3 hown hK hP 126 cw_126 rfl 9 (by decide) (hT _ t413) (fun _ h9 => h9) rfl dX3_lookFrom_46 ?_
        refine lv_iload hx hb dX3_lookFrom_49 (lv_at hl 0 rfl) ?_
        refine ro_V (As := [.ref (a 18), .int (st 126 9), .int z3]) (rest := []) S (s_X5_favourite l D k a st sl 140 (st 126 9) z3 _ (by decide) hB  ) lkX3_96 ok_X5_favourite ⟨rfl, rfl, Nat.le_of_ble_eq_true rfl, Nat.le_of_ble_eq_true rfl⟩ (pw_V (ci := 5) (q0 := 140) hK hN rfl cw_140 hP (hD.weaken (fun _ _ _ _ => trivial))) rfl hl.1 rfl (Nat.le_of_ble_eq_true rfl) ⟨Nat.zero_le _, Nat.zero_le _⟩ dX3_lookFrom_51 (fun r8 er8 => ?_)
        have h9 : Iv (-1) 7 r8 := er8.1
        have k10 := er8.2
        refine lv_istore (lv' := [(6, .int r8), (5, .int z3), (4, .ref (a 140)), (0, .ref (a 126)), (1, .ref (a 18)), (2, .int p0), (3, .int p1)]) hx hb dX3_lookFrom_54 hl (by decide) rfl (fun ls hl => ?_)
        refine lv_iconst (v := 0) hx hb dX3_lookFrom_56 (by decide) ?_
        refine lv_istore (lv' := [(7, .int 0), (6, .int r8), (5, .int z3), (4, .ref (a 140)), (0, .ref (a 126)), (1, .ref (a 18)), (2, .int p0), (3, .int p1)]) hx hb dX3_lookFrom_57 hl (by decide) rfl (fun ls hl => ?_)
        refine lv_iconst (v := 0) hx hb dX3_lookFrom_59 (by decide) ?_
        refine lv_istore (lv' := [(8, .int 0), (7, .int 0), (6, .int r8), (5, .int z3), (4, .ref (a 140)), (0, .ref (a 126)), (1, .ref (a 18)), (2, .int p0), (3, .int p1)]) hx hb dX3_lookFrom_60 hl (by decide) rfl (fun ls hl => ?_)
        have lp62 : ∀ (n9_62 : Nat) (v8_62 : Int32) (v7_62 : Int32) (t62 : CT) (H9 : Heap) (locs9 : List Loc) (ls : Array Slot), Iv 0 8 v8_62 → Iv 0 255 v7_62 → CB t62 → FR [160, 147, 148, 149, 150, 151, 153, 154, 155, 156, 157, 126, 161] st t62 → t62 126 7 = st 126 7 → t62 126 8 = st 126 8 → t62 126 9 = st 126 9 → va_P D vwCl (CWS k a t62 sl) H9 → va_D A (CWS k a t62 sl) → va_S A s.heap H9 locs9 → lv_has ls 10 [(8, .int v8_62), (7, .int v7_62), (6, .int r8), (5, .int z3), (4, .ref (a 140)), (0, .ref (a 126)), (1, .ref (a 18)), (2, .int p0), (3, .int p1)] → (8 : Int) - v8_62.toInt < (n9_62 : Int) → W p l e (rmw 7 0 0) s m ([.ref (a 126), .ref (a 18), .int p0, .int p1] : List Value).toArray below meth c H9 locs9 0 0 Q (F0 m 62 ls []) := by
          clear hl hP hD hS
          intro n9_62
          induction n9_62 with
          | zero =>
            intro v8_62 v7_62 t62 H9 locs9 ls iv8_62 iv7_62 hBt62 gt62 qt62_0 qt62_1 qt62_2 hP hD hS hl hm62
            exact (fu_0 iv8_62 hm62).elim
          | succ n9_62 ih62 =>
            intro v8_62 v7_62 t62 H9 locs9 ls iv8_62 iv7_62 hBt62 gt62 qt62_0 qt62_1 qt62_2 hP hD hS hl hm62
            have hFt62 : FR [160, 147, 148, 149, 150, 151, 153, 154, 155, 156, 157, 126, 161] st t62 := fr_ca fr_rf gt62 (sub_1 (List.mem_of_getElem? (i := 0) rfl) (sub_1 (List.mem_of_getElem? (i := 1) rfl) (sub_1 (List.mem_of_getElem? (i := 2) rfl) (sub_1 (List.mem_of_getElem? (i := 3) rfl) (sub_1 (List.mem_of_getElem? (i := 4) rfl) (sub_1 (List.mem_of_getElem? (i := 5) rfl) (sub_1 (List.mem_of_getElem? (i := 6) rfl) (sub_1 (List.mem_of_getElem? (i := 7) rfl) (sub_1 (List.mem_of_getElem? (i := 8) rfl) (sub_1 (List.mem_of_getElem? (i := 9) rfl) (sub_1 (List.mem_of_getElem? (i := 10) rfl) (sub_1 (List.mem_of_getElem? (i := 11) rfl) (sub_1 (List.mem_of_getElem? (i := 12) rfl) sub_0)))))))))))))
            refine lv_iload hx hb dX3_lookFrom_62 (lv_at hl 0 rfl) ?_
            refine lv_aload_n hx hb dX3_lookFrom_64 rfl (lv_at hl 6 rfl) ?_
            refine va_get (D := D) (ci := 1) (v := .int (t62 18 3)) (C := RX1) (T := TX1) (N := 14) hx hb hT in_X1 hown hK hP 18 cw_18 rfl 3 (by decide) (hT _ t208) (fun _ h9 => h9) rfl dX3_lookFrom_65 ?_
            refine k_top (y := (st 18 3)) (congrFun (hFt62 18 (nm_1 (by decide) (nm_1 (by decide) (nm_1 (by decide) (nm_1 (by decide) (nm_1 (by decide) (nm_1 (by decide) (nm_1 (by decide) (nm_1 (by decide) (nm_1 (by decide) (nm_1 (by decide) (nm_1 (by decide) (nm_1 (by decide) (nm_1 (by decide) nm_0)))))))))))))) 3) ?_
            have h326 : Iv 0 8 (st 18 3) := (rb_18_3 hB)
            refine lv_icmp_ge (tgt := 143) hx hb dX3_lookFrom_68 (by decide) (fun c327 => ?_) (fun c327 => ?_)
            · skip
              have n328 : (st 18 3).toInt ≤ v8_62.toInt := (i_le c327)
              rw [hQ]
              exact W.vret hx hb hr (fun t ht hW => ⟨⟨t62, rfl, ⟨hBt62, hFt62, qt62_0, qt62_1, qt62_2, trivial⟩, by rw [ht]; exact hP, va_K.moved hW.alike (hK.sub (tys' := []) [] rfl), by rw [hAe]; exact hD⟩, by rw [hAe]; exact hS.F ht⟩) hS.2.2 dX3_lookFrom_143
            · skip
              have n329 : v8_62.toInt < (st 18 3).toInt := (i_nle c327)
              have h330 : Iv 0 7 v8_62 := lt_l iv8_62 n329 h326 (by decide)
              have h331 : Iv 1 8 (st 18 3) := lt_r iv8_62 n329 h326 (by decide)
              refine lv_aload_n hx hb dX3_lookFrom_71 rfl (lv_at hl 6 rfl) ?_
              refine lv_iload hx hb dX3_lookFrom_72 (lv_at hl 0 rfl) ?_
              refine lv_iload hx hb dX3_lookFrom_74 (lv_at hl 3 rfl) ?_
              refine ro_V (As := [.int v8_62, .int z3]) (rest := []) S (s_X1_touches l D k a t62 sl  v8_62 z3 _  hBt62  ) lkX3_100 ok_X1_touches ⟨rfl, rfl, Nat.le_of_ble_eq_true rfl, Nat.le_of_ble_eq_true rfl⟩ (pw_V (ci := 1) (q0 := 18) hK hN rfl cw_18 hP (hD.weaken (fun _ _ _ _ => trivial))) rfl hl.1 rfl (Nat.le_of_ble_eq_true rfl) ⟨Nat.zero_le _, Nat.zero_le _⟩ dX3_lookFrom_76 (fun r332 er332 => ?_)
              rcases er332 with ⟨rfl, g9⟩ | ⟨rfl, g9⟩
              · skip
                have g333 := g9
                have k334 := g333.2.2
                have h335 : Iv 0 7 r8 := ⟨k10 v8_62 (h330).1 (by have y9 := k334.1; rw [(congrFun (hFt62 18 (nm_1 (by decide) (nm_1 (by decide) (nm_1 (by decide) (nm_1 (by decide) (nm_1 (by decide) (nm_1 (by decide) (nm_1 (by decide) (nm_1 (by decide) (nm_1 (by decide) (nm_1 (by decide) (nm_1 (by decide) (nm_1 (by decide) (nm_1 (by decide) nm_0)))))))))))))) 3)] at y9; exact y9) (tp_of (hFt62 19 (nm_1 (by decide) (nm_1 (by decide) (nm_1 (by decide) (nm_1 (by decide) (nm_1 (by decide) (nm_1 (by decide) (nm_1 (by decide) (nm_1 (by decide) (nm_1 (by decide) (nm_1 (by decide) (nm_1 (by decide) (nm_1 (by decide) (nm_1 (by decide) nm_0)))))))))))))) (hFt62 20 (nm_1 (by decide) (nm_1 (by decide) (nm_1 (by decide) (nm_1 (by decide) (nm_1 (by decide) (nm_1 (by decide) (nm_1 (by decide) (nm_1 (by decide) (nm_1 (by decide) (nm_1 (by decide) (nm_1 (by decide) (nm_1 (by decide) (nm_1 (by decide) nm_0)))))))))))))) k334.2), (h9).2⟩
                refine lv_if_eq (tgt := 137) hx hb dX3_lookFrom_79 (by decide) (fun c336 => ?_) (fun c336 => ?_)
                · first | exact absurd c336 (by decide) | exact absurd (by decide) c336
                refine lv_aload hx hb dX3_lookFrom_82 (lv_at hl 4 rfl) ?_
                refine lv_aload_n hx hb dX3_lookFrom_84 rfl (lv_at hl 5 rfl) ?_
                refine va_get (D := D) (ci := 3) (v := .int (t62 126 9)) (C := RX3) (T := TX3) (N := 10) hx hb hT in_X3 hown hK hP 126 cw_126 rfl 9 (by decide) (hT _ t413) (fun _ h9 => h9) rfl dX3_lookFrom_85 ?_
                refine k_top (y := (st 126 9)) qt62_2 ?_
                refine lv_iload hx hb dX3_lookFrom_88 (lv_at hl 2 rfl) ?_
                refine lv_iload hx hb dX3_lookFrom_90 (lv_at hl 0 rfl) ?_
                refine lv_aload_n hx hb dX3_lookFrom_92 rfl (lv_at hl 6 rfl) ?_
                refine va_get (D := D) (ci := 1) (v := .int (t62 18 2)) (C := RX1) (T := TX1) (N := 14) hx hb hT in_X1 hown hK hP 18 cw_18 rfl 2 (by decide) (hT _ t204) (fun _ h9 => h9) rfl dX3_lookFrom_93 ?_
                refine k_top (y := (st 18 2)) (congrFun (hFt62 18 (nm_1 (by decide) (nm_1 (by decide) (nm_1 (by decide) (nm_1 (by decide) (nm_1 (by decide) (nm_1 (by decide) (nm_1 (by decide) (nm_1 (by decide) (nm_1 (by decide) (nm_1 (by decide) (nm_1 (by decide) (nm_1 (by decide) (nm_1 (by decide) nm_0)))))))))))))) 2) ?_
                refine ro_V (As := [.int (st 126 9), .int r8, .int v8_62, .int (st 18 2)]) (rest := []) S (s_X5_yieldTo_b l D k a t62 sl 140 (st 126 9) r8 v8_62 (st 18 2) _ (by decide) hBt62 h335 h330 ) lkX3_107 ok_X5_yieldTo ⟨rfl, rfl, Nat.le_of_ble_eq_true rfl, Nat.le_of_ble_eq_true rfl⟩ (pw_V (ci := 5) (q0 := 140) hK hN rfl cw_140 hP (hD.weaken (fun _ _ _ _ => trivial))) rfl hl.1 rfl (Nat.le_of_ble_eq_true rfl) ⟨Nat.zero_le _, Nat.zero_le _⟩ dX3_lookFrom_96 (fun r337 er337 => ?_)
                have h338 : Iv 0 7 r337 := er337.1
                refine lv_istore (lv' := [(9, .int r337), (8, .int v8_62), (7, .int v7_62), (6, .int r8), (5, .int z3), (4, .ref (a 140)), (0, .ref (a 126)), (1, .ref (a 18)), (2, .int p0), (3, .int p1)]) hx hb dX3_lookFrom_99 hl (by decide) rfl (fun ls hl => ?_)
                refine lv_iload hx hb dX3_lookFrom_101 (lv_at hl 2 rfl) ?_
                refine lv_iload hx hb dX3_lookFrom_103 (lv_at hl 0 rfl) ?_
                refine lv_ishr hx hb dX3_lookFrom_105 ?_
                refine lv_topi (fun z339 ez339 => ?_)
                refine lv_iconst (v := 1) hx hb dX3_lookFrom_106 (by decide) ?_
                refine lv_iand hx hb dX3_lookFrom_107 ?_
                refine lv_topi (fun z340 ez340 => ?_)
                have h341 : Iv 0 1 z340 := iv_andr ez340 (iv_mono (c := 0) (d := 1) (iv_c (by decide) : Iv 1 1 1) (by decide) (by decide))
                refine lv_if_ne (tgt := 137) hx hb dX3_lookFrom_108 (by decide) (fun c342 => ?_) (fun c342 => ?_)
                · skip
                  have h343 : Iv 1 1 z340 := ne_lo h341 (show ¬ z340 = 0 from c342) (by decide) (by decide)
                  obtain ⟨z344, ez344⟩ : ∃ z9 : Int32, z9 = v8_62 + Int32.ofInt 1 := ⟨_, rfl⟩
                  have h345 : Iv 1 8 z344 := iv_inc ez344 h330 (by decide) (by decide) (by decide) (by decide) (by decide) (by decide)
                  refine lv_iinc (v := z344) (lv' := [(8, .int z344), (9, .int r337), (7, .int v7_62), (6, .int r8), (5, .int z3), (4, .ref (a 140)), (0, .ref (a 126)), (1, .ref (a 18)), (2, .int p0), (3, .int p1)]) hx hb dX3_lookFrom_137 hl (k := 1) rfl ez344.symm (by decide) rfl (fun ls hl => ?_)
                  refine lv_goto (tgt := 62) hx hb dX3_lookFrom_140 (by decide) ?_
                  exact ih62 z344 v7_62 t62 _ _ _ (iv_mono (c := 0) (d := 8) h345 (by decide) (by decide)) iv7_62 hBt62 gt62 qt62_0 qt62_1 qt62_2 hP hD hS (lv_sub hl [0, 2, 3, 4, 5, 6, 7, 8, 9] rfl) (fu_s (lo := 0) (ti_inc ez344 h330 (by decide) (by decide) (by decide) (by decide)) (by decide) hm62)
                · skip
                  have h346 : Iv 0 0 z340 := eq_l c342 (iv_c (by decide) : Iv 0 0 0)
                  refine lv_iload hx hb dX3_lookFrom_111 (lv_at hl 2 rfl) ?_
                  refine lv_iconst (v := 1) hx hb dX3_lookFrom_113 (by decide) ?_
                  refine lv_iload hx hb dX3_lookFrom_114 (lv_at hl 0 rfl) ?_
                  refine lv_ishl hx hb dX3_lookFrom_116 ?_
                  refine lv_topi (fun z347 ez347 => ?_)
                  have h348 : Iv 1 128 z347 := iv_shl 7 ez347 h338 (by decide) (by decide) (by decide)
                  refine lv_ior hx hb dX3_lookFrom_117 ?_
                  refine lv_topi (fun z349 ez349 => ?_)
                  have h350 : Iv 0 255 z349 := iv_or 8 ez349 iv7_62 (iv_mono (c := 0) (d := 128) h348 (by decide) (by decide)) (by decide) (by decide) (by decide) (by decide)
                  refine lv_istore (lv' := [(7, .int z349), (9, .int r337), (8, .int v8_62), (6, .int r8), (5, .int z3), (4, .ref (a 140)), (0, .ref (a 126)), (1, .ref (a 18)), (2, .int p0), (3, .int p1)]) hx hb dX3_lookFrom_118 hl (by decide) rfl (fun ls hl => ?_)
                  refine lv_aload_n hx hb dX3_lookFrom_120 rfl (lv_at hl 6 rfl) ?_
                  refine va_get (D := D) (ci := 3) (v := .ref (a 160)) (C := RX3) (T := TX3) (N := 10) hx hb hT in_X3 hown hK hP 126 cw_126 rfl 3 (by decide) (hT _ t404) (fun _ h9 => h9) rfl dX3_lookFrom_121 ?_
                  refine lv_iload_n hx hb dX3_lookFrom_124 rfl (lv_at hl 8 rfl) ?_
                  refine lv_iload hx hb dX3_lookFrom_125 (lv_at hl 2 rfl) ?_
                  refine c_ist hx hb hK hP hD hS cw_160 cs_160 (iv_in h1 (by decide) (by decide)) dX3_lookFrom_127 (fun s351 H9 locs9 es351 hP9 hD9 hS9 => ?_)
                  clear hP hD hS
                  have hS := hS9
                  have hP := hP9
                  have hD := hD9
                  clear hP9 hD9 hS9
                  have hBs351 : CB s351 := by rw [es351]; exact cb_sw hBt62 trivial
                  have hFs351 : FR [160, 147, 148, 149, 150, 151, 153, 154, 155, 156, 157, 126, 161] st s351 := fr_sw hFt62 (List.mem_of_getElem? (i := 0) rfl) es351
                  refine lv_aload_n hx hb dX3_lookFrom_128 rfl (lv_at hl 6 rfl) ?_
                  refine lv_aload_n hx hb dX3_lookFrom_129 rfl (lv_at hl 7 rfl) ?_
                  refine lv_iload hx hb dX3_lookFrom_130 (lv_at hl 1 rfl) ?_
                  refine lv_iload_n hx hb dX3_lookFrom_132 rfl (lv_at hl 8 rfl) ?_
                  refine lv_iload_n hx hb dX3_lookFrom_133 rfl (lv_at hl 9 rfl) ?_
                  refine ca_v hP hD hS hA (fun hDc => run_V (mc := 0) (ms := 0) (As := [.ref (a 18), .int r337, .int p0, .int p1]) (rest := []) S (s_X3_lookBy_2 l D k a s351 sl  r337 p0 p1 _  hBs351 h338 h1 (eq_l (Eq.trans (congrFun (sw_at es351 (by decide)) 7) qt62_0) hc)) lkX3_111 ok_X3_lookBy ⟨rfl, rfl, Nat.le_of_ble_eq_true rfl, Nat.le_of_ble_eq_true rfl⟩ (pw_V (ci := 3) (q0 := 126) hK hN rfl cw_126 hP hDc) rfl hl.1 rfl (Nat.le_of_ble_eq_true rfl) ⟨Nat.zero_le _, Nat.zero_le _⟩ dX3_lookFrom_134) (fun s352 H9 locs9 hs352 hP9 hD9 hS9 => ?_)
                  clear hP hD hS
                  have hS := hS9
                  have hP := hP9
                  have hD := hD9
                  clear hP9 hD9 hS9
                  obtain ⟨hBs352, gs352, qs352_0, qs352_1, qs352_2, fs352⟩ := hs352
                  have hFs352 : FR [160, 147, 148, 149, 150, 151, 153, 154, 155, 156, 157, 126, 161] st s352 := fr_ca hFs351 gs352 (sub_1 (List.mem_of_getElem? (i := 1) rfl) (sub_1 (List.mem_of_getElem? (i := 2) rfl) (sub_1 (List.mem_of_getElem? (i := 3) rfl) (sub_1 (List.mem_of_getElem? (i := 4) rfl) (sub_1 (List.mem_of_getElem? (i := 5) rfl) (sub_1 (List.mem_of_getElem? (i := 0) rfl) (sub_1 (List.mem_of_getElem? (i := 6) rfl) (sub_1 (List.mem_of_getElem? (i := 7) rfl) (sub_1 (List.mem_of_getElem? (i := 8) rfl) (sub_1 (List.mem_of_getElem? (i := 9) rfl) (sub_1 (List.mem_of_getElem? (i := 10) rfl) (sub_1 (List.mem_of_getElem? (i := 11) rfl) (sub_1 (List.mem_of_getElem? (i := 12) rfl) sub_0)))))))))))))
                  obtain ⟨z354, ez354⟩ : ∃ z9 : Int32, z9 = v8_62 + Int32.ofInt 1 := ⟨_, rfl⟩
                  have h355 : Iv 1 8 z354 := iv_inc ez354 h330 (by decide) (by decide) (by decide) (by decide) (by decide) (by decide)
                  refine lv_iinc (v := z354) (lv' := [(8, .int z354), (7, .int z349), (9, .int r337), (6, .int r8), (5, .int z3), (4, .ref (a 140)), (0, .ref (a 126)), (1, .ref (a 18)), (2, .int p0), (3, .int p1)]) hx hb dX3_lookFrom_137 hl (k := 2) rfl ez354.symm (by decide) rfl (fun ls hl => ?_)
                  refine lv_goto (tgt := 62) hx hb dX3_lookFrom_140 (by decide) ?_
                  exact ih62 z354 z349 s352 _ _ _ (iv_mono (c := 0) (d := 8) h355 (by decide) (by decide)) h350 hBs352 (fr_ca (fr_sw gt62 (List.mem_of_getElem? (i := 0) rfl) es351) gs352 (sub_1 (List.mem_of_getElem? (i := 1) rfl) (sub_1 (List.mem_of_getElem? (i := 2) rfl) (sub_1 (List.mem_of_getElem? (i := 3) rfl) (sub_1 (List.mem_of_getElem? (i := 4) rfl) (sub_1 (List.mem_of_getElem? (i := 5) rfl) (sub_1 (List.mem_of_getElem? (i := 0) rfl) (sub_1 (List.mem_of_getElem? (i := 6) rfl) (sub_1 (List.mem_of_getElem? (i := 7) rfl) (sub_1 (List.mem_of_getElem? (i := 8) rfl) (sub_1 (List.mem_of_getElem? (i := 9) rfl) (sub_1 (List.mem_of_getElem? (i := 10) rfl) (sub_1 (List.mem_of_getElem? (i := 11) rfl) (sub_1 (List.mem_of_getElem? (i := 12) rfl) sub_0)))))))))))))) (Eq.trans qs352_0 (Eq.trans (congrFun (sw_at es351 (by decide)) 7) qt62_0)) (Eq.trans qs352_1 (Eq.trans (congrFun (sw_at es351 (by decide)) 8) qt62_1)) (Eq.trans qs352_2 (Eq.trans (congrFun (sw_at es351 (by decide)) 9) qt62_2)) hP hD hS (lv_sub hl [0, 1, 3, 4, 5, 6, 7, 8, 9] rfl) (fu_s (lo := 0) (ti_inc ez354 h330 (by decide) (by decide) (by decide) (by decide)) (by decide) hm62)
              · skip
                have g356 := g9
                have k357 := g356
                refine lv_if_eq (tgt := 137) hx hb dX3_lookFrom_79 (by decide) (fun c358 => ?_) (fun c358 => ?_)
                rotate_left
                · first | exact absurd c358 (by decide) | exact absurd (by decide) c358
                obtain ⟨z359, ez359⟩ : ∃ z9 : Int32, z9 = v8_62 + Int32.ofInt 1 := ⟨_, rfl⟩
                have h360 : Iv 1 8 z359 := iv_inc ez359 h330 (by decide) (by decide) (by decide) (by decide) (by decide) (by decide)
                refine lv_iinc (v := z359) (lv' := [(8, .int z359), (7, .int v7_62), (6, .int r8), (5, .int z3), (4, .ref (a 140)), (0, .ref (a 126)), (1, .ref (a 18)), (2, .int p0), (3, .int p1)]) hx hb dX3_lookFrom_137 hl (k := 0) rfl ez359.symm (by decide) rfl (fun ls hl => ?_)
                refine lv_goto (tgt := 62) hx hb dX3_lookFrom_140 (by decide) ?_
                exact ih62 z359 v7_62 t62 _ _ _ (iv_mono (c := 0) (d := 8) h360 (by decide) (by decide)) iv7_62 hBt62 gt62 qt62_0 qt62_1 qt62_2 hP hD hS (lv_sub hl [0, 1, 2, 3, 4, 5, 6, 7, 8] rfl) (fu_s (lo := 0) (ti_inc ez359 h330 (by decide) (by decide) (by decide) (by decide)) (by decide) hm62)
        exact lp62 9 0 0 st _ _ _ (iv_mono (c := 0) (d := 8) (iv_c (by decide) : Iv 0 0 0) (by decide) (by decide)) (iv_mono (c := 0) (d := 255) (iv_c (by decide) : Iv 0 0 0) (by decide) (by decide)) hB fr_rf rfl rfl rfl hP hD hS (lv_sub hl [0, 1, 2, 3, 4, 5, 6, 7, 8] rfl) (fu_i (iv_mono (c := 0) (d := 8) (iv_c (by decide) : Iv 0 0 0) (by decide) (by decide)) (by decide))
      · skip
        have n361 : (4 : Int32).toInt ≤ p0.toInt := (i_nlt c6)
        exact (iv_no (le_l (u := 2) (iv_c (by decide) : Iv 4 4 4) n361 h1 (by decide)) (by decide)).elim
    · skip
      have h362 : Iv 0 5 (st 126 8) := eq_l c5.symm h4
      refine lv_aload_n hx hb dX3_lookFrom_29 rfl (lv_at hl 2 rfl) ?_
      refine lv_iload_n hx hb dX3_lookFrom_30 rfl (lv_at hl 4 rfl) ?_
      refine lv_iload_n hx hb dX3_lookFrom_31 rfl (lv_at hl 5 rfl) ?_
      refine ca_v hP hD hS hA (fun hDc => run_V (mc := 0) (ms := 0) (As := [.int p0, .int p1]) (rest := []) S (s_X3_keepIfBetter l D k a st sl  p0 p1 _  hB (iv_mono (c := 0) (d := 4) h1 (by decide) (by decide)) ) lkX3_92 ok_X3_keepIfBetter ⟨rfl, rfl, Nat.le_of_ble_eq_true rfl, Nat.le_of_ble_eq_true rfl⟩ (pw_V (ci := 3) (q0 := 126) hK hN rfl cw_126 hP hDc) rfl hl.1 rfl (Nat.le_of_ble_eq_true rfl) ⟨Nat.zero_le _, Nat.zero_le _⟩ dX3_lookFrom_32) (fun s363 H9 locs9 hs363 hP9 hD9 hS9 => ?_)
      clear hP hD hS
      have hS := hS9
      have hP := hP9
      have hD := hD9
      clear hP9 hD9 hS9
      obtain ⟨hBs363, gs363, qs363_0, qs363_1, qs363_2, fs363⟩ := hs363
      have hFs363 : FR [160, 147, 148, 149, 150, 151, 153, 154, 155, 156, 157, 126, 161] st s363 := fr_ca fr_rf gs363 (sub_1 (List.mem_of_getElem? (i := 11) rfl) (sub_1 (List.mem_of_getElem? (i := 12) rfl) sub_0))
      rw [hQ]
      exact W.vret hx hb hr (fun t ht hW => ⟨⟨s363, rfl, ⟨hBs363, hFs363, qs363_0, qs363_1, qs363_2, trivial⟩, by rw [ht]; exact hP, va_K.moved hW.alike (hK.sub (tys' := []) [] rfl), by rw [hAe]; exact hD⟩, by rw [hAe]; exact hS.F ht⟩) hS.2.2 dX3_lookFrom_35
set_option maxHeartbeats 4000000 in
set_option maxRecDepth 100000 in
theorem s_X3_lookBy_1 (l : Launch) (D : va_G) (k : Nat → ClassId) (a : Nat → Nat) (st : CT) (sl : CL) (p0 : Int32) (p1 : Int32) (p2 : Int32) (sz : Nat) (hB : CB st) (hp0 : Iv 0 7 p0) (hp1 : Iv 1 1 p1) (hc : Iv 0 2 (st 126 7)) : Met l yX3_lookBy (.code yX3_lookBy cX3_lookBy 8 none :: TB) (rmw 8 0 0) (va_Pc [.ref (a 126), .ref (a 18), .int p0, .int p1, .int p2] (PW D k sz (CWS k a st sl))) (QV D (S := CT) (fun u => CB u ∧ FR [141, 142, 143, 144, 145, 160, 147, 148, 149, 150, 151, 153, 154, 155, 156, 157, 126, 161] st u ∧ u 126 7 = st 126 7 ∧ u 126 8 = st 126 8 ∧ u 126 9 = st 126 9 ∧ (True)) (fun u => CWS k a u sl) (fun _ => []) (CWS k a st sl) sz) 0 0 (va_A (CWS k a st sl) sz) := by
  refine Met.ofW (cc := cX3_lookBy) (maxL := 8) (ret := none) (by decide) rfl ?_
  intro p e s m args below meth c s₁ B hml hv
  obtain ⟨rfl, hsz, hP, hK, hD0, hN⟩ := hv
  have hx := B.exec
  have hb := B.bytes
  have hr := B.returns
  have hT : ∀ w9 ∈ TB, w9.before ([.ref (a 126), .ref (a 18), .int p0, .int p1, .int p2] : List Value).toArray s = true := fun w9 h => atoms_spec (ws := .code yX3_lookBy cX3_lookBy 8 none :: TB) B.pre w9 (List.mem_cons_of_mem _ h)
  have hown : s.vm.findClass RX3 = some m.cls := findClass_of_methodNamed B.named
  have S : CallFix p m c cX3_lookBy 8 s _ TB RX3 := ⟨hx, hb, hml, hown, hT⟩
  subst hsz
  have hD := hD0.self (sz := s.heap.size)
  generalize hAe : va_A (CWS k a st sl) s.heap.size = A at hD ⊢
  have hA : ∀ q : Nat, s.heap.size ≤ q → A q := fun q h => by rw [← hAe]; exact Or.inr h
  have hS : va_S A s.heap s.heap [] := va_S.rf
  have hl := lv_entry ([.ref (a 126), .ref (a 18), .int p0, .int p1, .int p2]) (n := 8) (Nat.le_of_ble_eq_true rfl)
  rw [lg_entry_eq]
  generalize (lg_sl ([.ref (a 126), .ref (a 18), .int p0, .int p1, .int p2]) ++ List.replicate (8 - (lg_sl ([.ref (a 126), .ref (a 18), .int p0, .int p1, .int p2])).length) Slot.unset).toArray = ls at hl ⊢
  have hl : lv_has ls 8 [(0, .ref (a 126)), (1, .ref (a 18)), (2, .int p0), (3, .int p1), (4, .int p2)] := hl
  refine nameQ (fun Q hQ => ?_)
  refine lv_aload_n hx hb dX3_lookBy_0 rfl (lv_at hl 0 rfl) ?_
  refine va_get (D := D) (ci := 3) (v := .ref (a 127)) (C := RX3) (T := TX3) (N := 10) hx hb hT in_X3 hown hK hP 126 cw_126 rfl 0 (by decide) (hT _ t400) (fun _ h9 => h9) rfl dX3_lookBy_1 ?_
  refine lv_iload_n hx hb dX3_lookBy_4 rfl (lv_at hl 3 rfl) ?_
  rcases iv_ca1 hp1 1 (by decide) (by decide) with q9
  · refine k_top (y := 1) q9 ?_
    have h1 : Iv 1 1 p1 := (by rw [q9]; exact iv_c (by decide))
    have q2 := q9
    refine va_aldq hx hb hK hP 127 5 cw_127 rfl (by unfold vp_in; decide) dX3_lookBy_5 ?_
    refine W.eq (g2 := F0 m 6 ls [.ref (a 134)]) rfl ?_
    refine lv_astore (lv' := [(5, .ref (a 134)), (0, .ref (a 126)), (1, .ref (a 18)), (2, .int p0), (3, .int p1), (4, .int p2)]) hx hb dX3_lookBy_6 hl (by decide) rfl (fun ls hl => ?_)
    refine lv_iload hx hb dX3_lookBy_8 (lv_at hl 5 rfl) ?_
    refine lv_aload_n hx hb dX3_lookBy_10 rfl (lv_at hl 2 rfl) ?_
    refine va_get (D := D) (ci := 1) (v := .ref (a 21)) (C := RX1) (T := TX1) (N := 14) hx hb hT in_X1 hown hK hP 18 cw_18 rfl 9 (by decide) (hT _ t229) (fun _ h9 => h9) rfl dX3_lookBy_11 ?_
    refine lv_iload_n hx hb dX3_lookBy_14 rfl (lv_at hl 3 rfl) ?_
    refine va_iald hx hb hK hP 21 0 cw_21 rfl (iv_in hp0 (by decide) (by decide)) dX3_lookBy_15 ?_
    refine lv_topi (fun z3 ez3 => ?_)
    refine lv_iadd hx hb dX3_lookBy_16 ?_
    refine lv_topi (fun z4 ez4 => ?_)
    refine lv_istore (lv' := [(6, .int z4), (5, .ref (a 134)), (0, .ref (a 126)), (1, .ref (a 18)), (2, .int p0), (3, .int p1), (4, .int p2)]) hx hb dX3_lookBy_17 hl (by decide) rfl (fun ls hl => ?_)
    refine lv_aload_n hx hb dX3_lookBy_19 rfl (lv_at hl 3 rfl) ?_
    refine lv_iload_n hx hb dX3_lookBy_20 rfl (lv_at hl 4 rfl) ?_
    refine lv_aload hx hb dX3_lookBy_21 (lv_at hl 1 rfl) ?_
    refine va_get (D := D) (ci := 5) (v := .ref (a 138)) (C := RX5) (T := TX5) (N := 5) hx hb hT in_X5 hown hK hP 134 cw_134 rfl 3 (by decide) (hT _ t179) (fun _ h9 => h9) rfl dX3_lookBy_23 ?_
    refine lv_aload_n hx hb dX3_lookBy_26 rfl (lv_at hl 2 rfl) ?_
    refine va_get (D := D) (ci := 3) (v := .int (st 126 7)) (C := RX3) (T := TX3) (N := 10) hx hb hT in_X3 hown hK hP 126 cw_126 rfl 7 (by decide) (hT _ t411) (fun _ h9 => h9) rfl dX3_lookBy_27 ?_
    refine va_iald hx hb hK hP 138 0 cw_138 rfl (iv_in hc (by decide) (by decide)) dX3_lookBy_30 ?_
    refine lv_topi (fun z5 ez5 => ?_)
    have h6 : Iv 0 5 z5 := by rw [ez5]; exact (rb_138 hB (vp_in_lt (iv_in hc (by decide) (by decide))))
    refine ro_V (As := [.int p0, .int z5]) (rest := []) S (s_X1_otherEnd l D k a st sl  p0 z5 _  hB hp0 ) lkX3_115 ok_X1_otherEnd ⟨rfl, rfl, Nat.le_of_ble_eq_true rfl, Nat.le_of_ble_eq_true rfl⟩ (pw_V (ci := 1) (q0 := 18) hK hN rfl cw_18 hP (hD.weaken (fun _ _ _ _ => trivial))) rfl hl.1 rfl (Nat.le_of_ble_eq_true rfl) ⟨Nat.zero_le _, Nat.zero_le _⟩ dX3_lookBy_31 (fun r7 er7 => ?_)
    have h8 : Iv 0 5 r7 := er7.1
    refine lv_istore (lv' := [(7, .int r7), (6, .int z4), (5, .ref (a 134)), (0, .ref (a 126)), (1, .ref (a 18)), (2, .int p0), (3, .int p1), (4, .int p2)]) hx hb dX3_lookBy_34 hl (by decide) rfl (fun ls hl => ?_)
    refine lv_iload hx hb dX3_lookBy_36 (lv_at hl 1 rfl) ?_
    refine lv_aload_n hx hb dX3_lookBy_38 rfl (lv_at hl 3 rfl) ?_
    refine va_get (D := D) (ci := 3) (v := .ref (a 158)) (C := RX3) (T := TX3) (N := 10) hx hb hT in_X3 hown hK hP 126 cw_126 rfl 1 (by decide) (hT _ t401) (fun _ h9 => h9) rfl dX3_lookBy_39 ?_
    refine lv_iload hx hb dX3_lookBy_42 (lv_at hl 0 rfl) ?_
    refine va_iald hx hb hK hP 158 0 cw_158 rfl (iv_in h8 (by decide) (by decide)) dX3_lookBy_44 ?_
    refine lv_topi (fun z9 ez9 => ?_)
    refine lv_iadd hx hb dX3_lookBy_45 ?_
    refine lv_topi (fun z10 ez10 => ?_)
    refine lv_aload_n hx hb dX3_lookBy_46 rfl (lv_at hl 3 rfl) ?_
    refine va_get (D := D) (ci := 3) (v := .int (st 126 6)) (C := RX3) (T := TX3) (N := 10) hx hb hT in_X3 hown hK hP 126 cw_126 rfl 6 (by decide) (hT _ t409) (fun _ h9 => h9) rfl dX3_lookBy_47 ?_
    refine lv_icmp_gt (tgt := 108) hx hb dX3_lookBy_50 (by decide) (fun c11 => ?_) (fun c11 => ?_)
    · skip
      have n12 : (st 126 6).toInt < z10.toInt := (i_lt c11)
      have h13 : Iv (-2147483648) 2147483646 (st 126 6) := lt_l (iv_full (st 126 6)) n12 (iv_full z10) (by decide)
      have h14 : Iv (-2147483647) 2147483647 z10 := lt_r (iv_full (st 126 6)) n12 (iv_full z10) (by decide)
      rw [hQ]
      exact W.vret hx hb hr (fun t ht hW => ⟨⟨st, rfl, ⟨hB, fr_rf, rfl, rfl, rfl, trivial⟩, by rw [ht]; exact hP, va_K.moved hW.alike (hK.sub (tys' := []) [] rfl), by rw [hAe]; exact hD⟩, by rw [hAe]; exact hS.F ht⟩) hS.2.2 dX3_lookBy_108
    · skip
      have n15 : z10.toInt ≤ (st 126 6).toInt := (i_nlt c11)
      refine lv_iload_n hx hb dX3_lookBy_53 rfl (lv_at hl 6 rfl) ?_
      refine lv_iconst (v := 1) hx hb dX3_lookBy_54 (by decide) ?_
      refine lv_iadd hx hb dX3_lookBy_55 ?_
      refine lv_topi (fun z16 ez16 => ?_)
      have h17 : Iv 2 2 z16 := iv_add ez16 h1 (iv_c (by decide) : Iv 1 1 1) (by decide) (by decide) (by decide) (by decide)
      refine lv_aload_n hx hb dX3_lookBy_56 rfl (lv_at hl 3 rfl) ?_
      refine va_get (D := D) (ci := 3) (v := .ref (a 159)) (C := RX3) (T := TX3) (N := 10) hx hb hT in_X3 hown hK hP 126 cw_126 rfl 2 (by decide) (hT _ t403) (fun _ h9 => h9) rfl dX3_lookBy_57 ?_
      refine lv_iload hx hb dX3_lookBy_60 (lv_at hl 0 rfl) ?_
      refine va_iald hx hb hK hP 159 0 cw_159 rfl (iv_in h8 (by decide) (by decide)) dX3_lookBy_62 ?_
      refine lv_topi (fun z18 ez18 => ?_)
      refine lv_iadd hx hb dX3_lookBy_63 ?_
      refine lv_topi (fun z19 ez19 => ?_)
      refine lv_iconst (v := 4) hx hb dX3_lookBy_64 (by decide) ?_
      refine lv_icmp_gt (tgt := 108) hx hb dX3_lookBy_65 (by decide) (fun c20 => ?_) (fun c20 => ?_)
      · skip
        have n21 : (4 : Int32).toInt < z19.toInt := (i_lt c20)
        have h22 : Iv 5 2147483647 z19 := lt_r (iv_c (by decide) : Iv 4 4 4) n21 (iv_full z19) (by decide)
        rw [hQ]
        exact W.vret hx hb hr (fun t ht hW => ⟨⟨st, rfl, ⟨hB, fr_rf, rfl, rfl, rfl, trivial⟩, by rw [ht]; exact hP, va_K.moved hW.alike (hK.sub (tys' := []) [] rfl), by rw [hAe]; exact hD⟩, by rw [hAe]; exact hS.F ht⟩) hS.2.2 dX3_lookBy_108
      · skip
        have n23 : z19.toInt ≤ (4 : Int32).toInt := (i_nlt c20)
        have h24 : Iv (-2147483648) 4 z19 := le_l (iv_full z19) n23 (iv_c (by decide) : Iv 4 4 4) (by decide)
        refine lv_aload_n hx hb dX3_lookBy_68 rfl (lv_at hl 3 rfl) ?_
        refine va_get (D := D) (ci := 3) (v := .ref (a 127)) (C := RX3) (T := TX3) (N := 10) hx hb hT in_X3 hown hK hP 126 cw_126 rfl 0 (by decide) (hT _ t400) (fun _ h9 => h9) rfl dX3_lookBy_69 ?_
        refine lv_iload_n hx hb dX3_lookBy_72 rfl (lv_at hl 6 rfl) ?_
        refine lv_iconst (v := 1) hx hb dX3_lookBy_73 (by decide) ?_
        refine lv_iadd hx hb dX3_lookBy_74 ?_
        refine lv_topi (fun z25 ez25 => ?_)
        have h26 : Iv 2 2 z25 := iv_add ez25 h1 (iv_c (by decide) : Iv 1 1 1) (by decide) (by decide) (by decide) (by decide)
        rcases iv_ca1 h26 2 (by decide) (by decide) with q9
        · refine k_top (y := 2) q9 ?_
          have h27 : Iv 2 2 z25 := (by rw [q9]; exact iv_c (by decide))
          have q28 := q9
          refine va_aldq hx hb hK hP 127 5 cw_127 rfl (by unfold vp_in; decide) dX3_lookBy_75 ?_
          refine W.eq (g2 := F0 m 76 ls [.ref (a 140)]) rfl ?_
          refine lv_aload hx hb dX3_lookBy_76 (lv_at hl 2 rfl) ?_
          refine ca_v hP hD hS hA (fun hDc => run_V (mc := 0) (ms := 0) (As := [.ref (a 134)]) (rest := []) S (s_X5_copy l D k a st sl 140 134  _ (by decide) (by decide) hB  ) lkX3_118 ok_X5_copy ⟨rfl, rfl, Nat.le_of_ble_eq_true rfl, Nat.le_of_ble_eq_true rfl⟩ (pw_V (ci := 5) (q0 := 140) hK hN rfl cw_140 hP hDc) rfl hl.1 rfl (Nat.le_of_ble_eq_true rfl) ⟨Nat.zero_le _, Nat.zero_le _⟩ dX3_lookBy_78) (fun s29 H9 locs9 hs29 hP9 hD9 hS9 => ?_)
          clear hP hD hS
          have hS := hS9
          have hP := hP9
          have hD := hD9
          clear hP9 hD9 hS9
          obtain ⟨hBs29, gs29, fs29⟩ := hs29
          have hFs29 : FR [141, 142, 143, 144, 145, 160, 147, 148, 149, 150, 151, 153, 154, 155, 156, 157, 126, 161] st s29 := fr_ca fr_rf gs29 (sub_1 (List.mem_of_getElem? (i := 0) rfl) (sub_1 (List.mem_of_getElem? (i := 1) rfl) (sub_1 (List.mem_of_getElem? (i := 2) rfl) (sub_1 (List.mem_of_getElem? (i := 3) rfl) (sub_1 (List.mem_of_getElem? (i := 4) rfl) sub_0)))))
          refine lv_aload_n hx hb dX3_lookBy_81 rfl (lv_at hl 3 rfl) ?_
          refine va_get (D := D) (ci := 3) (v := .ref (a 127)) (C := RX3) (T := TX3) (N := 10) hx hb hT in_X3 hown hK hP 126 cw_126 rfl 0 (by decide) (hT _ t400) (fun _ h9 => h9) rfl dX3_lookBy_82 ?_
          refine lv_iload_n hx hb dX3_lookBy_85 rfl (lv_at hl 6 rfl) ?_
          refine lv_iconst (v := 1) hx hb dX3_lookBy_86 (by decide) ?_
          refine lv_iadd hx hb dX3_lookBy_87 ?_
          refine lv_topi (fun z31 ez31 => ?_)
          have h32 : Iv 2 2 z31 := iv_add ez31 h1 (iv_c (by decide) : Iv 1 1 1) (by decide) (by decide) (by decide) (by decide)
          rcases iv_ca1 h32 2 (by decide) (by decide) with q9
          · refine k_top (y := 2) q9 ?_
            have h33 : Iv 2 2 z31 := (by rw [q9]; exact iv_c (by decide))
            have q34 := q9
            refine va_aldq hx hb hK hP 127 5 cw_127 rfl (by unfold vp_in; decide) dX3_lookBy_88 ?_
            refine W.eq (g2 := F0 m 89 ls [.ref (a 140)]) rfl ?_
            refine lv_aload_n hx hb dX3_lookBy_89 rfl (lv_at hl 4 rfl) ?_
            refine lv_aload_n hx hb dX3_lookBy_90 rfl (lv_at hl 3 rfl) ?_
            refine va_get (D := D) (ci := 3) (v := .int (s29 126 7)) (C := RX3) (T := TX3) (N := 10) hx hb hT in_X3 hown hK hP 126 cw_126 rfl 7 (by decide) (hT _ t411) (fun _ h9 => h9) rfl dX3_lookBy_91 ?_
            refine k_top (y := (st 126 7)) (congrFun (gs29 126 (nm_1 (by decide) (nm_1 (by decide) (nm_1 (by decide) (nm_1 (by decide) (nm_1 (by decide) nm_0)))))) 7) ?_
            refine lv_iload_n hx hb dX3_lookBy_94 rfl (lv_at hl 5 rfl) ?_
            refine ca_v hP hD hS hA (fun hDc => run_V (mc := 0) (ms := 0) (As := [.ref (a 18), .int (st 126 7), .int p0]) (rest := []) S (s_X5_goBy l D k a s29 sl 140 (st 126 7) p0 _ (by decide) hBs29 hc hp0 ) lkX3_122 ok_X5_goBy ⟨rfl, rfl, Nat.le_of_ble_eq_true rfl, Nat.le_of_ble_eq_true rfl⟩ (pw_V (ci := 5) (q0 := 140) hK hN rfl cw_140 hP hDc) rfl hl.1 rfl (Nat.le_of_ble_eq_true rfl) ⟨Nat.zero_le _, Nat.zero_le _⟩ dX3_lookBy_95) (fun s35 H9 locs9 hs35 hP9 hD9 hS9 => ?_)
            clear hP hD hS
            have hS := hS9
            have hP := hP9
            have hD := hD9
            clear hP9 hD9 hS9
            obtain ⟨hBs35, gs35, fs35⟩ := hs35
            have hFs35 : FR [141, 142, 143, 144, 145, 160, 147, 148, 149, 150, 151, 153, 154, 155, 156, 157, 126, 161] st s35 := fr_ca hFs29 gs35 (sub_1 (List.mem_of_getElem? (i := 0) rfl) (sub_1 (List.mem_of_getElem? (i := 1) rfl) (sub_1 (List.mem_of_getElem? (i := 3) rfl) (sub_1 (List.mem_of_getElem? (i := 4) rfl) sub_0))))
            refine lv_aload_n hx hb dX3_lookBy_98 rfl (lv_at hl 3 rfl) ?_
            refine lv_aload_n hx hb dX3_lookBy_99 rfl (lv_at hl 4 rfl) ?_
            refine lv_iload_n hx hb dX3_lookBy_100 rfl (lv_at hl 6 rfl) ?_
            refine lv_iconst (v := 1) hx hb dX3_lookBy_101 (by decide) ?_
            refine lv_iadd hx hb dX3_lookBy_102 ?_
            refine lv_topi (fun z37 ez37 => ?_)
            have h38 : Iv 2 2 z37 := iv_add ez37 h1 (iv_c (by decide) : Iv 1 1 1) (by decide) (by decide) (by decide) (by decide)
            refine lv_iload hx hb dX3_lookBy_103 (lv_at hl 1 rfl) ?_
            refine ca_v hP hD hS hA (fun hDc => run_V (mc := 0) (ms := 0) (As := [.ref (a 18), .int z37, .int z4]) (rest := []) S (s_X3_lookFrom_2 l D k a s35 sl  z37 z4 _  hBs35 h38 (eq_l (Eq.trans (congrFun (gs35 126 (nm_1 (by decide) (nm_1 (by decide) (nm_1 (by decide) (nm_1 (by decide) nm_0))))) 7) (congrFun (gs29 126 (nm_1 (by decide) (nm_1 (by decide) (nm_1 (by decide) (nm_1 (by decide) (nm_1 (by decide) nm_0)))))) 7)) hc)) lkX3_85 ok_X3_lookFrom ⟨rfl, rfl, Nat.le_of_ble_eq_true rfl, Nat.le_of_ble_eq_true rfl⟩ (pw_V (ci := 3) (q0 := 126) hK hN rfl cw_126 hP hDc) rfl hl.1 rfl (Nat.le_of_ble_eq_true rfl) ⟨Nat.zero_le _, Nat.zero_le _⟩ dX3_lookBy_105) (fun s39 H9 locs9 hs39 hP9 hD9 hS9 => ?_)
            clear hP hD hS
            have hS := hS9
            have hP := hP9
            have hD := hD9
            clear hP9 hD9 hS9
            obtain ⟨hBs39, gs39, qs39_0, qs39_1, qs39_2, fs39⟩ := hs39
            have hFs39 : FR [141, 142, 143, 144, 145, 160, 147, 148, 149, 150, 151, 153, 154, 155, 156, 157, 126, 161] st s39 := fr_ca hFs35 gs39 (sub_1 (List.mem_of_getElem? (i := 5) rfl) (sub_1 (List.mem_of_getElem? (i := 6) rfl) (sub_1 (List.mem_of_getElem? (i := 7) rfl) (sub_1 (List.mem_of_getElem? (i := 8) rfl) (sub_1 (List.mem_of_getElem? (i := 9) rfl) (sub_1 (List.mem_of_getElem? (i := 10) rfl) (sub_1 (List.mem_of_getElem? (i := 11) rfl) (sub_1 (List.mem_of_getElem? (i := 12) rfl) (sub_1 (List.mem_of_getElem? (i := 13) rfl) (sub_1 (List.mem_of_getElem? (i := 14) rfl) (sub_1 (List.mem_of_getElem? (i := 15) rfl) (sub_1 (List.mem_of_getElem? (i := 16) rfl) (sub_1 (List.mem_of_getElem? (i := 17) rfl) sub_0)))))))))))))
            rw [hQ]
            exact W.vret hx hb hr (fun t ht hW => ⟨⟨s39, rfl, ⟨hBs39, hFs39, (Eq.trans qs39_0 (Eq.trans (congrFun (gs35 126 (nm_1 (by decide) (nm_1 (by decide) (nm_1 (by decide) (nm_1 (by decide) nm_0))))) 7) (congrFun (gs29 126 (nm_1 (by decide) (nm_1 (by decide) (nm_1 (by decide) (nm_1 (by decide) (nm_1 (by decide) nm_0)))))) 7))), (Eq.trans qs39_1 (Eq.trans (congrFun (gs35 126 (nm_1 (by decide) (nm_1 (by decide) (nm_1 (by decide) (nm_1 (by decide) nm_0))))) 8) (congrFun (gs29 126 (nm_1 (by decide) (nm_1 (by decide) (nm_1 (by decide) (nm_1 (by decide) (nm_1 (by decide) nm_0)))))) 8))), (Eq.trans qs39_2 (Eq.trans (congrFun (gs35 126 (nm_1 (by decide) (nm_1 (by decide) (nm_1 (by decide) (nm_1 (by decide) nm_0))))) 9) (congrFun (gs29 126 (nm_1 (by decide) (nm_1 (by decide) (nm_1 (by decide) (nm_1 (by decide) (nm_1 (by decide) nm_0)))))) 9))), trivial⟩, by rw [ht]; exact hP, va_K.moved hW.alike (hK.sub (tys' := []) [] rfl), by rw [hAe]; exact hD⟩, by rw [hAe]; exact hS.F ht⟩) hS.2.2 dX3_lookBy_108
set_option maxHeartbeats 4000000 in
set_option maxRecDepth 100000 in
theorem s_X3_lookFrom_1 (l : Launch) (D : va_G) (k : Nat → ClassId) (a : Nat → Nat) (st : CT) (sl : CL) (p0 : Int32) (p1 : Int32) (sz : Nat) (hB : CB st) (hp0 : Iv 1 1 p0) (hc : Iv 0 2 (st 126 7)) : Met l yX3_lookFrom (.code yX3_lookFrom cX3_lookFrom 10 none :: TB) (rmw 9 0 0) (va_Pc [.ref (a 126), .ref (a 18), .int p0, .int p1] (PW D k sz (CWS k a st sl))) (QV D (S := CT) (fun u => CB u ∧ FR [160, 141, 142, 143, 144, 145, 147, 148, 149, 150, 151, 153, 154, 155, 156, 157, 126, 161] st u ∧ u 126 7 = st 126 7 ∧ u 126 8 = st 126 8 ∧ u 126 9 = st 126 9 ∧ (True)) (fun u => CWS k a u sl) (fun _ => []) (CWS k a st sl) sz) 0 0 (va_A (CWS k a st sl) sz) := by
  refine Met.ofW (cc := cX3_lookFrom) (maxL := 10) (ret := none) (by decide) rfl ?_
  intro p e s m args below meth c s₁ B hml hv
  obtain ⟨rfl, hsz, hP, hK, hD0, hN⟩ := hv
  have hx := B.exec
  have hb := B.bytes
  have hr := B.returns
  have hT : ∀ w9 ∈ TB, w9.before ([.ref (a 126), .ref (a 18), .int p0, .int p1] : List Value).toArray s = true := fun w9 h => atoms_spec (ws := .code yX3_lookFrom cX3_lookFrom 10 none :: TB) B.pre w9 (List.mem_cons_of_mem _ h)
  have hown : s.vm.findClass RX3 = some m.cls := findClass_of_methodNamed B.named
  have S : CallFix p m c cX3_lookFrom 10 s _ TB RX3 := ⟨hx, hb, hml, hown, hT⟩
  subst hsz
  have hD := hD0.self (sz := s.heap.size)
  generalize hAe : va_A (CWS k a st sl) s.heap.size = A at hD ⊢
  have hA : ∀ q : Nat, s.heap.size ≤ q → A q := fun q h => by rw [← hAe]; exact Or.inr h
  have hS : va_S A s.heap s.heap [] := va_S.rf
  have hl := lv_entry ([.ref (a 126), .ref (a 18), .int p0, .int p1]) (n := 10) (Nat.le_of_ble_eq_true rfl)
  rw [lg_entry_eq]
  generalize (lg_sl ([.ref (a 126), .ref (a 18), .int p0, .int p1]) ++ List.replicate (10 - (lg_sl ([.ref (a 126), .ref (a 18), .int p0, .int p1])).length) Slot.unset).toArray = ls at hl ⊢
  have hl : lv_has ls 10 [(0, .ref (a 126)), (1, .ref (a 18)), (2, .int p0), (3, .int p1)] := hl
  refine nameQ (fun Q hQ => ?_)
  refine lv_aload_n hx hb dX3_lookFrom_0 rfl (lv_at hl 0 rfl) ?_
  refine va_get (D := D) (ci := 3) (v := .ref (a 127)) (C := RX3) (T := TX3) (N := 10) hx hb hT in_X3 hown hK hP 126 cw_126 rfl 0 (by decide) (hT _ t400) (fun _ h9 => h9) rfl dX3_lookFrom_1 ?_
  refine lv_iload_n hx hb dX3_lookFrom_4 rfl (lv_at hl 2 rfl) ?_
  rcases iv_ca1 hp0 1 (by decide) (by decide) with q9
  · refine k_top (y := 1) q9 ?_
    have h1 : Iv 1 1 p0 := (by rw [q9]; exact iv_c (by decide))
    have q2 := q9
    refine va_aldq hx hb hK hP 127 5 cw_127 rfl (by unfold vp_in; decide) dX3_lookFrom_5 ?_
    refine W.eq (g2 := F0 m 6 ls [.ref (a 134)]) rfl ?_
    refine lv_astore (lv' := [(4, .ref (a 134)), (0, .ref (a 126)), (1, .ref (a 18)), (2, .int p0), (3, .int p1)]) hx hb dX3_lookFrom_6 hl (by decide) rfl (fun ls hl => ?_)
    refine lv_aload hx hb dX3_lookFrom_8 (lv_at hl 0 rfl) ?_
    refine va_get (D := D) (ci := 5) (v := .ref (a 138)) (C := RX5) (T := TX5) (N := 5) hx hb hT in_X5 hown hK hP 134 cw_134 rfl 3 (by decide) (hT _ t179) (fun _ h9 => h9) rfl dX3_lookFrom_10 ?_
    refine lv_aload_n hx hb dX3_lookFrom_13 rfl (lv_at hl 1 rfl) ?_
    refine va_get (D := D) (ci := 3) (v := .int (st 126 7)) (C := RX3) (T := TX3) (N := 10) hx hb hT in_X3 hown hK hP 126 cw_126 rfl 7 (by decide) (hT _ t411) (fun _ h9 => h9) rfl dX3_lookFrom_14 ?_
    refine va_iald hx hb hK hP 138 0 cw_138 rfl (iv_in hc (by decide) (by decide)) dX3_lookFrom_17 ?_
    refine lv_topi (fun z3 ez3 => ?_)
    have h4 : Iv 0 5 z3 := by rw [ez3]; exact (rb_138 hB (vp_in_lt (iv_in hc (by decide) (by decide))))
    refine lv_istore (lv' := [(5, .int z3), (4, .ref (a 134)), (0, .ref (a 126)), (1, .ref (a 18)), (2, .int p0), (3, .int p1)]) hx hb dX3_lookFrom_18 hl (by decide) rfl (fun ls hl => ?_)
    refine lv_iload hx hb dX3_lookFrom_20 (lv_at hl 0 rfl) ?_
    refine lv_aload_n hx hb dX3_lookFrom_22 rfl (lv_at hl 2 rfl) ?_
    refine va_get (D := D) (ci := 3) (v := .int (st 126 8)) (C := RX3) (T := TX3) (N := 10) hx hb hT in_X3 hown hK hP 126 cw_126 rfl 8 (by decide) (hT _ t412) (fun _ h9 => h9) rfl dX3_lookFrom_23 ?_
    refine lv_icmp_ne (tgt := 36) hx hb dX3_lookFrom_26 (by decide) (fun c5 => ?_) (fun c5 => ?_)
    · skip
      refine lv_iload_n hx hb dX3_lookFrom_36 rfl (lv_at hl 4 rfl) ?_
      refine lv_iconst (v := 4) hx hb dX3_lookFrom_37 (by decide) ?_
      refine lv_icmp_lt (tgt := 42) hx hb dX3_lookFrom_38 (by decide) (fun c6 => ?_) (fun c6 => ?_)
      · skip
        have n7 : p0.toInt < (4 : Int32).toInt := (i_lt c6)
        refine lv_aload hx hb dX3_lookFrom_42 (lv_at hl 1 rfl) ?_
        refine lv_aload_n hx hb dX3_lookFrom_44 rfl (lv_at hl 3 rfl) ?_
        refine lv_aload_n hx hb dX3_lookFrom_45 rfl (lv_at hl 2 rfl) ?_
        refine va_get (D := D) (ci := 3) (v := .int (st 126 9)) (C := RX3) (T := TX3) (N := 10) hx hb hT in_X3 hown hK hP 126 cw_126 rfl 9 (by decide) (hT _ t413) (fun _ h9 => h9) rfl dX3_lookFrom_46 ?_
        refine lv_iload hx hb dX3_lookFrom_49 (lv_at hl 0 rfl) ?_
        refine ro_V (As := [.ref (a 18), .int (st 126 9), .int z3]) (rest := []) S (s_X5_favourite l D k a st sl 134 (st 126 9) z3 _ (by decide) hB  ) lkX3_96 ok_X5_favourite ⟨rfl, rfl, Nat.le_of_ble_eq_true rfl, Nat.le_of_ble_eq_true rfl⟩ (pw_V (ci := 5) (q0 := 134) hK hN rfl cw_134 hP (hD.weaken (fun _ _ _ _ => trivial))) rfl hl.1 rfl (Nat.le_of_ble_eq_true rfl) ⟨Nat.zero_le _, Nat.zero_le _⟩ dX3_lookFrom_51 (fun r8 er8 => ?_)
        have h9 : Iv (-1) 7 r8 := er8.1
        have k10 := er8.2
        refine lv_istore (lv' := [(6, .int r8), (5, .int z3), (4, .ref (a 134)), (0, .ref (a 126)), (1, .ref (a 18)), (2, .int p0), (3, .int p1)]) hx hb dX3_lookFrom_54 hl (by decide) rfl (fun ls hl => ?_)
        refine lv_iconst (v := 0) hx hb dX3_lookFrom_56 (by decide) ?_
        refine lv_istore (lv' := [(7, .int 0), (6, .int r8), (5, .int z3), (4, .ref (a 134)), (0, .ref (a 126)), (1, .ref (a 18)), (2, .int p0), (3, .int p1)]) hx hb dX3_lookFrom_57 hl (by decide) rfl (fun ls hl => ?_)
        refine lv_iconst (v := 0) hx hb dX3_lookFrom_59 (by decide) ?_
        refine lv_istore (lv' := [(8, .int 0), (7, .int 0), (6, .int r8), (5, .int z3), (4, .ref (a 134)), (0, .ref (a 126)), (1, .ref (a 18)), (2, .int p0), (3, .int p1)]) hx hb dX3_lookFrom_60 hl (by decide) rfl (fun ls hl => ?_)
        have lp62 : ∀ (n9_62 : Nat) (v8_62 : Int32) (v7_62 : Int32) (t62 : CT) (H9 : Heap) (locs9 : List Loc) (ls : Array Slot), Iv 0 8 v8_62 → Iv 0 255 v7_62 → CB t62 → FR [160, 141, 142, 143, 144, 145, 147, 148, 149, 150, 151, 153, 154, 155, 156, 157, 126, 161] st t62 → t62 126 7 = st 126 7 → t62 126 8 = st 126 8 → t62 126 9 = st 126 9 → va_P D vwCl (CWS k a t62 sl) H9 → va_D A (CWS k a t62 sl) → va_S A s.heap H9 locs9 → lv_has ls 10 [(8, .int v8_62), (7, .int v7_62), (6, .int r8), (5, .int z3), (4, .ref (a 134)), (0, .ref (a 126)), (1, .ref (a 18)), (2, .int p0), (3, .int p1)] → (8 : Int) - v8_62.toInt < (n9_62 : Int) → W p l e (rmw 9 0 0) s m ([.ref (a 126), .ref (a 18), .int p0, .int p1] : List Value).toArray below meth c H9 locs9 0 0 Q (F0 m 62 ls []) := by
          clear hl hP hD hS
          intro n9_62
          induction n9_62 with
          | zero =>
            intro v8_62 v7_62 t62 H9 locs9 ls iv8_62 iv7_62 hBt62 gt62 qt62_0 qt62_1 qt62_2 hP hD hS hl hm62
            exact (fu_0 iv8_62 hm62).elim
          | succ n9_62 ih62 =>
            intro v8_62 v7_62 t62 H9 locs9 ls iv8_62 iv7_62 hBt62 gt62 qt62_0 qt62_1 qt62_2 hP hD hS hl hm62
            have hFt62 : FR [160, 141, 142, 143, 144, 145, 147, 148, 149, 150, 151, 153, 154, 155, 156, 157, 126, 161] st t62 := fr_ca fr_rf gt62 (sub_1 (List.mem_of_getElem? (i := 0) rfl) (sub_1 (List.mem_of_getElem? (i := 1) rfl) (sub_1 (List.mem_of_getElem? (i := 2) rfl) (sub_1 (List.mem_of_getElem? (i := 3) rfl) (sub_1 (List.mem_of_getElem? (i := 4) rfl) (sub_1 (List.mem_of_getElem? (i := 5) rfl) (sub_1 (List.mem_of_getElem? (i := 6) rfl) (sub_1 (List.mem_of_getElem? (i := 7) rfl) (sub_1 (List.mem_of_getElem? (i := 8) rfl) (sub_1 (List.mem_of_getElem? (i := 9) rfl) (sub_1 (List.mem_of_getElem? (i := 10) rfl) (sub_1 (List.mem_of_getElem? (i := 11) rfl) (sub_1 (List.mem_of_getElem? (i := 12) rfl) (sub_1 (List.mem_of_getElem? (i := 13) rfl) (sub_1 (List.mem_of_getElem? (i := 14) rfl) (sub_1 (List.mem_of_getElem? (i := 15) rfl) (sub_1 (List.mem_of_getElem? (i := 16) rfl) (sub_1 (List.mem_of_getElem? (i := 17) rfl) sub_0))))))))))))))))))
            refine lv_iload hx hb dX3_lookFrom_62 (lv_at hl 0 rfl) ?_
            refine lv_aload_n hx hb dX3_lookFrom_64 rfl (lv_at hl 6 rfl) ?_
            refine va_get (D := D) (ci := 1) (v := .int (t62 18 3)) (C := RX1) (T := TX1) (N := 14) hx hb hT in_X1 hown hK hP 18 cw_18 rfl 3 (by decide) (hT _ t208) (fun _ h9 => h9) rfl dX3_lookFrom_65 ?_
            refine k_top (y := (st 18 3)) (congrFun (hFt62 18 (nm_1 (by decide) (nm_1 (by decide) (nm_1 (by decide) (nm_1 (by decide) (nm_1 (by decide) (nm_1 (by decide) (nm_1 (by decide) (nm_1 (by decide) (nm_1 (by decide) (nm_1 (by decide) (nm_1 (by decide) (nm_1 (by decide) (nm_1 (by decide) (nm_1 (by decide) (nm_1 (by decide) (nm_1 (by decide) (nm_1 (by decide) (nm_1 (by decide) nm_0))))))))))))))))))) 3) ?_
            have h326 : Iv 0 8 (st 18 3) := (rb_18_3 hB)
            refine lv_icmp_ge (tgt := 143) hx hb dX3_lookFrom_68 (by decide) (fun c327 => ?_) (fun c327 => ?_)
            · skip
              have n328 : (st 18 3).toInt ≤ v8_62.toInt := (i_le c327)
              rw [hQ]
              exact W.vret hx hb hr (fun t ht hW => ⟨⟨t62, rfl, ⟨hBt62, hFt62, qt62_0, qt62_1, qt62_2, trivial⟩, by rw [ht]; exact hP, va_K.moved hW.alike (hK.sub (tys' := []) [] rfl), by rw [hAe]; exact hD⟩, by rw [hAe]; exact hS.F ht⟩) hS.2.2 dX3_lookFrom_143
            · skip
              have n329 : v8_62.toInt < (st 18 3).toInt := (i_nle c327)
              have h330 : Iv 0 7 v8_62 := lt_l iv8_62 n329 h326 (by decide)
              have h331 : Iv 1 8 (st 18 3) := lt_r iv8_62 n329 h326 (by decide)
              refine lv_aload_n hx hb dX3_lookFrom_71 rfl (lv_at hl 6 rfl) ?_
              refine lv_iload hx hb dX3_lookFrom_72 (lv_at hl 0 rfl) ?_
              refine lv_iload hx hb dX3_lookFrom_74 (lv_at hl 3 rfl) ?_
              refine ro_V (As := [.int v8_62, .int z3]) (rest := []) S (s_X1_touches l D k a t62 sl  v8_62 z3 _  hBt62  ) lkX3_100 ok_X1_touches ⟨rfl, rfl, Nat.le_of_ble_eq_true rfl, Nat.le_of_ble_eq_true rfl⟩ (pw_V (ci := 1) (q0 := 18) hK hN rfl cw_18 hP (hD.weaken (fun _ _ _ _ => trivial))) rfl hl.1 rfl (Nat.le_of_ble_eq_true rfl) ⟨Nat.zero_le _, Nat.zero_le _⟩ dX3_lookFrom_76 (fun r332 er332 => ?_)
              rcases er332 with ⟨rfl, g9⟩ | ⟨rfl, g9⟩
              · skip
                have g333 := g9
                have k334 := g333.2.2
                have h335 : Iv 0 7 r8 := ⟨k10 v8_62 (h330).1 (by have y9 := k334.1; rw [(congrFun (hFt62 18 (nm_1 (by decide) (nm_1 (by decide) (nm_1 (by decide) (nm_1 (by decide) (nm_1 (by decide) (nm_1 (by decide) (nm_1 (by decide) (nm_1 (by decide) (nm_1 (by decide) (nm_1 (by decide) (nm_1 (by decide) (nm_1 (by decide) (nm_1 (by decide) (nm_1 (by decide) (nm_1 (by decide) (nm_1 (by decide) (nm_1 (by decide) (nm_1 (by decide) nm_0))))))))))))))))))) 3)] at y9; exact y9) (tp_of (hFt62 19 (nm_1 (by decide) (nm_1 (by decide) (nm_1 (by decide) (nm_1 (by decide) (nm_1 (by decide) (nm_1 (by decide) (nm_1 (by decide) (nm_1 (by decide) (nm_1 (by decide) (nm_1 (by decide) (nm_1 (by decide) (nm_1 (by decide) (nm_1 (by decide) (nm_1 (by decide) (nm_1 (by decide) (nm_1 (by decide) (nm_1 (by decide) (nm_1 (by decide) nm_0))))))))))))))))))) (hFt62 20 (nm_1 (by decide) (nm_1 (by decide) (nm_1 (by decide) (nm_1 (by decide) (nm_1 (by decide) (nm_1 (by decide) (nm_1 (by decide) (nm_1 (by decide) (nm_1 (by decide) (nm_1 (by decide) (nm_1 (by decide) (nm_1 (by decide) (nm_1 (by decide) (nm_1 (by decide) (nm_1 (by decide) (nm_1 (by decide) (nm_1 (by decide) (nm_1 (by decide) nm_0))))))))))))))))))) k334.2), (h9).2⟩
                refine lv_if_eq (tgt := 137) hx hb dX3_lookFrom_79 (by decide) (fun c336 => ?_) (fun c336 => ?_)
                · first | exact absurd c336 (by decide) | exact absurd (by decide) c336
                refine lv_aload hx hb dX3_lookFrom_82 (lv_at hl 4 rfl) ?_
                refine lv_aload_n hx hb dX3_lookFrom_84 rfl (lv_at hl 5 rfl) ?_
                refine va_get (D := D) (ci := 3) (v := .int (t62 126 9)) (C := RX3) (T := TX3) (N := 10) hx hb hT in_X3 hown hK hP 126 cw_126 rfl 9 (by decide) (hT _ t413) (fun _ h9 => h9) rfl dX3_lookFrom_85 ?_
                refine k_top (y := (st 126 9)) qt62_2 ?_
                refine lv_iload hx hb dX3_lookFrom_88 (lv_at hl 2 rfl) ?_
                refine lv_iload hx hb dX3_lookFrom_90 (lv_at hl 0 rfl) ?_
                refine lv_aload_n hx hb dX3_lookFrom_92 rfl (lv_at hl 6 rfl) ?_
                refine va_get (D := D) (ci := 1) (v := .int (t62 18 2)) (C := RX1) (T := TX1) (N := 14) hx hb hT in_X1 hown hK hP 18 cw_18 rfl 2 (by decide) (hT _ t204) (fun _ h9 => h9) rfl dX3_lookFrom_93 ?_
                refine k_top (y := (st 18 2)) (congrFun (hFt62 18 (nm_1 (by decide) (nm_1 (by decide) (nm_1 (by decide) (nm_1 (by decide) (nm_1 (by decide) (nm_1 (by decide) (nm_1 (by decide) (nm_1 (by decide) (nm_1 (by decide) (nm_1 (by decide) (nm_1 (by decide) (nm_1 (by decide) (nm_1 (by decide) (nm_1 (by decide) (nm_1 (by decide) (nm_1 (by decide) (nm_1 (by decide) (nm_1 (by decide) nm_0))))))))))))))))))) 2) ?_
                refine ro_V (As := [.int (st 126 9), .int r8, .int v8_62, .int (st 18 2)]) (rest := []) S (s_X5_yieldTo_b l D k a t62 sl 134 (st 126 9) r8 v8_62 (st 18 2) _ (by decide) hBt62 h335 h330 ) lkX3_107 ok_X5_yieldTo ⟨rfl, rfl, Nat.le_of_ble_eq_true rfl, Nat.le_of_ble_eq_true rfl⟩ (pw_V (ci := 5) (q0 := 134) hK hN rfl cw_134 hP (hD.weaken (fun _ _ _ _ => trivial))) rfl hl.1 rfl (Nat.le_of_ble_eq_true rfl) ⟨Nat.zero_le _, Nat.zero_le _⟩ dX3_lookFrom_96 (fun r337 er337 => ?_)
                have h338 : Iv 0 7 r337 := er337.1
                refine lv_istore (lv' := [(9, .int r337), (8, .int v8_62), (7, .int v7_62), (6, .int r8), (5, .int z3), (4, .ref (a 134)), (0, .ref (a 126)), (1, .ref (a 18)), (2, .int p0), (3, .int p1)]) hx hb dX3_lookFrom_99 hl (by decide) rfl (fun ls hl => ?_)
                refine lv_iload hx hb dX3_lookFrom_101 (lv_at hl 2 rfl) ?_
                refine lv_iload hx hb dX3_lookFrom_103 (lv_at hl 0 rfl) ?_
                refine lv_ishr hx hb dX3_lookFrom_105 ?_
                refine lv_topi (fun z339 ez339 => ?_)
                refine lv_iconst (v := 1) hx hb dX3_lookFrom_106 (by decide) ?_
                refine lv_iand hx hb dX3_lookFrom_107 ?_
                refine lv_topi (fun z340 ez340 => ?_)
                have h341 : Iv 0 1 z340 := iv_andr ez340 (iv_mono (c := 0) (d := 1) (iv_c (by decide) : Iv 1 1 1) (by decide) (by decide))
                refine lv_if_ne (tgt := 137) hx hb dX3_lookFrom_108 (by decide) (fun c342 => ?_) (fun c342 => ?_)
                · skip
                  have h343 : Iv 1 1 z340 := ne_lo h341 (show ¬ z340 = 0 from c342) (by decide) (by decide)
                  obtain ⟨z344, ez344⟩ : ∃ z9 : Int32, z9 = v8_62 + Int32.ofInt 1 := ⟨_, rfl⟩
                  have h345 : Iv 1 8 z344 := iv_inc ez344 h330 (by decide) (by decide) (by decide) (by decide) (by decide) (by decide)
                  refine lv_iinc (v := z344) (lv' := [(8, .int z344), (9, .int r337), (7, .int v7_62), (6, .int r8), (5, .int z3), (4, .ref (a 134)), (0, .ref (a 126)), (1, .ref (a 18)), (2, .int p0), (3, .int p1)]) hx hb dX3_lookFrom_137 hl (k := 1) rfl ez344.symm (by decide) rfl (fun ls hl => ?_)
                  refine lv_goto (tgt := 62) hx hb dX3_lookFrom_140 (by decide) ?_
                  exact ih62 z344 v7_62 t62 _ _ _ (iv_mono (c := 0) (d := 8) h345 (by decide) (by decide)) iv7_62 hBt62 gt62 qt62_0 qt62_1 qt62_2 hP hD hS (lv_sub hl [0, 2, 3, 4, 5, 6, 7, 8, 9] rfl) (fu_s (lo := 0) (ti_inc ez344 h330 (by decide) (by decide) (by decide) (by decide)) (by decide) hm62)
                · skip
                  have h346 : Iv 0 0 z340 := eq_l c342 (iv_c (by decide) : Iv 0 0 0)
                  refine lv_iload hx hb dX3_lookFrom_111 (lv_at hl 2 rfl) ?_
                  refine lv_iconst (v := 1) hx hb dX3_lookFrom_113 (by decide) ?_
                  refine lv_iload hx hb dX3_lookFrom_114 (lv_at hl 0 rfl) ?_
                  refine lv_ishl hx hb dX3_lookFrom_116 ?_
                  refine lv_topi (fun z347 ez347 => ?_)
                  have h348 : Iv 1 128 z347 := iv_shl 7 ez347 h338 (by decide) (by decide) (by decide)
                  refine lv_ior hx hb dX3_lookFrom_117 ?_
                  refine lv_topi (fun z349 ez349 => ?_)
                  have h350 : Iv 0 255 z349 := iv_or 8 ez349 iv7_62 (iv_mono (c := 0) (d := 128) h348 (by decide) (by decide)) (by decide) (by decide) (by decide) (by decide)
                  refine lv_istore (lv' := [(7, .int z349), (9, .int r337), (8, .int v8_62), (6, .int r8), (5, .int z3), (4, .ref (a 134)), (0, .ref (a 126)), (1, .ref (a 18)), (2, .int p0), (3, .int p1)]) hx hb dX3_lookFrom_118 hl (by decide) rfl (fun ls hl => ?_)
                  refine lv_aload_n hx hb dX3_lookFrom_120 rfl (lv_at hl 6 rfl) ?_
                  refine va_get (D := D) (ci := 3) (v := .ref (a 160)) (C := RX3) (T := TX3) (N := 10) hx hb hT in_X3 hown hK hP 126 cw_126 rfl 3 (by decide) (hT _ t404) (fun _ h9 => h9) rfl dX3_lookFrom_121 ?_
                  refine lv_iload_n hx hb dX3_lookFrom_124 rfl (lv_at hl 8 rfl) ?_
                  refine lv_iload hx hb dX3_lookFrom_125 (lv_at hl 2 rfl) ?_
                  refine c_ist hx hb hK hP hD hS cw_160 cs_160 (iv_in h1 (by decide) (by decide)) dX3_lookFrom_127 (fun s351 H9 locs9 es351 hP9 hD9 hS9 => ?_)
                  clear hP hD hS
                  have hS := hS9
                  have hP := hP9
                  have hD := hD9
                  clear hP9 hD9 hS9
                  have hBs351 : CB s351 := by rw [es351]; exact cb_sw hBt62 trivial
                  have hFs351 : FR [160, 141, 142, 143, 144, 145, 147, 148, 149, 150, 151, 153, 154, 155, 156, 157, 126, 161] st s351 := fr_sw hFt62 (List.mem_of_getElem? (i := 0) rfl) es351
                  refine lv_aload_n hx hb dX3_lookFrom_128 rfl (lv_at hl 6 rfl) ?_
                  refine lv_aload_n hx hb dX3_lookFrom_129 rfl (lv_at hl 7 rfl) ?_
                  refine lv_iload hx hb dX3_lookFrom_130 (lv_at hl 1 rfl) ?_
                  refine lv_iload_n hx hb dX3_lookFrom_132 rfl (lv_at hl 8 rfl) ?_
                  refine lv_iload_n hx hb dX3_lookFrom_133 rfl (lv_at hl 9 rfl) ?_
                  refine ca_v hP hD hS hA (fun hDc => run_V (mc := 0) (ms := 0) (As := [.ref (a 18), .int r337, .int p0, .int p1]) (rest := []) S (s_X3_lookBy_1 l D k a s351 sl  r337 p0 p1 _  hBs351 h338 h1 (eq_l (Eq.trans (congrFun (sw_at es351 (by decide)) 7) qt62_0) hc)) lkX3_111 ok_X3_lookBy ⟨rfl, rfl, Nat.le_of_ble_eq_true rfl, Nat.le_of_ble_eq_true rfl⟩ (pw_V (ci := 3) (q0 := 126) hK hN rfl cw_126 hP hDc) rfl hl.1 rfl (Nat.le_of_ble_eq_true rfl) ⟨Nat.zero_le _, Nat.zero_le _⟩ dX3_lookFrom_134) (fun s352 H9 locs9 hs352 hP9 hD9 hS9 => ?_)
                  clear hP hD hS
                  have hS := hS9
                  have hP := hP9
                  have hD := hD9
                  clear hP9 hD9 hS9
                  obtain ⟨hBs352, gs352, qs352_0, qs352_1, qs352_2, fs352⟩ := hs352
                  have hFs352 : FR [160, 141, 142, 143, 144, 145, 147, 148, 149, 150, 151, 153, 154, 155, 156, 157, 126, 161] st s352 := fr_ca hFs351 gs352 (sub_1 (List.mem_of_getElem? (i := 1) rfl) (sub_1 (List.mem_of_getElem? (i := 2) rfl) (sub_1 (List.mem_of_getElem? (i := 3) rfl) (sub_1 (List.mem_of_getElem? (i := 4) rfl) (sub_1 (List.mem_of_getElem? (i := 5) rfl) (sub_1 (List.mem_of_getElem? (i := 0) rfl) (sub_1 (List.mem_of_getElem? (i := 6) rfl) (sub_1 (List.mem_of_getElem? (i := 7) rfl) (sub_1 (List.mem_of_getElem? (i := 8) rfl) (sub_1 (List.mem_of_getElem? (i := 9) rfl) (sub_1 (List.mem_of_getElem? (i := 10) rfl) (sub_1 (List.mem_of_getElem? (i := 11) rfl) (sub_1 (List.mem_of_getElem? (i := 12) rfl) (sub_1 (List.mem_of_getElem? (i := 13) rfl) (sub_1 (List.mem_of_getElem? (i := 14) rfl) (sub_1 (List.mem_of_getElem? (i := 15) rfl) (sub_1 (List.mem_of_getElem? (i := 16) rfl) (sub_1 (List.mem_of_getElem? (i := 17) rfl) sub_0))))))))))))))))))
                  obtain ⟨z354, ez354⟩ : ∃ z9 : Int32, z9 = v8_62 + Int32.ofInt 1 := ⟨_, rfl⟩
                  have h355 : Iv 1 8 z354 := iv_inc ez354 h330 (by decide) (by decide) (by decide) (by decide) (by decide) (by decide)
                  refine lv_iinc (v := z354) (lv' := [(8, .int z354), (7, .int z349), (9, .int r337), (6, .int r8), (5, .int z3), (4, .ref (a 134)), (0, .ref (a 126)), (1, .ref (a 18)), (2, .int p0), (3, .int p1)]) hx hb dX3_lookFrom_137 hl (k := 2) rfl ez354.symm (by decide) rfl (fun ls hl => ?_)
                  refine lv_goto (tgt := 62) hx hb dX3_lookFrom_140 (by decide) ?_
                  exact ih62 z354 z349 s352 _ _ _ (iv_mono (c := 0) (d := 8) h355 (by decide) (by decide)) h350 hBs352 (fr_ca (fr_sw gt62 (List.mem_of_getElem? (i := 0) rfl) es351) gs352 (sub_1 (List.mem_of_getElem? (i := 1) rfl) (sub_1 (List.mem_of_getElem? (i := 2) rfl) (sub_1 (List.mem_of_getElem? (i := 3) rfl) (sub_1 (List.mem_of_getElem? (i := 4) rfl) (sub_1 (List.mem_of_getElem? (i := 5) rfl) (sub_1 (List.mem_of_getElem? (i := 0) rfl) (sub_1 (List.mem_of_getElem? (i := 6) rfl) (sub_1 (List.mem_of_getElem? (i := 7) rfl) (sub_1 (List.mem_of_getElem? (i := 8) rfl) (sub_1 (List.mem_of_getElem? (i := 9) rfl) (sub_1 (List.mem_of_getElem? (i := 10) rfl) (sub_1 (List.mem_of_getElem? (i := 11) rfl) (sub_1 (List.mem_of_getElem? (i := 12) rfl) (sub_1 (List.mem_of_getElem? (i := 13) rfl) (sub_1 (List.mem_of_getElem? (i := 14) rfl) (sub_1 (List.mem_of_getElem? (i := 15) rfl) (sub_1 (List.mem_of_getElem? (i := 16) rfl) (sub_1 (List.mem_of_getElem? (i := 17) rfl) sub_0))))))))))))))))))) (Eq.trans qs352_0 (Eq.trans (congrFun (sw_at es351 (by decide)) 7) qt62_0)) (Eq.trans qs352_1 (Eq.trans (congrFun (sw_at es351 (by decide)) 8) qt62_1)) (Eq.trans qs352_2 (Eq.trans (congrFun (sw_at es351 (by decide)) 9) qt62_2)) hP hD hS (lv_sub hl [0, 1, 3, 4, 5, 6, 7, 8, 9] rfl) (fu_s (lo := 0) (ti_inc ez354 h330 (by decide) (by decide) (by decide) (by decide)) (by decide) hm62)
              · skip
                have g356 := g9
                have k357 := g356
                refine lv_if_eq (tgt := 137) hx hb dX3_lookFrom_79 (by decide) (fun c358 => ?_) (fun c358 => ?_)
                rotate_left
                · first | exact absurd c358 (by decide) | exact absurd (by decide) c358
                obtain ⟨z359, ez359⟩ : ∃ z9 : Int32, z9 = v8_62 + Int32.ofInt 1 := ⟨_, rfl⟩
                have h360 : Iv 1 8 z359 := iv_inc ez359 h330 (by decide) (by decide) (by decide) (by decide) (by decide) (by decide)
                refine lv_iinc (v := z359) (lv' := [(8, .int z359), (7, .int v7_62), (6, .int r8), (5, .int z3), (4, .ref (a 134)), (0, .ref (a 126)), (1, .ref (a 18)), (2, .int p0), (3, .int p1)]) hx hb dX3_lookFrom_137 hl (k := 0) rfl ez359.symm (by decide) rfl (fun ls hl => ?_)
                refine lv_goto (tgt := 62) hx hb dX3_lookFrom_140 (by decide) ?_
                exact ih62 z359 v7_62 t62 _ _ _ (iv_mono (c := 0) (d := 8) h360 (by decide) (by decide)) iv7_62 hBt62 gt62 qt62_0 qt62_1 qt62_2 hP hD hS (lv_sub hl [0, 1, 2, 3, 4, 5, 6, 7, 8] rfl) (fu_s (lo := 0) (ti_inc ez359 h330 (by decide) (by decide) (by decide) (by decide)) (by decide) hm62)
        exact lp62 9 0 0 st _ _ _ (iv_mono (c := 0) (d := 8) (iv_c (by decide) : Iv 0 0 0) (by decide) (by decide)) (iv_mono (c := 0) (d := 255) (iv_c (by decide) : Iv 0 0 0) (by decide) (by decide)) hB fr_rf rfl rfl rfl hP hD hS (lv_sub hl [0, 1, 2, 3, 4, 5, 6, 7, 8] rfl) (fu_i (iv_mono (c := 0) (d := 8) (iv_c (by decide) : Iv 0 0 0) (by decide) (by decide)) (by decide))
      · skip
        have n361 : (4 : Int32).toInt ≤ p0.toInt := (i_nlt c6)
        exact (iv_no (le_l (u := 1) (iv_c (by decide) : Iv 4 4 4) n361 h1 (by decide)) (by decide)).elim
    · skip
      have h362 : Iv 0 5 (st 126 8) := eq_l c5.symm h4
      refine lv_aload_n hx hb dX3_lookFrom_29 rfl (lv_at hl 2 rfl) ?_
      refine lv_iload_n hx hb dX3_lookFrom_30 rfl (lv_at hl 4 rfl) ?_
      refine lv_iload_n hx hb dX3_lookFrom_31 rfl (lv_at hl 5 rfl) ?_
      refine ca_v hP hD hS hA (fun hDc => run_V (mc := 0) (ms := 0) (As := [.int p0, .int p1]) (rest := []) S (s_X3_keepIfBetter l D k a st sl  p0 p1 _  hB (iv_mono (c := 0) (d := 4) h1 (by decide) (by decide)) ) lkX3_92 ok_X3_keepIfBetter ⟨rfl, rfl, Nat.le_of_ble_eq_true rfl, Nat.le_of_ble_eq_true rfl⟩ (pw_V (ci := 3) (q0 := 126) hK hN rfl cw_126 hP hDc) rfl hl.1 rfl (Nat.le_of_ble_eq_true rfl) ⟨Nat.zero_le _, Nat.zero_le _⟩ dX3_lookFrom_32) (fun s363 H9 locs9 hs363 hP9 hD9 hS9 => ?_)
      clear hP hD hS
      have hS := hS9
      have hP := hP9
      have hD := hD9
      clear hP9 hD9 hS9
      obtain ⟨hBs363, gs363, qs363_0, qs363_1, qs363_2, fs363⟩ := hs363
      have hFs363 : FR [160, 141, 142, 143, 144, 145, 147, 148, 149, 150, 151, 153, 154, 155, 156, 157, 126, 161] st s363 := fr_ca fr_rf gs363 (sub_1 (List.mem_of_getElem? (i := 16) rfl) (sub_1 (List.mem_of_getElem? (i := 17) rfl) sub_0))
      rw [hQ]
      exact W.vret hx hb hr (fun t ht hW => ⟨⟨s363, rfl, ⟨hBs363, hFs363, qs363_0, qs363_1, qs363_2, trivial⟩, by rw [ht]; exact hP, va_K.moved hW.alike (hK.sub (tys' := []) [] rfl), by rw [hAe]; exact hD⟩, by rw [hAe]; exact hS.F ht⟩) hS.2.2 dX3_lookFrom_35
set_option maxHeartbeats 4000000 in
set_option maxRecDepth 100000 in
theorem s_X3_lookBy_0 (l : Launch) (D : va_G) (k : Nat → ClassId) (a : Nat → Nat) (st : CT) (sl : CL) (p0 : Int32) (p1 : Int32) (p2 : Int32) (sz : Nat) (hB : CB st) (hp0 : Iv 0 7 p0) (hp1 : Iv 0 0 p1) (hc : Iv 0 2 (st 126 7)) : Met l yX3_lookBy (.code yX3_lookBy cX3_lookBy 8 none :: TB) (rmw 10 0 0) (va_Pc [.ref (a 126), .ref (a 18), .int p0, .int p1, .int p2] (PW D k sz (CWS k a st sl))) (QV D (S := CT) (fun u => CB u ∧ FR [135, 136, 137, 138, 139, 160, 141, 142, 143, 144, 145, 147, 148, 149, 150, 151, 153, 154, 155, 156, 157, 126, 161] st u ∧ u 126 7 = st 126 7 ∧ u 126 8 = st 126 8 ∧ u 126 9 = st 126 9 ∧ (True)) (fun u => CWS k a u sl) (fun _ => []) (CWS k a st sl) sz) 0 0 (va_A (CWS k a st sl) sz) := by
  refine Met.ofW (cc := cX3_lookBy) (maxL := 8) (ret := none) (by decide) rfl ?_
  intro p e s m args below meth c s₁ B hml hv
  obtain ⟨rfl, hsz, hP, hK, hD0, hN⟩ := hv
  have hx := B.exec
  have hb := B.bytes
  have hr := B.returns
  have hT : ∀ w9 ∈ TB, w9.before ([.ref (a 126), .ref (a 18), .int p0, .int p1, .int p2] : List Value).toArray s = true := fun w9 h => atoms_spec (ws := .code yX3_lookBy cX3_lookBy 8 none :: TB) B.pre w9 (List.mem_cons_of_mem _ h)
  have hown : s.vm.findClass RX3 = some m.cls := findClass_of_methodNamed B.named
  have S : CallFix p m c cX3_lookBy 8 s _ TB RX3 := ⟨hx, hb, hml, hown, hT⟩
  subst hsz
  have hD := hD0.self (sz := s.heap.size)
  generalize hAe : va_A (CWS k a st sl) s.heap.size = A at hD ⊢
  have hA : ∀ q : Nat, s.heap.size ≤ q → A q := fun q h => by rw [← hAe]; exact Or.inr h
  have hS : va_S A s.heap s.heap [] := va_S.rf
  have hl := lv_entry ([.ref (a 126), .ref (a 18), .int p0, .int p1, .int p2]) (n := 8) (Nat.le_of_ble_eq_true rfl)
  rw [lg_entry_eq]
  generalize (lg_sl ([.ref (a 126), .ref (a 18), .int p0, .int p1, .int p2]) ++ List.replicate (8 - (lg_sl ([.ref (a 126), .ref (a 18), .int p0, .int p1, .int p2])).length) Slot.unset).toArray = ls at hl ⊢
  have hl : lv_has ls 8 [(0, .ref (a 126)), (1, .ref (a 18)), (2, .int p0), (3, .int p1), (4, .int p2)] := hl
  refine nameQ (fun Q hQ => ?_)
  refine lv_aload_n hx hb dX3_lookBy_0 rfl (lv_at hl 0 rfl) ?_
  refine va_get (D := D) (ci := 3) (v := .ref (a 127)) (C := RX3) (T := TX3) (N := 10) hx hb hT in_X3 hown hK hP 126 cw_126 rfl 0 (by decide) (hT _ t400) (fun _ h9 => h9) rfl dX3_lookBy_1 ?_
  refine lv_iload_n hx hb dX3_lookBy_4 rfl (lv_at hl 3 rfl) ?_
  rcases iv_ca1 hp1 0 (by decide) (by decide) with q9
  · refine k_top (y := 0) q9 ?_
    have h1 : Iv 0 0 p1 := (by rw [q9]; exact iv_c (by decide))
    have q2 := q9
    refine va_aldq hx hb hK hP 127 5 cw_127 rfl (by unfold vp_in; decide) dX3_lookBy_5 ?_
    refine W.eq (g2 := F0 m 6 ls [.ref (a 128)]) rfl ?_
    refine lv_astore (lv' := [(5, .ref (a 128)), (0, .ref (a 126)), (1, .ref (a 18)), (2, .int p0), (3, .int p1), (4, .int p2)]) hx hb dX3_lookBy_6 hl (by decide) rfl (fun ls hl => ?_)
    refine lv_iload hx hb dX3_lookBy_8 (lv_at hl 5 rfl) ?_
    refine lv_aload_n hx hb dX3_lookBy_10 rfl (lv_at hl 2 rfl) ?_
    refine va_get (D := D) (ci := 1) (v := .ref (a 21)) (C := RX1) (T := TX1) (N := 14) hx hb hT in_X1 hown hK hP 18 cw_18 rfl 9 (by decide) (hT _ t229) (fun _ h9 => h9) rfl dX3_lookBy_11 ?_
    refine lv_iload_n hx hb dX3_lookBy_14 rfl (lv_at hl 3 rfl) ?_
    refine va_iald hx hb hK hP 21 0 cw_21 rfl (iv_in hp0 (by decide) (by decide)) dX3_lookBy_15 ?_
    refine lv_topi (fun z3 ez3 => ?_)
    refine lv_iadd hx hb dX3_lookBy_16 ?_
    refine lv_topi (fun z4 ez4 => ?_)
    refine lv_istore (lv' := [(6, .int z4), (5, .ref (a 128)), (0, .ref (a 126)), (1, .ref (a 18)), (2, .int p0), (3, .int p1), (4, .int p2)]) hx hb dX3_lookBy_17 hl (by decide) rfl (fun ls hl => ?_)
    refine lv_aload_n hx hb dX3_lookBy_19 rfl (lv_at hl 3 rfl) ?_
    refine lv_iload_n hx hb dX3_lookBy_20 rfl (lv_at hl 4 rfl) ?_
    refine lv_aload hx hb dX3_lookBy_21 (lv_at hl 1 rfl) ?_
    refine va_get (D := D) (ci := 5) (v := .ref (a 132)) (C := RX5) (T := TX5) (N := 5) hx hb hT in_X5 hown hK hP 128 cw_128 rfl 3 (by decide) (hT _ t179) (fun _ h9 => h9) rfl dX3_lookBy_23 ?_
    refine lv_aload_n hx hb dX3_lookBy_26 rfl (lv_at hl 2 rfl) ?_
    refine va_get (D := D) (ci := 3) (v := .int (st 126 7)) (C := RX3) (T := TX3) (N := 10) hx hb hT in_X3 hown hK hP 126 cw_126 rfl 7 (by decide) (hT _ t411) (fun _ h9 => h9) rfl dX3_lookBy_27 ?_
    refine va_iald hx hb hK hP 132 0 cw_132 rfl (iv_in hc (by decide) (by decide)) dX3_lookBy_30 ?_
    refine lv_topi (fun z5 ez5 => ?_)
    have h6 : Iv 0 5 z5 := by rw [ez5]; exact (rb_132 hB (vp_in_lt (iv_in hc (by decide) (by decide))))
    refine ro_V (As := [.int p0, .int z5]) (rest := []) S (s_X1_otherEnd l D k a st sl  p0 z5 _  hB hp0 ) lkX3_115 ok_X1_otherEnd ⟨rfl, rfl, Nat.le_of_ble_eq_true rfl, Nat.le_of_ble_eq_true rfl⟩ (pw_V (ci := 1) (q0 := 18) hK hN rfl cw_18 hP (hD.weaken (fun _ _ _ _ => trivial))) rfl hl.1 rfl (Nat.le_of_ble_eq_true rfl) ⟨Nat.zero_le _, Nat.zero_le _⟩ dX3_lookBy_31 (fun r7 er7 => ?_)
    have h8 : Iv 0 5 r7 := er7.1
    refine lv_istore (lv' := [(7, .int r7), (6, .int z4), (5, .ref (a 128)), (0, .ref (a 126)), (1, .ref (a 18)), (2, .int p0), (3, .int p1), (4, .int p2)]) hx hb dX3_lookBy_34 hl (by decide) rfl (fun ls hl => ?_)
    refine lv_iload hx hb dX3_lookBy_36 (lv_at hl 1 rfl) ?_
    refine lv_aload_n hx hb dX3_lookBy_38 rfl (lv_at hl 3 rfl) ?_
    refine va_get (D := D) (ci := 3) (v := .ref (a 158)) (C := RX3) (T := TX3) (N := 10) hx hb hT in_X3 hown hK hP 126 cw_126 rfl 1 (by decide) (hT _ t401) (fun _ h9 => h9) rfl dX3_lookBy_39 ?_
    refine lv_iload hx hb dX3_lookBy_42 (lv_at hl 0 rfl) ?_
    refine va_iald hx hb hK hP 158 0 cw_158 rfl (iv_in h8 (by decide) (by decide)) dX3_lookBy_44 ?_
    refine lv_topi (fun z9 ez9 => ?_)
    refine lv_iadd hx hb dX3_lookBy_45 ?_
    refine lv_topi (fun z10 ez10 => ?_)
    refine lv_aload_n hx hb dX3_lookBy_46 rfl (lv_at hl 3 rfl) ?_
    refine va_get (D := D) (ci := 3) (v := .int (st 126 6)) (C := RX3) (T := TX3) (N := 10) hx hb hT in_X3 hown hK hP 126 cw_126 rfl 6 (by decide) (hT _ t409) (fun _ h9 => h9) rfl dX3_lookBy_47 ?_
    refine lv_icmp_gt (tgt := 108) hx hb dX3_lookBy_50 (by decide) (fun c11 => ?_) (fun c11 => ?_)
    · skip
      have n12 : (st 126 6).toInt < z10.toInt := (i_lt c11)
      have h13 : Iv (-2147483648) 2147483646 (st 126 6) := lt_l (iv_full (st 126 6)) n12 (iv_full z10) (by decide)
      have h14 : Iv (-2147483647) 2147483647 z10 := lt_r (iv_full (st 126 6)) n12 (iv_full z10) (by decide)
      rw [hQ]
      exact W.vret hx hb hr (fun t ht hW => ⟨⟨st, rfl, ⟨hB, fr_rf, rfl, rfl, rfl, trivial⟩, by rw [ht]; exact hP, va_K.moved hW.alike (hK.sub (tys' := []) [] rfl), by rw [hAe]; exact hD⟩, by rw [hAe]; exact hS.F ht⟩) hS.2.2 dX3_lookBy_108
    · skip
      have n15 : z10.toInt ≤ (st 126 6).toInt := (i_nlt c11)
      refine lv_iload_n hx hb dX3_lookBy_53 rfl (lv_at hl 6 rfl) ?_
      refine lv_iconst (v := 1) hx hb dX3_lookBy_54 (by decide) ?_
      refine lv_iadd hx hb dX3_lookBy_55 ?_
      refine lv_topi (fun z16 ez16 => ?_)
      have h17 : Iv 1 1 z16 := iv_add ez16 h1 (iv_c (by decide) : Iv 1 1 1) (by decide) (by decide) (by decide) (by decide)
      refine lv_aload_n hx hb dX3_lookBy_56 rfl (lv_at hl 3 rfl) ?_
      refine va_get (D := D) (ci := 3) (v := .ref (a 159)) (C := RX3) (T := TX3) (N := 10) hx hb hT in_X3 hown hK hP 126 cw_126 rfl 2 (by decide) (hT _ t403) (fun _ h9 => h9) rfl dX3_lookBy_57 ?_
      refine lv_iload hx hb dX3_lookBy_60 (lv_at hl 0 rfl) ?_
      refine va_iald hx hb hK hP 159 0 cw_159 rfl (iv_in h8 (by decide) (by decide)) dX3_lookBy_62 ?_
      refine lv_topi (fun z18 ez18 => ?_)
      refine lv_iadd hx hb dX3_lookBy_63 ?_
      refine lv_topi (fun z19 ez19 => ?_)
      refine lv_iconst (v := 4) hx hb dX3_lookBy_64 (by decide) ?_
      refine lv_icmp_gt (tgt := 108) hx hb dX3_lookBy_65 (by decide) (fun c20 => ?_) (fun c20 => ?_)
      · skip
        have n21 : (4 : Int32).toInt < z19.toInt := (i_lt c20)
        have h22 : Iv 5 2147483647 z19 := lt_r (iv_c (by decide) : Iv 4 4 4) n21 (iv_full z19) (by decide)
        rw [hQ]
        exact W.vret hx hb hr (fun t ht hW => ⟨⟨st, rfl, ⟨hB, fr_rf, rfl, rfl, rfl, trivial⟩, by rw [ht]; exact hP, va_K.moved hW.alike (hK.sub (tys' := []) [] rfl), by rw [hAe]; exact hD⟩, by rw [hAe]; exact hS.F ht⟩) hS.2.2 dX3_lookBy_108
      · skip
        have n23 : z19.toInt ≤ (4 : Int32).toInt := (i_nlt c20)
        have h24 : Iv (-2147483648) 4 z19 := le_l (iv_full z19) n23 (iv_c (by decide) : Iv 4 4 4) (by decide)
        refine lv_aload_n hx hb dX3_lookBy_68 rfl (lv_at hl 3 rfl) ?_
        refine va_get (D := D) (ci := 3) (v := .ref (a 127)) (C := RX3) (T := TX3) (N := 10) hx hb hT in_X3 hown hK hP 126 cw_126 rfl 0 (by decide) (hT _ t400) (fun _ h9 => h9) rfl dX3_lookBy_69 ?_
        refine lv_iload_n hx hb dX3_lookBy_72 rfl (lv_at hl 6 rfl) ?_
        refine lv_iconst (v := 1) hx hb dX3_lookBy_73 (by decide) ?_
        refine lv_iadd hx hb dX3_lookBy_74 ?_
        refine lv_topi (fun z25 ez25 => ?_)
        have h26 : Iv 1 1 z25 := iv_add ez25 h1 (iv_c (by decide) : Iv 1 1 1) (by decide) (by decide) (by decide) (by decide)
        rcases iv_ca1 h26 1 (by decide) (by decide) with q9
        · refine k_top (y := 1) q9 ?_
          have h27 : Iv 1 1 z25 := (by rw [q9]; exact iv_c (by decide))
          have q28 := q9
          refine va_aldq hx hb hK hP 127 5 cw_127 rfl (by unfold vp_in; decide) dX3_lookBy_75 ?_
          refine W.eq (g2 := F0 m 76 ls [.ref (a 134)]) rfl ?_
          refine lv_aload hx hb dX3_lookBy_76 (lv_at hl 2 rfl) ?_
          refine ca_v hP hD hS hA (fun hDc => run_V (mc := 0) (ms := 0) (As := [.ref (a 128)]) (rest := []) S (s_X5_copy l D k a st sl 134 128  _ (by decide) (by decide) hB  ) lkX3_118 ok_X5_copy ⟨rfl, rfl, Nat.le_of_ble_eq_true rfl, Nat.le_of_ble_eq_true rfl⟩ (pw_V (ci := 5) (q0 := 134) hK hN rfl cw_134 hP hDc) rfl hl.1 rfl (Nat.le_of_ble_eq_true rfl) ⟨Nat.zero_le _, Nat.zero_le _⟩ dX3_lookBy_78) (fun s29 H9 locs9 hs29 hP9 hD9 hS9 => ?_)
          clear hP hD hS
          have hS := hS9
          have hP := hP9
          have hD := hD9
          clear hP9 hD9 hS9
          obtain ⟨hBs29, gs29, fs29⟩ := hs29
          have hFs29 : FR [135, 136, 137, 138, 139, 160, 141, 142, 143, 144, 145, 147, 148, 149, 150, 151, 153, 154, 155, 156, 157, 126, 161] st s29 := fr_ca fr_rf gs29 (sub_1 (List.mem_of_getElem? (i := 0) rfl) (sub_1 (List.mem_of_getElem? (i := 1) rfl) (sub_1 (List.mem_of_getElem? (i := 2) rfl) (sub_1 (List.mem_of_getElem? (i := 3) rfl) (sub_1 (List.mem_of_getElem? (i := 4) rfl) sub_0)))))
          refine lv_aload_n hx hb dX3_lookBy_81 rfl (lv_at hl 3 rfl) ?_
          refine va_get (D := D) (ci := 3) (v := .ref (a 127)) (C := RX3) (T := TX3) (N := 10) hx hb hT in_X3 hown hK hP 126 cw_126 rfl 0 (by decide) (hT _ t400) (fun _ h9 => h9) rfl dX3_lookBy_82 ?_
          refine lv_iload_n hx hb dX3_lookBy_85 rfl (lv_at hl 6 rfl) ?_
          refine lv_iconst (v := 1) hx hb dX3_lookBy_86 (by decide) ?_
          refine lv_iadd hx hb dX3_lookBy_87 ?_
          refine lv_topi (fun z31 ez31 => ?_)
          have h32 : Iv 1 1 z31 := iv_add ez31 h1 (iv_c (by decide) : Iv 1 1 1) (by decide) (by decide) (by decide) (by decide)
          rcases iv_ca1 h32 1 (by decide) (by decide) with q9
          · refine k_top (y := 1) q9 ?_
            have h33 : Iv 1 1 z31 := (by rw [q9]; exact iv_c (by decide))
            have q34 := q9
            refine va_aldq hx hb hK hP 127 5 cw_127 rfl (by unfold vp_in; decide) dX3_lookBy_88 ?_
            refine W.eq (g2 := F0 m 89 ls [.ref (a 134)]) rfl ?_
            refine lv_aload_n hx hb dX3_lookBy_89 rfl (lv_at hl 4 rfl) ?_
            refine lv_aload_n hx hb dX3_lookBy_90 rfl (lv_at hl 3 rfl) ?_
            refine va_get (D := D) (ci := 3) (v := .int (s29 126 7)) (C := RX3) (T := TX3) (N := 10) hx hb hT in_X3 hown hK hP 126 cw_126 rfl 7 (by decide) (hT _ t411) (fun _ h9 => h9) rfl dX3_lookBy_91 ?_
            refine k_top (y := (st 126 7)) (congrFun (gs29 126 (nm_1 (by decide) (nm_1 (by decide) (nm_1 (by decide) (nm_1 (by decide) (nm_1 (by decide) nm_0)))))) 7) ?_
            refine lv_iload_n hx hb dX3_lookBy_94 rfl (lv_at hl 5 rfl) ?_
            refine ca_v hP hD hS hA (fun hDc => run_V (mc := 0) (ms := 0) (As := [.ref (a 18), .int (st 126 7), .int p0]) (rest := []) S (s_X5_goBy l D k a s29 sl 134 (st 126 7) p0 _ (by decide) hBs29 hc hp0 ) lkX3_122 ok_X5_goBy ⟨rfl, rfl, Nat.le_of_ble_eq_true rfl, Nat.le_of_ble_eq_true rfl⟩ (pw_V (ci := 5) (q0 := 134) hK hN rfl cw_134 hP hDc) rfl hl.1 rfl (Nat.le_of_ble_eq_true rfl) ⟨Nat.zero_le _, Nat.zero_le _⟩ dX3_lookBy_95) (fun s35 H9 locs9 hs35 hP9 hD9 hS9 => ?_)
            clear hP hD hS
            have hS := hS9
            have hP := hP9
            have hD := hD9
            clear hP9 hD9 hS9
            obtain ⟨hBs35, gs35, fs35⟩ := hs35
            have hFs35 : FR [135, 136, 137, 138, 139, 160, 141, 142, 143, 144, 145, 147, 148, 149, 150, 151, 153, 154, 155, 156, 157, 126, 161] st s35 := fr_ca hFs29 gs35 (sub_1 (List.mem_of_getElem? (i := 0) rfl) (sub_1 (List.mem_of_getElem? (i := 1) rfl) (sub_1 (List.mem_of_getElem? (i := 3) rfl) (sub_1 (List.mem_of_getElem? (i := 4) rfl) sub_0))))
            refine lv_aload_n hx hb dX3_lookBy_98 rfl (lv_at hl 3 rfl) ?_
            refine lv_aload_n hx hb dX3_lookBy_99 rfl (lv_at hl 4 rfl) ?_
            refine lv_iload_n hx hb dX3_lookBy_100 rfl (lv_at hl 6 rfl) ?_
            refine lv_iconst (v := 1) hx hb dX3_lookBy_101 (by decide) ?_
            refine lv_iadd hx hb dX3_lookBy_102 ?_
            refine lv_topi (fun z37 ez37 => ?_)
            have h38 : Iv 1 1 z37 := iv_add ez37 h1 (iv_c (by decide) : Iv 1 1 1) (by decide) (by decide) (by decide) (by decide)
            refine lv_iload hx hb dX3_lookBy_103 (lv_at hl 1 rfl) ?_
            refine ca_v hP hD hS hA (fun hDc => run_V (mc := 0) (ms := 0) (As := [.ref (a 18), .int z37, .int z4]) (rest := []) S (s_X3_lookFrom_1 l D k a s35 sl  z37 z4 _  hBs35 h38 (eq_l (Eq.trans (congrFun (gs35 126 (nm_1 (by decide) (nm_1 (by decide) (nm_1 (by decide) (nm_1 (by decide) nm_0))))) 7) (congrFun (gs29 126 (nm_1 (by decide) (nm_1 (by decide) (nm_1 (by decide) (nm_1 (by decide) (nm_1 (by decide) nm_0)))))) 7)) hc)) lkX3_85 ok_X3_lookFrom ⟨rfl, rfl, Nat.le_of_ble_eq_true rfl, Nat.le_of_ble_eq_true rfl⟩ (pw_V (ci := 3) (q0 := 126) hK hN rfl cw_126 hP hDc) rfl hl.1 rfl (Nat.le_of_ble_eq_true rfl) ⟨Nat.zero_le _, Nat.zero_le _⟩ dX3_lookBy_105) (fun s39 H9 locs9 hs39 hP9 hD9 hS9 => ?_)
            clear hP hD hS
            have hS := hS9
            have hP := hP9
            have hD := hD9
            clear hP9 hD9 hS9
            obtain ⟨hBs39, gs39, qs39_0, qs39_1, qs39_2, fs39⟩ := hs39
            have hFs39 : FR [135, 136, 137, 138, 139, 160, 141, 142, 143, 144, 145, 147, 148, 149, 150, 151, 153, 154, 155, 156, 157, 126, 161] st s39 := fr_ca hFs35 gs39 (sub_1 (List.mem_of_getElem? (i := 5) rfl) (sub_1 (List.mem_of_getElem? (i := 6) rfl) (sub_1 (List.mem_of_getElem? (i := 7) rfl) (sub_1 (List.mem_of_getElem? (i := 8) rfl) (sub_1 (List.mem_of_getElem? (i := 9) rfl) (sub_1 (List.mem_of_getElem? (i := 10) rfl) (sub_1 (List.mem_of_getElem? (i := 11) rfl) (sub_1 (List.mem_of_getElem? (i := 12) rfl) (sub_1 (List.mem_of_getElem? (i := 13) rfl) (sub_1 (List.mem_of_getElem? (i := 14) rfl) (sub_1 (List.mem_of_getElem? (i := 15) rfl) (sub_1 (List.mem_of_getElem? (i := 16) rfl) (sub_1 (List.mem_of_getElem? (i := 17) rfl) (sub_1 (List.mem_of_getElem? (i := 18) rfl) (sub_1 (List.mem_of_getElem? (i := 19) rfl) (sub_1 (List.mem_of_getElem? (i := 20) rfl) (sub_1 (List.mem_of_getElem? (i := 21) rfl) (sub_1 (List.mem_of_getElem? (i := 22) rfl) sub_0))))))))))))))))))
            rw [hQ]
            exact W.vret hx hb hr (fun t ht hW => ⟨⟨s39, rfl, ⟨hBs39, hFs39, (Eq.trans qs39_0 (Eq.trans (congrFun (gs35 126 (nm_1 (by decide) (nm_1 (by decide) (nm_1 (by decide) (nm_1 (by decide) nm_0))))) 7) (congrFun (gs29 126 (nm_1 (by decide) (nm_1 (by decide) (nm_1 (by decide) (nm_1 (by decide) (nm_1 (by decide) nm_0)))))) 7))), (Eq.trans qs39_1 (Eq.trans (congrFun (gs35 126 (nm_1 (by decide) (nm_1 (by decide) (nm_1 (by decide) (nm_1 (by decide) nm_0))))) 8) (congrFun (gs29 126 (nm_1 (by decide) (nm_1 (by decide) (nm_1 (by decide) (nm_1 (by decide) (nm_1 (by decide) nm_0)))))) 8))), (Eq.trans qs39_2 (Eq.trans (congrFun (gs35 126 (nm_1 (by decide) (nm_1 (by decide) (nm_1 (by decide) (nm_1 (by decide) nm_0))))) 9) (congrFun (gs29 126 (nm_1 (by decide) (nm_1 (by decide) (nm_1 (by decide) (nm_1 (by decide) (nm_1 (by decide) nm_0)))))) 9))), trivial⟩, by rw [ht]; exact hP, va_K.moved hW.alike (hK.sub (tys' := []) [] rfl), by rw [hAe]; exact hD⟩, by rw [hAe]; exact hS.F ht⟩) hS.2.2 dX3_lookBy_108
set_option maxHeartbeats 4000000 in
set_option maxRecDepth 100000 in
theorem s_X3_lookFrom_0 (l : Launch) (D : va_G) (k : Nat → ClassId) (a : Nat → Nat) (st : CT) (sl : CL) (p0 : Int32) (p1 : Int32) (sz : Nat) (hB : CB st) (hp0 : Iv 0 0 p0) (hc : Iv 0 2 (st 126 7)) : Met l yX3_lookFrom (.code yX3_lookFrom cX3_lookFrom 10 none :: TB) (rmw 11 0 0) (va_Pc [.ref (a 126), .ref (a 18), .int p0, .int p1] (PW D k sz (CWS k a st sl))) (QV D (S := CT) (fun u => CB u ∧ FR [160, 135, 136, 137, 138, 139, 141, 142, 143, 144, 145, 147, 148, 149, 150, 151, 153, 154, 155, 156, 157, 126, 161] st u ∧ u 126 7 = st 126 7 ∧ u 126 8 = st 126 8 ∧ u 126 9 = st 126 9 ∧ (True)) (fun u => CWS k a u sl) (fun _ => []) (CWS k a st sl) sz) 0 0 (va_A (CWS k a st sl) sz) := by
  refine Met.ofW (cc := cX3_lookFrom) (maxL := 10) (ret := none) (by decide) rfl ?_
  intro p e s m args below meth c s₁ B hml hv
  obtain ⟨rfl, hsz, hP, hK, hD0, hN⟩ := hv
  have hx := B.exec
  have hb := B.bytes
  have hr := B.returns
  have hT : ∀ w9 ∈ TB, w9.before ([.ref (a 126), .ref (a 18), .int p0, .int p1] : List Value).toArray s = true := fun w9 h => atoms_spec (ws := .code yX3_lookFrom cX3_lookFrom 10 none :: TB) B.pre w9 (List.mem_cons_of_mem _ h)
  have hown : s.vm.findClass RX3 = some m.cls := findClass_of_methodNamed B.named
  have S : CallFix p m c cX3_lookFrom 10 s _ TB RX3 := ⟨hx, hb, hml, hown, hT⟩
  subst hsz
  have hD := hD0.self (sz := s.heap.size)
  generalize hAe : va_A (CWS k a st sl) s.heap.size = A at hD ⊢
  have hA : ∀ q : Nat, s.heap.size ≤ q → A q := fun q h => by rw [← hAe]; exact Or.inr h
  have hS : va_S A s.heap s.heap [] := va_S.rf
  have hl := lv_entry ([.ref (a 126), .ref (a 18), .int p0, .int p1]) (n := 10) (Nat.le_of_ble_eq_true rfl)
  rw [lg_entry_eq]
  generalize (lg_sl ([.ref (a 126), .ref (a 18), .int p0, .int p1]) ++ List.replicate (10 - (lg_sl ([.ref (a 126), .ref (a 18), .int p0, .int p1])).length) Slot.unset).toArray = ls at hl ⊢
  have hl : lv_has ls 10 [(0, .ref (a 126)), (1, .ref (a 18)), (2, .int p0), (3, .int p1)] := hl
  refine nameQ (fun Q hQ => ?_)
  refine lv_aload_n hx hb dX3_lookFrom_0 rfl (lv_at hl 0 rfl) ?_
  refine va_get (D := D) (ci := 3) (v := .ref (a 127)) (C := RX3) (T := TX3) (N := 10) hx hb hT in_X3 hown hK hP 126 cw_126 rfl 0 (by decide) (hT _ t400) (fun _ h9 => h9) rfl dX3_lookFrom_1 ?_
  refine lv_iload_n hx hb dX3_lookFrom_4 rfl (lv_at hl 2 rfl) ?_
  rcases iv_ca1 hp0 0 (by decide) (by decide) with q9
  · refine k_top (y := 0) q9 ?_
    have h1 : Iv 0 0 p0 := (by rw [q9]; exact iv_c (by decide))
    have q2 := q9
    refine va_aldq hx hb hK hP 127 5 cw_127 rfl (by unfold vp_in; decide) dX3_lookFrom_5 ?_
    refine W.eq (g2 := F0 m 6 ls [.ref (a 128)]) rfl ?_
    refine lv_astore (lv' := [(4, .ref (a 128)), (0, .ref (a 126)), (1, .ref (a 18)), (2, .int p0), (3, .int p1)]) hx hb dX3_lookFrom_6 hl (by decide) rfl (fun ls hl => ?_)
    refine lv_aload hx hb dX3_lookFrom_8 (lv_at hl 0 rfl) ?_
    refine va_get (D := D) (ci := 5) (v := .ref (a 132)) (C := RX5) (T := TX5) (N := 5) hx hb hT in_X5 hown hK hP 128 cw_128 rfl 3 (by decide) (hT _ t179) (fun _ h9 => h9) rfl dX3_lookFrom_10 ?_
    refine lv_aload_n hx hb dX3_lookFrom_13 rfl (lv_at hl 1 rfl) ?_
    refine va_get (D := D) (ci := 3) (v := .int (st 126 7)) (C := RX3) (T := TX3) (N := 10) hx hb hT in_X3 hown hK hP 126 cw_126 rfl 7 (by decide) (hT _ t411) (fun _ h9 => h9) rfl dX3_lookFrom_14 ?_
    refine va_iald hx hb hK hP 132 0 cw_132 rfl (iv_in hc (by decide) (by decide)) dX3_lookFrom_17 ?_
    refine lv_topi (fun z3 ez3 => ?_)
    have h4 : Iv 0 5 z3 := by rw [ez3]; exact (rb_132 hB (vp_in_lt (iv_in hc (by decide) (by decide))))
    refine lv_istore (lv' := [(5, .int z3), (4, .ref (a 128)), (0, .ref (a 126)), (1, .ref (a 18)), (2, .int p0), (3, .int p1)]) hx hb dX3_lookFrom_18 hl (by decide) rfl (fun ls hl => ?_)
    refine lv_iload hx hb dX3_lookFrom_20 (lv_at hl 0 rfl) ?_
    refine lv_aload_n hx hb dX3_lookFrom_22 rfl (lv_at hl 2 rfl) ?_
    refine va_get (D := D) (ci := 3) (v := .int (st 126 8)) (C := RX3) (T := TX3) (N := 10) hx hb hT in_X3 hown hK hP 126 cw_126 rfl 8 (by decide) (hT _ t412) (fun _ h9 => h9) rfl dX3_lookFrom_23 ?_
    refine lv_icmp_ne (tgt := 36) hx hb dX3_lookFrom_26 (by decide) (fun c5 => ?_) (fun c5 => ?_)
    · skip
      refine lv_iload_n hx hb dX3_lookFrom_36 rfl (lv_at hl 4 rfl) ?_
      refine lv_iconst (v := 4) hx hb dX3_lookFrom_37 (by decide) ?_
      refine lv_icmp_lt (tgt := 42) hx hb dX3_lookFrom_38 (by decide) (fun c6 => ?_) (fun c6 => ?_)
      · skip
        have n7 : p0.toInt < (4 : Int32).toInt := (i_lt c6)
        refine lv_aload hx hb dX3_lookFrom_42 (lv_at hl 1 rfl) ?_
        refine lv_aload_n hx hb dX3_lookFrom_44 rfl (lv_at hl 3 rfl) ?_
        refine lv_aload_n hx hb dX3_lookFrom_45 rfl (lv_at hl 2 rfl) ?_
        refine va_get (D := D) (ci := 3) (v := .int (st 126 9)) (C := RX3) (T := TX3) (N := 10) hx hb hT in_X3 hown hK hP 126 cw_126 rfl 9 (by decide) (hT _ t413) (fun _ h9 => h9) rfl dX3_lookFrom_46 ?_
        refine lv_iload hx hb dX3_lookFrom_49 (lv_at hl 0 rfl) ?_
        refine ro_V (As := [.ref (a 18), .int (st 126 9), .int z3]) (rest := []) S (s_X5_favourite l D k a st sl 128 (st 126 9) z3 _ (by decide) hB  ) lkX3_96 ok_X5_favourite ⟨rfl, rfl, Nat.le_of_ble_eq_true rfl, Nat.le_of_ble_eq_true rfl⟩ (pw_V (ci := 5) (q0 := 128) hK hN rfl cw_128 hP (hD.weaken (fun _ _ _ _ => trivial))) rfl hl.1 rfl (Nat.le_of_ble_eq_true rfl) ⟨Nat.zero_le _, Nat.zero_le _⟩ dX3_lookFrom_51 (fun r8 er8 => ?_)
        have h9 : Iv (-1) 7 r8 := er8.1
        have k10 := er8.2
        refine lv_istore (lv' := [(6, .int r8), (5, .int z3), (4, .ref (a 128)), (0, .ref (a 126)), (1, .ref (a 18)), (2, .int p0), (3, .int p1)]) hx hb dX3_lookFrom_54 hl (by decide) rfl (fun ls hl => ?_)
        refine lv_iconst (v := 0) hx hb dX3_lookFrom_56 (by decide) ?_
        refine lv_istore (lv' := [(7, .int 0), (6, .int r8), (5, .int z3), (4, .ref (a 128)), (0, .ref (a 126)), (1, .ref (a 18)), (2, .int p0), (3, .int p1)]) hx hb dX3_lookFrom_57 hl (by decide) rfl (fun ls hl => ?_)
        refine lv_iconst (v := 0) hx hb dX3_lookFrom_59 (by decide) ?_
        refine lv_istore (lv' := [(8, .int 0), (7, .int 0), (6, .int r8), (5, .int z3), (4, .ref (a 128)), (0, .ref (a 126)), (1, .ref (a 18)), (2, .int p0), (3, .int p1)]) hx hb dX3_lookFrom_60 hl (by decide) rfl (fun ls hl => ?_)
        have lp62 : ∀ (n9_62 : Nat) (v8_62 : Int32) (v7_62 : Int32) (t62 : CT) (H9 : Heap) (locs9 : List Loc) (ls : Array Slot), Iv 0 8 v8_62 → Iv 0 255 v7_62 → CB t62 → FR [160, 135, 136, 137, 138, 139, 141, 142, 143, 144, 145, 147, 148, 149, 150, 151, 153, 154, 155, 156, 157, 126, 161] st t62 → t62 126 7 = st 126 7 → t62 126 8 = st 126 8 → t62 126 9 = st 126 9 → va_P D vwCl (CWS k a t62 sl) H9 → va_D A (CWS k a t62 sl) → va_S A s.heap H9 locs9 → lv_has ls 10 [(8, .int v8_62), (7, .int v7_62), (6, .int r8), (5, .int z3), (4, .ref (a 128)), (0, .ref (a 126)), (1, .ref (a 18)), (2, .int p0), (3, .int p1)] → (8 : Int) - v8_62.toInt < (n9_62 : Int) → W p l e (rmw 11 0 0) s m ([.ref (a 126), .ref (a 18), .int p0, .int p1] : List Value).toArray below meth c H9 locs9 0 0 Q (F0 m 62 ls []) := by
          clear hl hP hD hS
          intro n9_62
          induction n9_62 with
          | zero =>
            intro v8_62 v7_62 t62 H9 locs9 ls iv8_62 iv7_62 hBt62 gt62 qt62_0 qt62_1 qt62_2 hP hD hS hl hm62
            exact (fu_0 iv8_62 hm62).elim
          | succ n9_62 ih62 =>
            intro v8_62 v7_62 t62 H9 locs9 ls iv8_62 iv7_62 hBt62 gt62 qt62_0 qt62_1 qt62_2 hP hD hS hl hm62
            have hFt62 : FR [160, 135, 136, 137, 138, 139, 141, 142, 143, 144, 145, 147, 148, 149, 150, 151, 153, 154, 155, 156, 157, 126, 161] st t62 := fr_ca fr_rf gt62 (sub_1 (List.mem_of_getElem? (i := 0) rfl) (sub_1 (List.mem_of_getElem? (i := 1) rfl) (sub_1 (List.mem_of_getElem? (i := 2) rfl) (sub_1 (List.mem_of_getElem? (i := 3) rfl) (sub_1 (List.mem_of_getElem? (i := 4) rfl) (sub_1 (List.mem_of_getElem? (i := 5) rfl) (sub_1 (List.mem_of_getElem? (i := 6) rfl) (sub_1 (List.mem_of_getElem? (i := 7) rfl) (sub_1 (List.mem_of_getElem? (i := 8) rfl) (sub_1 (List.mem_of_getElem? (i := 9) rfl) (sub_1 (List.mem_of_getElem? (i := 10) rfl) (sub_1 (List.mem_of_getElem? (i := 11) rfl) (sub_1 (List.mem_of_getElem? (i := 12) rfl) (sub_1 (List.mem_of_getElem? (i := 13) rfl) (sub_1 (List.mem_of_getElem? (i := 14) rfl) (sub_1 (List.mem_of_getElem? (i := 15) rfl) (sub_1 (List.mem_of_getElem? (i := 16) rfl) (sub_1 (List.mem_of_getElem? (i := 17) rfl) (sub_1 (List.mem_of_getElem? (i := 18) rfl) (sub_1 (List.mem_of_getElem? (i := 19) rfl) (sub_1 (List.mem_of_getElem? (i := 20) rfl) (sub_1 (List.mem_of_getElem? (i := 21) rfl) (sub_1 (List.mem_of_getElem? (i := 22) rfl) sub_0)))))))))))))))))))))))
            refine lv_iload hx hb dX3_lookFrom_62 (lv_at hl 0 rfl) ?_
            refine lv_aload_n hx hb dX3_lookFrom_64 rfl (lv_at hl 6 rfl) ?_
            refine va_get (D := D) (ci := 1) (v := .int (t62 18 3)) (C := RX1) (T := TX1) (N := 14) hx hb hT in_X1 hown hK hP 18 cw_18 rfl 3 (by decide) (hT _ t208) (fun _ h9 => h9) rfl dX3_lookFrom_65 ?_
            refine k_top (y := (st 18 3)) (congrFun (hFt62 18 (nm_1 (by decide) (nm_1 (by decide) (nm_1 (by decide) (nm_1 (by decide) (nm_1 (by decide) (nm_1 (by decide) (nm_1 (by decide) (nm_1 (by decide) (nm_1 (by decide) (nm_1 (by decide) (nm_1 (by decide) (nm_1 (by decide) (nm_1 (by decide) (nm_1 (by decide) (nm_1 (by decide) (nm_1 (by decide) (nm_1 (by decide) (nm_1 (by decide) (nm_1 (by decide) (nm_1 (by decide) (nm_1 (by decide) (nm_1 (by decide) (nm_1 (by decide) nm_0)))))))))))))))))))))))) 3) ?_
            have h326 : Iv 0 8 (st 18 3) := (rb_18_3 hB)
            refine lv_icmp_ge (tgt := 143) hx hb dX3_lookFrom_68 (by decide) (fun c327 => ?_) (fun c327 => ?_)
            · skip
              have n328 : (st 18 3).toInt ≤ v8_62.toInt := (i_le c327)
              rw [hQ]
              exact W.vret hx hb hr (fun t ht hW => ⟨⟨t62, rfl, ⟨hBt62, hFt62, qt62_0, qt62_1, qt62_2, trivial⟩, by rw [ht]; exact hP, va_K.moved hW.alike (hK.sub (tys' := []) [] rfl), by rw [hAe]; exact hD⟩, by rw [hAe]; exact hS.F ht⟩) hS.2.2 dX3_lookFrom_143
            · skip
              have n329 : v8_62.toInt < (st 18 3).toInt := (i_nle c327)
              have h330 : Iv 0 7 v8_62 := lt_l iv8_62 n329 h326 (by decide)
              have h331 : Iv 1 8 (st 18 3) := lt_r iv8_62 n329 h326 (by decide)
              refine lv_aload_n hx hb dX3_lookFrom_71 rfl (lv_at hl 6 rfl) ?_
              refine lv_iload hx hb dX3_lookFrom_72 (lv_at hl 0 rfl) ?_
              refine lv_iload hx hb dX3_lookFrom_74 (lv_at hl 3 rfl) ?_
              refine ro_V (As := [.int v8_62, .int z3]) (rest := []) S (s_X1_touches l D k a t62 sl  v8_62 z3 _  hBt62  ) lkX3_100 ok_X1_touches ⟨rfl, rfl, Nat.le_of_ble_eq_true rfl, Nat.le_of_ble_eq_true rfl⟩ (pw_V (ci := 1) (q0 := 18) hK hN rfl cw_18 hP (hD.weaken (fun _ _ _ _ => trivial))) rfl hl.1 rfl (Nat.le_of_ble_eq_true rfl) ⟨Nat.zero_le _, Nat.zero_le _⟩ dX3_lookFrom_76 (fun r332 er332 => ?_)
              rcases er332 with ⟨rfl, g9⟩ | ⟨rfl, g9⟩
              · skip
                have g333 := g9
                have k334 := g333.2.2
                have h335 : Iv 0 7 r8 := ⟨k10 v8_62 (h330).1 (by have y9 := k334.1; rw [(congrFun (hFt62 18 (nm_1 (by decide) (nm_1 (by decide) (nm_1 (by decide) (nm_1 (by decide) (nm_1 (by decide) (nm_1 (by decide) (nm_1 (by decide) (nm_1 (by decide) (nm_1 (by decide) (nm_1 (by decide) (nm_1 (by decide) (nm_1 (by decide) (nm_1 (by decide) (nm_1 (by decide) (nm_1 (by decide) (nm_1 (by decide) (nm_1 (by decide) (nm_1 (by decide) (nm_1 (by decide) (nm_1 (by decide) (nm_1 (by decide) (nm_1 (by decide) (nm_1 (by decide) nm_0)))))))))))))))))))))))) 3)] at y9; exact y9) (tp_of (hFt62 19 (nm_1 (by decide) (nm_1 (by decide) (nm_1 (by decide) (nm_1 (by decide) (nm_1 (by decide) (nm_1 (by decide) (nm_1 (by decide) (nm_1 (by decide) (nm_1 (by decide) (nm_1 (by decide) (nm_1 (by decide) (nm_1 (by decide) (nm_1 (by decide) (nm_1 (by decide) (nm_1 (by decide) (nm_1 (by decide) (nm_1 (by decide) (nm_1 (by decide) (nm_1 (by decide) (nm_1 (by decide) (nm_1 (by decide) (nm_1 (by decide) (nm_1 (by decide) nm_0)))))))))))))))))))))))) (hFt62 20 (nm_1 (by decide) (nm_1 (by decide) (nm_1 (by decide) (nm_1 (by decide) (nm_1 (by decide) (nm_1 (by decide) (nm_1 (by decide) (nm_1 (by decide) (nm_1 (by decide) (nm_1 (by decide) (nm_1 (by decide) (nm_1 (by decide) (nm_1 (by decide) (nm_1 (by decide) (nm_1 (by decide) (nm_1 (by decide) (nm_1 (by decide) (nm_1 (by decide) (nm_1 (by decide) (nm_1 (by decide) (nm_1 (by decide) (nm_1 (by decide) (nm_1 (by decide) nm_0)))))))))))))))))))))))) k334.2), (h9).2⟩
                refine lv_if_eq (tgt := 137) hx hb dX3_lookFrom_79 (by decide) (fun c336 => ?_) (fun c336 => ?_)
                · first | exact absurd c336 (by decide) | exact absurd (by decide) c336
                refine lv_aload hx hb dX3_lookFrom_82 (lv_at hl 4 rfl) ?_
                refine lv_aload_n hx hb dX3_lookFrom_84 rfl (lv_at hl 5 rfl) ?_
                refine va_get (D := D) (ci := 3) (v := .int (t62 126 9)) (C := RX3) (T := TX3) (N := 10) hx hb hT in_X3 hown hK hP 126 cw_126 rfl 9 (by decide) (hT _ t413) (fun _ h9 => h9) rfl dX3_lookFrom_85 ?_
                refine k_top (y := (st 126 9)) qt62_2 ?_
                refine lv_iload hx hb dX3_lookFrom_88 (lv_at hl 2 rfl) ?_
                refine lv_iload hx hb dX3_lookFrom_90 (lv_at hl 0 rfl) ?_
                refine lv_aload_n hx hb dX3_lookFrom_92 rfl (lv_at hl 6 rfl) ?_
                refine va_get (D := D) (ci := 1) (v := .int (t62 18 2)) (C := RX1) (T := TX1) (N := 14) hx hb hT in_X1 hown hK hP 18 cw_18 rfl 2 (by decide) (hT _ t204) (fun _ h9 => h9) rfl dX3_lookFrom_93 ?_
                refine k_top (y := (st 18 2)) (congrFun (hFt62 18 (nm_1 (by decide) (nm_1 (by decide) (nm_1 (by decide) (nm_1 (by decide) (nm_1 (by decide) (nm_1 (by decide) (nm_1 (by decide) (nm_1 (by decide) (nm_1 (by decide) (nm_1 (by decide) (nm_1 (by decide) (nm_1 (by decide) (nm_1 (by decide) (nm_1 (by decide) (nm_1 (by decide) (nm_1 (by decide) (nm_1 (by decide) (nm_1 (by decide) (nm_1 (by decide) (nm_1 (by decide) (nm_1 (by decide) (nm_1 (by decide) (nm_1 (by decide) nm_0)))))))))))))))))))))))) 2) ?_
                refine ro_V (As := [.int (st 126 9), .int r8, .int v8_62, .int (st 18 2)]) (rest := []) S (s_X5_yieldTo_b l D k a t62 sl 128 (st 126 9) r8 v8_62 (st 18 2) _ (by decide) hBt62 h335 h330 ) lkX3_107 ok_X5_yieldTo ⟨rfl, rfl, Nat.le_of_ble_eq_true rfl, Nat.le_of_ble_eq_true rfl⟩ (pw_V (ci := 5) (q0 := 128) hK hN rfl cw_128 hP (hD.weaken (fun _ _ _ _ => trivial))) rfl hl.1 rfl (Nat.le_of_ble_eq_true rfl) ⟨Nat.zero_le _, Nat.zero_le _⟩ dX3_lookFrom_96 (fun r337 er337 => ?_)
                have h338 : Iv 0 7 r337 := er337.1
                refine lv_istore (lv' := [(9, .int r337), (8, .int v8_62), (7, .int v7_62), (6, .int r8), (5, .int z3), (4, .ref (a 128)), (0, .ref (a 126)), (1, .ref (a 18)), (2, .int p0), (3, .int p1)]) hx hb dX3_lookFrom_99 hl (by decide) rfl (fun ls hl => ?_)
                refine lv_iload hx hb dX3_lookFrom_101 (lv_at hl 2 rfl) ?_
                refine lv_iload hx hb dX3_lookFrom_103 (lv_at hl 0 rfl) ?_
                refine lv_ishr hx hb dX3_lookFrom_105 ?_
                refine lv_topi (fun z339 ez339 => ?_)
                refine lv_iconst (v := 1) hx hb dX3_lookFrom_106 (by decide) ?_
                refine lv_iand hx hb dX3_lookFrom_107 ?_
                refine lv_topi (fun z340 ez340 => ?_)
                have h341 : Iv 0 1 z340 := iv_andr ez340 (iv_mono (c := 0) (d := 1) (iv_c (by decide) : Iv 1 1 1) (by decide) (by decide))
                refine lv_if_ne (tgt := 137) hx hb dX3_lookFrom_108 (by decide) (fun c342 => ?_) (fun c342 => ?_)
                · skip
                  have h343 : Iv 1 1 z340 := ne_lo h341 (show ¬ z340 = 0 from c342) (by decide) (by decide)
                  obtain ⟨z344, ez344⟩ : ∃ z9 : Int32, z9 = v8_62 + Int32.ofInt 1 := ⟨_, rfl⟩
                  have h345 : Iv 1 8 z344 := iv_inc ez344 h330 (by decide) (by decide) (by decide) (by decide) (by decide) (by decide)
                  refine lv_iinc (v := z344) (lv' := [(8, .int z344), (9, .int r337), (7, .int v7_62), (6, .int r8), (5, .int z3), (4, .ref (a 128)), (0, .ref (a 126)), (1, .ref (a 18)), (2, .int p0), (3, .int p1)]) hx hb dX3_lookFrom_137 hl (k := 1) rfl ez344.symm (by decide) rfl (fun ls hl => ?_)
                  refine lv_goto (tgt := 62) hx hb dX3_lookFrom_140 (by decide) ?_
                  exact ih62 z344 v7_62 t62 _ _ _ (iv_mono (c := 0) (d := 8) h345 (by decide) (by decide)) iv7_62 hBt62 gt62 qt62_0 qt62_1 qt62_2 hP hD hS (lv_sub hl [0, 2, 3, 4, 5, 6, 7, 8, 9] rfl) (fu_s (lo := 0) (ti_inc ez344 h330 (by decide) (by decide) (by decide) (by decide)) (by decide) hm62)
                · skip
                  have h346 : Iv 0 0 z340 := eq_l c342 (iv_c (by decide) : Iv 0 0 0)
                  refine lv_iload hx hb dX3_lookFrom_111 (lv_at hl 2 rfl) ?_
                  refine lv_iconst (v := 1) hx hb dX3_lookFrom_113 (by decide) ?_
                  refine lv_iload hx hb dX3_lookFrom_114 (lv_at hl 0 rfl) ?_
                  refine lv_ishl hx hb dX3_lookFrom_116 ?_
                  refine lv_topi (fun z347 ez347 => ?_)
                  have h348 : Iv 1 128 z347 := iv_shl 7 ez347 h338 (by decide) (by decide) (by decide)
                  refine lv_ior hx hb dX3_lookFrom_117 ?_
                  refine lv_topi (fun z349 ez349 => ?_)
                  have h350 : Iv 0 255 z349 := iv_or 8 ez349 iv7_62 (iv_mono (c := 0) (d := 128) h348 (by decide) (by decide)) (by decide) (by decide) (by decide) (by decide)
                  refine lv_istore (lv' := [(7, .int z349), (9, .int r337), (8, .int v8_62), (6, .int r8), (5, .int z3), (4, .ref (a 128)), (0, .ref (a 126)), (1, .ref (a 18)), (2, .int p0), (3, .int p1)]) hx hb dX3_lookFrom_118 hl (by decide) rfl (fun ls hl => ?_)
                  refine lv_aload_n hx hb dX3_lookFrom_120 rfl (lv_at hl 6 rfl) ?_
                  refine va_get (D := D) (ci := 3) (v := .ref (a 160)) (C := RX3) (T := TX3) (N := 10) hx hb hT in_X3 hown hK hP 126 cw_126 rfl 3 (by decide) (hT _ t404) (fun _ h9 => h9) rfl dX3_lookFrom_121 ?_
                  refine lv_iload_n hx hb dX3_lookFrom_124 rfl (lv_at hl 8 rfl) ?_
                  refine lv_iload hx hb dX3_lookFrom_125 (lv_at hl 2 rfl) ?_
                  refine c_ist hx hb hK hP hD hS cw_160 cs_160 (iv_in h1 (by decide) (by decide)) dX3_lookFrom_127 (fun s351 H9 locs9 es351 hP9 hD9 hS9 => ?_)
                  clear hP hD hS
                  have hS := hS9
                  have hP := hP9
                  have hD := hD9
                  clear hP9 hD9 hS9
                  have hBs351 : CB s351 := by rw [es351]; exact cb_sw hBt62 trivial
                  have hFs351 : FR [160, 135, 136, 137, 138, 139, 141, 142, 143, 144, 145, 147, 148, 149, 150, 151, 153, 154, 155, 156, 157, 126, 161] st s351 := fr_sw hFt62 (List.mem_of_getElem? (i := 0) rfl) es351
                  refine lv_aload_n hx hb dX3_lookFrom_128 rfl (lv_at hl 6 rfl) ?_
                  refine lv_aload_n hx hb dX3_lookFrom_129 rfl (lv_at hl 7 rfl) ?_
                  refine lv_iload hx hb dX3_lookFrom_130 (lv_at hl 1 rfl) ?_
                  refine lv_iload_n hx hb dX3_lookFrom_132 rfl (lv_at hl 8 rfl) ?_
                  refine lv_iload_n hx hb dX3_lookFrom_133 rfl (lv_at hl 9 rfl) ?_
                  refine ca_v hP hD hS hA (fun hDc => run_V (mc := 0) (ms := 0) (As := [.ref (a 18), .int r337, .int p0, .int p1]) (rest := []) S (s_X3_lookBy_0 l D k a s351 sl  r337 p0 p1 _  hBs351 h338 h1 (eq_l (Eq.trans (congrFun (sw_at es351 (by decide)) 7) qt62_0) hc)) lkX3_111 ok_X3_lookBy ⟨rfl, rfl, Nat.le_of_ble_eq_true rfl, Nat.le_of_ble_eq_true rfl⟩ (pw_V (ci := 3) (q0 := 126) hK hN rfl cw_126 hP hDc) rfl hl.1 rfl (Nat.le_of_ble_eq_true rfl) ⟨Nat.zero_le _, Nat.zero_le _⟩ dX3_lookFrom_134) (fun s352 H9 locs9 hs352 hP9 hD9 hS9 => ?_)
                  clear hP hD hS
                  have hS := hS9
                  have hP := hP9
                  have hD := hD9
                  clear hP9 hD9 hS9
                  obtain ⟨hBs352, gs352, qs352_0, qs352_1, qs352_2, fs352⟩ := hs352
                  have hFs352 : FR [160, 135, 136, 137, 138, 139, 141, 142, 143, 144, 145, 147, 148, 149, 150, 151, 153, 154, 155, 156, 157, 126, 161] st s352 := fr_ca hFs351 gs352 (sub_1 (List.mem_of_getElem? (i := 1) rfl) (sub_1 (List.mem_of_getElem? (i := 2) rfl) (sub_1 (List.mem_of_getElem? (i := 3) rfl) (sub_1 (List.mem_of_getElem? (i := 4) rfl) (sub_1 (List.mem_of_getElem? (i := 5) rfl) (sub_1 (List.mem_of_getElem? (i := 0) rfl) (sub_1 (List.mem_of_getElem? (i := 6) rfl) (sub_1 (List.mem_of_getElem? (i := 7) rfl) (sub_1 (List.mem_of_getElem? (i := 8) rfl) (sub_1 (List.mem_of_getElem? (i := 9) rfl) (sub_1 (List.mem_of_getElem? (i := 10) rfl) (sub_1 (List.mem_of_getElem? (i := 11) rfl) (sub_1 (List.mem_of_getElem? (i := 12) rfl) (sub_1 (List.mem_of_getElem? (i := 13) rfl) (sub_1 (List.mem_of_getElem? (i := 14) rfl) (sub_1 (List.mem_of_getElem? (i := 15) rfl) (sub_1 (List.mem_of_getElem? (i := 16) rfl) (sub_1 (List.mem_of_getElem? (i := 17) rfl) (sub_1 (List.mem_of_getElem? (i := 18) rfl) (sub_1 (List.mem_of_getElem? (i := 19) rfl) (sub_1 (List.mem_of_getElem? (i := 20) rfl) (sub_1 (List.mem_of_getElem? (i := 21) rfl) (sub_1 (List.mem_of_getElem? (i := 22) rfl) sub_0)))))))))))))))))))))))
                  obtain ⟨z354, ez354⟩ : ∃ z9 : Int32, z9 = v8_62 + Int32.ofInt 1 := ⟨_, rfl⟩
                  have h355 : Iv 1 8 z354 := iv_inc ez354 h330 (by decide) (by decide) (by decide) (by decide) (by decide) (by decide)
                  refine lv_iinc (v := z354) (lv' := [(8, .int z354), (7, .int z349), (9, .int r337), (6, .int r8), (5, .int z3), (4, .ref (a 128)), (0, .ref (a 126)), (1, .ref (a 18)), (2, .int p0), (3, .int p1)]) hx hb dX3_lookFrom_137 hl (k := 2) rfl ez354.symm (by decide) rfl (fun ls hl => ?_)
                  refine lv_goto (tgt := 62) hx hb dX3_lookFrom_140 (by decide) ?_
                  exact ih62 z354 z349 s352 _ _ _ (iv_mono (c := 0) (d := 8) h355 (by decide) (by decide)) h350 hBs352 (fr_ca (fr_sw gt62 (List.mem_of_getElem? (i := 0) rfl) es351) gs352 (sub_1 (List.mem_of_getElem? (i := 1) rfl) (sub_1 (List.mem_of_getElem? (i := 2) rfl) (sub_1 (List.mem_of_getElem? (i := 3) rfl) (sub_1 (List.mem_of_getElem? (i := 4) rfl) (sub_1 (List.mem_of_getElem? (i := 5) rfl) (sub_1 (List.mem_of_getElem? (i := 0) rfl) (sub_1 (List.mem_of_getElem? (i := 6) rfl) (sub_1 (List.mem_of_getElem? (i := 7) rfl) (sub_1 (List.mem_of_getElem? (i := 8) rfl) (sub_1 (List.mem_of_getElem? (i := 9) rfl) (sub_1 (List.mem_of_getElem? (i := 10) rfl) (sub_1 (List.mem_of_getElem? (i := 11) rfl) (sub_1 (List.mem_of_getElem? (i := 12) rfl) (sub_1 (List.mem_of_getElem? (i := 13) rfl) (sub_1 (List.mem_of_getElem? (i := 14) rfl) (sub_1 (List.mem_of_getElem? (i := 15) rfl) (sub_1 (List.mem_of_getElem? (i := 16) rfl) (sub_1 (List.mem_of_getElem? (i := 17) rfl) (sub_1 (List.mem_of_getElem? (i := 18) rfl) (sub_1 (List.mem_of_getElem? (i := 19) rfl) (sub_1 (List.mem_of_getElem? (i := 20) rfl) (sub_1 (List.mem_of_getElem? (i := 21) rfl) (sub_1 (List.mem_of_getElem? (i := 22) rfl) sub_0)))))))))))))))))))))))) (Eq.trans qs352_0 (Eq.trans (congrFun (sw_at es351 (by decide)) 7) qt62_0)) (Eq.trans qs352_1 (Eq.trans (congrFun (sw_at es351 (by decide)) 8) qt62_1)) (Eq.trans qs352_2 (Eq.trans (congrFun (sw_at es351 (by decide)) 9) qt62_2)) hP hD hS (lv_sub hl [0, 1, 3, 4, 5, 6, 7, 8, 9] rfl) (fu_s (lo := 0) (ti_inc ez354 h330 (by decide) (by decide) (by decide) (by decide)) (by decide) hm62)
              · skip
                have g356 := g9
                have k357 := g356
                refine lv_if_eq (tgt := 137) hx hb dX3_lookFrom_79 (by decide) (fun c358 => ?_) (fun c358 => ?_)
                rotate_left
                · first | exact absurd c358 (by decide) | exact absurd (by decide) c358
                obtain ⟨z359, ez359⟩ : ∃ z9 : Int32, z9 = v8_62 + Int32.ofInt 1 := ⟨_, rfl⟩
                have h360 : Iv 1 8 z359 := iv_inc ez359 h330 (by decide) (by decide) (by decide) (by decide) (by decide) (by decide)
                refine lv_iinc (v := z359) (lv' := [(8, .int z359), (7, .int v7_62), (6, .int r8), (5, .int z3), (4, .ref (a 128)), (0, .ref (a 126)), (1, .ref (a 18)), (2, .int p0), (3, .int p1)]) hx hb dX3_lookFrom_137 hl (k := 0) rfl ez359.symm (by decide) rfl (fun ls hl => ?_)
                refine lv_goto (tgt := 62) hx hb dX3_lookFrom_140 (by decide) ?_
                exact ih62 z359 v7_62 t62 _ _ _ (iv_mono (c := 0) (d := 8) h360 (by decide) (by decide)) iv7_62 hBt62 gt62 qt62_0 qt62_1 qt62_2 hP hD hS (lv_sub hl [0, 1, 2, 3, 4, 5, 6, 7, 8] rfl) (fu_s (lo := 0) (ti_inc ez359 h330 (by decide) (by decide) (by decide) (by decide)) (by decide) hm62)
        exact lp62 9 0 0 st _ _ _ (iv_mono (c := 0) (d := 8) (iv_c (by decide) : Iv 0 0 0) (by decide) (by decide)) (iv_mono (c := 0) (d := 255) (iv_c (by decide) : Iv 0 0 0) (by decide) (by decide)) hB fr_rf rfl rfl rfl hP hD hS (lv_sub hl [0, 1, 2, 3, 4, 5, 6, 7, 8] rfl) (fu_i (iv_mono (c := 0) (d := 8) (iv_c (by decide) : Iv 0 0 0) (by decide) (by decide)) (by decide))
      · skip
        have n361 : (4 : Int32).toInt ≤ p0.toInt := (i_nlt c6)
        exact (iv_no (le_l (u := 0) (iv_c (by decide) : Iv 4 4 4) n361 h1 (by decide)) (by decide)).elim
    · skip
      have h362 : Iv 0 5 (st 126 8) := eq_l c5.symm h4
      refine lv_aload_n hx hb dX3_lookFrom_29 rfl (lv_at hl 2 rfl) ?_
      refine lv_iload_n hx hb dX3_lookFrom_30 rfl (lv_at hl 4 rfl) ?_
      refine lv_iload_n hx hb dX3_lookFrom_31 rfl (lv_at hl 5 rfl) ?_
      refine ca_v hP hD hS hA (fun hDc => run_V (mc := 0) (ms := 0) (As := [.int p0, .int p1]) (rest := []) S (s_X3_keepIfBetter l D k a st sl  p0 p1 _  hB (iv_mono (c := 0) (d := 4) h1 (by decide) (by decide)) ) lkX3_92 ok_X3_keepIfBetter ⟨rfl, rfl, Nat.le_of_ble_eq_true rfl, Nat.le_of_ble_eq_true rfl⟩ (pw_V (ci := 3) (q0 := 126) hK hN rfl cw_126 hP hDc) rfl hl.1 rfl (Nat.le_of_ble_eq_true rfl) ⟨Nat.zero_le _, Nat.zero_le _⟩ dX3_lookFrom_32) (fun s363 H9 locs9 hs363 hP9 hD9 hS9 => ?_)
      clear hP hD hS
      have hS := hS9
      have hP := hP9
      have hD := hD9
      clear hP9 hD9 hS9
      obtain ⟨hBs363, gs363, qs363_0, qs363_1, qs363_2, fs363⟩ := hs363
      have hFs363 : FR [160, 135, 136, 137, 138, 139, 141, 142, 143, 144, 145, 147, 148, 149, 150, 151, 153, 154, 155, 156, 157, 126, 161] st s363 := fr_ca fr_rf gs363 (sub_1 (List.mem_of_getElem? (i := 21) rfl) (sub_1 (List.mem_of_getElem? (i := 22) rfl) sub_0))
      rw [hQ]
      exact W.vret hx hb hr (fun t ht hW => ⟨⟨s363, rfl, ⟨hBs363, hFs363, qs363_0, qs363_1, qs363_2, trivial⟩, by rw [ht]; exact hP, va_K.moved hW.alike (hK.sub (tys' := []) [] rfl), by rw [hAe]; exact hD⟩, by rw [hAe]; exact hS.F ht⟩) hS.2.2 dX3_lookFrom_35
set_option maxHeartbeats 4000000 in
set_option maxRecDepth 100000 in
theorem s_X3_look (l : Launch) (D : va_G) (k : Nat → ClassId) (a : Nat → Nat) (st : CT) (sl : CL) (sz : Nat) (hB : CB st)  (hc : Iv 0 2 (st 126 7)) : Met l yX3_look (.code yX3_look cX3_look 2 none :: TB) (rmw 12 0 0) (va_Pc [.ref (a 126), .ref (a 18)] (PW D k sz (CWS k a st sl))) (QV D (S := CT) (fun u => CB u ∧ FR [126, 160, 135, 136, 137, 138, 139, 141, 142, 143, 144, 145, 147, 148, 149, 150, 151, 153, 154, 155, 156, 157, 161] st u ∧ u 126 7 = st 126 7 ∧ u 126 8 = st 126 8 ∧ (True)) (fun u => CWS k a u sl) (fun _ => []) (CWS k a st sl) sz) 0 0 (va_A (CWS k a st sl) sz) := by
  refine Met.ofW (cc := cX3_look) (maxL := 2) (ret := none) (by decide) rfl ?_
  intro p e s m args below meth c s₁ B hml hv
  obtain ⟨rfl, hsz, hP, hK, hD0, hN⟩ := hv
  have hx := B.exec
  have hb := B.bytes
  have hr := B.returns
  have hT : ∀ w9 ∈ TB, w9.before ([.ref (a 126), .ref (a 18)] : List Value).toArray s = true := fun w9 h => atoms_spec (ws := .code yX3_look cX3_look 2 none :: TB) B.pre w9 (List.mem_cons_of_mem _ h)
  have hown : s.vm.findClass RX3 = some m.cls := findClass_of_methodNamed B.named
  have S : CallFix p m c cX3_look 2 s _ TB RX3 := ⟨hx, hb, hml, hown, hT⟩
  subst hsz
  have hD := hD0.self (sz := s.heap.size)
  generalize hAe : va_A (CWS k a st sl) s.heap.size = A at hD ⊢
  have hA : ∀ q : Nat, s.heap.size ≤ q → A q := fun q h => by rw [← hAe]; exact Or.inr h
  have hS : va_S A s.heap s.heap [] := va_S.rf
  have hl := lv_entry ([.ref (a 126), .ref (a 18)]) (n := 2) (Nat.le_of_ble_eq_true rfl)
  rw [lg_entry_eq]
  generalize (lg_sl ([.ref (a 126), .ref (a 18)]) ++ List.replicate (2 - (lg_sl ([.ref (a 126), .ref (a 18)])).length) Slot.unset).toArray = ls at hl ⊢
  have hl : lv_has ls 2 [(0, .ref (a 126)), (1, .ref (a 18))] := hl
  refine nameQ (fun Q hQ => ?_)
  refine lv_aload_n hx hb dX3_look_0 rfl (lv_at hl 0 rfl) ?_
  refine lv_aload_n hx hb dX3_look_1 rfl (lv_at hl 0 rfl) ?_
  refine va_get (D := D) (ci := 3) (v := .ref (a 127)) (C := RX3) (T := TX3) (N := 10) hx hb hT in_X3 hown hK hP 126 cw_126 rfl 0 (by decide) (hT _ t400) (fun _ h9 => h9) rfl dX3_look_2 ?_
  refine lv_iconst (v := 0) hx hb dX3_look_5 (by decide) ?_
  refine va_aldq hx hb hK hP 127 5 cw_127 rfl (by unfold vp_in; decide) dX3_look_6 ?_
  refine W.eq (g2 := F0 m 7 ls [.ref (a 128), .ref (a 126)]) rfl ?_
  refine lv_aload_n hx hb dX3_look_7 rfl (lv_at hl 0 rfl) ?_
  refine va_get (D := D) (ci := 3) (v := .int (st 126 7)) (C := RX3) (T := TX3) (N := 10) hx hb hT in_X3 hown hK hP 126 cw_126 rfl 7 (by decide) (hT _ t411) (fun _ h9 => h9) rfl dX3_look_8 ?_
  refine ro_V (As := [.int (st 126 7)]) (rest := [.ref (a 126)]) S (s_X5_crewOf l D k a st sl 128 (st 126 7) _ (by decide) hB  ) lkX3_78 ok_X5_crewOf ⟨rfl, rfl, Nat.le_of_ble_eq_true rfl, Nat.le_of_ble_eq_true rfl⟩ (pw_V (ci := 5) (q0 := 128) hK hN rfl cw_128 hP (hD.weaken (fun _ _ _ _ => trivial))) rfl hl.1 rfl (Nat.le_of_ble_eq_true rfl) ⟨Nat.zero_le _, Nat.zero_le _⟩ dX3_look_11 (fun r1 er1 => ?_)
  have h2 : Iv 0 255 r1 := er1.1
  refine c_put (ci := 3) (C := RX3) (T := TX3) (N := 10) (j := 9) (v := r1) hx hb hT in_X3 tyX3 tyX3_ok nmX3 hown hK hP hD hS cw_126 rfl (by decide) (hT _ t413) (by decide +kernel) (by decide +kernel) rfl rfl (Nat.le_of_ble_eq_true rfl) (cs_126 (upd (st 126) 9 r1)) dX3_look_14 (fun s3 H9 locs9 es3 hP9 hD9 hS9 => ?_)
  clear hP hD hS
  have hS := hS9
  have hP := hP9
  have hD := hD9
  clear hP9 hD9 hS9
  have hBs3 : CB s3 := by rw [es3]; exact cb_sw hB (ki_10_9 (hB 126))
  have hFs3 : FR [126, 160, 135, 136, 137, 138, 139, 141, 142, 143, 144, 145, 147, 148, 149, 150, 151, 153, 154, 155, 156, 157, 161] st s3 := fr_sw fr_rf (List.mem_of_getElem? (i := 0) rfl) es3
  refine lv_aload_n hx hb dX3_look_17 rfl (lv_at hl 0 rfl) ?_
  refine lv_aload_n hx hb dX3_look_18 rfl (lv_at hl 1 rfl) ?_
  refine lv_iconst (v := 0) hx hb dX3_look_19 (by decide) ?_
  refine lv_iconst (v := 0) hx hb dX3_look_20 (by decide) ?_
  refine ca_v hP hD hS hA (fun hDc => run_V (mc := 0) (ms := 0) (As := [.ref (a 18), .int 0, .int 0]) (rest := []) S (s_X3_lookFrom_0 l D k a s3 sl  0 0 _  hBs3 (iv_c (by decide) : Iv 0 0 0) (eq_l (congrFun (sw_it es3) 7) hc)) lkX3_85 ok_X3_lookFrom ⟨rfl, rfl, Nat.le_of_ble_eq_true rfl, Nat.le_of_ble_eq_true rfl⟩ (pw_V (ci := 3) (q0 := 126) hK hN rfl cw_126 hP hDc) rfl hl.1 rfl (Nat.le_of_ble_eq_true rfl) ⟨Nat.zero_le _, Nat.zero_le _⟩ dX3_look_21) (fun s4 H9 locs9 hs4 hP9 hD9 hS9 => ?_)
  clear hP hD hS
  have hS := hS9
  have hP := hP9
  have hD := hD9
  clear hP9 hD9 hS9
  obtain ⟨hBs4, gs4, qs4_0, qs4_1, qs4_2, fs4⟩ := hs4
  have hFs4 : FR [126, 160, 135, 136, 137, 138, 139, 141, 142, 143, 144, 145, 147, 148, 149, 150, 151, 153, 154, 155, 156, 157, 161] st s4 := fr_ca hFs3 gs4 (sub_1 (List.mem_of_getElem? (i := 1) rfl) (sub_1 (List.mem_of_getElem? (i := 2) rfl) (sub_1 (List.mem_of_getElem? (i := 3) rfl) (sub_1 (List.mem_of_getElem? (i := 4) rfl) (sub_1 (List.mem_of_getElem? (i := 5) rfl) (sub_1 (List.mem_of_getElem? (i := 6) rfl) (sub_1 (List.mem_of_getElem? (i := 7) rfl) (sub_1 (List.mem_of_getElem? (i := 8) rfl) (sub_1 (List.mem_of_getElem? (i := 9) rfl) (sub_1 (List.mem_of_getElem? (i := 10) rfl) (sub_1 (List.mem_of_getElem? (i := 11) rfl) (sub_1 (List.mem_of_getElem? (i := 12) rfl) (sub_1 (List.mem_of_getElem? (i := 13) rfl) (sub_1 (List.mem_of_getElem? (i := 14) rfl) (sub_1 (List.mem_of_getElem? (i := 15) rfl) (sub_1 (List.mem_of_getElem? (i := 16) rfl) (sub_1 (List.mem_of_getElem? (i := 17) rfl) (sub_1 (List.mem_of_getElem? (i := 18) rfl) (sub_1 (List.mem_of_getElem? (i := 19) rfl) (sub_1 (List.mem_of_getElem? (i := 20) rfl) (sub_1 (List.mem_of_getElem? (i := 21) rfl) (sub_1 (List.mem_of_getElem? (i := 0) rfl) (sub_1 (List.mem_of_getElem? (i := 22) rfl) sub_0)))))))))))))))))))))))
  rw [hQ]
  exact W.vret hx hb hr (fun t ht hW => ⟨⟨s4, rfl, ⟨hBs4, hFs4, (Eq.trans qs4_0 (congrFun (sw_it es3) 7)), (Eq.trans qs4_1 (congrFun (sw_it es3) 8)), trivial⟩, by rw [ht]; exact hP, va_K.moved hW.alike (hK.sub (tys' := []) [] rfl), by rw [hAe]; exact hD⟩, by rw [hAe]; exact hS.F ht⟩) hS.2.2 dX3_look_24
