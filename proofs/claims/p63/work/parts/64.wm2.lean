set_option maxHeartbeats 4000000 in
set_option maxRecDepth 100000 in
theorem s_X9_drive (l : Launch) (D : va_G) (k : Nat → ClassId) (a : Nat → Nat) (st : CT) (sl : CL) (p0 : Int32) (p1 : Int32) (sz : Nat) (hB : CB st)  (hX : WI st 17) : Met l yX9_drive (.code yX9_drive cX9_drive 3 (some .int) :: TB) (rmw 7 0 0) (va_Pc [.ref (a 0), .int p0, .int p1] (PW D k sz (CWS k a st sl))) (QI D (S := CT) (fun r u => CB u ∧ FR [37, 38, 39, 17, 32, 34, 33, 35, 36] st u ∧ (Iv (-5) 5 r ∧ (WI u 17))) (fun u => CWS k a u sl) (fun _ => []) (CWS k a st sl) sz) 0 0 (va_A (CWS k a st sl) sz) := by
  refine Met.ofW (cc := cX9_drive) (maxL := 3) (ret := (some .int)) (by decide) rfl ?_
  intro p e s m args below meth c s₁ B hml hv
  obtain ⟨rfl, hsz, hP, hK, hD0, hN⟩ := hv
  have hx := B.exec
  have hb := B.bytes
  have hr := B.returns
  have hT : ∀ w9 ∈ TB, w9.before ([.ref (a 0), .int p0, .int p1] : List Value).toArray s = true := fun w9 h => atoms_spec (ws := .code yX9_drive cX9_drive 3 (some .int) :: TB) B.pre w9 (List.mem_cons_of_mem _ h)
  have hown : s.vm.findClass RX9 = some m.cls := findClass_of_methodNamed B.named
  have S : CallFix p m c cX9_drive 3 s _ TB RX9 := ⟨hx, hb, hml, hown, hT⟩
  subst hsz
  have hD := hD0.self (sz := s.heap.size)
  generalize hAe : va_A (CWS k a st sl) s.heap.size = A at hD ⊢
  have hA : ∀ q : Nat, s.heap.size ≤ q → A q := fun q h => by rw [← hAe]; exact Or.inr h
  have hS : va_S A s.heap s.heap [] := va_S.rf
  have hl := lv_entry ([.ref (a 0), .int p0, .int p1]) (n := 3) (Nat.le_of_ble_eq_true rfl)
  rw [lg_entry_eq]
  generalize (lg_sl ([.ref (a 0), .int p0, .int p1]) ++ List.replicate (3 - (lg_sl ([.ref (a 0), .int p0, .int p1])).length) Slot.unset).toArray = ls at hl ⊢
  have hl : lv_has ls 3 [(0, .ref (a 0)), (1, .int p0), (2, .int p1)] := hl
  refine nameQ (fun Q hQ => ?_)
  refine lv_aload_n hx hb dX9_drive_0 rfl (lv_at hl 0 rfl) ?_
  refine lv_iload_n hx hb dX9_drive_1 rfl (lv_at hl 1 rfl) ?_
  refine lv_iload_n hx hb dX9_drive_2 rfl (lv_at hl 2 rfl) ?_
  refine ro_V (As := [.int p0, .int p1]) (rest := []) S (s_X9_canWant l D k a st sl  p0 p1 _  hB  ) lkX9_180 ok_X9_canWant ⟨rfl, rfl, Nat.le_of_ble_eq_true rfl, Nat.le_of_ble_eq_true rfl⟩ (pw_V (ci := 9) (q0 := 0) hK hN rfl cw_0 hP (hD.weaken (fun _ _ _ _ => trivial))) rfl hl.1 rfl (Nat.le_of_ble_eq_true rfl) ⟨Nat.zero_le _, Nat.zero_le _⟩ dX9_drive_3 (fun r1 er1 => ?_)
  rcases er1 with ⟨rfl, g9⟩ | ⟨rfl, g9⟩
  · skip
    have g2 := g9
    have h3 : Iv 0 2 p0 := g2.1
    have h4 : Iv (-1) 7 p1 := g2.2.1
    refine lv_if_ne (tgt := 12) hx hb dX9_drive_6 (by decide) (fun c5 => ?_) (fun c5 => ?_)
    rotate_left
    · first | exact absurd c5 (by decide) | exact absurd (by decide) c5
    refine lv_aload_n hx hb dX9_drive_12 rfl (lv_at hl 0 rfl) ?_
    refine va_get (D := D) (ci := 9) (v := .ref (a 17)) (C := RX9) (T := TX9) (N := 11) hx hb hT in_X9 hown hK hP 0 cw_0 rfl 2 (by decide) (hT _ t453) (fun _ h9 => h9) rfl dX9_drive_13 ?_
    refine ro_V (As := []) (rest := []) S (s_X8_isFull l D k a st sl   _  hB  ) lkX9_204 ok_X8_isFull ⟨rfl, rfl, Nat.le_of_ble_eq_true rfl, Nat.le_of_ble_eq_true rfl⟩ (pw_V (ci := 8) (q0 := 17) hK hN rfl cw_17 hP (hD.weaken (fun _ _ _ _ => trivial))) rfl hl.1 rfl (Nat.le_of_ble_eq_true rfl) ⟨Nat.zero_le _, Nat.zero_le _⟩ dX9_drive_16 (fun r6 er6 => ?_)
    rcases er6 with ⟨rfl, g9⟩ | ⟨rfl, g9⟩
    · skip
      have g7 := g9
      refine lv_if_ne (tgt := 47) hx hb dX9_drive_19 (by decide) (fun c8 => ?_) (fun c8 => ?_)
      rotate_left
      · first | exact absurd c8 (by decide) | exact absurd (by decide) c8
      refine lv_bipush (v := (-5)) hx hb dX9_drive_47 (by decide) ?_
      rw [hQ]
      exact W.iret (v := (-5)) hx hb hr (fun t ht hW => ⟨⟨(-5), st, rfl, ⟨hB, fr_rf, ⟨(iv_mono (c := (-5)) (d := 5) (iv_c (by decide) : Iv (-5) (-5) (-5)) (by decide) (by decide)), hX⟩⟩, by rw [ht]; exact hP, va_K.moved hW.alike (hK.sub (tys' := []) [] rfl), by rw [hAe]; exact hD⟩, by rw [hAe]; exact hS.F ht⟩) hS.2.2 dX9_drive_49
    · skip
      have g9 := g9
      have h10 : Iv 0 39 (st 17 2) := g9
      refine lv_if_ne (tgt := 47) hx hb dX9_drive_19 (by decide) (fun c11 => ?_) (fun c11 => ?_)
      · first | exact absurd c11 (by decide) | exact absurd (by decide) c11
      refine lv_aload_n hx hb dX9_drive_22 rfl (lv_at hl 0 rfl) ?_
      refine va_get (D := D) (ci := 9) (v := .ref (a 17)) (C := RX9) (T := TX9) (N := 11) hx hb hT in_X9 hown hK hP 0 cw_0 rfl 2 (by decide) (hT _ t453) (fun _ h9 => h9) rfl dX9_drive_23 ?_
      refine va_get (D := D) (ci := 8) (v := .ref (a 18)) (C := RX8) (T := TX8) (N := 6) hx hb hT in_X8 hown hK hP 17 cw_17 rfl 0 (by decide) (hT _ t312) (fun _ h9 => h9) rfl dX9_drive_26 ?_
      refine lv_aload_n hx hb dX9_drive_29 rfl (lv_at hl 0 rfl) ?_
      refine va_get (D := D) (ci := 9) (v := .ref (a 17)) (C := RX9) (T := TX9) (N := 11) hx hb hT in_X9 hown hK hP 0 cw_0 rfl 2 (by decide) (hT _ t453) (fun _ h9 => h9) rfl dX9_drive_30 ?_
      refine va_get (D := D) (ci := 8) (v := .ref (a 31)) (C := RX8) (T := TX8) (N := 6) hx hb hT in_X8 hown hK hP 17 cw_17 rfl 1 (by decide) (hT _ t314) (fun _ h9 => h9) rfl dX9_drive_33 ?_
      refine va_get (D := D) (ci := 5) (v := .ref (a 35)) (C := RX5) (T := TX5) (N := 5) hx hb hT in_X5 hown hK hP 31 cw_31 rfl 3 (by decide) (hT _ t180) (fun _ h9 => h9) rfl dX9_drive_36 ?_
      refine lv_iload_n hx hb dX9_drive_39 rfl (lv_at hl 1 rfl) ?_
      refine va_iald hx hb hK hP 35 0 cw_35 rfl (iv_in h3 (by decide) (by decide)) dX9_drive_40 ?_
      refine lv_topi (fun z12 ez12 => ?_)
      have h13 : Iv 0 5 z12 := by rw [ez12]; exact (rb_35 hB (vp_in_lt (iv_in h3 (by decide) (by decide))))
      refine ro_V (As := [.int z12]) (rest := []) S (s_X1_roadsAt l D k a st sl  z12 _  hB  ) lkX9_174 ok_X1_roadsAt ⟨rfl, rfl, Nat.le_of_ble_eq_true rfl, Nat.le_of_ble_eq_true rfl⟩ (pw_V (ci := 1) (q0 := 18) hK hN rfl cw_18 hP (hD.weaken (fun _ _ _ _ => trivial))) rfl hl.1 rfl (Nat.le_of_ble_eq_true rfl) ⟨Nat.zero_le _, Nat.zero_le _⟩ dX9_drive_41 (fun r14 er14 => ?_)
      have h15 : Iv 0 255 r14 := er14.1
      refine lv_if_ne (tgt := 50) hx hb dX9_drive_44 (by decide) (fun c16 => ?_) (fun c16 => ?_)
      · skip
        have h17 : Iv 1 255 r14 := ne_lo h15 (show ¬ r14 = 0 from c16) (by decide) (by decide)
        refine lv_aload_n hx hb dX9_drive_50 rfl (lv_at hl 0 rfl) ?_
        refine va_get (D := D) (ci := 9) (v := .ref (a 17)) (C := RX9) (T := TX9) (N := 11) hx hb hT in_X9 hown hK hP 0 cw_0 rfl 2 (by decide) (hT _ t453) (fun _ h9 => h9) rfl dX9_drive_51 ?_
        refine lv_iconst (v := 0) hx hb dX9_drive_54 (by decide) ?_
        refine lv_iload_n hx hb dX9_drive_55 rfl (lv_at hl 1 rfl) ?_
        refine lv_iload_n hx hb dX9_drive_56 rfl (lv_at hl 2 rfl) ?_
        refine ca_v hP hD hS hA (fun hDc => run_V (mc := 0) (ms := 0) (As := [.int 0, .int p0, .int p1]) (rest := []) S (s_X8_act l D k a st sl  0 p0 p1 _  hB  (pa_0 h3) hX) lkX9_207 ok_X8_act ⟨rfl, rfl, Nat.le_of_ble_eq_true rfl, Nat.le_of_ble_eq_true rfl⟩ (pw_V (ci := 8) (q0 := 17) hK hN rfl cw_17 hP hDc) rfl hl.1 rfl (Nat.le_of_ble_eq_true rfl) ⟨Nat.zero_le _, Nat.zero_le _⟩ dX9_drive_57) (fun s18 H9 locs9 hs18 hP9 hD9 hS9 => ?_)
        clear hP hD hS
        have hS := hS9
        have hP := hP9
        have hD := hD9
        clear hP9 hD9 hS9
        obtain ⟨hBs18, gs18, fs18⟩ := hs18
        have hFs18 : FR [37, 38, 39, 17, 32, 34, 33, 35, 36] st s18 := fr_ca fr_rf gs18 (sub_1 (List.mem_of_getElem? (i := 0) rfl) (sub_1 (List.mem_of_getElem? (i := 1) rfl) (sub_1 (List.mem_of_getElem? (i := 2) rfl) (sub_1 (List.mem_of_getElem? (i := 3) rfl) (sub_1 (List.mem_of_getElem? (i := 4) rfl) (sub_1 (List.mem_of_getElem? (i := 5) rfl) (sub_1 (List.mem_of_getElem? (i := 6) rfl) (sub_1 (List.mem_of_getElem? (i := 7) rfl) (sub_1 (List.mem_of_getElem? (i := 8) rfl) sub_0)))))))))
        have k20 := fs18
        refine lv_aload_n hx hb dX9_drive_60 rfl (lv_at hl 0 rfl) ?_
        refine va_get (D := D) (ci := 9) (v := .ref (a 17)) (C := RX9) (T := TX9) (N := 11) hx hb hT in_X9 hown hK hP 0 cw_0 rfl 2 (by decide) (hT _ t453) (fun _ h9 => h9) rfl dX9_drive_61 ?_
        refine va_get (D := D) (ci := 8) (v := .ref (a 31)) (C := RX8) (T := TX8) (N := 6) hx hb hT in_X8 hown hK hP 17 cw_17 rfl 1 (by decide) (hT _ t314) (fun _ h9 => h9) rfl dX9_drive_64 ?_
        refine va_get (D := D) (ci := 5) (v := .ref (a 35)) (C := RX5) (T := TX5) (N := 5) hx hb hT in_X5 hown hK hP 31 cw_31 rfl 3 (by decide) (hT _ t180) (fun _ h9 => h9) rfl dX9_drive_67 ?_
        refine lv_iload_n hx hb dX9_drive_70 rfl (lv_at hl 1 rfl) ?_
        refine va_iald hx hb hK hP 35 0 cw_35 rfl (iv_in h3 (by decide) (by decide)) dX9_drive_71 ?_
        refine lv_topi (fun z21 ez21 => ?_)
        have h22 : Iv 0 5 z21 := by rw [ez21]; exact (rb_35 hBs18 (vp_in_lt (iv_in h3 (by decide) (by decide))))
        rw [hQ]
        exact W.iret (v := z21) hx hb hr (fun t ht hW => ⟨⟨z21, s18, rfl, ⟨hBs18, hFs18, ⟨(iv_mono (c := (-5)) (d := 5) h22 (by decide) (by decide)), k20⟩⟩, by rw [ht]; exact hP, va_K.moved hW.alike (hK.sub (tys' := []) [] rfl), by rw [hAe]; exact hD⟩, by rw [hAe]; exact hS.F ht⟩) hS.2.2 dX9_drive_72
      · skip
        have h23 : Iv 0 0 r14 := eq_l c16 (iv_c (by decide) : Iv 0 0 0)
        refine lv_bipush (v := (-5)) hx hb dX9_drive_47 (by decide) ?_
        rw [hQ]
        exact W.iret (v := (-5)) hx hb hr (fun t ht hW => ⟨⟨(-5), st, rfl, ⟨hB, fr_rf, ⟨(iv_mono (c := (-5)) (d := 5) (iv_c (by decide) : Iv (-5) (-5) (-5)) (by decide) (by decide)), hX⟩⟩, by rw [ht]; exact hP, va_K.moved hW.alike (hK.sub (tys' := []) [] rfl), by rw [hAe]; exact hD⟩, by rw [hAe]; exact hS.F ht⟩) hS.2.2 dX9_drive_49
  · skip
    have g24 := g9
    refine lv_if_ne (tgt := 12) hx hb dX9_drive_6 (by decide) (fun c25 => ?_) (fun c25 => ?_)
    · first | exact absurd c25 (by decide) | exact absurd (by decide) c25
    refine lv_bipush (v := (-2)) hx hb dX9_drive_9 (by decide) ?_
    rw [hQ]
    exact W.iret (v := (-2)) hx hb hr (fun t ht hW => ⟨⟨(-2), st, rfl, ⟨hB, fr_rf, ⟨(iv_mono (c := (-5)) (d := 5) (iv_c (by decide) : Iv (-2) (-2) (-2)) (by decide) (by decide)), hX⟩⟩, by rw [ht]; exact hP, va_K.moved hW.alike (hK.sub (tys' := []) [] rfl), by rw [hAe]; exact hD⟩, by rw [hAe]; exact hS.F ht⟩) hS.2.2 dX9_drive_11
set_option maxHeartbeats 4000000 in
set_option maxRecDepth 100000 in
theorem s_X9_swap (l : Launch) (D : va_G) (k : Nat → ClassId) (a : Nat → Nat) (st : CT) (sl : CL) (p0 : Int32) (p1 : Int32) (sz : Nat) (hB : CB st)  (hX : WI st 17) : Met l yX9_swap (.code yX9_swap cX9_swap 3 (some .int) :: TB) (rmw 7 0 0) (va_Pc [.ref (a 0), .int p0, .int p1] (PW D k sz (CWS k a st sl))) (QI D (S := CT) (fun r u => CB u ∧ FR [37, 38, 39, 17, 32, 34, 33, 35, 36] st u ∧ (Iv (-5) 0 r ∧ (WI u 17))) (fun u => CWS k a u sl) (fun _ => []) (CWS k a st sl) sz) 0 0 (va_A (CWS k a st sl) sz) := by
  refine Met.ofW (cc := cX9_swap) (maxL := 3) (ret := (some .int)) (by decide) rfl ?_
  intro p e s m args below meth c s₁ B hml hv
  obtain ⟨rfl, hsz, hP, hK, hD0, hN⟩ := hv
  have hx := B.exec
  have hb := B.bytes
  have hr := B.returns
  have hT : ∀ w9 ∈ TB, w9.before ([.ref (a 0), .int p0, .int p1] : List Value).toArray s = true := fun w9 h => atoms_spec (ws := .code yX9_swap cX9_swap 3 (some .int) :: TB) B.pre w9 (List.mem_cons_of_mem _ h)
  have hown : s.vm.findClass RX9 = some m.cls := findClass_of_methodNamed B.named
  have S : CallFix p m c cX9_swap 3 s _ TB RX9 := ⟨hx, hb, hml, hown, hT⟩
  subst hsz
  have hD := hD0.self (sz := s.heap.size)
  generalize hAe : va_A (CWS k a st sl) s.heap.size = A at hD ⊢
  have hA : ∀ q : Nat, s.heap.size ≤ q → A q := fun q h => by rw [← hAe]; exact Or.inr h
  have hS : va_S A s.heap s.heap [] := va_S.rf
  have hl := lv_entry ([.ref (a 0), .int p0, .int p1]) (n := 3) (Nat.le_of_ble_eq_true rfl)
  rw [lg_entry_eq]
  generalize (lg_sl ([.ref (a 0), .int p0, .int p1]) ++ List.replicate (3 - (lg_sl ([.ref (a 0), .int p0, .int p1])).length) Slot.unset).toArray = ls at hl ⊢
  have hl : lv_has ls 3 [(0, .ref (a 0)), (1, .int p0), (2, .int p1)] := hl
  refine nameQ (fun Q hQ => ?_)
  refine lv_aload_n hx hb dX9_swap_0 rfl (lv_at hl 0 rfl) ?_
  refine va_get (D := D) (ci := 9) (v := .ref (a 17)) (C := RX9) (T := TX9) (N := 11) hx hb hT in_X9 hown hK hP 0 cw_0 rfl 2 (by decide) (hT _ t453) (fun _ h9 => h9) rfl dX9_swap_1 ?_
  refine va_get (D := D) (ci := 8) (v := .ref (a 18)) (C := RX8) (T := TX8) (N := 6) hx hb hT in_X8 hown hK hP 17 cw_17 rfl 0 (by decide) (hT _ t312) (fun _ h9 => h9) rfl dX9_swap_4 ?_
  refine lv_iload_n hx hb dX9_swap_7 rfl (lv_at hl 1 rfl) ?_
  refine ro_V (As := [.int p0]) (rest := []) S (s_X1_isWheel l D k a st sl  p0 _  hB  ) lkX9_127 ok_X1_isWheel ⟨rfl, rfl, Nat.le_of_ble_eq_true rfl, Nat.le_of_ble_eq_true rfl⟩ (pw_V (ci := 1) (q0 := 18) hK hN rfl cw_18 hP (hD.weaken (fun _ _ _ _ => trivial))) rfl hl.1 rfl (Nat.le_of_ble_eq_true rfl) ⟨Nat.zero_le _, Nat.zero_le _⟩ dX9_swap_8 (fun r1 er1 => ?_)
  rcases er1 with ⟨rfl, g9⟩ | ⟨rfl, g9⟩
  · skip
    have g2 := g9
    have h3 : Iv 0 7 p0 := g2.1
    refine lv_if_eq (tgt := 33) hx hb dX9_swap_11 (by decide) (fun c4 => ?_) (fun c4 => ?_)
    · first | exact absurd c4 (by decide) | exact absurd (by decide) c4
    refine lv_aload_n hx hb dX9_swap_14 rfl (lv_at hl 0 rfl) ?_
    refine va_get (D := D) (ci := 9) (v := .ref (a 17)) (C := RX9) (T := TX9) (N := 11) hx hb hT in_X9 hown hK hP 0 cw_0 rfl 2 (by decide) (hT _ t453) (fun _ h9 => h9) rfl dX9_swap_15 ?_
    refine va_get (D := D) (ci := 8) (v := .ref (a 18)) (C := RX8) (T := TX8) (N := 6) hx hb hT in_X8 hown hK hP 17 cw_17 rfl 0 (by decide) (hT _ t312) (fun _ h9 => h9) rfl dX9_swap_18 ?_
    refine lv_iload_n hx hb dX9_swap_21 rfl (lv_at hl 2 rfl) ?_
    refine ro_V (As := [.int p1]) (rest := []) S (s_X1_isWheel l D k a st sl  p1 _  hB  ) lkX9_127 ok_X1_isWheel ⟨rfl, rfl, Nat.le_of_ble_eq_true rfl, Nat.le_of_ble_eq_true rfl⟩ (pw_V (ci := 1) (q0 := 18) hK hN rfl cw_18 hP (hD.weaken (fun _ _ _ _ => trivial))) rfl hl.1 rfl (Nat.le_of_ble_eq_true rfl) ⟨Nat.zero_le _, Nat.zero_le _⟩ dX9_swap_22 (fun r5 er5 => ?_)
    rcases er5 with ⟨rfl, g9⟩ | ⟨rfl, g9⟩
    · skip
      have g6 := g9
      have h7 : Iv 0 7 p1 := g6.1
      refine lv_if_eq (tgt := 33) hx hb dX9_swap_25 (by decide) (fun c8 => ?_) (fun c8 => ?_)
      · first | exact absurd c8 (by decide) | exact absurd (by decide) c8
      refine lv_iload_n hx hb dX9_swap_28 rfl (lv_at hl 1 rfl) ?_
      refine lv_iload_n hx hb dX9_swap_29 rfl (lv_at hl 2 rfl) ?_
      refine lv_icmp_ne (tgt := 36) hx hb dX9_swap_30 (by decide) (fun c9 => ?_) (fun c9 => ?_)
      · skip
        refine lv_aload_n hx hb dX9_swap_36 rfl (lv_at hl 0 rfl) ?_
        refine va_get (D := D) (ci := 9) (v := .ref (a 17)) (C := RX9) (T := TX9) (N := 11) hx hb hT in_X9 hown hK hP 0 cw_0 rfl 2 (by decide) (hT _ t453) (fun _ h9 => h9) rfl dX9_swap_37 ?_
        refine ro_V (As := []) (rest := []) S (s_X8_isFull l D k a st sl   _  hB  ) lkX9_204 ok_X8_isFull ⟨rfl, rfl, Nat.le_of_ble_eq_true rfl, Nat.le_of_ble_eq_true rfl⟩ (pw_V (ci := 8) (q0 := 17) hK hN rfl cw_17 hP (hD.weaken (fun _ _ _ _ => trivial))) rfl hl.1 rfl (Nat.le_of_ble_eq_true rfl) ⟨Nat.zero_le _, Nat.zero_le _⟩ dX9_swap_40 (fun r10 er10 => ?_)
        rcases er10 with ⟨rfl, g9⟩ | ⟨rfl, g9⟩
        · skip
          have g11 := g9
          refine lv_if_eq (tgt := 49) hx hb dX9_swap_43 (by decide) (fun c12 => ?_) (fun c12 => ?_)
          · first | exact absurd c12 (by decide) | exact absurd (by decide) c12
          refine lv_bipush (v := (-5)) hx hb dX9_swap_46 (by decide) ?_
          rw [hQ]
          exact W.iret (v := (-5)) hx hb hr (fun t ht hW => ⟨⟨(-5), st, rfl, ⟨hB, fr_rf, ⟨(iv_mono (c := (-5)) (d := 0) (iv_c (by decide) : Iv (-5) (-5) (-5)) (by decide) (by decide)), hX⟩⟩, by rw [ht]; exact hP, va_K.moved hW.alike (hK.sub (tys' := []) [] rfl), by rw [hAe]; exact hD⟩, by rw [hAe]; exact hS.F ht⟩) hS.2.2 dX9_swap_48
        · skip
          have g13 := g9
          have h14 : Iv 0 39 (st 17 2) := g13
          refine lv_if_eq (tgt := 49) hx hb dX9_swap_43 (by decide) (fun c15 => ?_) (fun c15 => ?_)
          rotate_left
          · first | exact absurd c15 (by decide) | exact absurd (by decide) c15
          refine lv_aload_n hx hb dX9_swap_49 rfl (lv_at hl 0 rfl) ?_
          refine va_get (D := D) (ci := 9) (v := .ref (a 17)) (C := RX9) (T := TX9) (N := 11) hx hb hT in_X9 hown hK hP 0 cw_0 rfl 2 (by decide) (hT _ t453) (fun _ h9 => h9) rfl dX9_swap_50 ?_
          refine lv_iconst (v := 1) hx hb dX9_swap_53 (by decide) ?_
          refine lv_iload_n hx hb dX9_swap_54 rfl (lv_at hl 1 rfl) ?_
          refine lv_iload_n hx hb dX9_swap_55 rfl (lv_at hl 2 rfl) ?_
          refine ca_v hP hD hS hA (fun hDc => run_V (mc := 0) (ms := 0) (As := [.int 1, .int p0, .int p1]) (rest := []) S (s_X8_act l D k a st sl  1 p0 p1 _  hB  (pa_1 h3 h7) hX) lkX9_207 ok_X8_act ⟨rfl, rfl, Nat.le_of_ble_eq_true rfl, Nat.le_of_ble_eq_true rfl⟩ (pw_V (ci := 8) (q0 := 17) hK hN rfl cw_17 hP hDc) rfl hl.1 rfl (Nat.le_of_ble_eq_true rfl) ⟨Nat.zero_le _, Nat.zero_le _⟩ dX9_swap_56) (fun s16 H9 locs9 hs16 hP9 hD9 hS9 => ?_)
          clear hP hD hS
          have hS := hS9
          have hP := hP9
          have hD := hD9
          clear hP9 hD9 hS9
          obtain ⟨hBs16, gs16, fs16⟩ := hs16
          have hFs16 : FR [37, 38, 39, 17, 32, 34, 33, 35, 36] st s16 := fr_ca fr_rf gs16 (sub_1 (List.mem_of_getElem? (i := 0) rfl) (sub_1 (List.mem_of_getElem? (i := 1) rfl) (sub_1 (List.mem_of_getElem? (i := 2) rfl) (sub_1 (List.mem_of_getElem? (i := 3) rfl) (sub_1 (List.mem_of_getElem? (i := 4) rfl) (sub_1 (List.mem_of_getElem? (i := 5) rfl) (sub_1 (List.mem_of_getElem? (i := 6) rfl) (sub_1 (List.mem_of_getElem? (i := 7) rfl) (sub_1 (List.mem_of_getElem? (i := 8) rfl) sub_0)))))))))
          have k18 := fs16
          refine lv_iconst (v := 0) hx hb dX9_swap_59 (by decide) ?_
          rw [hQ]
          exact W.iret (v := 0) hx hb hr (fun t ht hW => ⟨⟨0, s16, rfl, ⟨hBs16, hFs16, ⟨(iv_mono (c := (-5)) (d := 0) (iv_c (by decide) : Iv 0 0 0) (by decide) (by decide)), k18⟩⟩, by rw [ht]; exact hP, va_K.moved hW.alike (hK.sub (tys' := []) [] rfl), by rw [hAe]; exact hD⟩, by rw [hAe]; exact hS.F ht⟩) hS.2.2 dX9_swap_60
      · skip
        refine lv_bipush (v := (-2)) hx hb dX9_swap_33 (by decide) ?_
        rw [hQ]
        exact W.iret (v := (-2)) hx hb hr (fun t ht hW => ⟨⟨(-2), st, rfl, ⟨hB, fr_rf, ⟨(iv_mono (c := (-5)) (d := 0) (iv_c (by decide) : Iv (-2) (-2) (-2)) (by decide) (by decide)), hX⟩⟩, by rw [ht]; exact hP, va_K.moved hW.alike (hK.sub (tys' := []) [] rfl), by rw [hAe]; exact hD⟩, by rw [hAe]; exact hS.F ht⟩) hS.2.2 dX9_swap_35
    · skip
      have g19 := g9
      refine lv_if_eq (tgt := 33) hx hb dX9_swap_25 (by decide) (fun c20 => ?_) (fun c20 => ?_)
      rotate_left
      · first | exact absurd c20 (by decide) | exact absurd (by decide) c20
      refine lv_bipush (v := (-2)) hx hb dX9_swap_33 (by decide) ?_
      rw [hQ]
      exact W.iret (v := (-2)) hx hb hr (fun t ht hW => ⟨⟨(-2), st, rfl, ⟨hB, fr_rf, ⟨(iv_mono (c := (-5)) (d := 0) (iv_c (by decide) : Iv (-2) (-2) (-2)) (by decide) (by decide)), hX⟩⟩, by rw [ht]; exact hP, va_K.moved hW.alike (hK.sub (tys' := []) [] rfl), by rw [hAe]; exact hD⟩, by rw [hAe]; exact hS.F ht⟩) hS.2.2 dX9_swap_35
  · skip
    have g21 := g9
    refine lv_if_eq (tgt := 33) hx hb dX9_swap_11 (by decide) (fun c22 => ?_) (fun c22 => ?_)
    rotate_left
    · first | exact absurd c22 (by decide) | exact absurd (by decide) c22
    refine lv_bipush (v := (-2)) hx hb dX9_swap_33 (by decide) ?_
    rw [hQ]
    exact W.iret (v := (-2)) hx hb hr (fun t ht hW => ⟨⟨(-2), st, rfl, ⟨hB, fr_rf, ⟨(iv_mono (c := (-5)) (d := 0) (iv_c (by decide) : Iv (-2) (-2) (-2)) (by decide) (by decide)), hX⟩⟩, by rw [ht]; exact hP, va_K.moved hW.alike (hK.sub (tys' := []) [] rfl), by rw [hAe]; exact hD⟩, by rw [hAe]; exact hS.F ht⟩) hS.2.2 dX9_swap_35
set_option maxHeartbeats 4000000 in
set_option maxRecDepth 100000 in
theorem s_X9_grease (l : Launch) (D : va_G) (k : Nat → ClassId) (a : Nat → Nat) (st : CT) (sl : CL) (p0 : Int32) (sz : Nat) (hB : CB st)  (hX : WI st 17) : Met l yX9_grease (.code yX9_grease cX9_grease 3 (some .int) :: TB) (rmw 7 0 0) (va_Pc [.ref (a 0), .int p0] (PW D k sz (CWS k a st sl))) (QI D (S := CT) (fun r u => CB u ∧ FR [37, 38, 39, 17, 32, 34, 33, 35, 36] st u ∧ ((WI u 17))) (fun u => CWS k a u sl) (fun _ => []) (CWS k a st sl) sz) 0 0 (va_A (CWS k a st sl) sz) := by
  refine Met.ofW (cc := cX9_grease) (maxL := 3) (ret := (some .int)) (by decide) rfl ?_
  intro p e s m args below meth c s₁ B hml hv
  obtain ⟨rfl, hsz, hP, hK, hD0, hN⟩ := hv
  have hx := B.exec
  have hb := B.bytes
  have hr := B.returns
  have hT : ∀ w9 ∈ TB, w9.before ([.ref (a 0), .int p0] : List Value).toArray s = true := fun w9 h => atoms_spec (ws := .code yX9_grease cX9_grease 3 (some .int) :: TB) B.pre w9 (List.mem_cons_of_mem _ h)
  have hown : s.vm.findClass RX9 = some m.cls := findClass_of_methodNamed B.named
  have S : CallFix p m c cX9_grease 3 s _ TB RX9 := ⟨hx, hb, hml, hown, hT⟩
  subst hsz
  have hD := hD0.self (sz := s.heap.size)
  generalize hAe : va_A (CWS k a st sl) s.heap.size = A at hD ⊢
  have hA : ∀ q : Nat, s.heap.size ≤ q → A q := fun q h => by rw [← hAe]; exact Or.inr h
  have hS : va_S A s.heap s.heap [] := va_S.rf
  have hl := lv_entry ([.ref (a 0), .int p0]) (n := 3) (Nat.le_of_ble_eq_true rfl)
  rw [lg_entry_eq]
  generalize (lg_sl ([.ref (a 0), .int p0]) ++ List.replicate (3 - (lg_sl ([.ref (a 0), .int p0])).length) Slot.unset).toArray = ls at hl ⊢
  have hl : lv_has ls 3 [(0, .ref (a 0)), (1, .int p0)] := hl
  refine nameQ (fun Q hQ => ?_)
  refine lv_aload_n hx hb dX9_grease_0 rfl (lv_at hl 0 rfl) ?_
  refine va_get (D := D) (ci := 9) (v := .ref (a 17)) (C := RX9) (T := TX9) (N := 11) hx hb hT in_X9 hown hK hP 0 cw_0 rfl 2 (by decide) (hT _ t453) (fun _ h9 => h9) rfl dX9_grease_1 ?_
  refine va_get (D := D) (ci := 8) (v := .ref (a 18)) (C := RX8) (T := TX8) (N := 6) hx hb hT in_X8 hown hK hP 17 cw_17 rfl 0 (by decide) (hT _ t312) (fun _ h9 => h9) rfl dX9_grease_4 ?_
  refine lv_iload_n hx hb dX9_grease_7 rfl (lv_at hl 1 rfl) ?_
  refine ro_V (As := [.int p0]) (rest := []) S (s_X1_isWheel l D k a st sl  p0 _  hB  ) lkX9_127 ok_X1_isWheel ⟨rfl, rfl, Nat.le_of_ble_eq_true rfl, Nat.le_of_ble_eq_true rfl⟩ (pw_V (ci := 1) (q0 := 18) hK hN rfl cw_18 hP (hD.weaken (fun _ _ _ _ => trivial))) rfl hl.1 rfl (Nat.le_of_ble_eq_true rfl) ⟨Nat.zero_le _, Nat.zero_le _⟩ dX9_grease_8 (fun r1 er1 => ?_)
  rcases er1 with ⟨rfl, g9⟩ | ⟨rfl, g9⟩
  · skip
    have g2 := g9
    have h3 : Iv 0 7 p0 := g2.1
    refine lv_if_ne (tgt := 17) hx hb dX9_grease_11 (by decide) (fun c4 => ?_) (fun c4 => ?_)
    rotate_left
    · first | exact absurd c4 (by decide) | exact absurd (by decide) c4
    refine lv_aload_n hx hb dX9_grease_17 rfl (lv_at hl 0 rfl) ?_
    refine va_get (D := D) (ci := 9) (v := .ref (a 17)) (C := RX9) (T := TX9) (N := 11) hx hb hT in_X9 hown hK hP 0 cw_0 rfl 2 (by decide) (hT _ t453) (fun _ h9 => h9) rfl dX9_grease_18 ?_
    refine ro_V (As := []) (rest := []) S (s_X8_isFull l D k a st sl   _  hB  ) lkX9_204 ok_X8_isFull ⟨rfl, rfl, Nat.le_of_ble_eq_true rfl, Nat.le_of_ble_eq_true rfl⟩ (pw_V (ci := 8) (q0 := 17) hK hN rfl cw_17 hP (hD.weaken (fun _ _ _ _ => trivial))) rfl hl.1 rfl (Nat.le_of_ble_eq_true rfl) ⟨Nat.zero_le _, Nat.zero_le _⟩ dX9_grease_21 (fun r5 er5 => ?_)
    rcases er5 with ⟨rfl, g9⟩ | ⟨rfl, g9⟩
    · skip
      have g6 := g9
      refine lv_if_eq (tgt := 30) hx hb dX9_grease_24 (by decide) (fun c7 => ?_) (fun c7 => ?_)
      · first | exact absurd c7 (by decide) | exact absurd (by decide) c7
      refine lv_bipush (v := (-5)) hx hb dX9_grease_27 (by decide) ?_
      rw [hQ]
      exact W.iret (v := (-5)) hx hb hr (fun t ht hW => ⟨⟨(-5), st, rfl, ⟨hB, fr_rf, hX⟩, by rw [ht]; exact hP, va_K.moved hW.alike (hK.sub (tys' := []) [] rfl), by rw [hAe]; exact hD⟩, by rw [hAe]; exact hS.F ht⟩) hS.2.2 dX9_grease_29
    · skip
      have g8 := g9
      have h9 : Iv 0 39 (st 17 2) := g8
      refine lv_if_eq (tgt := 30) hx hb dX9_grease_24 (by decide) (fun c10 => ?_) (fun c10 => ?_)
      rotate_left
      · first | exact absurd c10 (by decide) | exact absurd (by decide) c10
      refine lv_aload_n hx hb dX9_grease_30 rfl (lv_at hl 0 rfl) ?_
      refine va_get (D := D) (ci := 9) (v := .ref (a 17)) (C := RX9) (T := TX9) (N := 11) hx hb hT in_X9 hown hK hP 0 cw_0 rfl 2 (by decide) (hT _ t453) (fun _ h9 => h9) rfl dX9_grease_31 ?_
      refine va_get (D := D) (ci := 8) (v := .ref (a 31)) (C := RX8) (T := TX8) (N := 6) hx hb hT in_X8 hown hK hP 17 cw_17 rfl 1 (by decide) (hT _ t314) (fun _ h9 => h9) rfl dX9_grease_34 ?_
      refine lv_iload_n hx hb dX9_grease_37 rfl (lv_at hl 1 rfl) ?_
      refine ro_V (As := [.int p0]) (rest := []) S (s_X5_likesAll l D k a st sl 31 p0 _ (by decide) hB h3 ) lkX9_143 ok_X5_likesAll ⟨rfl, rfl, Nat.le_of_ble_eq_true rfl, Nat.le_of_ble_eq_true rfl⟩ (pw_V (ci := 5) (q0 := 31) hK hN rfl cw_31 hP (hD.weaken (fun _ _ _ _ => trivial))) rfl hl.1 rfl (Nat.le_of_ble_eq_true rfl) ⟨Nat.zero_le _, Nat.zero_le _⟩ dX9_grease_38 (fun r11 er11 => ?_)
      refine lv_istore_n (lv' := [(2, .int r11), (0, .ref (a 0)), (1, .int p0)]) hx hb dX9_grease_41 rfl hl (by decide) rfl (fun ls hl => ?_)
      refine lv_aload_n hx hb dX9_grease_42 rfl (lv_at hl 1 rfl) ?_
      refine va_get (D := D) (ci := 9) (v := .ref (a 17)) (C := RX9) (T := TX9) (N := 11) hx hb hT in_X9 hown hK hP 0 cw_0 rfl 2 (by decide) (hT _ t453) (fun _ h9 => h9) rfl dX9_grease_43 ?_
      refine lv_iconst (v := 2) hx hb dX9_grease_46 (by decide) ?_
      refine lv_iload_n hx hb dX9_grease_47 rfl (lv_at hl 2 rfl) ?_
      refine lv_iconst (v := (-1)) hx hb dX9_grease_48 (by decide) ?_
      refine ca_v hP hD hS hA (fun hDc => run_V (mc := 0) (ms := 0) (As := [.int 2, .int p0, .int (-1)]) (rest := []) S (s_X8_act l D k a st sl  2 p0 (-1) _  hB  (pa_2 h3) hX) lkX9_207 ok_X8_act ⟨rfl, rfl, Nat.le_of_ble_eq_true rfl, Nat.le_of_ble_eq_true rfl⟩ (pw_V (ci := 8) (q0 := 17) hK hN rfl cw_17 hP hDc) rfl hl.1 rfl (Nat.le_of_ble_eq_true rfl) ⟨Nat.zero_le _, Nat.zero_le _⟩ dX9_grease_49) (fun s12 H9 locs9 hs12 hP9 hD9 hS9 => ?_)
      clear hP hD hS
      have hS := hS9
      have hP := hP9
      have hD := hD9
      clear hP9 hD9 hS9
      obtain ⟨hBs12, gs12, fs12⟩ := hs12
      have hFs12 : FR [37, 38, 39, 17, 32, 34, 33, 35, 36] st s12 := fr_ca fr_rf gs12 (sub_1 (List.mem_of_getElem? (i := 0) rfl) (sub_1 (List.mem_of_getElem? (i := 1) rfl) (sub_1 (List.mem_of_getElem? (i := 2) rfl) (sub_1 (List.mem_of_getElem? (i := 3) rfl) (sub_1 (List.mem_of_getElem? (i := 4) rfl) (sub_1 (List.mem_of_getElem? (i := 5) rfl) (sub_1 (List.mem_of_getElem? (i := 6) rfl) (sub_1 (List.mem_of_getElem? (i := 7) rfl) (sub_1 (List.mem_of_getElem? (i := 8) rfl) sub_0)))))))))
      have k14 := fs12
      refine lv_iload_n hx hb dX9_grease_52 rfl (lv_at hl 0 rfl) ?_
      rw [hQ]
      exact W.iret (v := r11) hx hb hr (fun t ht hW => ⟨⟨r11, s12, rfl, ⟨hBs12, hFs12, k14⟩, by rw [ht]; exact hP, va_K.moved hW.alike (hK.sub (tys' := []) [] rfl), by rw [hAe]; exact hD⟩, by rw [hAe]; exact hS.F ht⟩) hS.2.2 dX9_grease_53
  · skip
    have g15 := g9
    refine lv_if_ne (tgt := 17) hx hb dX9_grease_11 (by decide) (fun c16 => ?_) (fun c16 => ?_)
    · first | exact absurd c16 (by decide) | exact absurd (by decide) c16
    refine lv_bipush (v := (-2)) hx hb dX9_grease_14 (by decide) ?_
    rw [hQ]
    exact W.iret (v := (-2)) hx hb hr (fun t ht hW => ⟨⟨(-2), st, rfl, ⟨hB, fr_rf, hX⟩, by rw [ht]; exact hP, va_K.moved hW.alike (hK.sub (tys' := []) [] rfl), by rw [hAe]; exact hD⟩, by rw [hAe]; exact hS.F ht⟩) hS.2.2 dX9_grease_16
set_option maxHeartbeats 4000000 in
set_option maxRecDepth 100000 in
theorem s_X9_undo (l : Launch) (D : va_G) (k : Nat → ClassId) (a : Nat → Nat) (st : CT) (sl : CL) (sz : Nat) (hB : CB st)  (hX : WI st 17) : Met l yX9_undo (.code yX9_undo cX9_undo 1 (some .int) :: TB) (rmw 7 0 0) (va_Pc [.ref (a 0)] (PW D k sz (CWS k a st sl))) (QI D (S := CT) (fun r u => CB u ∧ FR [17, 32, 33, 34, 35, 36] st u ∧ (Iv (-5) 40 r ∧ (WI u 17))) (fun u => CWS k a u sl) (fun _ => []) (CWS k a st sl) sz) 0 0 (va_A (CWS k a st sl) sz) := by
  refine Met.ofW (cc := cX9_undo) (maxL := 1) (ret := (some .int)) (by decide) rfl ?_
  intro p e s m args below meth c s₁ B hml hv
  obtain ⟨rfl, hsz, hP, hK, hD0, hN⟩ := hv
  have hx := B.exec
  have hb := B.bytes
  have hr := B.returns
  have hT : ∀ w9 ∈ TB, w9.before ([.ref (a 0)] : List Value).toArray s = true := fun w9 h => atoms_spec (ws := .code yX9_undo cX9_undo 1 (some .int) :: TB) B.pre w9 (List.mem_cons_of_mem _ h)
  have hown : s.vm.findClass RX9 = some m.cls := findClass_of_methodNamed B.named
  have S : CallFix p m c cX9_undo 1 s _ TB RX9 := ⟨hx, hb, hml, hown, hT⟩
  subst hsz
  have hD := hD0.self (sz := s.heap.size)
  generalize hAe : va_A (CWS k a st sl) s.heap.size = A at hD ⊢
  have hA : ∀ q : Nat, s.heap.size ≤ q → A q := fun q h => by rw [← hAe]; exact Or.inr h
  have hS : va_S A s.heap s.heap [] := va_S.rf
  have hl := lv_entry ([.ref (a 0)]) (n := 1) (Nat.le_of_ble_eq_true rfl)
  rw [lg_entry_eq]
  generalize (lg_sl ([.ref (a 0)]) ++ List.replicate (1 - (lg_sl ([.ref (a 0)])).length) Slot.unset).toArray = ls at hl ⊢
  have hl : lv_has ls 1 [(0, .ref (a 0))] := hl
  refine nameQ (fun Q hQ => ?_)
  refine lv_aload_n hx hb dX9_undo_0 rfl (lv_at hl 0 rfl) ?_
  refine va_get (D := D) (ci := 9) (v := .ref (a 17)) (C := RX9) (T := TX9) (N := 11) hx hb hT in_X9 hown hK hP 0 cw_0 rfl 2 (by decide) (hT _ t453) (fun _ h9 => h9) rfl dX9_undo_1 ?_
  refine va_get (D := D) (ci := 8) (v := .ref (a 18)) (C := RX8) (T := TX8) (N := 6) hx hb hT in_X8 hown hK hP 17 cw_17 rfl 0 (by decide) (hT _ t312) (fun _ h9 => h9) rfl dX9_undo_4 ?_
  refine ro_V (As := []) (rest := []) S (s_X1_isTold l D k a st sl   _  hB  ) lkX9_211 ok_X1_isTold ⟨rfl, rfl, Nat.le_of_ble_eq_true rfl, Nat.le_of_ble_eq_true rfl⟩ (pw_V (ci := 1) (q0 := 18) hK hN rfl cw_18 hP (hD.weaken (fun _ _ _ _ => trivial))) rfl hl.1 rfl (Nat.le_of_ble_eq_true rfl) ⟨Nat.zero_le _, Nat.zero_le _⟩ dX9_undo_7 (fun r1 er1 => ?_)
  rcases er1 with ⟨rfl, g9⟩ | ⟨rfl, g9⟩
  · skip
    have g2 := g9
    refine lv_if_ne (tgt := 16) hx hb dX9_undo_10 (by decide) (fun c3 => ?_) (fun c3 => ?_)
    rotate_left
    · first | exact absurd c3 (by decide) | exact absurd (by decide) c3
    refine lv_aload_n hx hb dX9_undo_16 rfl (lv_at hl 0 rfl) ?_
    refine va_get (D := D) (ci := 9) (v := .ref (a 17)) (C := RX9) (T := TX9) (N := 11) hx hb hT in_X9 hown hK hP 0 cw_0 rfl 2 (by decide) (hT _ t453) (fun _ h9 => h9) rfl dX9_undo_17 ?_
    refine va_get (D := D) (ci := 8) (v := .int (st 17 2)) (C := RX8) (T := TX8) (N := 6) hx hb hT in_X8 hown hK hP 17 cw_17 rfl 2 (by decide) (hT _ t316) (fun _ h9 => h9) rfl dX9_undo_20 ?_
    have h4 : Iv 0 40 (st 17 2) := (rb_17_2 hB)
    refine lv_if_gt (tgt := 29) hx hb dX9_undo_23 (by decide) (fun c5 => ?_) (fun c5 => ?_)
    · skip
      have n6 : (0 : Int32).toInt < (st 17 2).toInt := (i_lt c5)
      have h7 : Iv 1 40 (st 17 2) := lt_r (iv_c (by decide) : Iv 0 0 0) n6 h4 (by decide)
      refine lv_aload_n hx hb dX9_undo_29 rfl (lv_at hl 0 rfl) ?_
      refine va_get (D := D) (ci := 9) (v := .ref (a 17)) (C := RX9) (T := TX9) (N := 11) hx hb hT in_X9 hown hK hP 0 cw_0 rfl 2 (by decide) (hT _ t453) (fun _ h9 => h9) rfl dX9_undo_30 ?_
      refine lv_aload_n hx hb dX9_undo_33 rfl (lv_at hl 0 rfl) ?_
      refine va_get (D := D) (ci := 9) (v := .ref (a 17)) (C := RX9) (T := TX9) (N := 11) hx hb hT in_X9 hown hK hP 0 cw_0 rfl 2 (by decide) (hT _ t453) (fun _ h9 => h9) rfl dX9_undo_34 ?_
      refine va_get (D := D) (ci := 8) (v := .int (st 17 2)) (C := RX8) (T := TX8) (N := 6) hx hb hT in_X8 hown hK hP 17 cw_17 rfl 2 (by decide) (hT _ t316) (fun _ h9 => h9) rfl dX9_undo_37 ?_
      refine lv_iconst (v := 1) hx hb dX9_undo_40 (by decide) ?_
      refine lv_isub hx hb dX9_undo_41 ?_
      refine lv_topi (fun z8 ez8 => ?_)
      have h9 : Iv 0 39 z8 := iv_sub ez8 h7 (iv_c (by decide) : Iv 1 1 1) (by decide) (by decide) (by decide) (by decide)
      refine ca_v hP hD hS hA (fun hDc => run_V (mc := 0) (ms := 0) (As := [.int z8]) (rest := []) S (s_X8_keepActs l D k a st sl  z8 _  hB (iv_mono (c := 0) (d := 40) h9 (by decide) (by decide)) hX (by have y9 := ti_sub ez8 h7 (iv_c (by decide) : Iv 1 1 1) (by decide) (by decide); have z9 : (1 : Int32).toInt = 1 := rfl; omega)) lkX9_217 ok_X8_keepActs ⟨rfl, rfl, Nat.le_of_ble_eq_true rfl, Nat.le_of_ble_eq_true rfl⟩ (pw_V (ci := 8) (q0 := 17) hK hN rfl cw_17 hP hDc) rfl hl.1 rfl (Nat.le_of_ble_eq_true rfl) ⟨Nat.zero_le _, Nat.zero_le _⟩ dX9_undo_42) (fun s10 H9 locs9 hs10 hP9 hD9 hS9 => ?_)
      clear hP hD hS
      have hS := hS9
      have hP := hP9
      have hD := hD9
      clear hP9 hD9 hS9
      obtain ⟨hBs10, gs10, fs10⟩ := hs10
      have hFs10 : FR [17, 32, 33, 34, 35, 36] st s10 := fr_ca fr_rf gs10 (sub_1 (List.mem_of_getElem? (i := 0) rfl) (sub_1 (List.mem_of_getElem? (i := 1) rfl) (sub_1 (List.mem_of_getElem? (i := 2) rfl) (sub_1 (List.mem_of_getElem? (i := 3) rfl) (sub_1 (List.mem_of_getElem? (i := 4) rfl) (sub_1 (List.mem_of_getElem? (i := 5) rfl) sub_0))))))
      have k12 := fs10
      refine lv_aload_n hx hb dX9_undo_45 rfl (lv_at hl 0 rfl) ?_
      refine va_get (D := D) (ci := 9) (v := .ref (a 17)) (C := RX9) (T := TX9) (N := 11) hx hb hT in_X9 hown hK hP 0 cw_0 rfl 2 (by decide) (hT _ t453) (fun _ h9 => h9) rfl dX9_undo_46 ?_
      refine va_get (D := D) (ci := 8) (v := .int (s10 17 2)) (C := RX8) (T := TX8) (N := 6) hx hb hT in_X8 hown hK hP 17 cw_17 rfl 2 (by decide) (hT _ t316) (fun _ h9 => h9) rfl dX9_undo_49 ?_
      have h13 : Iv 0 40 (s10 17 2) := (rb_17_2 hBs10)
      rw [hQ]
      exact W.iret (v := (s10 17 2)) hx hb hr (fun t ht hW => ⟨⟨(s10 17 2), s10, rfl, ⟨hBs10, hFs10, ⟨(iv_mono (c := (-5)) (d := 40) h13 (by decide) (by decide)), k12⟩⟩, by rw [ht]; exact hP, va_K.moved hW.alike (hK.sub (tys' := []) [] rfl), by rw [hAe]; exact hD⟩, by rw [hAe]; exact hS.F ht⟩) hS.2.2 dX9_undo_52
    · skip
      have n14 : (st 17 2).toInt ≤ (0 : Int32).toInt := (i_nlt c5)
      have h15 : Iv 0 0 (st 17 2) := le_l h4 n14 (iv_c (by decide) : Iv 0 0 0) (by decide)
      refine lv_bipush (v := (-5)) hx hb dX9_undo_26 (by decide) ?_
      rw [hQ]
      exact W.iret (v := (-5)) hx hb hr (fun t ht hW => ⟨⟨(-5), st, rfl, ⟨hB, fr_rf, ⟨(iv_mono (c := (-5)) (d := 40) (iv_c (by decide) : Iv (-5) (-5) (-5)) (by decide) (by decide)), hX⟩⟩, by rw [ht]; exact hP, va_K.moved hW.alike (hK.sub (tys' := []) [] rfl), by rw [hAe]; exact hD⟩, by rw [hAe]; exact hS.F ht⟩) hS.2.2 dX9_undo_28
  · skip
    have g16 := g9
    refine lv_if_ne (tgt := 16) hx hb dX9_undo_10 (by decide) (fun c17 => ?_) (fun c17 => ?_)
    · first | exact absurd c17 (by decide) | exact absurd (by decide) c17
    refine lv_bipush (v := (-2)) hx hb dX9_undo_13 (by decide) ?_
    rw [hQ]
    exact W.iret (v := (-2)) hx hb hr (fun t ht hW => ⟨⟨(-2), st, rfl, ⟨hB, fr_rf, ⟨(iv_mono (c := (-5)) (d := 40) (iv_c (by decide) : Iv (-2) (-2) (-2)) (by decide) (by decide)), hX⟩⟩, by rw [ht]; exact hP, va_K.moved hW.alike (hK.sub (tys' := []) [] rfl), by rw [hAe]; exact hD⟩, by rw [hAe]; exact hS.F ht⟩) hS.2.2 dX9_undo_15
set_option maxHeartbeats 4000000 in
set_option maxRecDepth 100000 in
theorem s_X9_anew (l : Launch) (D : va_G) (k : Nat → ClassId) (a : Nat → Nat) (st : CT) (sl : CL) (sz : Nat) (hB : CB st)  (hX : WI st 17) : Met l yX9_anew (.code yX9_anew cX9_anew 2 (some .int) :: TB) (rmw 7 0 0) (va_Pc [.ref (a 0)] (PW D k sz (CWS k a st sl))) (QI D (S := CT) (fun r u => CB u ∧ FR [17, 32, 33, 34, 35, 36] st u ∧ (Iv (-2) 40 r ∧ (WI u 17))) (fun u => CWS k a u sl) (fun _ => []) (CWS k a st sl) sz) 0 0 (va_A (CWS k a st sl) sz) := by
  refine Met.ofW (cc := cX9_anew) (maxL := 2) (ret := (some .int)) (by decide) rfl ?_
  intro p e s m args below meth c s₁ B hml hv
  obtain ⟨rfl, hsz, hP, hK, hD0, hN⟩ := hv
  have hx := B.exec
  have hb := B.bytes
  have hr := B.returns
  have hT : ∀ w9 ∈ TB, w9.before ([.ref (a 0)] : List Value).toArray s = true := fun w9 h => atoms_spec (ws := .code yX9_anew cX9_anew 2 (some .int) :: TB) B.pre w9 (List.mem_cons_of_mem _ h)
  have hown : s.vm.findClass RX9 = some m.cls := findClass_of_methodNamed B.named
  have S : CallFix p m c cX9_anew 2 s _ TB RX9 := ⟨hx, hb, hml, hown, hT⟩
  subst hsz
  have hD := hD0.self (sz := s.heap.size)
  generalize hAe : va_A (CWS k a st sl) s.heap.size = A at hD ⊢
  have hA : ∀ q : Nat, s.heap.size ≤ q → A q := fun q h => by rw [← hAe]; exact Or.inr h
  have hS : va_S A s.heap s.heap [] := va_S.rf
  have hl := lv_entry ([.ref (a 0)]) (n := 2) (Nat.le_of_ble_eq_true rfl)
  rw [lg_entry_eq]
  generalize (lg_sl ([.ref (a 0)]) ++ List.replicate (2 - (lg_sl ([.ref (a 0)])).length) Slot.unset).toArray = ls at hl ⊢
  have hl : lv_has ls 2 [(0, .ref (a 0))] := hl
  refine nameQ (fun Q hQ => ?_)
  refine lv_aload_n hx hb dX9_anew_0 rfl (lv_at hl 0 rfl) ?_
  refine va_get (D := D) (ci := 9) (v := .ref (a 17)) (C := RX9) (T := TX9) (N := 11) hx hb hT in_X9 hown hK hP 0 cw_0 rfl 2 (by decide) (hT _ t453) (fun _ h9 => h9) rfl dX9_anew_1 ?_
  refine va_get (D := D) (ci := 8) (v := .ref (a 18)) (C := RX8) (T := TX8) (N := 6) hx hb hT in_X8 hown hK hP 17 cw_17 rfl 0 (by decide) (hT _ t312) (fun _ h9 => h9) rfl dX9_anew_4 ?_
  refine ro_V (As := []) (rest := []) S (s_X1_isTold l D k a st sl   _  hB  ) lkX9_211 ok_X1_isTold ⟨rfl, rfl, Nat.le_of_ble_eq_true rfl, Nat.le_of_ble_eq_true rfl⟩ (pw_V (ci := 1) (q0 := 18) hK hN rfl cw_18 hP (hD.weaken (fun _ _ _ _ => trivial))) rfl hl.1 rfl (Nat.le_of_ble_eq_true rfl) ⟨Nat.zero_le _, Nat.zero_le _⟩ dX9_anew_7 (fun r1 er1 => ?_)
  rcases er1 with ⟨rfl, g9⟩ | ⟨rfl, g9⟩
  · skip
    have g2 := g9
    refine lv_if_ne (tgt := 16) hx hb dX9_anew_10 (by decide) (fun c3 => ?_) (fun c3 => ?_)
    rotate_left
    · first | exact absurd c3 (by decide) | exact absurd (by decide) c3
    refine lv_aload_n hx hb dX9_anew_16 rfl (lv_at hl 0 rfl) ?_
    refine va_get (D := D) (ci := 9) (v := .ref (a 17)) (C := RX9) (T := TX9) (N := 11) hx hb hT in_X9 hown hK hP 0 cw_0 rfl 2 (by decide) (hT _ t453) (fun _ h9 => h9) rfl dX9_anew_17 ?_
    refine va_get (D := D) (ci := 8) (v := .int (st 17 2)) (C := RX8) (T := TX8) (N := 6) hx hb hT in_X8 hown hK hP 17 cw_17 rfl 2 (by decide) (hT _ t316) (fun _ h9 => h9) rfl dX9_anew_20 ?_
    have h4 : Iv 0 40 (st 17 2) := (rb_17_2 hB)
    refine lv_istore_n (lv' := [(1, .int (st 17 2)), (0, .ref (a 0))]) hx hb dX9_anew_23 rfl hl (by decide) rfl (fun ls hl => ?_)
    refine lv_aload_n hx hb dX9_anew_24 rfl (lv_at hl 1 rfl) ?_
    refine va_get (D := D) (ci := 9) (v := .ref (a 17)) (C := RX9) (T := TX9) (N := 11) hx hb hT in_X9 hown hK hP 0 cw_0 rfl 2 (by decide) (hT _ t453) (fun _ h9 => h9) rfl dX9_anew_25 ?_
    refine lv_iconst (v := 0) hx hb dX9_anew_28 (by decide) ?_
    refine ca_v hP hD hS hA (fun hDc => run_V (mc := 0) (ms := 0) (As := [.int 0]) (rest := []) S (s_X8_keepActs l D k a st sl  0 _  hB (iv_mono (c := 0) (d := 40) (iv_c (by decide) : Iv 0 0 0) (by decide) (by decide)) hX (by have y9 := (h4).1; have z9 : (0 : Int32).toInt = 0 := rfl; omega)) lkX9_217 ok_X8_keepActs ⟨rfl, rfl, Nat.le_of_ble_eq_true rfl, Nat.le_of_ble_eq_true rfl⟩ (pw_V (ci := 8) (q0 := 17) hK hN rfl cw_17 hP hDc) rfl hl.1 rfl (Nat.le_of_ble_eq_true rfl) ⟨Nat.zero_le _, Nat.zero_le _⟩ dX9_anew_29) (fun s5 H9 locs9 hs5 hP9 hD9 hS9 => ?_)
    clear hP hD hS
    have hS := hS9
    have hP := hP9
    have hD := hD9
    clear hP9 hD9 hS9
    obtain ⟨hBs5, gs5, fs5⟩ := hs5
    have hFs5 : FR [17, 32, 33, 34, 35, 36] st s5 := fr_ca fr_rf gs5 (sub_1 (List.mem_of_getElem? (i := 0) rfl) (sub_1 (List.mem_of_getElem? (i := 1) rfl) (sub_1 (List.mem_of_getElem? (i := 2) rfl) (sub_1 (List.mem_of_getElem? (i := 3) rfl) (sub_1 (List.mem_of_getElem? (i := 4) rfl) (sub_1 (List.mem_of_getElem? (i := 5) rfl) sub_0))))))
    have k7 := fs5
    refine lv_iload_n hx hb dX9_anew_32 rfl (lv_at hl 0 rfl) ?_
    rw [hQ]
    exact W.iret (v := (st 17 2)) hx hb hr (fun t ht hW => ⟨⟨(st 17 2), s5, rfl, ⟨hBs5, hFs5, ⟨(iv_mono (c := (-2)) (d := 40) h4 (by decide) (by decide)), k7⟩⟩, by rw [ht]; exact hP, va_K.moved hW.alike (hK.sub (tys' := []) [] rfl), by rw [hAe]; exact hD⟩, by rw [hAe]; exact hS.F ht⟩) hS.2.2 dX9_anew_33
  · skip
    have g8 := g9
    refine lv_if_ne (tgt := 16) hx hb dX9_anew_10 (by decide) (fun c9 => ?_) (fun c9 => ?_)
    · first | exact absurd c9 (by decide) | exact absurd (by decide) c9
    refine lv_bipush (v := (-2)) hx hb dX9_anew_13 (by decide) ?_
    rw [hQ]
    exact W.iret (v := (-2)) hx hb hr (fun t ht hW => ⟨⟨(-2), st, rfl, ⟨hB, fr_rf, ⟨(iv_mono (c := (-2)) (d := 40) (iv_c (by decide) : Iv (-2) (-2) (-2)) (by decide) (by decide)), hX⟩⟩, by rw [ht]; exact hP, va_K.moved hW.alike (hK.sub (tys' := []) [] rfl), by rw [hAe]; exact hD⟩, by rw [hAe]; exact hS.F ht⟩) hS.2.2 dX9_anew_15
