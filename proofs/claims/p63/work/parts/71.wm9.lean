set_option maxHeartbeats 4000000 in
set_option maxRecDepth 100000 in
theorem s_X9_tell (l : Launch) (D : va_G) (k : Nat → ClassId) (a : Nat → Nat) (st : CT) (sl : CL) (p0 : Int32) (p1 : Int32) (p2 : Int32) (sz : Nat) (hB : CB st)  : Met l yX9_tell (.code yX9_tell cX9_tell 5 (some .int) :: TB) (rmw 2 0 0) (va_Pc [.ref (a 0), .int p0, .int p1, .int p2] (PW D k sz (CWS k a st sl))) (QI D (S := CT) (fun r u => CB u ∧ FR [26, 32] st u ∧ (Iv (-5) 9 r ∧ (True))) (fun u => CWS k a u sl) (fun _ => []) (CWS k a st sl) sz) 0 0 (va_A (CWS k a st sl) sz) := by
  refine Met.ofW (cc := cX9_tell) (maxL := 5) (ret := (some .int)) (by decide) rfl ?_
  intro p e s m args below meth c s₁ B hml hv
  obtain ⟨rfl, hsz, hP, hK, hD0, hN⟩ := hv
  have hx := B.exec
  have hb := B.bytes
  have hr := B.returns
  have hT : ∀ w9 ∈ TB, w9.before ([.ref (a 0), .int p0, .int p1, .int p2] : List Value).toArray s = true := fun w9 h => atoms_spec (ws := .code yX9_tell cX9_tell 5 (some .int) :: TB) B.pre w9 (List.mem_cons_of_mem _ h)
  have hown : s.vm.findClass RX9 = some m.cls := findClass_of_methodNamed B.named
  have S : CallFix p m c cX9_tell 5 s _ TB RX9 := ⟨hx, hb, hml, hown, hT⟩
  subst hsz
  have hD := hD0.self (sz := s.heap.size)
  generalize hAe : va_A (CWS k a st sl) s.heap.size = A at hD ⊢
  have hA : ∀ q : Nat, s.heap.size ≤ q → A q := fun q h => by rw [← hAe]; exact Or.inr h
  have hS : va_S A s.heap s.heap [] := va_S.rf
  have hl := lv_entry ([.ref (a 0), .int p0, .int p1, .int p2]) (n := 5) (Nat.le_of_ble_eq_true rfl)
  rw [lg_entry_eq]
  generalize (lg_sl ([.ref (a 0), .int p0, .int p1, .int p2]) ++ List.replicate (5 - (lg_sl ([.ref (a 0), .int p0, .int p1, .int p2])).length) Slot.unset).toArray = ls at hl ⊢
  have hl : lv_has ls 5 [(0, .ref (a 0)), (1, .int p0), (2, .int p1), (3, .int p2)] := hl
  refine nameQ (fun Q hQ => ?_)
  refine lv_aload_n hx hb dX9_tell_0 rfl (lv_at hl 0 rfl) ?_
  refine va_get (D := D) (ci := 9) (v := .ref (a 17)) (C := RX9) (T := TX9) (N := 11) hx hb hT in_X9 hown hK hP 0 cw_0 rfl 2 (by decide) (hT _ t453) (fun _ h9 => h9) rfl dX9_tell_1 ?_
  refine va_get (D := D) (ci := 8) (v := .ref (a 18)) (C := RX8) (T := TX8) (N := 6) hx hb hT in_X8 hown hK hP 17 cw_17 rfl 0 (by decide) (hT _ t312) (fun _ h9 => h9) rfl dX9_tell_4 ?_
  refine lv_iload_n hx hb dX9_tell_7 rfl (lv_at hl 1 rfl) ?_
  refine ro_V (As := [.int p0]) (rest := []) S (s_X1_isWheel l D k a st sl  p0 _  hB  ) lkX9_127 ok_X1_isWheel ⟨rfl, rfl, Nat.le_of_ble_eq_true rfl, Nat.le_of_ble_eq_true rfl⟩ (pw_V (ci := 1) (q0 := 18) hK hN rfl cw_18 hP (hD.weaken (fun _ _ _ _ => trivial))) rfl hl.1 rfl (Nat.le_of_ble_eq_true rfl) ⟨Nat.zero_le _, Nat.zero_le _⟩ dX9_tell_8 (fun r1 er1 => ?_)
  rcases er1 with ⟨rfl, g9⟩ | ⟨rfl, g9⟩
  · skip
    have g2 := g9
    have h3 : Iv 0 7 p0 := g2.1
    refine lv_if_eq (tgt := 38) hx hb dX9_tell_11 (by decide) (fun c4 => ?_) (fun c4 => ?_)
    · first | exact absurd c4 (by decide) | exact absurd (by decide) c4
    refine lv_aload_n hx hb dX9_tell_14 rfl (lv_at hl 0 rfl) ?_
    refine va_get (D := D) (ci := 9) (v := .ref (a 17)) (C := RX9) (T := TX9) (N := 11) hx hb hT in_X9 hown hK hP 0 cw_0 rfl 2 (by decide) (hT _ t453) (fun _ h9 => h9) rfl dX9_tell_15 ?_
    refine va_get (D := D) (ci := 8) (v := .ref (a 18)) (C := RX8) (T := TX8) (N := 6) hx hb hT in_X8 hown hK hP 17 cw_17 rfl 0 (by decide) (hT _ t312) (fun _ h9 => h9) rfl dX9_tell_18 ?_
    refine lv_iload_n hx hb dX9_tell_21 rfl (lv_at hl 2 rfl) ?_
    refine ro_V (As := [.int p1]) (rest := []) S (s_X1_isRoad l D k a st sl  p1 _  hB  ) lkX9_114 ok_X1_isRoad ⟨rfl, rfl, Nat.le_of_ble_eq_true rfl, Nat.le_of_ble_eq_true rfl⟩ (pw_V (ci := 1) (q0 := 18) hK hN rfl cw_18 hP (hD.weaken (fun _ _ _ _ => trivial))) rfl hl.1 rfl (Nat.le_of_ble_eq_true rfl) ⟨Nat.zero_le _, Nat.zero_le _⟩ dX9_tell_22 (fun r5 er5 => ?_)
    rcases er5 with ⟨rfl, g9⟩ | ⟨rfl, g9⟩
    · skip
      have g6 := g9
      have h7 : Iv 0 7 p1 := g6.1
      refine lv_if_eq (tgt := 38) hx hb dX9_tell_25 (by decide) (fun c8 => ?_) (fun c8 => ?_)
      · first | exact absurd c8 (by decide) | exact absurd (by decide) c8
      refine lv_iload_n hx hb dX9_tell_28 rfl (lv_at hl 3 rfl) ?_
      refine lv_if_lt (tgt := 38) hx hb dX9_tell_29 (by decide) (fun c9 => ?_) (fun c9 => ?_)
      · skip
        have n10 : p2.toInt < (0 : Int32).toInt := (i_lt c9)
        have h11 : Iv (-2147483648) (-1) p2 := lt_l (iv_full p2) n10 (iv_c (by decide) : Iv 0 0 0) (by decide)
        refine lv_bipush (v := (-2)) hx hb dX9_tell_38 (by decide) ?_
        rw [hQ]
        exact W.iret (v := (-2)) hx hb hr (fun t ht hW => ⟨⟨(-2), st, rfl, ⟨hB, fr_rf, ⟨(iv_mono (c := (-5)) (d := 9) (iv_c (by decide) : Iv (-2) (-2) (-2)) (by decide) (by decide)), trivial⟩⟩, by rw [ht]; exact hP, va_K.moved hW.alike (hK.sub (tys' := []) [] rfl), by rw [hAe]; exact hD⟩, by rw [hAe]; exact hS.F ht⟩) hS.2.2 dX9_tell_40
      · skip
        have n12 : (0 : Int32).toInt ≤ p2.toInt := (i_nlt c9)
        have h13 : Iv 0 2147483647 p2 := le_r (iv_c (by decide) : Iv 0 0 0) n12 (iv_full p2) (by decide)
        refine lv_iload_n hx hb dX9_tell_32 rfl (lv_at hl 3 rfl) ?_
        refine lv_bipush (v := 9) hx hb dX9_tell_33 (by decide) ?_
        refine lv_icmp_le (tgt := 41) hx hb dX9_tell_35 (by decide) (fun c14 => ?_) (fun c14 => ?_)
        · skip
          have n15 : p2.toInt ≤ (9 : Int32).toInt := (i_le c14)
          have h16 : Iv 0 9 p2 := le_l h13 n15 (iv_c (by decide) : Iv 9 9 9) (by decide)
          refine lv_aload_n hx hb dX9_tell_41 rfl (lv_at hl 0 rfl) ?_
          refine va_get (D := D) (ci := 9) (v := .ref (a 17)) (C := RX9) (T := TX9) (N := 11) hx hb hT in_X9 hown hK hP 0 cw_0 rfl 2 (by decide) (hT _ t453) (fun _ h9 => h9) rfl dX9_tell_42 ?_
          refine va_get (D := D) (ci := 8) (v := .int (st 17 2)) (C := RX8) (T := TX8) (N := 6) hx hb hT in_X8 hown hK hP 17 cw_17 rfl 2 (by decide) (hT _ t316) (fun _ h9 => h9) rfl dX9_tell_45 ?_
          have h17 : Iv 0 40 (st 17 2) := (rb_17_2 hB)
          refine lv_if_le (tgt := 54) hx hb dX9_tell_48 (by decide) (fun c18 => ?_) (fun c18 => ?_)
          · skip
            have n19 : (st 17 2).toInt ≤ (0 : Int32).toInt := (i_le c18)
            have h20 : Iv 0 0 (st 17 2) := le_l h17 n19 (iv_c (by decide) : Iv 0 0 0) (by decide)
            refine lv_aload_n hx hb dX9_tell_54 rfl (lv_at hl 0 rfl) ?_
            refine va_get (D := D) (ci := 9) (v := .ref (a 17)) (C := RX9) (T := TX9) (N := 11) hx hb hT in_X9 hown hK hP 0 cw_0 rfl 2 (by decide) (hT _ t453) (fun _ h9 => h9) rfl dX9_tell_55 ?_
            refine va_get (D := D) (ci := 8) (v := .ref (a 18)) (C := RX8) (T := TX8) (N := 6) hx hb hT in_X8 hown hK hP 17 cw_17 rfl 0 (by decide) (hT _ t312) (fun _ h9 => h9) rfl dX9_tell_58 ?_
            refine va_get (D := D) (ci := 1) (v := .ref (a 25)) (C := RX1) (T := TX1) (N := 14) hx hb hT in_X1 hown hK hP 18 cw_18 rfl 13 (by decide) (hT _ t242) (fun _ h9 => h9) rfl dX9_tell_61 ?_
            refine lv_iload_n hx hb dX9_tell_64 rfl (lv_at hl 1 rfl) ?_
            refine lv_iload_n hx hb dX9_tell_65 rfl (lv_at hl 2 rfl) ?_
            refine ro_V (As := [.int p0, .int p1]) (rest := []) S (s_X5_likeOf l D k a st sl 25 p0 p1 _ (by decide) hB h3 h7 ) lkX9_133 ok_X5_likeOf ⟨rfl, rfl, Nat.le_of_ble_eq_true rfl, Nat.le_of_ble_eq_true rfl⟩ (pw_V (ci := 5) (q0 := 25) hK hN rfl cw_25 hP (hD.weaken (fun _ _ _ _ => trivial))) rfl hl.1 rfl (Nat.le_of_ble_eq_true rfl) ⟨Nat.zero_le _, Nat.zero_le _⟩ dX9_tell_66 (fun r21 er21 => ?_)
            have h22 : Iv 0 9 r21 := er21.1
            refine lv_istore (lv' := [(4, .int r21), (0, .ref (a 0)), (1, .int p0), (2, .int p1), (3, .int p2)]) hx hb dX9_tell_69 hl (by decide) rfl (fun ls hl => ?_)
            refine lv_aload_n hx hb dX9_tell_71 rfl (lv_at hl 1 rfl) ?_
            refine va_get (D := D) (ci := 9) (v := .ref (a 17)) (C := RX9) (T := TX9) (N := 11) hx hb hT in_X9 hown hK hP 0 cw_0 rfl 2 (by decide) (hT _ t453) (fun _ h9 => h9) rfl dX9_tell_72 ?_
            refine va_get (D := D) (ci := 8) (v := .ref (a 18)) (C := RX8) (T := TX8) (N := 6) hx hb hT in_X8 hown hK hP 17 cw_17 rfl 0 (by decide) (hT _ t312) (fun _ h9 => h9) rfl dX9_tell_75 ?_
            refine va_get (D := D) (ci := 1) (v := .ref (a 25)) (C := RX1) (T := TX1) (N := 14) hx hb hT in_X1 hown hK hP 18 cw_18 rfl 13 (by decide) (hT _ t242) (fun _ h9 => h9) rfl dX9_tell_78 ?_
            refine lv_iload_n hx hb dX9_tell_81 rfl (lv_at hl 2 rfl) ?_
            refine lv_iload_n hx hb dX9_tell_82 rfl (lv_at hl 3 rfl) ?_
            refine lv_iload_n hx hb dX9_tell_83 rfl (lv_at hl 4 rfl) ?_
            refine ca_v hP hD hS hA (fun hDc => run_V (mc := 0) (ms := 0) (As := [.int p0, .int p1, .int p2]) (rest := []) S (s_X5_setLike l D k a st sl 25 p0 p1 p2 _ (by decide) hB h3 h7 h16 ) lkX9_401 ok_X5_setLike ⟨rfl, rfl, Nat.le_of_ble_eq_true rfl, Nat.le_of_ble_eq_true rfl⟩ (pw_V (ci := 5) (q0 := 25) hK hN rfl cw_25 hP hDc) rfl hl.1 rfl (Nat.le_of_ble_eq_true rfl) ⟨Nat.zero_le _, Nat.zero_le _⟩ dX9_tell_84) (fun s23 H9 locs9 hs23 hP9 hD9 hS9 => ?_)
            clear hP hD hS
            have hS := hS9
            have hP := hP9
            have hD := hD9
            clear hP9 hD9 hS9
            obtain ⟨hBs23, gs23, fs23⟩ := hs23
            have hFs23 : FR [26, 32] st s23 := fr_ca fr_rf gs23 (sub_1 (List.mem_of_getElem? (i := 0) rfl) sub_0)
            refine lv_aload_n hx hb dX9_tell_87 rfl (lv_at hl 1 rfl) ?_
            refine va_get (D := D) (ci := 9) (v := .ref (a 17)) (C := RX9) (T := TX9) (N := 11) hx hb hT in_X9 hown hK hP 0 cw_0 rfl 2 (by decide) (hT _ t453) (fun _ h9 => h9) rfl dX9_tell_88 ?_
            refine va_get (D := D) (ci := 8) (v := .ref (a 31)) (C := RX8) (T := TX8) (N := 6) hx hb hT in_X8 hown hK hP 17 cw_17 rfl 1 (by decide) (hT _ t314) (fun _ h9 => h9) rfl dX9_tell_91 ?_
            refine lv_iload_n hx hb dX9_tell_94 rfl (lv_at hl 2 rfl) ?_
            refine lv_iload_n hx hb dX9_tell_95 rfl (lv_at hl 3 rfl) ?_
            refine lv_iload_n hx hb dX9_tell_96 rfl (lv_at hl 4 rfl) ?_
            refine ca_v hP hD hS hA (fun hDc => run_V (mc := 0) (ms := 0) (As := [.int p0, .int p1, .int p2]) (rest := []) S (s_X5_setLike l D k a s23 sl 31 p0 p1 p2 _ (by decide) hBs23 h3 h7 h16 ) lkX9_401 ok_X5_setLike ⟨rfl, rfl, Nat.le_of_ble_eq_true rfl, Nat.le_of_ble_eq_true rfl⟩ (pw_V (ci := 5) (q0 := 31) hK hN rfl cw_31 hP hDc) rfl hl.1 rfl (Nat.le_of_ble_eq_true rfl) ⟨Nat.zero_le _, Nat.zero_le _⟩ dX9_tell_97) (fun s25 H9 locs9 hs25 hP9 hD9 hS9 => ?_)
            clear hP hD hS
            have hS := hS9
            have hP := hP9
            have hD := hD9
            clear hP9 hD9 hS9
            obtain ⟨hBs25, gs25, fs25⟩ := hs25
            have hFs25 : FR [26, 32] st s25 := fr_ca hFs23 gs25 (sub_1 (List.mem_of_getElem? (i := 1) rfl) sub_0)
            refine lv_iload hx hb dX9_tell_100 (lv_at hl 0 rfl) ?_
            rw [hQ]
            exact W.iret (v := r21) hx hb hr (fun t ht hW => ⟨⟨r21, s25, rfl, ⟨hBs25, hFs25, ⟨(iv_mono (c := (-5)) (d := 9) h22 (by decide) (by decide)), trivial⟩⟩, by rw [ht]; exact hP, va_K.moved hW.alike (hK.sub (tys' := []) [] rfl), by rw [hAe]; exact hD⟩, by rw [hAe]; exact hS.F ht⟩) hS.2.2 dX9_tell_102
          · skip
            have n27 : (0 : Int32).toInt < (st 17 2).toInt := (i_nle c18)
            have h28 : Iv 1 40 (st 17 2) := lt_r (iv_c (by decide) : Iv 0 0 0) n27 h17 (by decide)
            refine lv_bipush (v := (-5)) hx hb dX9_tell_51 (by decide) ?_
            rw [hQ]
            exact W.iret (v := (-5)) hx hb hr (fun t ht hW => ⟨⟨(-5), st, rfl, ⟨hB, fr_rf, ⟨(iv_mono (c := (-5)) (d := 9) (iv_c (by decide) : Iv (-5) (-5) (-5)) (by decide) (by decide)), trivial⟩⟩, by rw [ht]; exact hP, va_K.moved hW.alike (hK.sub (tys' := []) [] rfl), by rw [hAe]; exact hD⟩, by rw [hAe]; exact hS.F ht⟩) hS.2.2 dX9_tell_53
        · skip
          have n29 : (9 : Int32).toInt < p2.toInt := (i_nle c14)
          have h30 : Iv 10 2147483647 p2 := lt_r (iv_c (by decide) : Iv 9 9 9) n29 h13 (by decide)
          refine lv_bipush (v := (-2)) hx hb dX9_tell_38 (by decide) ?_
          rw [hQ]
          exact W.iret (v := (-2)) hx hb hr (fun t ht hW => ⟨⟨(-2), st, rfl, ⟨hB, fr_rf, ⟨(iv_mono (c := (-5)) (d := 9) (iv_c (by decide) : Iv (-2) (-2) (-2)) (by decide) (by decide)), trivial⟩⟩, by rw [ht]; exact hP, va_K.moved hW.alike (hK.sub (tys' := []) [] rfl), by rw [hAe]; exact hD⟩, by rw [hAe]; exact hS.F ht⟩) hS.2.2 dX9_tell_40
    · skip
      have g31 := g9
      refine lv_if_eq (tgt := 38) hx hb dX9_tell_25 (by decide) (fun c32 => ?_) (fun c32 => ?_)
      rotate_left
      · first | exact absurd c32 (by decide) | exact absurd (by decide) c32
      refine lv_bipush (v := (-2)) hx hb dX9_tell_38 (by decide) ?_
      rw [hQ]
      exact W.iret (v := (-2)) hx hb hr (fun t ht hW => ⟨⟨(-2), st, rfl, ⟨hB, fr_rf, ⟨(iv_mono (c := (-5)) (d := 9) (iv_c (by decide) : Iv (-2) (-2) (-2)) (by decide) (by decide)), trivial⟩⟩, by rw [ht]; exact hP, va_K.moved hW.alike (hK.sub (tys' := []) [] rfl), by rw [hAe]; exact hD⟩, by rw [hAe]; exact hS.F ht⟩) hS.2.2 dX9_tell_40
  · skip
    have g33 := g9
    refine lv_if_eq (tgt := 38) hx hb dX9_tell_11 (by decide) (fun c34 => ?_) (fun c34 => ?_)
    rotate_left
    · first | exact absurd c34 (by decide) | exact absurd (by decide) c34
    refine lv_bipush (v := (-2)) hx hb dX9_tell_38 (by decide) ?_
    rw [hQ]
    exact W.iret (v := (-2)) hx hb hr (fun t ht hW => ⟨⟨(-2), st, rfl, ⟨hB, fr_rf, ⟨(iv_mono (c := (-5)) (d := 9) (iv_c (by decide) : Iv (-2) (-2) (-2)) (by decide) (by decide)), trivial⟩⟩, by rw [ht]; exact hP, va_K.moved hW.alike (hK.sub (tys' := []) [] rfl), by rw [hAe]; exact hD⟩, by rw [hAe]; exact hS.F ht⟩) hS.2.2 dX9_tell_40
set_option maxHeartbeats 4000000 in
set_option maxRecDepth 100000 in
theorem s_X9_hand (l : Launch) (D : va_G) (k : Nat → ClassId) (a : Nat → Nat) (st : CT) (sl : CL) (p0 : Int32) (sz : Nat) (hB : CB st)  : Met l yX9_hand (.code yX9_hand cX9_hand 3 (some .int) :: TB) (rmw 2 0 0) (va_Pc [.ref (a 0), .int p0] (PW D k sz (CWS k a st sl))) (QI D (S := CT) (fun r u => CB u ∧ FR [18] st u ∧ u 18 0 = st 18 0 ∧ u 18 1 = st 18 1 ∧ u 18 3 = st 18 3 ∧ u 18 4 = st 18 4 ∧ u 18 5 = st 18 5 ∧ u 18 6 = st 18 6 ∧ ((True))) (fun u => CWS k a u sl) (fun _ => []) (CWS k a st sl) sz) 0 0 (va_A (CWS k a st sl) sz) := by
  refine Met.ofW (cc := cX9_hand) (maxL := 3) (ret := (some .int)) (by decide) rfl ?_
  intro p e s m args below meth c s₁ B hml hv
  obtain ⟨rfl, hsz, hP, hK, hD0, hN⟩ := hv
  have hx := B.exec
  have hb := B.bytes
  have hr := B.returns
  have hT : ∀ w9 ∈ TB, w9.before ([.ref (a 0), .int p0] : List Value).toArray s = true := fun w9 h => atoms_spec (ws := .code yX9_hand cX9_hand 3 (some .int) :: TB) B.pre w9 (List.mem_cons_of_mem _ h)
  have hown : s.vm.findClass RX9 = some m.cls := findClass_of_methodNamed B.named
  have S : CallFix p m c cX9_hand 3 s _ TB RX9 := ⟨hx, hb, hml, hown, hT⟩
  subst hsz
  have hD := hD0.self (sz := s.heap.size)
  generalize hAe : va_A (CWS k a st sl) s.heap.size = A at hD ⊢
  have hA : ∀ q : Nat, s.heap.size ≤ q → A q := fun q h => by rw [← hAe]; exact Or.inr h
  have hS : va_S A s.heap s.heap [] := va_S.rf
  have hl := lv_entry ([.ref (a 0), .int p0]) (n := 3) (Nat.le_of_ble_eq_true rfl)
  rw [lg_entry_eq]
  generalize (lg_sl ([.ref (a 0), .int p0]) ++ List.replicate (3 - (lg_sl ([.ref (a 0), .int p0])).length) Slot.unset).toArray = ls at hl ⊢
  have hl : lv_has ls 3 [(0, .ref (a 0)), (1, .int p0)] := hl
  refine nameQ (fun Q hQ => ?_)
  refine lv_iload_n hx hb dX9_hand_0 rfl (lv_at hl 1 rfl) ?_
  refine lv_if_lt (tgt := 23) hx hb dX9_hand_1 (by decide) (fun c1 => ?_) (fun c1 => ?_)
  · skip
    have n2 : p0.toInt < (0 : Int32).toInt := (i_lt c1)
    have h3 : Iv (-2147483648) (-1) p0 := lt_l (iv_full p0) n2 (iv_c (by decide) : Iv 0 0 0) (by decide)
    refine lv_bipush (v := (-2)) hx hb dX9_hand_23 (by decide) ?_
    rw [hQ]
    exact W.iret (v := (-2)) hx hb hr (fun t ht hW => ⟨⟨(-2), st, rfl, ⟨hB, fr_rf, rfl, rfl, rfl, rfl, rfl, rfl, trivial⟩, by rw [ht]; exact hP, va_K.moved hW.alike (hK.sub (tys' := []) [] rfl), by rw [hAe]; exact hD⟩, by rw [hAe]; exact hS.F ht⟩) hS.2.2 dX9_hand_25
  · skip
    have n4 : (0 : Int32).toInt ≤ p0.toInt := (i_nlt c1)
    have h5 : Iv 0 2147483647 p0 := le_r (iv_c (by decide) : Iv 0 0 0) n4 (iv_full p0) (by decide)
    refine lv_iload_n hx hb dX9_hand_4 rfl (lv_at hl 1 rfl) ?_
    refine lv_bipush (v := 40) hx hb dX9_hand_5 (by decide) ?_
    refine lv_icmp_gt (tgt := 23) hx hb dX9_hand_7 (by decide) (fun c6 => ?_) (fun c6 => ?_)
    · skip
      have n7 : (40 : Int32).toInt < p0.toInt := (i_lt c6)
      have h8 : Iv 41 2147483647 p0 := lt_r (iv_c (by decide) : Iv 40 40 40) n7 h5 (by decide)
      refine lv_bipush (v := (-2)) hx hb dX9_hand_23 (by decide) ?_
      rw [hQ]
      exact W.iret (v := (-2)) hx hb hr (fun t ht hW => ⟨⟨(-2), st, rfl, ⟨hB, fr_rf, rfl, rfl, rfl, rfl, rfl, rfl, trivial⟩, by rw [ht]; exact hP, va_K.moved hW.alike (hK.sub (tys' := []) [] rfl), by rw [hAe]; exact hD⟩, by rw [hAe]; exact hS.F ht⟩) hS.2.2 dX9_hand_25
    · skip
      have n9 : p0.toInt ≤ (40 : Int32).toInt := (i_nlt c6)
      have h10 : Iv 0 40 p0 := le_l h5 n9 (iv_c (by decide) : Iv 40 40 40) (by decide)
      refine lv_aload_n hx hb dX9_hand_10 rfl (lv_at hl 0 rfl) ?_
      refine va_get (D := D) (ci := 9) (v := .ref (a 17)) (C := RX9) (T := TX9) (N := 11) hx hb hT in_X9 hown hK hP 0 cw_0 rfl 2 (by decide) (hT _ t453) (fun _ h9 => h9) rfl dX9_hand_11 ?_
      refine va_get (D := D) (ci := 8) (v := .ref (a 18)) (C := RX8) (T := TX8) (N := 6) hx hb hT in_X8 hown hK hP 17 cw_17 rfl 0 (by decide) (hT _ t312) (fun _ h9 => h9) rfl dX9_hand_14 ?_
      refine ro_V (As := []) (rest := []) S (s_X1_isTold l D k a st sl   _  hB  ) lkX9_211 ok_X1_isTold ⟨rfl, rfl, Nat.le_of_ble_eq_true rfl, Nat.le_of_ble_eq_true rfl⟩ (pw_V (ci := 1) (q0 := 18) hK hN rfl cw_18 hP (hD.weaken (fun _ _ _ _ => trivial))) rfl hl.1 rfl (Nat.le_of_ble_eq_true rfl) ⟨Nat.zero_le _, Nat.zero_le _⟩ dX9_hand_17 (fun r11 er11 => ?_)
      rcases er11 with ⟨rfl, g9⟩ | ⟨rfl, g9⟩
      · skip
        have g12 := g9
        refine lv_if_ne (tgt := 26) hx hb dX9_hand_20 (by decide) (fun c13 => ?_) (fun c13 => ?_)
        rotate_left
        · first | exact absurd c13 (by decide) | exact absurd (by decide) c13
        refine lv_aload_n hx hb dX9_hand_26 rfl (lv_at hl 0 rfl) ?_
        refine va_get (D := D) (ci := 9) (v := .ref (a 17)) (C := RX9) (T := TX9) (N := 11) hx hb hT in_X9 hown hK hP 0 cw_0 rfl 2 (by decide) (hT _ t453) (fun _ h9 => h9) rfl dX9_hand_27 ?_
        refine va_get (D := D) (ci := 8) (v := .int (st 17 2)) (C := RX8) (T := TX8) (N := 6) hx hb hT in_X8 hown hK hP 17 cw_17 rfl 2 (by decide) (hT _ t316) (fun _ h9 => h9) rfl dX9_hand_30 ?_
        have h14 : Iv 0 40 (st 17 2) := (rb_17_2 hB)
        refine lv_if_le (tgt := 39) hx hb dX9_hand_33 (by decide) (fun c15 => ?_) (fun c15 => ?_)
        · skip
          have n16 : (st 17 2).toInt ≤ (0 : Int32).toInt := (i_le c15)
          have h17 : Iv 0 0 (st 17 2) := le_l h14 n16 (iv_c (by decide) : Iv 0 0 0) (by decide)
          refine lv_aload_n hx hb dX9_hand_39 rfl (lv_at hl 0 rfl) ?_
          refine va_get (D := D) (ci := 9) (v := .ref (a 17)) (C := RX9) (T := TX9) (N := 11) hx hb hT in_X9 hown hK hP 0 cw_0 rfl 2 (by decide) (hT _ t453) (fun _ h9 => h9) rfl dX9_hand_40 ?_
          refine va_get (D := D) (ci := 8) (v := .ref (a 18)) (C := RX8) (T := TX8) (N := 6) hx hb hT in_X8 hown hK hP 17 cw_17 rfl 0 (by decide) (hT _ t312) (fun _ h9 => h9) rfl dX9_hand_43 ?_
          refine va_get (D := D) (ci := 1) (v := .int (st 18 2)) (C := RX1) (T := TX1) (N := 14) hx hb hT in_X1 hown hK hP 18 cw_18 rfl 2 (by decide) (hT _ t206) (fun _ h9 => h9) rfl dX9_hand_46 ?_
          refine lv_istore_n (lv' := [(2, .int (st 18 2)), (0, .ref (a 0)), (1, .int p0)]) hx hb dX9_hand_49 rfl hl (by decide) rfl (fun ls hl => ?_)
          refine lv_aload_n hx hb dX9_hand_50 rfl (lv_at hl 1 rfl) ?_
          refine va_get (D := D) (ci := 9) (v := .ref (a 17)) (C := RX9) (T := TX9) (N := 11) hx hb hT in_X9 hown hK hP 0 cw_0 rfl 2 (by decide) (hT _ t453) (fun _ h9 => h9) rfl dX9_hand_51 ?_
          refine va_get (D := D) (ci := 8) (v := .ref (a 18)) (C := RX8) (T := TX8) (N := 6) hx hb hT in_X8 hown hK hP 17 cw_17 rfl 0 (by decide) (hT _ t312) (fun _ h9 => h9) rfl dX9_hand_54 ?_
          refine lv_iload_n hx hb dX9_hand_57 rfl (lv_at hl 2 rfl) ?_
          refine c_put (ci := 1) (C := RX1) (T := TX1) (N := 14) (j := 2) (v := p0) hx hb hT in_X1 tyX1 tyX1_ok nmX1 hown hK hP hD hS cw_18 rfl (by decide) (hT _ t206) (by decide +kernel) (by decide +kernel) rfl rfl (Nat.le_of_ble_eq_true rfl) (cs_18 (upd (st 18) 2 p0)) dX9_hand_58 (fun s18 H9 locs9 es18 hP9 hD9 hS9 => ?_)
          clear hP hD hS
          have hS := hS9
          have hP := hP9
          have hD := hD9
          clear hP9 hD9 hS9
          have hBs18 : CB s18 := by rw [es18]; exact cb_sw hB (ki_3_2 (hB 18))
          have hFs18 : FR [18] st s18 := fr_sw fr_rf (List.mem_of_getElem? (i := 0) rfl) es18
          refine lv_iload_n hx hb dX9_hand_61 rfl (lv_at hl 0 rfl) ?_
          rw [hQ]
          exact W.iret (v := (st 18 2)) hx hb hr (fun t ht hW => ⟨⟨(st 18 2), s18, rfl, ⟨hBs18, hFs18, (congrFun (sw_it es18) 0), (congrFun (sw_it es18) 1), (congrFun (sw_it es18) 3), (congrFun (sw_it es18) 4), (congrFun (sw_it es18) 5), (congrFun (sw_it es18) 6), trivial⟩, by rw [ht]; exact hP, va_K.moved hW.alike (hK.sub (tys' := []) [] rfl), by rw [hAe]; exact hD⟩, by rw [hAe]; exact hS.F ht⟩) hS.2.2 dX9_hand_62
        · skip
          have n19 : (0 : Int32).toInt < (st 17 2).toInt := (i_nle c15)
          have h20 : Iv 1 40 (st 17 2) := lt_r (iv_c (by decide) : Iv 0 0 0) n19 h14 (by decide)
          refine lv_bipush (v := (-5)) hx hb dX9_hand_36 (by decide) ?_
          rw [hQ]
          exact W.iret (v := (-5)) hx hb hr (fun t ht hW => ⟨⟨(-5), st, rfl, ⟨hB, fr_rf, rfl, rfl, rfl, rfl, rfl, rfl, trivial⟩, by rw [ht]; exact hP, va_K.moved hW.alike (hK.sub (tys' := []) [] rfl), by rw [hAe]; exact hD⟩, by rw [hAe]; exact hS.F ht⟩) hS.2.2 dX9_hand_38
      · skip
        have g21 := g9
        refine lv_if_ne (tgt := 26) hx hb dX9_hand_20 (by decide) (fun c22 => ?_) (fun c22 => ?_)
        · first | exact absurd c22 (by decide) | exact absurd (by decide) c22
        refine lv_bipush (v := (-2)) hx hb dX9_hand_23 (by decide) ?_
        rw [hQ]
        exact W.iret (v := (-2)) hx hb hr (fun t ht hW => ⟨⟨(-2), st, rfl, ⟨hB, fr_rf, rfl, rfl, rfl, rfl, rfl, rfl, trivial⟩, by rw [ht]; exact hP, va_K.moved hW.alike (hK.sub (tys' := []) [] rfl), by rw [hAe]; exact hD⟩, by rw [hAe]; exact hS.F ht⟩) hS.2.2 dX9_hand_25
set_option maxHeartbeats 4000000 in
set_option maxRecDepth 100000 in
theorem s_X9_count (l : Launch) (D : va_G) (k : Nat → ClassId) (a : Nat → Nat) (st : CT) (sl : CL) (p0 : Int32) (sz : Nat) (hB : CB st)  : Met l yX9_count (.code yX9_count cX9_count 2 (some .int) :: TB) (rmk 3) (va_Pc [.ref (a 0), .int p0] (PW D k sz (CWS k a st sl))) (vp_Si (fun r => (True))) 0 0 (fun _ => False) := by
  refine Met.ofW (cc := cX9_count) (maxL := 2) (ret := (some .int)) (by decide) rfl ?_
  intro p e s m args below meth c s₁ B hml hv
  obtain ⟨rfl, hsz, hP, hK, hD0, hN⟩ := hv
  have hx := B.exec
  have hb := B.bytes
  have hr := B.returns
  have hT : ∀ w9 ∈ TB, w9.before ([.ref (a 0), .int p0] : List Value).toArray s = true := fun w9 h => atoms_spec (ws := .code yX9_count cX9_count 2 (some .int) :: TB) B.pre w9 (List.mem_cons_of_mem _ h)
  have hown : s.vm.findClass RX9 = some m.cls := findClass_of_methodNamed B.named
  have S : CallFix p m c cX9_count 2 s _ TB RX9 := ⟨hx, hb, hml, hown, hT⟩
  subst hsz
  have hl := lv_entry ([.ref (a 0), .int p0]) (n := 2) (Nat.le_of_ble_eq_true rfl)
  rw [lg_entry_eq]
  generalize (lg_sl ([.ref (a 0), .int p0]) ++ List.replicate (2 - (lg_sl ([.ref (a 0), .int p0])).length) Slot.unset).toArray = ls at hl ⊢
  have hl : lv_has ls 2 [(0, .ref (a 0)), (1, .int p0)] := hl
  refine nameQ (fun Q hQ => ?_)
  refine lv_iload_n hx hb dX9_count_0 rfl (lv_at hl 1 rfl) ?_
  by_cases c1 : p0.toInt < 0 ∨ 9 < p0.toInt
  · refine lv_tableOut (tgt := 157) hx hb dX9_count_1 c1 (by decide) ?_
    refine lv_iconst (v := (-1)) hx hb dX9_count_157 (by decide) ?_
    rw [hQ]
    exact W.iret (v := (-1)) hx hb hr (fun t ht hW => ⟨(-1), rfl, trivial, ht⟩) (fun _ h9 => by cases h9) dX9_count_158
  · skip
    have h2 : Iv 0 9 p0 := ⟨by omega, by omega⟩
    rcases iv_ca10 h2 0 1 2 3 4 5 6 7 8 9 (by decide) (by decide) (by decide) (by decide) (by decide) (by decide) (by decide) (by decide) (by decide) (by decide) (by decide) with q9 | q9 | q9 | q9 | q9 | q9 | q9 | q9 | q9 | q9
    · have q3 := q9
      refine lv_tableIn (off := 55) (tgt := 56) hx hb dX9_count_1 (by rw [q9]; decide) (by rw [q9]; decide) (by rw [q9]; decide +kernel) (by decide) ?_
      have h4 : Iv 0 0 p0 := (by rw [q9]; exact iv_c (by decide))
      refine lv_aload_n hx hb dX9_count_56 rfl (lv_at hl 0 rfl) ?_
      refine va_get (D := D) (ci := 9) (v := .ref (a 17)) (C := RX9) (T := TX9) (N := 11) hx hb hT in_X9 hown hK hP 0 cw_0 rfl 2 (by decide) (hT _ t453) (fun _ h9 => h9) rfl dX9_count_57 ?_
      refine va_get (D := D) (ci := 8) (v := .ref (a 18)) (C := RX8) (T := TX8) (N := 6) hx hb hT in_X8 hown hK hP 17 cw_17 rfl 0 (by decide) (hT _ t312) (fun _ h9 => h9) rfl dX9_count_60 ?_
      refine va_get (D := D) (ci := 1) (v := .int (st 18 1)) (C := RX1) (T := TX1) (N := 14) hx hb hT in_X1 hown hK hP 18 cw_18 rfl 1 (by decide) (hT _ t201) (fun _ h9 => h9) rfl dX9_count_63 ?_
      have h5 : Iv 0 6 (st 18 1) := (rb_18_1 hB)
      rw [hQ]
      exact W.iret (v := (st 18 1)) hx hb hr (fun t ht hW => ⟨(st 18 1), rfl, trivial, ht⟩) (fun _ h9 => by cases h9) dX9_count_66
    · have q6 := q9
      refine lv_tableIn (off := 66) (tgt := 67) hx hb dX9_count_1 (by rw [q9]; decide) (by rw [q9]; decide) (by rw [q9]; decide +kernel) (by decide) ?_
      have h7 : Iv 1 1 p0 := (by rw [q9]; exact iv_c (by decide))
      refine lv_aload_n hx hb dX9_count_67 rfl (lv_at hl 0 rfl) ?_
      refine va_get (D := D) (ci := 9) (v := .ref (a 17)) (C := RX9) (T := TX9) (N := 11) hx hb hT in_X9 hown hK hP 0 cw_0 rfl 2 (by decide) (hT _ t453) (fun _ h9 => h9) rfl dX9_count_68 ?_
      refine va_get (D := D) (ci := 8) (v := .ref (a 18)) (C := RX8) (T := TX8) (N := 6) hx hb hT in_X8 hown hK hP 17 cw_17 rfl 0 (by decide) (hT _ t312) (fun _ h9 => h9) rfl dX9_count_71 ?_
      refine va_get (D := D) (ci := 1) (v := .int (st 18 3)) (C := RX1) (T := TX1) (N := 14) hx hb hT in_X1 hown hK hP 18 cw_18 rfl 3 (by decide) (hT _ t211) (fun _ h9 => h9) rfl dX9_count_74 ?_
      have h8 : Iv 0 8 (st 18 3) := (rb_18_3 hB)
      rw [hQ]
      exact W.iret (v := (st 18 3)) hx hb hr (fun t ht hW => ⟨(st 18 3), rfl, trivial, ht⟩) (fun _ h9 => by cases h9) dX9_count_77
    · have q9 := q9
      refine lv_tableIn (off := 77) (tgt := 78) hx hb dX9_count_1 (by rw [q9]; decide) (by rw [q9]; decide) (by rw [q9]; decide +kernel) (by decide) ?_
      have h10 : Iv 2 2 p0 := (by rw [q9]; exact iv_c (by decide))
      refine lv_aload_n hx hb dX9_count_78 rfl (lv_at hl 0 rfl) ?_
      refine va_get (D := D) (ci := 9) (v := .ref (a 17)) (C := RX9) (T := TX9) (N := 11) hx hb hT in_X9 hown hK hP 0 cw_0 rfl 2 (by decide) (hT _ t453) (fun _ h9 => h9) rfl dX9_count_79 ?_
      refine va_get (D := D) (ci := 8) (v := .ref (a 18)) (C := RX8) (T := TX8) (N := 6) hx hb hT in_X8 hown hK hP 17 cw_17 rfl 0 (by decide) (hT _ t312) (fun _ h9 => h9) rfl dX9_count_82 ?_
      refine va_get (D := D) (ci := 1) (v := .int (st 18 4)) (C := RX1) (T := TX1) (N := 14) hx hb hT in_X1 hown hK hP 18 cw_18 rfl 4 (by decide) (hT _ t215) (fun _ h9 => h9) rfl dX9_count_85 ?_
      have h11 : Iv 0 8 (st 18 4) := (rb_18_4 hB)
      rw [hQ]
      exact W.iret (v := (st 18 4)) hx hb hr (fun t ht hW => ⟨(st 18 4), rfl, trivial, ht⟩) (fun _ h9 => by cases h9) dX9_count_88
    · have q12 := q9
      refine lv_tableIn (off := 88) (tgt := 89) hx hb dX9_count_1 (by rw [q9]; decide) (by rw [q9]; decide) (by rw [q9]; decide +kernel) (by decide) ?_
      have h13 : Iv 3 3 p0 := (by rw [q9]; exact iv_c (by decide))
      refine lv_aload_n hx hb dX9_count_89 rfl (lv_at hl 0 rfl) ?_
      refine va_get (D := D) (ci := 9) (v := .ref (a 17)) (C := RX9) (T := TX9) (N := 11) hx hb hT in_X9 hown hK hP 0 cw_0 rfl 2 (by decide) (hT _ t453) (fun _ h9 => h9) rfl dX9_count_90 ?_
      refine va_get (D := D) (ci := 8) (v := .ref (a 18)) (C := RX8) (T := TX8) (N := 6) hx hb hT in_X8 hown hK hP 17 cw_17 rfl 0 (by decide) (hT _ t312) (fun _ h9 => h9) rfl dX9_count_93 ?_
      refine va_get (D := D) (ci := 1) (v := .int (st 18 5)) (C := RX1) (T := TX1) (N := 14) hx hb hT in_X1 hown hK hP 18 cw_18 rfl 5 (by decide) (hT _ t218) (fun _ h9 => h9) rfl dX9_count_96 ?_
      have h14 : Iv 0 3 (st 18 5) := (rb_18_5 hB)
      rw [hQ]
      exact W.iret (v := (st 18 5)) hx hb hr (fun t ht hW => ⟨(st 18 5), rfl, trivial, ht⟩) (fun _ h9 => by cases h9) dX9_count_99
    · have q15 := q9
      refine lv_tableIn (off := 99) (tgt := 100) hx hb dX9_count_1 (by rw [q9]; decide) (by rw [q9]; decide) (by rw [q9]; decide +kernel) (by decide) ?_
      have h16 : Iv 4 4 p0 := (by rw [q9]; exact iv_c (by decide))
      refine lv_aload_n hx hb dX9_count_100 rfl (lv_at hl 0 rfl) ?_
      refine va_get (D := D) (ci := 9) (v := .ref (a 17)) (C := RX9) (T := TX9) (N := 11) hx hb hT in_X9 hown hK hP 0 cw_0 rfl 2 (by decide) (hT _ t453) (fun _ h9 => h9) rfl dX9_count_101 ?_
      refine va_get (D := D) (ci := 8) (v := .ref (a 18)) (C := RX8) (T := TX8) (N := 6) hx hb hT in_X8 hown hK hP 17 cw_17 rfl 0 (by decide) (hT _ t312) (fun _ h9 => h9) rfl dX9_count_104 ?_
      refine va_get (D := D) (ci := 1) (v := .int (st 18 6)) (C := RX1) (T := TX1) (N := 14) hx hb hT in_X1 hown hK hP 18 cw_18 rfl 6 (by decide) (hT _ t221) (fun _ h9 => h9) rfl dX9_count_107 ?_
      have h17 : Iv 0 6 (st 18 6) := (rb_18_6 hB)
      rw [hQ]
      exact W.iret (v := (st 18 6)) hx hb hr (fun t ht hW => ⟨(st 18 6), rfl, trivial, ht⟩) (fun _ h9 => by cases h9) dX9_count_110
    · have q18 := q9
      refine lv_tableIn (off := 110) (tgt := 111) hx hb dX9_count_1 (by rw [q9]; decide) (by rw [q9]; decide) (by rw [q9]; decide +kernel) (by decide) ?_
      have h19 : Iv 5 5 p0 := (by rw [q9]; exact iv_c (by decide))
      refine lv_aload_n hx hb dX9_count_111 rfl (lv_at hl 0 rfl) ?_
      refine va_get (D := D) (ci := 9) (v := .ref (a 17)) (C := RX9) (T := TX9) (N := 11) hx hb hT in_X9 hown hK hP 0 cw_0 rfl 2 (by decide) (hT _ t453) (fun _ h9 => h9) rfl dX9_count_112 ?_
      refine va_get (D := D) (ci := 8) (v := .ref (a 18)) (C := RX8) (T := TX8) (N := 6) hx hb hT in_X8 hown hK hP 17 cw_17 rfl 0 (by decide) (hT _ t312) (fun _ h9 => h9) rfl dX9_count_115 ?_
      refine va_get (D := D) (ci := 1) (v := .int (st 18 2)) (C := RX1) (T := TX1) (N := 14) hx hb hT in_X1 hown hK hP 18 cw_18 rfl 2 (by decide) (hT _ t206) (fun _ h9 => h9) rfl dX9_count_118 ?_
      rw [hQ]
      exact W.iret (v := (st 18 2)) hx hb hr (fun t ht hW => ⟨(st 18 2), rfl, trivial, ht⟩) (fun _ h9 => by cases h9) dX9_count_121
    · have q20 := q9
      refine lv_tableIn (off := 121) (tgt := 122) hx hb dX9_count_1 (by rw [q9]; decide) (by rw [q9]; decide) (by rw [q9]; decide +kernel) (by decide) ?_
      have h21 : Iv 6 6 p0 := (by rw [q9]; exact iv_c (by decide))
      refine lv_aload_n hx hb dX9_count_122 rfl (lv_at hl 0 rfl) ?_
      refine va_get (D := D) (ci := 9) (v := .ref (a 17)) (C := RX9) (T := TX9) (N := 11) hx hb hT in_X9 hown hK hP 0 cw_0 rfl 2 (by decide) (hT _ t453) (fun _ h9 => h9) rfl dX9_count_123 ?_
      refine va_get (D := D) (ci := 8) (v := .ref (a 18)) (C := RX8) (T := TX8) (N := 6) hx hb hT in_X8 hown hK hP 17 cw_17 rfl 0 (by decide) (hT _ t312) (fun _ h9 => h9) rfl dX9_count_126 ?_
      refine va_get (D := D) (ci := 1) (v := .int (st 18 0)) (C := RX1) (T := TX1) (N := 14) hx hb hT in_X1 hown hK hP 18 cw_18 rfl 0 (by decide) (hT _ t197) (fun _ h9 => h9) rfl dX9_count_129 ?_
      rw [hQ]
      exact W.iret (v := (st 18 0)) hx hb hr (fun t ht hW => ⟨(st 18 0), rfl, trivial, ht⟩) (fun _ h9 => by cases h9) dX9_count_132
    · have q22 := q9
      refine lv_tableIn (off := 132) (tgt := 133) hx hb dX9_count_1 (by rw [q9]; decide) (by rw [q9]; decide) (by rw [q9]; decide +kernel) (by decide) ?_
      have h23 : Iv 7 7 p0 := (by rw [q9]; exact iv_c (by decide))
      refine lv_aload_n hx hb dX9_count_133 rfl (lv_at hl 0 rfl) ?_
      refine va_get (D := D) (ci := 9) (v := .ref (a 2)) (C := RX9) (T := TX9) (N := 11) hx hb hT in_X9 hown hK hP 0 cw_0 rfl 0 (by decide) (hT _ t451) (fun _ h9 => h9) rfl dX9_count_134 ?_
      refine va_get (D := D) (ci := 6) (v := .int (st 2 1)) (C := RX6) (T := TX6) (N := 2) hx hb hT in_X6 hown hK hP 2 cw_2 rfl 1 (by decide) (hT _ t145) (fun _ h9 => h9) rfl dX9_count_137 ?_
      have h24 : Iv 0 1000 (st 2 1) := (rb_2_1 hB)
      rw [hQ]
      exact W.iret (v := (st 2 1)) hx hb hr (fun t ht hW => ⟨(st 2 1), rfl, trivial, ht⟩) (fun _ h9 => by cases h9) dX9_count_140
    · have q25 := q9
      refine lv_tableIn (off := 140) (tgt := 141) hx hb dX9_count_1 (by rw [q9]; decide) (by rw [q9]; decide) (by rw [q9]; decide +kernel) (by decide) ?_
      have h26 : Iv 8 8 p0 := (by rw [q9]; exact iv_c (by decide))
      refine lv_aload_n hx hb dX9_count_141 rfl (lv_at hl 0 rfl) ?_
      refine va_get (D := D) (ci := 9) (v := .ref (a 17)) (C := RX9) (T := TX9) (N := 11) hx hb hT in_X9 hown hK hP 0 cw_0 rfl 2 (by decide) (hT _ t453) (fun _ h9 => h9) rfl dX9_count_142 ?_
      refine va_get (D := D) (ci := 8) (v := .int (st 17 2)) (C := RX8) (T := TX8) (N := 6) hx hb hT in_X8 hown hK hP 17 cw_17 rfl 2 (by decide) (hT _ t316) (fun _ h9 => h9) rfl dX9_count_145 ?_
      have h27 : Iv 0 40 (st 17 2) := (rb_17_2 hB)
      rw [hQ]
      exact W.iret (v := (st 17 2)) hx hb hr (fun t ht hW => ⟨(st 17 2), rfl, trivial, ht⟩) (fun _ h9 => by cases h9) dX9_count_148
    · have q28 := q9
      refine lv_tableIn (off := 148) (tgt := 149) hx hb dX9_count_1 (by rw [q9]; decide) (by rw [q9]; decide) (by rw [q9]; decide +kernel) (by decide) ?_
      have h29 : Iv 9 9 p0 := (by rw [q9]; exact iv_c (by decide))
      refine lv_aload_n hx hb dX9_count_149 rfl (lv_at hl 0 rfl) ?_
      refine va_get (D := D) (ci := 9) (v := .ref (a 111)) (C := RX9) (T := TX9) (N := 11) hx hb hT in_X9 hown hK hP 0 cw_0 rfl 5 (by decide) (hT _ t456) (fun _ h9 => h9) rfl dX9_count_150 ?_
      refine ro_V (As := []) (rest := []) S (s_X4_rowCount l D k a st sl   _  hB  ) lkX9_410 ok_X4_rowCount ⟨rfl, rfl, Nat.le_of_ble_eq_true rfl, Nat.le_of_ble_eq_true rfl⟩ (pw_V (ci := 4) (q0 := 111) hK hN rfl cw_111 hP hD0) rfl hl.1 rfl (Nat.le_of_ble_eq_true rfl) ⟨Nat.zero_le _, Nat.zero_le _⟩ dX9_count_153 (fun r30 er30 => ?_)
      rw [hQ]
      exact W.iret (v := r30) hx hb hr (fun t ht hW => ⟨r30, rfl, trivial, ht⟩) (fun _ h9 => by cases h9) dX9_count_156
set_option maxHeartbeats 4000000 in
set_option maxRecDepth 100000 in
theorem s_X9_image (l : Launch) (D : va_G) (k : Nat → ClassId) (a : Nat → Nat) (st : CT) (sl : CL) (p0 : Int32) (sz : Nat) (hB : CB st)  (hX : XB st) : Met l yX9_image (.code yX9_image cX9_image 2 (some .int) :: TB) (rmw 4 0 0) (va_Pc [.ref (a 0), .int p0] (PW D k sz (CWS k a st sl))) (QI D (S := CT) (fun r u => CB u ∧ FR [42, 43, 44, 45, 46, 47, 48, 50, 51, 52, 53, 54, 56, 57, 58, 59, 60, 41, 61, 62, 63, 110, 65, 66, 67, 68, 69, 70, 71, 73, 74, 75, 76, 77, 79, 80, 81, 82, 83, 64, 84, 85, 86, 88, 89, 90, 91, 92, 93, 94, 96, 97, 98, 99, 100, 102, 103, 104, 105, 106, 87, 107, 108, 109] st u ∧ ((r = r_image p0 ∧ XB u ∧ u 110 = k_image (st 110) p0))) (fun u => CWS k a u sl) (fun _ => []) (CWS k a st sl) sz) 0 0 (va_A (CWS k a st sl) sz) := by
  refine Met.ofW (cc := cX9_image) (maxL := 2) (ret := (some .int)) (by decide) rfl ?_
  intro p e s m args below meth c s₁ B hml hv
  obtain ⟨rfl, hsz, hP, hK, hD0, hN⟩ := hv
  have hx := B.exec
  have hb := B.bytes
  have hr := B.returns
  have hT : ∀ w9 ∈ TB, w9.before ([.ref (a 0), .int p0] : List Value).toArray s = true := fun w9 h => atoms_spec (ws := .code yX9_image cX9_image 2 (some .int) :: TB) B.pre w9 (List.mem_cons_of_mem _ h)
  have hown : s.vm.findClass RX9 = some m.cls := findClass_of_methodNamed B.named
  have S : CallFix p m c cX9_image 2 s _ TB RX9 := ⟨hx, hb, hml, hown, hT⟩
  subst hsz
  have hD := hD0.self (sz := s.heap.size)
  generalize hAe : va_A (CWS k a st sl) s.heap.size = A at hD ⊢
  have hA : ∀ q : Nat, s.heap.size ≤ q → A q := fun q h => by rw [← hAe]; exact Or.inr h
  have hS : va_S A s.heap s.heap [] := va_S.rf
  have hl := lv_entry ([.ref (a 0), .int p0]) (n := 2) (Nat.le_of_ble_eq_true rfl)
  rw [lg_entry_eq]
  generalize (lg_sl ([.ref (a 0), .int p0]) ++ List.replicate (2 - (lg_sl ([.ref (a 0), .int p0])).length) Slot.unset).toArray = ls at hl ⊢
  have hl : lv_has ls 2 [(0, .ref (a 0)), (1, .int p0)] := hl
  refine nameQ (fun Q hQ => ?_)
  have hX17 := hX.1
  have hX41 := hX.2.1
  have hX64 := hX.2.2.1
  have hX87 := hX.2.2.2
  refine lv_iload_n hx hb dX9_image_0 rfl (lv_at hl 1 rfl) ?_
  refine lv_if_lt (tgt := 9) hx hb dX9_image_1 (by decide) (fun c1 => ?_) (fun c1 => ?_)
  · skip
    have n2 : p0.toInt < (0 : Int32).toInt := (i_lt c1)
    have h3 : Iv (-2147483648) (-1) p0 := lt_l (iv_full p0) n2 (iv_c (by decide) : Iv 0 0 0) (by decide)
    refine lv_bipush (v := (-2)) hx hb dX9_image_9 (by decide) ?_
    rw [hQ]
    exact W.iret (v := (-2)) hx hb hr (fun t ht hW => ⟨⟨(-2), st, rfl, ⟨hB, fr_rf, ⟨(by obtain ⟨y1, y2⟩ := id (h3); unfold r_image; rw [if_neg (by omega)]), ⟨hX17, hX.2.1, hX.2.2.1, hX.2.2.2⟩, (by obtain ⟨y1, y2⟩ := id (h3); unfold k_image; rw [if_neg (by omega)])⟩⟩, by rw [ht]; exact hP, va_K.moved hW.alike (hK.sub (tys' := []) [] rfl), by rw [hAe]; exact hD⟩, by rw [hAe]; exact hS.F ht⟩) hS.2.2 dX9_image_11
  · skip
    have n4 : (0 : Int32).toInt ≤ p0.toInt := (i_nlt c1)
    have h5 : Iv 0 2147483647 p0 := le_r (iv_c (by decide) : Iv 0 0 0) n4 (iv_full p0) (by decide)
    refine lv_iload_n hx hb dX9_image_4 rfl (lv_at hl 1 rfl) ?_
    refine lv_iconst (v := 3) hx hb dX9_image_5 (by decide) ?_
    refine lv_icmp_lt (tgt := 12) hx hb dX9_image_6 (by decide) (fun c6 => ?_) (fun c6 => ?_)
    · skip
      have n7 : p0.toInt < (3 : Int32).toInt := (i_lt c6)
      have h8 : Iv 0 2 p0 := lt_l h5 n7 (iv_c (by decide) : Iv 3 3 3) (by decide)
      refine lv_aload_n hx hb dX9_image_12 rfl (lv_at hl 0 rfl) ?_
      refine va_get (D := D) (ci := 9) (v := .ref (a 40)) (C := RX9) (T := TX9) (N := 11) hx hb hT in_X9 hown hK hP 0 cw_0 rfl 3 (by decide) (hT _ t454) (fun _ h9 => h9) rfl dX9_image_13 ?_
      refine lv_iload_n hx hb dX9_image_16 rfl (lv_at hl 1 rfl) ?_
      rcases iv_ca3 h8 0 1 2 (by decide) (by decide) (by decide) (by decide) with q9 | q9 | q9
      · refine k_top (y := 0) q9 ?_
        have h9 : Iv 0 0 p0 := (by rw [q9]; exact iv_c (by decide))
        have q10 := q9
        refine va_aldq hx hb hK hP 40 4 cw_40 rfl (by unfold vp_in; decide) dX9_image_17 ?_
        refine W.eq (g2 := F0 m 18 ls [.ref (a 41)]) rfl ?_
        refine lv_aload_n hx hb dX9_image_18 rfl (lv_at hl 0 rfl) ?_
        refine va_get (D := D) (ci := 9) (v := .ref (a 17)) (C := RX9) (T := TX9) (N := 11) hx hb hT in_X9 hown hK hP 0 cw_0 rfl 2 (by decide) (hT _ t453) (fun _ h9 => h9) rfl dX9_image_19 ?_
        refine ca_v hP hD hS hA (fun hDc => run_V (mc := 0) (ms := 0) (As := [.ref (a 17)]) (rest := []) S (s_X8_copy_41_17 l D k a st sl   _  hB  hX17) lkX9_413 ok_X8_copy ⟨rfl, rfl, Nat.le_of_ble_eq_true rfl, Nat.le_of_ble_eq_true rfl⟩ (pw_V (ci := 8) (q0 := 41) hK hN rfl cw_41 hP hDc) rfl hl.1 rfl (Nat.le_of_ble_eq_true rfl) ⟨Nat.zero_le _, Nat.zero_le _⟩ dX9_image_22) (fun s11 H9 locs9 hs11 hP9 hD9 hS9 => ?_)
        clear hP hD hS
        have hS := hS9
        have hP := hP9
        have hD := hD9
        clear hP9 hD9 hS9
        obtain ⟨hBs11, gs11, fs11⟩ := hs11
        have hFs11 : FR [42, 43, 44, 45, 46, 47, 48, 50, 51, 52, 53, 54, 56, 57, 58, 59, 60, 41, 61, 62, 63, 110, 65, 66, 67, 68, 69, 70, 71, 73, 74, 75, 76, 77, 79, 80, 81, 82, 83, 64, 84, 85, 86, 88, 89, 90, 91, 92, 93, 94, 96, 97, 98, 99, 100, 102, 103, 104, 105, 106, 87, 107, 108, 109] st s11 := fr_ca fr_rf gs11 (sub_1 (List.mem_of_getElem? (i := 0) rfl) (sub_1 (List.mem_of_getElem? (i := 1) rfl) (sub_1 (List.mem_of_getElem? (i := 2) rfl) (sub_1 (List.mem_of_getElem? (i := 3) rfl) (sub_1 (List.mem_of_getElem? (i := 4) rfl) (sub_1 (List.mem_of_getElem? (i := 5) rfl) (sub_1 (List.mem_of_getElem? (i := 6) rfl) (sub_1 (List.mem_of_getElem? (i := 7) rfl) (sub_1 (List.mem_of_getElem? (i := 8) rfl) (sub_1 (List.mem_of_getElem? (i := 9) rfl) (sub_1 (List.mem_of_getElem? (i := 10) rfl) (sub_1 (List.mem_of_getElem? (i := 11) rfl) (sub_1 (List.mem_of_getElem? (i := 12) rfl) (sub_1 (List.mem_of_getElem? (i := 13) rfl) (sub_1 (List.mem_of_getElem? (i := 14) rfl) (sub_1 (List.mem_of_getElem? (i := 15) rfl) (sub_1 (List.mem_of_getElem? (i := 16) rfl) (sub_1 (List.mem_of_getElem? (i := 17) rfl) (sub_1 (List.mem_of_getElem? (i := 18) rfl) (sub_1 (List.mem_of_getElem? (i := 19) rfl) (sub_1 (List.mem_of_getElem? (i := 20) rfl) sub_0)))))))))))))))))))))
        have k13 := fs11
        refine lv_aload_n hx hb dX9_image_25 rfl (lv_at hl 0 rfl) ?_
        refine va_get (D := D) (ci := 9) (v := .ref (a 110)) (C := RX9) (T := TX9) (N := 11) hx hb hT in_X9 hown hK hP 0 cw_0 rfl 4 (by decide) (hT _ t455) (fun _ h9 => h9) rfl dX9_image_26 ?_
        refine lv_iload_n hx hb dX9_image_29 rfl (lv_at hl 1 rfl) ?_
        refine lv_iconst (v := 1) hx hb dX9_image_30 (by decide) ?_
        refine c_zst hx hb hK hP hD hS cw_110 cs_110 (iv_in h9 (by decide) (by decide)) dX9_image_31 (fun s14 H9 locs9 es14 hP9 hD9 hS9 => ?_)
        clear hP hD hS
        have hS := hS9
        have hP := hP9
        have hD := hD9
        clear hP9 hD9 hS9
        have hBs14 : CB s14 := by rw [es14]; exact cb_sw hBs11 trivial
        have hFs14 : FR [42, 43, 44, 45, 46, 47, 48, 50, 51, 52, 53, 54, 56, 57, 58, 59, 60, 41, 61, 62, 63, 110, 65, 66, 67, 68, 69, 70, 71, 73, 74, 75, 76, 77, 79, 80, 81, 82, 83, 64, 84, 85, 86, 88, 89, 90, 91, 92, 93, 94, 96, 97, 98, 99, 100, 102, 103, 104, 105, 106, 87, 107, 108, 109] st s14 := fr_sw hFs11 (List.mem_of_getElem? (i := 21) rfl) es14
        refine lv_iconst (v := 0) hx hb dX9_image_32 (by decide) ?_
        rw [hQ]
        exact W.iret (v := 0) hx hb hr (fun t ht hW => ⟨⟨0, s14, rfl, ⟨hBs14, hFs14, ⟨(by obtain ⟨y1, y2⟩ := id (h9); unfold r_image; rw [if_pos ⟨by omega, by omega⟩]), ⟨(wi_fr hX17 (congrFun (hFs14 17 (nm_1 (by decide) (nm_1 (by decide) (nm_1 (by decide) (nm_1 (by decide) (nm_1 (by decide) (nm_1 (by decide) (nm_1 (by decide) (nm_1 (by decide) (nm_1 (by decide) (nm_1 (by decide) (nm_1 (by decide) (nm_1 (by decide) (nm_1 (by decide) (nm_1 (by decide) (nm_1 (by decide) (nm_1 (by decide) (nm_1 (by decide) (nm_1 (by decide) (nm_1 (by decide) (nm_1 (by decide) (nm_1 (by decide) (nm_1 (by decide) (nm_1 (by decide) (nm_1 (by decide) (nm_1 (by decide) (nm_1 (by decide) (nm_1 (by decide) (nm_1 (by decide) (nm_1 (by decide) (nm_1 (by decide) (nm_1 (by decide) (nm_1 (by decide) (nm_1 (by decide) (nm_1 (by decide) (nm_1 (by decide) (nm_1 (by decide) (nm_1 (by decide) (nm_1 (by decide) (nm_1 (by decide) (nm_1 (by decide) (nm_1 (by decide) (nm_1 (by decide) (nm_1 (by decide) (nm_1 (by decide) (nm_1 (by decide) (nm_1 (by decide) (nm_1 (by decide) (nm_1 (by decide) (nm_1 (by decide) (nm_1 (by decide) (nm_1 (by decide) (nm_1 (by decide) (nm_1 (by decide) (nm_1 (by decide) (nm_1 (by decide) (nm_1 (by decide) (nm_1 (by decide) (nm_1 (by decide) (nm_1 (by decide) (nm_1 (by decide) (nm_1 (by decide) (nm_1 (by decide) (nm_1 (by decide) (nm_1 (by decide) nm_0))))))))))))))))))))))))))))))))))))))))))))))))))))))))))))))))) 2) (hFs14 37 (nm_1 (by decide) (nm_1 (by decide) (nm_1 (by decide) (nm_1 (by decide) (nm_1 (by decide) (nm_1 (by decide) (nm_1 (by decide) (nm_1 (by decide) (nm_1 (by decide) (nm_1 (by decide) (nm_1 (by decide) (nm_1 (by decide) (nm_1 (by decide) (nm_1 (by decide) (nm_1 (by decide) (nm_1 (by decide) (nm_1 (by decide) (nm_1 (by decide) (nm_1 (by decide) (nm_1 (by decide) (nm_1 (by decide) (nm_1 (by decide) (nm_1 (by decide) (nm_1 (by decide) (nm_1 (by decide) (nm_1 (by decide) (nm_1 (by decide) (nm_1 (by decide) (nm_1 (by decide) (nm_1 (by decide) (nm_1 (by decide) (nm_1 (by decide) (nm_1 (by decide) (nm_1 (by decide) (nm_1 (by decide) (nm_1 (by decide) (nm_1 (by decide) (nm_1 (by decide) (nm_1 (by decide) (nm_1 (by decide) (nm_1 (by decide) (nm_1 (by decide) (nm_1 (by decide) (nm_1 (by decide) (nm_1 (by decide) (nm_1 (by decide) (nm_1 (by decide) (nm_1 (by decide) (nm_1 (by decide) (nm_1 (by decide) (nm_1 (by decide) (nm_1 (by decide) (nm_1 (by decide) (nm_1 (by decide) (nm_1 (by decide) (nm_1 (by decide) (nm_1 (by decide) (nm_1 (by decide) (nm_1 (by decide) (nm_1 (by decide) (nm_1 (by decide) (nm_1 (by decide) (nm_1 (by decide) (nm_1 (by decide) nm_0))))))))))))))))))))))))))))))))))))))))))))))))))))))))))))))))) (hFs14 38 (nm_1 (by decide) (nm_1 (by decide) (nm_1 (by decide) (nm_1 (by decide) (nm_1 (by decide) (nm_1 (by decide) (nm_1 (by decide) (nm_1 (by decide) (nm_1 (by decide) (nm_1 (by decide) (nm_1 (by decide) (nm_1 (by decide) (nm_1 (by decide) (nm_1 (by decide) (nm_1 (by decide) (nm_1 (by decide) (nm_1 (by decide) (nm_1 (by decide) (nm_1 (by decide) (nm_1 (by decide) (nm_1 (by decide) (nm_1 (by decide) (nm_1 (by decide) (nm_1 (by decide) (nm_1 (by decide) (nm_1 (by decide) (nm_1 (by decide) (nm_1 (by decide) (nm_1 (by decide) (nm_1 (by decide) (nm_1 (by decide) (nm_1 (by decide) (nm_1 (by decide) (nm_1 (by decide) (nm_1 (by decide) (nm_1 (by decide) (nm_1 (by decide) (nm_1 (by decide) (nm_1 (by decide) (nm_1 (by decide) (nm_1 (by decide) (nm_1 (by decide) (nm_1 (by decide) (nm_1 (by decide) (nm_1 (by decide) (nm_1 (by decide) (nm_1 (by decide) (nm_1 (by decide) (nm_1 (by decide) (nm_1 (by decide) (nm_1 (by decide) (nm_1 (by decide) (nm_1 (by decide) (nm_1 (by decide) (nm_1 (by decide) (nm_1 (by decide) (nm_1 (by decide) (nm_1 (by decide) (nm_1 (by decide) (nm_1 (by decide) (nm_1 (by decide) (nm_1 (by decide) (nm_1 (by decide) (nm_1 (by decide) nm_0))))))))))))))))))))))))))))))))))))))))))))))))))))))))))))))))) (hFs14 39 (nm_1 (by decide) (nm_1 (by decide) (nm_1 (by decide) (nm_1 (by decide) (nm_1 (by decide) (nm_1 (by decide) (nm_1 (by decide) (nm_1 (by decide) (nm_1 (by decide) (nm_1 (by decide) (nm_1 (by decide) (nm_1 (by decide) (nm_1 (by decide) (nm_1 (by decide) (nm_1 (by decide) (nm_1 (by decide) (nm_1 (by decide) (nm_1 (by decide) (nm_1 (by decide) (nm_1 (by decide) (nm_1 (by decide) (nm_1 (by decide) (nm_1 (by decide) (nm_1 (by decide) (nm_1 (by decide) (nm_1 (by decide) (nm_1 (by decide) (nm_1 (by decide) (nm_1 (by decide) (nm_1 (by decide) (nm_1 (by decide) (nm_1 (by decide) (nm_1 (by decide) (nm_1 (by decide) (nm_1 (by decide) (nm_1 (by decide) (nm_1 (by decide) (nm_1 (by decide) (nm_1 (by decide) (nm_1 (by decide) (nm_1 (by decide) (nm_1 (by decide) (nm_1 (by decide) (nm_1 (by decide) (nm_1 (by decide) (nm_1 (by decide) (nm_1 (by decide) (nm_1 (by decide) (nm_1 (by decide) (nm_1 (by decide) (nm_1 (by decide) (nm_1 (by decide) (nm_1 (by decide) (nm_1 (by decide) (nm_1 (by decide) (nm_1 (by decide) (nm_1 (by decide) (nm_1 (by decide) (nm_1 (by decide) (nm_1 (by decide) (nm_1 (by decide) (nm_1 (by decide) (nm_1 (by decide) (nm_1 (by decide) nm_0)))))))))))))))))))))))))))))))))))))))))))))))))))))))))))))))))), (wi_fr k13 (congrFun (sw_at es14 (by decide)) 2) (sw_at es14 (by decide)) (sw_at es14 (by decide)) (sw_at es14 (by decide))), (wi_fr hX.2.2.1 (Eq.trans (congrFun (sw_at es14 (by decide)) 2) (congrFun (gs11 64 (nm_1 (by decide) (nm_1 (by decide) (nm_1 (by decide) (nm_1 (by decide) (nm_1 (by decide) (nm_1 (by decide) (nm_1 (by decide) (nm_1 (by decide) (nm_1 (by decide) (nm_1 (by decide) (nm_1 (by decide) (nm_1 (by decide) (nm_1 (by decide) (nm_1 (by decide) (nm_1 (by decide) (nm_1 (by decide) (nm_1 (by decide) (nm_1 (by decide) (nm_1 (by decide) (nm_1 (by decide) (nm_1 (by decide) nm_0)))))))))))))))))))))) 2)) (Eq.trans (sw_at es14 (by decide)) (gs11 84 (nm_1 (by decide) (nm_1 (by decide) (nm_1 (by decide) (nm_1 (by decide) (nm_1 (by decide) (nm_1 (by decide) (nm_1 (by decide) (nm_1 (by decide) (nm_1 (by decide) (nm_1 (by decide) (nm_1 (by decide) (nm_1 (by decide) (nm_1 (by decide) (nm_1 (by decide) (nm_1 (by decide) (nm_1 (by decide) (nm_1 (by decide) (nm_1 (by decide) (nm_1 (by decide) (nm_1 (by decide) (nm_1 (by decide) nm_0))))))))))))))))))))))) (Eq.trans (sw_at es14 (by decide)) (gs11 85 (nm_1 (by decide) (nm_1 (by decide) (nm_1 (by decide) (nm_1 (by decide) (nm_1 (by decide) (nm_1 (by decide) (nm_1 (by decide) (nm_1 (by decide) (nm_1 (by decide) (nm_1 (by decide) (nm_1 (by decide) (nm_1 (by decide) (nm_1 (by decide) (nm_1 (by decide) (nm_1 (by decide) (nm_1 (by decide) (nm_1 (by decide) (nm_1 (by decide) (nm_1 (by decide) (nm_1 (by decide) (nm_1 (by decide) nm_0))))))))))))))))))))))) (Eq.trans (sw_at es14 (by decide)) (gs11 86 (nm_1 (by decide) (nm_1 (by decide) (nm_1 (by decide) (nm_1 (by decide) (nm_1 (by decide) (nm_1 (by decide) (nm_1 (by decide) (nm_1 (by decide) (nm_1 (by decide) (nm_1 (by decide) (nm_1 (by decide) (nm_1 (by decide) (nm_1 (by decide) (nm_1 (by decide) (nm_1 (by decide) (nm_1 (by decide) (nm_1 (by decide) (nm_1 (by decide) (nm_1 (by decide) (nm_1 (by decide) (nm_1 (by decide) nm_0)))))))))))))))))))))))), (wi_fr hX.2.2.2 (Eq.trans (congrFun (sw_at es14 (by decide)) 2) (congrFun (gs11 87 (nm_1 (by decide) (nm_1 (by decide) (nm_1 (by decide) (nm_1 (by decide) (nm_1 (by decide) (nm_1 (by decide) (nm_1 (by decide) (nm_1 (by decide) (nm_1 (by decide) (nm_1 (by decide) (nm_1 (by decide) (nm_1 (by decide) (nm_1 (by decide) (nm_1 (by decide) (nm_1 (by decide) (nm_1 (by decide) (nm_1 (by decide) (nm_1 (by decide) (nm_1 (by decide) (nm_1 (by decide) (nm_1 (by decide) nm_0)))))))))))))))))))))) 2)) (Eq.trans (sw_at es14 (by decide)) (gs11 107 (nm_1 (by decide) (nm_1 (by decide) (nm_1 (by decide) (nm_1 (by decide) (nm_1 (by decide) (nm_1 (by decide) (nm_1 (by decide) (nm_1 (by decide) (nm_1 (by decide) (nm_1 (by decide) (nm_1 (by decide) (nm_1 (by decide) (nm_1 (by decide) (nm_1 (by decide) (nm_1 (by decide) (nm_1 (by decide) (nm_1 (by decide) (nm_1 (by decide) (nm_1 (by decide) (nm_1 (by decide) (nm_1 (by decide) nm_0))))))))))))))))))))))) (Eq.trans (sw_at es14 (by decide)) (gs11 108 (nm_1 (by decide) (nm_1 (by decide) (nm_1 (by decide) (nm_1 (by decide) (nm_1 (by decide) (nm_1 (by decide) (nm_1 (by decide) (nm_1 (by decide) (nm_1 (by decide) (nm_1 (by decide) (nm_1 (by decide) (nm_1 (by decide) (nm_1 (by decide) (nm_1 (by decide) (nm_1 (by decide) (nm_1 (by decide) (nm_1 (by decide) (nm_1 (by decide) (nm_1 (by decide) (nm_1 (by decide) (nm_1 (by decide) nm_0))))))))))))))))))))))) (Eq.trans (sw_at es14 (by decide)) (gs11 109 (nm_1 (by decide) (nm_1 (by decide) (nm_1 (by decide) (nm_1 (by decide) (nm_1 (by decide) (nm_1 (by decide) (nm_1 (by decide) (nm_1 (by decide) (nm_1 (by decide) (nm_1 (by decide) (nm_1 (by decide) (nm_1 (by decide) (nm_1 (by decide) (nm_1 (by decide) (nm_1 (by decide) (nm_1 (by decide) (nm_1 (by decide) (nm_1 (by decide) (nm_1 (by decide) (nm_1 (by decide) (nm_1 (by decide) nm_0))))))))))))))))))))))))⟩, (by obtain ⟨y1, y2⟩ := id (h9); unfold k_image; rw [if_pos ⟨by omega, by omega⟩]; exact (Eq.trans (sw_it es14) (congrArg (fun f9 => upd f9 (p0).toNatClampNeg (vp_nar .boolean 1)) (gs11 110 (nm_1 (by decide) (nm_1 (by decide) (nm_1 (by decide) (nm_1 (by decide) (nm_1 (by decide) (nm_1 (by decide) (nm_1 (by decide) (nm_1 (by decide) (nm_1 (by decide) (nm_1 (by decide) (nm_1 (by decide) (nm_1 (by decide) (nm_1 (by decide) (nm_1 (by decide) (nm_1 (by decide) (nm_1 (by decide) (nm_1 (by decide) (nm_1 (by decide) (nm_1 (by decide) (nm_1 (by decide) (nm_1 (by decide) nm_0)))))))))))))))))))))))))⟩⟩, by rw [ht]; exact hP, va_K.moved hW.alike (hK.sub (tys' := []) [] rfl), by rw [hAe]; exact hD⟩, by rw [hAe]; exact hS.F ht⟩) hS.2.2 dX9_image_33
      · refine k_top (y := 1) q9 ?_
        have h15 : Iv 1 1 p0 := (by rw [q9]; exact iv_c (by decide))
        have q16 := q9
        refine va_aldq hx hb hK hP 40 4 cw_40 rfl (by unfold vp_in; decide) dX9_image_17 ?_
        refine W.eq (g2 := F0 m 18 ls [.ref (a 64)]) rfl ?_
        refine lv_aload_n hx hb dX9_image_18 rfl (lv_at hl 0 rfl) ?_
        refine va_get (D := D) (ci := 9) (v := .ref (a 17)) (C := RX9) (T := TX9) (N := 11) hx hb hT in_X9 hown hK hP 0 cw_0 rfl 2 (by decide) (hT _ t453) (fun _ h9 => h9) rfl dX9_image_19 ?_
        refine ca_v hP hD hS hA (fun hDc => run_V (mc := 0) (ms := 0) (As := [.ref (a 17)]) (rest := []) S (s_X8_copy_64_17 l D k a st sl   _  hB  hX17) lkX9_413 ok_X8_copy ⟨rfl, rfl, Nat.le_of_ble_eq_true rfl, Nat.le_of_ble_eq_true rfl⟩ (pw_V (ci := 8) (q0 := 64) hK hN rfl cw_64 hP hDc) rfl hl.1 rfl (Nat.le_of_ble_eq_true rfl) ⟨Nat.zero_le _, Nat.zero_le _⟩ dX9_image_22) (fun s17 H9 locs9 hs17 hP9 hD9 hS9 => ?_)
        clear hP hD hS
        have hS := hS9
        have hP := hP9
        have hD := hD9
        clear hP9 hD9 hS9
        obtain ⟨hBs17, gs17, fs17⟩ := hs17
        have hFs17 : FR [42, 43, 44, 45, 46, 47, 48, 50, 51, 52, 53, 54, 56, 57, 58, 59, 60, 41, 61, 62, 63, 110, 65, 66, 67, 68, 69, 70, 71, 73, 74, 75, 76, 77, 79, 80, 81, 82, 83, 64, 84, 85, 86, 88, 89, 90, 91, 92, 93, 94, 96, 97, 98, 99, 100, 102, 103, 104, 105, 106, 87, 107, 108, 109] st s17 := fr_ca fr_rf gs17 (sub_1 (List.mem_of_getElem? (i := 22) rfl) (sub_1 (List.mem_of_getElem? (i := 23) rfl) (sub_1 (List.mem_of_getElem? (i := 24) rfl) (sub_1 (List.mem_of_getElem? (i := 25) rfl) (sub_1 (List.mem_of_getElem? (i := 26) rfl) (sub_1 (List.mem_of_getElem? (i := 27) rfl) (sub_1 (List.mem_of_getElem? (i := 28) rfl) (sub_1 (List.mem_of_getElem? (i := 29) rfl) (sub_1 (List.mem_of_getElem? (i := 30) rfl) (sub_1 (List.mem_of_getElem? (i := 31) rfl) (sub_1 (List.mem_of_getElem? (i := 32) rfl) (sub_1 (List.mem_of_getElem? (i := 33) rfl) (sub_1 (List.mem_of_getElem? (i := 34) rfl) (sub_1 (List.mem_of_getElem? (i := 35) rfl) (sub_1 (List.mem_of_getElem? (i := 36) rfl) (sub_1 (List.mem_of_getElem? (i := 37) rfl) (sub_1 (List.mem_of_getElem? (i := 38) rfl) (sub_1 (List.mem_of_getElem? (i := 39) rfl) (sub_1 (List.mem_of_getElem? (i := 40) rfl) (sub_1 (List.mem_of_getElem? (i := 41) rfl) (sub_1 (List.mem_of_getElem? (i := 42) rfl) sub_0)))))))))))))))))))))
        have k19 := fs17
        refine lv_aload_n hx hb dX9_image_25 rfl (lv_at hl 0 rfl) ?_
        refine va_get (D := D) (ci := 9) (v := .ref (a 110)) (C := RX9) (T := TX9) (N := 11) hx hb hT in_X9 hown hK hP 0 cw_0 rfl 4 (by decide) (hT _ t455) (fun _ h9 => h9) rfl dX9_image_26 ?_
        refine lv_iload_n hx hb dX9_image_29 rfl (lv_at hl 1 rfl) ?_
        refine lv_iconst (v := 1) hx hb dX9_image_30 (by decide) ?_
        refine c_zst hx hb hK hP hD hS cw_110 cs_110 (iv_in h15 (by decide) (by decide)) dX9_image_31 (fun s20 H9 locs9 es20 hP9 hD9 hS9 => ?_)
        clear hP hD hS
        have hS := hS9
        have hP := hP9
        have hD := hD9
        clear hP9 hD9 hS9
        have hBs20 : CB s20 := by rw [es20]; exact cb_sw hBs17 trivial
        have hFs20 : FR [42, 43, 44, 45, 46, 47, 48, 50, 51, 52, 53, 54, 56, 57, 58, 59, 60, 41, 61, 62, 63, 110, 65, 66, 67, 68, 69, 70, 71, 73, 74, 75, 76, 77, 79, 80, 81, 82, 83, 64, 84, 85, 86, 88, 89, 90, 91, 92, 93, 94, 96, 97, 98, 99, 100, 102, 103, 104, 105, 106, 87, 107, 108, 109] st s20 := fr_sw hFs17 (List.mem_of_getElem? (i := 21) rfl) es20
        refine lv_iconst (v := 0) hx hb dX9_image_32 (by decide) ?_
        rw [hQ]
        exact W.iret (v := 0) hx hb hr (fun t ht hW => ⟨⟨0, s20, rfl, ⟨hBs20, hFs20, ⟨(by obtain ⟨y1, y2⟩ := id (h15); unfold r_image; rw [if_pos ⟨by omega, by omega⟩]), ⟨(wi_fr hX17 (congrFun (hFs20 17 (nm_1 (by decide) (nm_1 (by decide) (nm_1 (by decide) (nm_1 (by decide) (nm_1 (by decide) (nm_1 (by decide) (nm_1 (by decide) (nm_1 (by decide) (nm_1 (by decide) (nm_1 (by decide) (nm_1 (by decide) (nm_1 (by decide) (nm_1 (by decide) (nm_1 (by decide) (nm_1 (by decide) (nm_1 (by decide) (nm_1 (by decide) (nm_1 (by decide) (nm_1 (by decide) (nm_1 (by decide) (nm_1 (by decide) (nm_1 (by decide) (nm_1 (by decide) (nm_1 (by decide) (nm_1 (by decide) (nm_1 (by decide) (nm_1 (by decide) (nm_1 (by decide) (nm_1 (by decide) (nm_1 (by decide) (nm_1 (by decide) (nm_1 (by decide) (nm_1 (by decide) (nm_1 (by decide) (nm_1 (by decide) (nm_1 (by decide) (nm_1 (by decide) (nm_1 (by decide) (nm_1 (by decide) (nm_1 (by decide) (nm_1 (by decide) (nm_1 (by decide) (nm_1 (by decide) (nm_1 (by decide) (nm_1 (by decide) (nm_1 (by decide) (nm_1 (by decide) (nm_1 (by decide) (nm_1 (by decide) (nm_1 (by decide) (nm_1 (by decide) (nm_1 (by decide) (nm_1 (by decide) (nm_1 (by decide) (nm_1 (by decide) (nm_1 (by decide) (nm_1 (by decide) (nm_1 (by decide) (nm_1 (by decide) (nm_1 (by decide) (nm_1 (by decide) (nm_1 (by decide) (nm_1 (by decide) (nm_1 (by decide) nm_0))))))))))))))))))))))))))))))))))))))))))))))))))))))))))))))))) 2) (hFs20 37 (nm_1 (by decide) (nm_1 (by decide) (nm_1 (by decide) (nm_1 (by decide) (nm_1 (by decide) (nm_1 (by decide) (nm_1 (by decide) (nm_1 (by decide) (nm_1 (by decide) (nm_1 (by decide) (nm_1 (by decide) (nm_1 (by decide) (nm_1 (by decide) (nm_1 (by decide) (nm_1 (by decide) (nm_1 (by decide) (nm_1 (by decide) (nm_1 (by decide) (nm_1 (by decide) (nm_1 (by decide) (nm_1 (by decide) (nm_1 (by decide) (nm_1 (by decide) (nm_1 (by decide) (nm_1 (by decide) (nm_1 (by decide) (nm_1 (by decide) (nm_1 (by decide) (nm_1 (by decide) (nm_1 (by decide) (nm_1 (by decide) (nm_1 (by decide) (nm_1 (by decide) (nm_1 (by decide) (nm_1 (by decide) (nm_1 (by decide) (nm_1 (by decide) (nm_1 (by decide) (nm_1 (by decide) (nm_1 (by decide) (nm_1 (by decide) (nm_1 (by decide) (nm_1 (by decide) (nm_1 (by decide) (nm_1 (by decide) (nm_1 (by decide) (nm_1 (by decide) (nm_1 (by decide) (nm_1 (by decide) (nm_1 (by decide) (nm_1 (by decide) (nm_1 (by decide) (nm_1 (by decide) (nm_1 (by decide) (nm_1 (by decide) (nm_1 (by decide) (nm_1 (by decide) (nm_1 (by decide) (nm_1 (by decide) (nm_1 (by decide) (nm_1 (by decide) (nm_1 (by decide) (nm_1 (by decide) (nm_1 (by decide) nm_0))))))))))))))))))))))))))))))))))))))))))))))))))))))))))))))))) (hFs20 38 (nm_1 (by decide) (nm_1 (by decide) (nm_1 (by decide) (nm_1 (by decide) (nm_1 (by decide) (nm_1 (by decide) (nm_1 (by decide) (nm_1 (by decide) (nm_1 (by decide) (nm_1 (by decide) (nm_1 (by decide) (nm_1 (by decide) (nm_1 (by decide) (nm_1 (by decide) (nm_1 (by decide) (nm_1 (by decide) (nm_1 (by decide) (nm_1 (by decide) (nm_1 (by decide) (nm_1 (by decide) (nm_1 (by decide) (nm_1 (by decide) (nm_1 (by decide) (nm_1 (by decide) (nm_1 (by decide) (nm_1 (by decide) (nm_1 (by decide) (nm_1 (by decide) (nm_1 (by decide) (nm_1 (by decide) (nm_1 (by decide) (nm_1 (by decide) (nm_1 (by decide) (nm_1 (by decide) (nm_1 (by decide) (nm_1 (by decide) (nm_1 (by decide) (nm_1 (by decide) (nm_1 (by decide) (nm_1 (by decide) (nm_1 (by decide) (nm_1 (by decide) (nm_1 (by decide) (nm_1 (by decide) (nm_1 (by decide) (nm_1 (by decide) (nm_1 (by decide) (nm_1 (by decide) (nm_1 (by decide) (nm_1 (by decide) (nm_1 (by decide) (nm_1 (by decide) (nm_1 (by decide) (nm_1 (by decide) (nm_1 (by decide) (nm_1 (by decide) (nm_1 (by decide) (nm_1 (by decide) (nm_1 (by decide) (nm_1 (by decide) (nm_1 (by decide) (nm_1 (by decide) (nm_1 (by decide) (nm_1 (by decide) nm_0))))))))))))))))))))))))))))))))))))))))))))))))))))))))))))))))) (hFs20 39 (nm_1 (by decide) (nm_1 (by decide) (nm_1 (by decide) (nm_1 (by decide) (nm_1 (by decide) (nm_1 (by decide) (nm_1 (by decide) (nm_1 (by decide) (nm_1 (by decide) (nm_1 (by decide) (nm_1 (by decide) (nm_1 (by decide) (nm_1 (by decide) (nm_1 (by decide) (nm_1 (by decide) (nm_1 (by decide) (nm_1 (by decide) (nm_1 (by decide) (nm_1 (by decide) (nm_1 (by decide) (nm_1 (by decide) (nm_1 (by decide) (nm_1 (by decide) (nm_1 (by decide) (nm_1 (by decide) (nm_1 (by decide) (nm_1 (by decide) (nm_1 (by decide) (nm_1 (by decide) (nm_1 (by decide) (nm_1 (by decide) (nm_1 (by decide) (nm_1 (by decide) (nm_1 (by decide) (nm_1 (by decide) (nm_1 (by decide) (nm_1 (by decide) (nm_1 (by decide) (nm_1 (by decide) (nm_1 (by decide) (nm_1 (by decide) (nm_1 (by decide) (nm_1 (by decide) (nm_1 (by decide) (nm_1 (by decide) (nm_1 (by decide) (nm_1 (by decide) (nm_1 (by decide) (nm_1 (by decide) (nm_1 (by decide) (nm_1 (by decide) (nm_1 (by decide) (nm_1 (by decide) (nm_1 (by decide) (nm_1 (by decide) (nm_1 (by decide) (nm_1 (by decide) (nm_1 (by decide) (nm_1 (by decide) (nm_1 (by decide) (nm_1 (by decide) (nm_1 (by decide) (nm_1 (by decide) (nm_1 (by decide) nm_0)))))))))))))))))))))))))))))))))))))))))))))))))))))))))))))))))), (wi_fr hX.2.1 (Eq.trans (congrFun (sw_at es20 (by decide)) 2) (congrFun (gs17 41 (nm_1 (by decide) (nm_1 (by decide) (nm_1 (by decide) (nm_1 (by decide) (nm_1 (by decide) (nm_1 (by decide) (nm_1 (by decide) (nm_1 (by decide) (nm_1 (by decide) (nm_1 (by decide) (nm_1 (by decide) (nm_1 (by decide) (nm_1 (by decide) (nm_1 (by decide) (nm_1 (by decide) (nm_1 (by decide) (nm_1 (by decide) (nm_1 (by decide) (nm_1 (by decide) (nm_1 (by decide) (nm_1 (by decide) nm_0)))))))))))))))))))))) 2)) (Eq.trans (sw_at es20 (by decide)) (gs17 61 (nm_1 (by decide) (nm_1 (by decide) (nm_1 (by decide) (nm_1 (by decide) (nm_1 (by decide) (nm_1 (by decide) (nm_1 (by decide) (nm_1 (by decide) (nm_1 (by decide) (nm_1 (by decide) (nm_1 (by decide) (nm_1 (by decide) (nm_1 (by decide) (nm_1 (by decide) (nm_1 (by decide) (nm_1 (by decide) (nm_1 (by decide) (nm_1 (by decide) (nm_1 (by decide) (nm_1 (by decide) (nm_1 (by decide) nm_0))))))))))))))))))))))) (Eq.trans (sw_at es20 (by decide)) (gs17 62 (nm_1 (by decide) (nm_1 (by decide) (nm_1 (by decide) (nm_1 (by decide) (nm_1 (by decide) (nm_1 (by decide) (nm_1 (by decide) (nm_1 (by decide) (nm_1 (by decide) (nm_1 (by decide) (nm_1 (by decide) (nm_1 (by decide) (nm_1 (by decide) (nm_1 (by decide) (nm_1 (by decide) (nm_1 (by decide) (nm_1 (by decide) (nm_1 (by decide) (nm_1 (by decide) (nm_1 (by decide) (nm_1 (by decide) nm_0))))))))))))))))))))))) (Eq.trans (sw_at es20 (by decide)) (gs17 63 (nm_1 (by decide) (nm_1 (by decide) (nm_1 (by decide) (nm_1 (by decide) (nm_1 (by decide) (nm_1 (by decide) (nm_1 (by decide) (nm_1 (by decide) (nm_1 (by decide) (nm_1 (by decide) (nm_1 (by decide) (nm_1 (by decide) (nm_1 (by decide) (nm_1 (by decide) (nm_1 (by decide) (nm_1 (by decide) (nm_1 (by decide) (nm_1 (by decide) (nm_1 (by decide) (nm_1 (by decide) (nm_1 (by decide) nm_0)))))))))))))))))))))))), (wi_fr k19 (congrFun (sw_at es20 (by decide)) 2) (sw_at es20 (by decide)) (sw_at es20 (by decide)) (sw_at es20 (by decide))), (wi_fr hX.2.2.2 (Eq.trans (congrFun (sw_at es20 (by decide)) 2) (congrFun (gs17 87 (nm_1 (by decide) (nm_1 (by decide) (nm_1 (by decide) (nm_1 (by decide) (nm_1 (by decide) (nm_1 (by decide) (nm_1 (by decide) (nm_1 (by decide) (nm_1 (by decide) (nm_1 (by decide) (nm_1 (by decide) (nm_1 (by decide) (nm_1 (by decide) (nm_1 (by decide) (nm_1 (by decide) (nm_1 (by decide) (nm_1 (by decide) (nm_1 (by decide) (nm_1 (by decide) (nm_1 (by decide) (nm_1 (by decide) nm_0)))))))))))))))))))))) 2)) (Eq.trans (sw_at es20 (by decide)) (gs17 107 (nm_1 (by decide) (nm_1 (by decide) (nm_1 (by decide) (nm_1 (by decide) (nm_1 (by decide) (nm_1 (by decide) (nm_1 (by decide) (nm_1 (by decide) (nm_1 (by decide) (nm_1 (by decide) (nm_1 (by decide) (nm_1 (by decide) (nm_1 (by decide) (nm_1 (by decide) (nm_1 (by decide) (nm_1 (by decide) (nm_1 (by decide) (nm_1 (by decide) (nm_1 (by decide) (nm_1 (by decide) (nm_1 (by decide) nm_0))))))))))))))))))))))) (Eq.trans (sw_at es20 (by decide)) (gs17 108 (nm_1 (by decide) (nm_1 (by decide) (nm_1 (by decide) (nm_1 (by decide) (nm_1 (by decide) (nm_1 (by decide) (nm_1 (by decide) (nm_1 (by decide) (nm_1 (by decide) (nm_1 (by decide) (nm_1 (by decide) (nm_1 (by decide) (nm_1 (by decide) (nm_1 (by decide) (nm_1 (by decide) (nm_1 (by decide) (nm_1 (by decide) (nm_1 (by decide) (nm_1 (by decide) (nm_1 (by decide) (nm_1 (by decide) nm_0))))))))))))))))))))))) (Eq.trans (sw_at es20 (by decide)) (gs17 109 (nm_1 (by decide) (nm_1 (by decide) (nm_1 (by decide) (nm_1 (by decide) (nm_1 (by decide) (nm_1 (by decide) (nm_1 (by decide) (nm_1 (by decide) (nm_1 (by decide) (nm_1 (by decide) (nm_1 (by decide) (nm_1 (by decide) (nm_1 (by decide) (nm_1 (by decide) (nm_1 (by decide) (nm_1 (by decide) (nm_1 (by decide) (nm_1 (by decide) (nm_1 (by decide) (nm_1 (by decide) (nm_1 (by decide) nm_0))))))))))))))))))))))))⟩, (by obtain ⟨y1, y2⟩ := id (h15); unfold k_image; rw [if_pos ⟨by omega, by omega⟩]; exact (Eq.trans (sw_it es20) (congrArg (fun f9 => upd f9 (p0).toNatClampNeg (vp_nar .boolean 1)) (gs17 110 (nm_1 (by decide) (nm_1 (by decide) (nm_1 (by decide) (nm_1 (by decide) (nm_1 (by decide) (nm_1 (by decide) (nm_1 (by decide) (nm_1 (by decide) (nm_1 (by decide) (nm_1 (by decide) (nm_1 (by decide) (nm_1 (by decide) (nm_1 (by decide) (nm_1 (by decide) (nm_1 (by decide) (nm_1 (by decide) (nm_1 (by decide) (nm_1 (by decide) (nm_1 (by decide) (nm_1 (by decide) (nm_1 (by decide) nm_0)))))))))))))))))))))))))⟩⟩, by rw [ht]; exact hP, va_K.moved hW.alike (hK.sub (tys' := []) [] rfl), by rw [hAe]; exact hD⟩, by rw [hAe]; exact hS.F ht⟩) hS.2.2 dX9_image_33
      · refine k_top (y := 2) q9 ?_
        have h21 : Iv 2 2 p0 := (by rw [q9]; exact iv_c (by decide))
        have q22 := q9
        refine va_aldq hx hb hK hP 40 4 cw_40 rfl (by unfold vp_in; decide) dX9_image_17 ?_
        refine W.eq (g2 := F0 m 18 ls [.ref (a 87)]) rfl ?_
        refine lv_aload_n hx hb dX9_image_18 rfl (lv_at hl 0 rfl) ?_
        refine va_get (D := D) (ci := 9) (v := .ref (a 17)) (C := RX9) (T := TX9) (N := 11) hx hb hT in_X9 hown hK hP 0 cw_0 rfl 2 (by decide) (hT _ t453) (fun _ h9 => h9) rfl dX9_image_19 ?_
        refine ca_v hP hD hS hA (fun hDc => run_V (mc := 0) (ms := 0) (As := [.ref (a 17)]) (rest := []) S (s_X8_copy_87_17 l D k a st sl   _  hB  hX17) lkX9_413 ok_X8_copy ⟨rfl, rfl, Nat.le_of_ble_eq_true rfl, Nat.le_of_ble_eq_true rfl⟩ (pw_V (ci := 8) (q0 := 87) hK hN rfl cw_87 hP hDc) rfl hl.1 rfl (Nat.le_of_ble_eq_true rfl) ⟨Nat.zero_le _, Nat.zero_le _⟩ dX9_image_22) (fun s23 H9 locs9 hs23 hP9 hD9 hS9 => ?_)
        clear hP hD hS
        have hS := hS9
        have hP := hP9
        have hD := hD9
        clear hP9 hD9 hS9
        obtain ⟨hBs23, gs23, fs23⟩ := hs23
        have hFs23 : FR [42, 43, 44, 45, 46, 47, 48, 50, 51, 52, 53, 54, 56, 57, 58, 59, 60, 41, 61, 62, 63, 110, 65, 66, 67, 68, 69, 70, 71, 73, 74, 75, 76, 77, 79, 80, 81, 82, 83, 64, 84, 85, 86, 88, 89, 90, 91, 92, 93, 94, 96, 97, 98, 99, 100, 102, 103, 104, 105, 106, 87, 107, 108, 109] st s23 := fr_ca fr_rf gs23 (sub_1 (List.mem_of_getElem? (i := 43) rfl) (sub_1 (List.mem_of_getElem? (i := 44) rfl) (sub_1 (List.mem_of_getElem? (i := 45) rfl) (sub_1 (List.mem_of_getElem? (i := 46) rfl) (sub_1 (List.mem_of_getElem? (i := 47) rfl) (sub_1 (List.mem_of_getElem? (i := 48) rfl) (sub_1 (List.mem_of_getElem? (i := 49) rfl) (sub_1 (List.mem_of_getElem? (i := 50) rfl) (sub_1 (List.mem_of_getElem? (i := 51) rfl) (sub_1 (List.mem_of_getElem? (i := 52) rfl) (sub_1 (List.mem_of_getElem? (i := 53) rfl) (sub_1 (List.mem_of_getElem? (i := 54) rfl) (sub_1 (List.mem_of_getElem? (i := 55) rfl) (sub_1 (List.mem_of_getElem? (i := 56) rfl) (sub_1 (List.mem_of_getElem? (i := 57) rfl) (sub_1 (List.mem_of_getElem? (i := 58) rfl) (sub_1 (List.mem_of_getElem? (i := 59) rfl) (sub_1 (List.mem_of_getElem? (i := 60) rfl) (sub_1 (List.mem_of_getElem? (i := 61) rfl) (sub_1 (List.mem_of_getElem? (i := 62) rfl) (sub_1 (List.mem_of_getElem? (i := 63) rfl) sub_0)))))))))))))))))))))
        have k25 := fs23
        refine lv_aload_n hx hb dX9_image_25 rfl (lv_at hl 0 rfl) ?_
        refine va_get (D := D) (ci := 9) (v := .ref (a 110)) (C := RX9) (T := TX9) (N := 11) hx hb hT in_X9 hown hK hP 0 cw_0 rfl 4 (by decide) (hT _ t455) (fun _ h9 => h9) rfl dX9_image_26 ?_
        refine lv_iload_n hx hb dX9_image_29 rfl (lv_at hl 1 rfl) ?_
        refine lv_iconst (v := 1) hx hb dX9_image_30 (by decide) ?_
        refine c_zst hx hb hK hP hD hS cw_110 cs_110 (iv_in h21 (by decide) (by decide)) dX9_image_31 (fun s26 H9 locs9 es26 hP9 hD9 hS9 => ?_)
        clear hP hD hS
        have hS := hS9
        have hP := hP9
        have hD := hD9
        clear hP9 hD9 hS9
        have hBs26 : CB s26 := by rw [es26]; exact cb_sw hBs23 trivial
        have hFs26 : FR [42, 43, 44, 45, 46, 47, 48, 50, 51, 52, 53, 54, 56, 57, 58, 59, 60, 41, 61, 62, 63, 110, 65, 66, 67, 68, 69, 70, 71, 73, 74, 75, 76, 77, 79, 80, 81, 82, 83, 64, 84, 85, 86, 88, 89, 90, 91, 92, 93, 94, 96, 97, 98, 99, 100, 102, 103, 104, 105, 106, 87, 107, 108, 109] st s26 := fr_sw hFs23 (List.mem_of_getElem? (i := 21) rfl) es26
        refine lv_iconst (v := 0) hx hb dX9_image_32 (by decide) ?_
        rw [hQ]
        exact W.iret (v := 0) hx hb hr (fun t ht hW => ⟨⟨0, s26, rfl, ⟨hBs26, hFs26, ⟨(by obtain ⟨y1, y2⟩ := id (h21); unfold r_image; rw [if_pos ⟨by omega, by omega⟩]), ⟨(wi_fr hX17 (congrFun (hFs26 17 (nm_1 (by decide) (nm_1 (by decide) (nm_1 (by decide) (nm_1 (by decide) (nm_1 (by decide) (nm_1 (by decide) (nm_1 (by decide) (nm_1 (by decide) (nm_1 (by decide) (nm_1 (by decide) (nm_1 (by decide) (nm_1 (by decide) (nm_1 (by decide) (nm_1 (by decide) (nm_1 (by decide) (nm_1 (by decide) (nm_1 (by decide) (nm_1 (by decide) (nm_1 (by decide) (nm_1 (by decide) (nm_1 (by decide) (nm_1 (by decide) (nm_1 (by decide) (nm_1 (by decide) (nm_1 (by decide) (nm_1 (by decide) (nm_1 (by decide) (nm_1 (by decide) (nm_1 (by decide) (nm_1 (by decide) (nm_1 (by decide) (nm_1 (by decide) (nm_1 (by decide) (nm_1 (by decide) (nm_1 (by decide) (nm_1 (by decide) (nm_1 (by decide) (nm_1 (by decide) (nm_1 (by decide) (nm_1 (by decide) (nm_1 (by decide) (nm_1 (by decide) (nm_1 (by decide) (nm_1 (by decide) (nm_1 (by decide) (nm_1 (by decide) (nm_1 (by decide) (nm_1 (by decide) (nm_1 (by decide) (nm_1 (by decide) (nm_1 (by decide) (nm_1 (by decide) (nm_1 (by decide) (nm_1 (by decide) (nm_1 (by decide) (nm_1 (by decide) (nm_1 (by decide) (nm_1 (by decide) (nm_1 (by decide) (nm_1 (by decide) (nm_1 (by decide) (nm_1 (by decide) (nm_1 (by decide) (nm_1 (by decide) nm_0))))))))))))))))))))))))))))))))))))))))))))))))))))))))))))))))) 2) (hFs26 37 (nm_1 (by decide) (nm_1 (by decide) (nm_1 (by decide) (nm_1 (by decide) (nm_1 (by decide) (nm_1 (by decide) (nm_1 (by decide) (nm_1 (by decide) (nm_1 (by decide) (nm_1 (by decide) (nm_1 (by decide) (nm_1 (by decide) (nm_1 (by decide) (nm_1 (by decide) (nm_1 (by decide) (nm_1 (by decide) (nm_1 (by decide) (nm_1 (by decide) (nm_1 (by decide) (nm_1 (by decide) (nm_1 (by decide) (nm_1 (by decide) (nm_1 (by decide) (nm_1 (by decide) (nm_1 (by decide) (nm_1 (by decide) (nm_1 (by decide) (nm_1 (by decide) (nm_1 (by decide) (nm_1 (by decide) (nm_1 (by decide) (nm_1 (by decide) (nm_1 (by decide) (nm_1 (by decide) (nm_1 (by decide) (nm_1 (by decide) (nm_1 (by decide) (nm_1 (by decide) (nm_1 (by decide) (nm_1 (by decide) (nm_1 (by decide) (nm_1 (by decide) (nm_1 (by decide) (nm_1 (by decide) (nm_1 (by decide) (nm_1 (by decide) (nm_1 (by decide) (nm_1 (by decide) (nm_1 (by decide) (nm_1 (by decide) (nm_1 (by decide) (nm_1 (by decide) (nm_1 (by decide) (nm_1 (by decide) (nm_1 (by decide) (nm_1 (by decide) (nm_1 (by decide) (nm_1 (by decide) (nm_1 (by decide) (nm_1 (by decide) (nm_1 (by decide) (nm_1 (by decide) (nm_1 (by decide) (nm_1 (by decide) nm_0))))))))))))))))))))))))))))))))))))))))))))))))))))))))))))))))) (hFs26 38 (nm_1 (by decide) (nm_1 (by decide) (nm_1 (by decide) (nm_1 (by decide) (nm_1 (by decide) (nm_1 (by decide) (nm_1 (by decide) (nm_1 (by decide) (nm_1 (by decide) (nm_1 (by decide) (nm_1 (by decide) (nm_1 (by decide) (nm_1 (by decide) (nm_1 (by decide) (nm_1 (by decide) (nm_1 (by decide) (nm_1 (by decide) (nm_1 (by decide) (nm_1 (by decide) (nm_1 (by decide) (nm_1 (by decide) (nm_1 (by decide) (nm_1 (by decide) (nm_1 (by decide) (nm_1 (by decide) (nm_1 (by decide) (nm_1 (by decide) (nm_1 (by decide) (nm_1 (by decide) (nm_1 (by decide) (nm_1 (by decide) (nm_1 (by decide) (nm_1 (by decide) (nm_1 (by decide) (nm_1 (by decide) (nm_1 (by decide) (nm_1 (by decide) (nm_1 (by decide) (nm_1 (by decide) (nm_1 (by decide) (nm_1 (by decide) (nm_1 (by decide) (nm_1 (by decide) (nm_1 (by decide) (nm_1 (by decide) (nm_1 (by decide) (nm_1 (by decide) (nm_1 (by decide) (nm_1 (by decide) (nm_1 (by decide) (nm_1 (by decide) (nm_1 (by decide) (nm_1 (by decide) (nm_1 (by decide) (nm_1 (by decide) (nm_1 (by decide) (nm_1 (by decide) (nm_1 (by decide) (nm_1 (by decide) (nm_1 (by decide) (nm_1 (by decide) (nm_1 (by decide) (nm_1 (by decide) (nm_1 (by decide) nm_0))))))))))))))))))))))))))))))))))))))))))))))))))))))))))))))))) (hFs26 39 (nm_1 (by decide) (nm_1 (by decide) (nm_1 (by decide) (nm_1 (by decide) (nm_1 (by decide) (nm_1 (by decide) (nm_1 (by decide) (nm_1 (by decide) (nm_1 (by decide) (nm_1 (by decide) (nm_1 (by decide) (nm_1 (by decide) (nm_1 (by decide) (nm_1 (by decide) (nm_1 (by decide) (nm_1 (by decide) (nm_1 (by decide) (nm_1 (by decide) (nm_1 (by decide) (nm_1 (by decide) (nm_1 (by decide) (nm_1 (by decide) (nm_1 (by decide) (nm_1 (by decide) (nm_1 (by decide) (nm_1 (by decide) (nm_1 (by decide) (nm_1 (by decide) (nm_1 (by decide) (nm_1 (by decide) (nm_1 (by decide) (nm_1 (by decide) (nm_1 (by decide) (nm_1 (by decide) (nm_1 (by decide) (nm_1 (by decide) (nm_1 (by decide) (nm_1 (by decide) (nm_1 (by decide) (nm_1 (by decide) (nm_1 (by decide) (nm_1 (by decide) (nm_1 (by decide) (nm_1 (by decide) (nm_1 (by decide) (nm_1 (by decide) (nm_1 (by decide) (nm_1 (by decide) (nm_1 (by decide) (nm_1 (by decide) (nm_1 (by decide) (nm_1 (by decide) (nm_1 (by decide) (nm_1 (by decide) (nm_1 (by decide) (nm_1 (by decide) (nm_1 (by decide) (nm_1 (by decide) (nm_1 (by decide) (nm_1 (by decide) (nm_1 (by decide) (nm_1 (by decide) (nm_1 (by decide) (nm_1 (by decide) nm_0)))))))))))))))))))))))))))))))))))))))))))))))))))))))))))))))))), (wi_fr hX.2.1 (Eq.trans (congrFun (sw_at es26 (by decide)) 2) (congrFun (gs23 41 (nm_1 (by decide) (nm_1 (by decide) (nm_1 (by decide) (nm_1 (by decide) (nm_1 (by decide) (nm_1 (by decide) (nm_1 (by decide) (nm_1 (by decide) (nm_1 (by decide) (nm_1 (by decide) (nm_1 (by decide) (nm_1 (by decide) (nm_1 (by decide) (nm_1 (by decide) (nm_1 (by decide) (nm_1 (by decide) (nm_1 (by decide) (nm_1 (by decide) (nm_1 (by decide) (nm_1 (by decide) (nm_1 (by decide) nm_0)))))))))))))))))))))) 2)) (Eq.trans (sw_at es26 (by decide)) (gs23 61 (nm_1 (by decide) (nm_1 (by decide) (nm_1 (by decide) (nm_1 (by decide) (nm_1 (by decide) (nm_1 (by decide) (nm_1 (by decide) (nm_1 (by decide) (nm_1 (by decide) (nm_1 (by decide) (nm_1 (by decide) (nm_1 (by decide) (nm_1 (by decide) (nm_1 (by decide) (nm_1 (by decide) (nm_1 (by decide) (nm_1 (by decide) (nm_1 (by decide) (nm_1 (by decide) (nm_1 (by decide) (nm_1 (by decide) nm_0))))))))))))))))))))))) (Eq.trans (sw_at es26 (by decide)) (gs23 62 (nm_1 (by decide) (nm_1 (by decide) (nm_1 (by decide) (nm_1 (by decide) (nm_1 (by decide) (nm_1 (by decide) (nm_1 (by decide) (nm_1 (by decide) (nm_1 (by decide) (nm_1 (by decide) (nm_1 (by decide) (nm_1 (by decide) (nm_1 (by decide) (nm_1 (by decide) (nm_1 (by decide) (nm_1 (by decide) (nm_1 (by decide) (nm_1 (by decide) (nm_1 (by decide) (nm_1 (by decide) (nm_1 (by decide) nm_0))))))))))))))))))))))) (Eq.trans (sw_at es26 (by decide)) (gs23 63 (nm_1 (by decide) (nm_1 (by decide) (nm_1 (by decide) (nm_1 (by decide) (nm_1 (by decide) (nm_1 (by decide) (nm_1 (by decide) (nm_1 (by decide) (nm_1 (by decide) (nm_1 (by decide) (nm_1 (by decide) (nm_1 (by decide) (nm_1 (by decide) (nm_1 (by decide) (nm_1 (by decide) (nm_1 (by decide) (nm_1 (by decide) (nm_1 (by decide) (nm_1 (by decide) (nm_1 (by decide) (nm_1 (by decide) nm_0)))))))))))))))))))))))), (wi_fr hX.2.2.1 (Eq.trans (congrFun (sw_at es26 (by decide)) 2) (congrFun (gs23 64 (nm_1 (by decide) (nm_1 (by decide) (nm_1 (by decide) (nm_1 (by decide) (nm_1 (by decide) (nm_1 (by decide) (nm_1 (by decide) (nm_1 (by decide) (nm_1 (by decide) (nm_1 (by decide) (nm_1 (by decide) (nm_1 (by decide) (nm_1 (by decide) (nm_1 (by decide) (nm_1 (by decide) (nm_1 (by decide) (nm_1 (by decide) (nm_1 (by decide) (nm_1 (by decide) (nm_1 (by decide) (nm_1 (by decide) nm_0)))))))))))))))))))))) 2)) (Eq.trans (sw_at es26 (by decide)) (gs23 84 (nm_1 (by decide) (nm_1 (by decide) (nm_1 (by decide) (nm_1 (by decide) (nm_1 (by decide) (nm_1 (by decide) (nm_1 (by decide) (nm_1 (by decide) (nm_1 (by decide) (nm_1 (by decide) (nm_1 (by decide) (nm_1 (by decide) (nm_1 (by decide) (nm_1 (by decide) (nm_1 (by decide) (nm_1 (by decide) (nm_1 (by decide) (nm_1 (by decide) (nm_1 (by decide) (nm_1 (by decide) (nm_1 (by decide) nm_0))))))))))))))))))))))) (Eq.trans (sw_at es26 (by decide)) (gs23 85 (nm_1 (by decide) (nm_1 (by decide) (nm_1 (by decide) (nm_1 (by decide) (nm_1 (by decide) (nm_1 (by decide) (nm_1 (by decide) (nm_1 (by decide) (nm_1 (by decide) (nm_1 (by decide) (nm_1 (by decide) (nm_1 (by decide) (nm_1 (by decide) (nm_1 (by decide) (nm_1 (by decide) (nm_1 (by decide) (nm_1 (by decide) (nm_1 (by decide) (nm_1 (by decide) (nm_1 (by decide) (nm_1 (by decide) nm_0))))))))))))))))))))))) (Eq.trans (sw_at es26 (by decide)) (gs23 86 (nm_1 (by decide) (nm_1 (by decide) (nm_1 (by decide) (nm_1 (by decide) (nm_1 (by decide) (nm_1 (by decide) (nm_1 (by decide) (nm_1 (by decide) (nm_1 (by decide) (nm_1 (by decide) (nm_1 (by decide) (nm_1 (by decide) (nm_1 (by decide) (nm_1 (by decide) (nm_1 (by decide) (nm_1 (by decide) (nm_1 (by decide) (nm_1 (by decide) (nm_1 (by decide) (nm_1 (by decide) (nm_1 (by decide) nm_0)))))))))))))))))))))))), (wi_fr k25 (congrFun (sw_at es26 (by decide)) 2) (sw_at es26 (by decide)) (sw_at es26 (by decide)) (sw_at es26 (by decide)))⟩, (by obtain ⟨y1, y2⟩ := id (h21); unfold k_image; rw [if_pos ⟨by omega, by omega⟩]; exact (Eq.trans (sw_it es26) (congrArg (fun f9 => upd f9 (p0).toNatClampNeg (vp_nar .boolean 1)) (gs23 110 (nm_1 (by decide) (nm_1 (by decide) (nm_1 (by decide) (nm_1 (by decide) (nm_1 (by decide) (nm_1 (by decide) (nm_1 (by decide) (nm_1 (by decide) (nm_1 (by decide) (nm_1 (by decide) (nm_1 (by decide) (nm_1 (by decide) (nm_1 (by decide) (nm_1 (by decide) (nm_1 (by decide) (nm_1 (by decide) (nm_1 (by decide) (nm_1 (by decide) (nm_1 (by decide) (nm_1 (by decide) (nm_1 (by decide) nm_0)))))))))))))))))))))))))⟩⟩, by rw [ht]; exact hP, va_K.moved hW.alike (hK.sub (tys' := []) [] rfl), by rw [hAe]; exact hD⟩, by rw [hAe]; exact hS.F ht⟩) hS.2.2 dX9_image_33
    · skip
      have n27 : (3 : Int32).toInt ≤ p0.toInt := (i_nlt c6)
      have h28 : Iv 3 2147483647 p0 := le_r (iv_c (by decide) : Iv 3 3 3) n27 h5 (by decide)
      refine lv_bipush (v := (-2)) hx hb dX9_image_9 (by decide) ?_
      rw [hQ]
      exact W.iret (v := (-2)) hx hb hr (fun t ht hW => ⟨⟨(-2), st, rfl, ⟨hB, fr_rf, ⟨(by obtain ⟨y1, y2⟩ := id (h28); unfold r_image; rw [if_neg (by omega)]), ⟨hX17, hX.2.1, hX.2.2.1, hX.2.2.2⟩, (by obtain ⟨y1, y2⟩ := id (h28); unfold k_image; rw [if_neg (by omega)])⟩⟩, by rw [ht]; exact hP, va_K.moved hW.alike (hK.sub (tys' := []) [] rfl), by rw [hAe]; exact hD⟩, by rw [hAe]; exact hS.F ht⟩) hS.2.2 dX9_image_11
set_option maxHeartbeats 4000000 in
set_option maxRecDepth 100000 in
theorem s_X9_back (l : Launch) (D : va_G) (k : Nat → ClassId) (a : Nat → Nat) (st : CT) (sl : CL) (p0 : Int32) (sz : Nat) (hB : CB st)  (hX : XB st) : Met l yX9_back (.code yX9_back cX9_back 2 (some .int) :: TB) (rmw 4 0 0) (va_Pc [.ref (a 0), .int p0] (PW D k sz (CWS k a st sl))) (QI D (S := CT) (fun r u => CB u ∧ FR [18, 19, 20, 21, 22, 23, 24, 26, 27, 28, 29, 30, 32, 33, 34, 35, 36, 17, 37, 38, 39] st u ∧ ((r = r_back (st 110) p0 ∧ XB u))) (fun u => CWS k a u sl) (fun _ => []) (CWS k a st sl) sz) 0 0 (va_A (CWS k a st sl) sz) := by
  refine Met.ofW (cc := cX9_back) (maxL := 2) (ret := (some .int)) (by decide) rfl ?_
  intro p e s m args below meth c s₁ B hml hv
  obtain ⟨rfl, hsz, hP, hK, hD0, hN⟩ := hv
  have hx := B.exec
  have hb := B.bytes
  have hr := B.returns
  have hT : ∀ w9 ∈ TB, w9.before ([.ref (a 0), .int p0] : List Value).toArray s = true := fun w9 h => atoms_spec (ws := .code yX9_back cX9_back 2 (some .int) :: TB) B.pre w9 (List.mem_cons_of_mem _ h)
  have hown : s.vm.findClass RX9 = some m.cls := findClass_of_methodNamed B.named
  have S : CallFix p m c cX9_back 2 s _ TB RX9 := ⟨hx, hb, hml, hown, hT⟩
  subst hsz
  have hD := hD0.self (sz := s.heap.size)
  generalize hAe : va_A (CWS k a st sl) s.heap.size = A at hD ⊢
  have hA : ∀ q : Nat, s.heap.size ≤ q → A q := fun q h => by rw [← hAe]; exact Or.inr h
  have hS : va_S A s.heap s.heap [] := va_S.rf
  have hl := lv_entry ([.ref (a 0), .int p0]) (n := 2) (Nat.le_of_ble_eq_true rfl)
  rw [lg_entry_eq]
  generalize (lg_sl ([.ref (a 0), .int p0]) ++ List.replicate (2 - (lg_sl ([.ref (a 0), .int p0])).length) Slot.unset).toArray = ls at hl ⊢
  have hl : lv_has ls 2 [(0, .ref (a 0)), (1, .int p0)] := hl
  refine nameQ (fun Q hQ => ?_)
  have hX17 := hX.1
  have hX41 := hX.2.1
  have hX64 := hX.2.2.1
  have hX87 := hX.2.2.2
  refine lv_iload_n hx hb dX9_back_0 rfl (lv_at hl 1 rfl) ?_
  refine lv_if_lt (tgt := 9) hx hb dX9_back_1 (by decide) (fun c1 => ?_) (fun c1 => ?_)
  · skip
    have n2 : p0.toInt < (0 : Int32).toInt := (i_lt c1)
    have h3 : Iv (-2147483648) (-1) p0 := lt_l (iv_full p0) n2 (iv_c (by decide) : Iv 0 0 0) (by decide)
    refine lv_bipush (v := (-2)) hx hb dX9_back_9 (by decide) ?_
    rw [hQ]
    exact W.iret (v := (-2)) hx hb hr (fun t ht hW => ⟨⟨(-2), st, rfl, ⟨hB, fr_rf, ⟨(by obtain ⟨y1, y2⟩ := id (h3); unfold r_back; rw [if_neg (by omega)]; skip), ⟨hX17, hX41, hX64, hX87⟩⟩⟩, by rw [ht]; exact hP, va_K.moved hW.alike (hK.sub (tys' := []) [] rfl), by rw [hAe]; exact hD⟩, by rw [hAe]; exact hS.F ht⟩) hS.2.2 dX9_back_11
  · skip
    have n4 : (0 : Int32).toInt ≤ p0.toInt := (i_nlt c1)
    have h5 : Iv 0 2147483647 p0 := le_r (iv_c (by decide) : Iv 0 0 0) n4 (iv_full p0) (by decide)
    refine lv_iload_n hx hb dX9_back_4 rfl (lv_at hl 1 rfl) ?_
    refine lv_iconst (v := 3) hx hb dX9_back_5 (by decide) ?_
    refine lv_icmp_lt (tgt := 12) hx hb dX9_back_6 (by decide) (fun c6 => ?_) (fun c6 => ?_)
    · skip
      have n7 : p0.toInt < (3 : Int32).toInt := (i_lt c6)
      have h8 : Iv 0 2 p0 := lt_l h5 n7 (iv_c (by decide) : Iv 3 3 3) (by decide)
      refine lv_aload_n hx hb dX9_back_12 rfl (lv_at hl 0 rfl) ?_
      refine va_get (D := D) (ci := 9) (v := .ref (a 110)) (C := RX9) (T := TX9) (N := 11) hx hb hT in_X9 hown hK hP 0 cw_0 rfl 4 (by decide) (hT _ t455) (fun _ h9 => h9) rfl dX9_back_13 ?_
      refine lv_iload_n hx hb dX9_back_16 rfl (lv_at hl 1 rfl) ?_
      refine va_zald hx hb hK hP 110 3 cw_110 rfl (iv_in h8 (by decide) (by decide)) dX9_back_17 ?_
      refine lv_topi (fun z9 ez9 => ?_)
      refine lv_if_ne (tgt := 24) hx hb dX9_back_18 (by decide) (fun c10 => ?_) (fun c10 => ?_)
      · skip
        refine lv_aload_n hx hb dX9_back_24 rfl (lv_at hl 0 rfl) ?_
        refine va_get (D := D) (ci := 9) (v := .ref (a 17)) (C := RX9) (T := TX9) (N := 11) hx hb hT in_X9 hown hK hP 0 cw_0 rfl 2 (by decide) (hT _ t453) (fun _ h9 => h9) rfl dX9_back_25 ?_
        refine lv_aload_n hx hb dX9_back_28 rfl (lv_at hl 0 rfl) ?_
        refine va_get (D := D) (ci := 9) (v := .ref (a 40)) (C := RX9) (T := TX9) (N := 11) hx hb hT in_X9 hown hK hP 0 cw_0 rfl 3 (by decide) (hT _ t454) (fun _ h9 => h9) rfl dX9_back_29 ?_
        refine lv_iload_n hx hb dX9_back_32 rfl (lv_at hl 1 rfl) ?_
        rcases iv_ca3 h8 0 1 2 (by decide) (by decide) (by decide) (by decide) with q9 | q9 | q9
        · refine k_top (y := 0) q9 ?_
          have h11 : Iv 0 0 p0 := (by rw [q9]; exact iv_c (by decide))
          have q12 := q9
          refine va_aldq hx hb hK hP 40 4 cw_40 rfl (by unfold vp_in; decide) dX9_back_33 ?_
          refine W.eq (g2 := F0 m 34 ls [.ref (a 41), .ref (a 17)]) rfl ?_
          refine ca_v hP hD hS hA (fun hDc => run_V (mc := 0) (ms := 0) (As := [.ref (a 41)]) (rest := []) S (s_X8_copy_17_41 l D k a st sl   _  hB  hX41) lkX9_413 ok_X8_copy ⟨rfl, rfl, Nat.le_of_ble_eq_true rfl, Nat.le_of_ble_eq_true rfl⟩ (pw_V (ci := 8) (q0 := 17) hK hN rfl cw_17 hP hDc) rfl hl.1 rfl (Nat.le_of_ble_eq_true rfl) ⟨Nat.zero_le _, Nat.zero_le _⟩ dX9_back_34) (fun s13 H9 locs9 hs13 hP9 hD9 hS9 => ?_)
          clear hP hD hS
          have hS := hS9
          have hP := hP9
          have hD := hD9
          clear hP9 hD9 hS9
          obtain ⟨hBs13, gs13, fs13⟩ := hs13
          have hFs13 : FR [18, 19, 20, 21, 22, 23, 24, 26, 27, 28, 29, 30, 32, 33, 34, 35, 36, 17, 37, 38, 39] st s13 := fr_ca fr_rf gs13 (sub_1 (List.mem_of_getElem? (i := 0) rfl) (sub_1 (List.mem_of_getElem? (i := 1) rfl) (sub_1 (List.mem_of_getElem? (i := 2) rfl) (sub_1 (List.mem_of_getElem? (i := 3) rfl) (sub_1 (List.mem_of_getElem? (i := 4) rfl) (sub_1 (List.mem_of_getElem? (i := 5) rfl) (sub_1 (List.mem_of_getElem? (i := 6) rfl) (sub_1 (List.mem_of_getElem? (i := 7) rfl) (sub_1 (List.mem_of_getElem? (i := 8) rfl) (sub_1 (List.mem_of_getElem? (i := 9) rfl) (sub_1 (List.mem_of_getElem? (i := 10) rfl) (sub_1 (List.mem_of_getElem? (i := 11) rfl) (sub_1 (List.mem_of_getElem? (i := 12) rfl) (sub_1 (List.mem_of_getElem? (i := 13) rfl) (sub_1 (List.mem_of_getElem? (i := 14) rfl) (sub_1 (List.mem_of_getElem? (i := 15) rfl) (sub_1 (List.mem_of_getElem? (i := 16) rfl) (sub_1 (List.mem_of_getElem? (i := 17) rfl) (sub_1 (List.mem_of_getElem? (i := 18) rfl) (sub_1 (List.mem_of_getElem? (i := 19) rfl) (sub_1 (List.mem_of_getElem? (i := 20) rfl) sub_0)))))))))))))))))))))
          have k15 := fs13
          refine lv_iconst (v := 0) hx hb dX9_back_37 (by decide) ?_
          rw [hQ]
          exact W.iret (v := 0) hx hb hr (fun t ht hW => ⟨⟨0, s13, rfl, ⟨hBs13, hFs13, ⟨(by obtain ⟨y1, y2⟩ := id (h11); unfold r_back; rw [if_pos ⟨by omega, by omega⟩]; rw [← ez9]; rw [if_neg c10]), ⟨k15, (wi_fr hX41 (congrFun (hFs13 41 (nm_1 (by decide) (nm_1 (by decide) (nm_1 (by decide) (nm_1 (by decide) (nm_1 (by decide) (nm_1 (by decide) (nm_1 (by decide) (nm_1 (by decide) (nm_1 (by decide) (nm_1 (by decide) (nm_1 (by decide) (nm_1 (by decide) (nm_1 (by decide) (nm_1 (by decide) (nm_1 (by decide) (nm_1 (by decide) (nm_1 (by decide) (nm_1 (by decide) (nm_1 (by decide) (nm_1 (by decide) (nm_1 (by decide) nm_0)))))))))))))))))))))) 2) (hFs13 61 (nm_1 (by decide) (nm_1 (by decide) (nm_1 (by decide) (nm_1 (by decide) (nm_1 (by decide) (nm_1 (by decide) (nm_1 (by decide) (nm_1 (by decide) (nm_1 (by decide) (nm_1 (by decide) (nm_1 (by decide) (nm_1 (by decide) (nm_1 (by decide) (nm_1 (by decide) (nm_1 (by decide) (nm_1 (by decide) (nm_1 (by decide) (nm_1 (by decide) (nm_1 (by decide) (nm_1 (by decide) (nm_1 (by decide) nm_0)))))))))))))))))))))) (hFs13 62 (nm_1 (by decide) (nm_1 (by decide) (nm_1 (by decide) (nm_1 (by decide) (nm_1 (by decide) (nm_1 (by decide) (nm_1 (by decide) (nm_1 (by decide) (nm_1 (by decide) (nm_1 (by decide) (nm_1 (by decide) (nm_1 (by decide) (nm_1 (by decide) (nm_1 (by decide) (nm_1 (by decide) (nm_1 (by decide) (nm_1 (by decide) (nm_1 (by decide) (nm_1 (by decide) (nm_1 (by decide) (nm_1 (by decide) nm_0)))))))))))))))))))))) (hFs13 63 (nm_1 (by decide) (nm_1 (by decide) (nm_1 (by decide) (nm_1 (by decide) (nm_1 (by decide) (nm_1 (by decide) (nm_1 (by decide) (nm_1 (by decide) (nm_1 (by decide) (nm_1 (by decide) (nm_1 (by decide) (nm_1 (by decide) (nm_1 (by decide) (nm_1 (by decide) (nm_1 (by decide) (nm_1 (by decide) (nm_1 (by decide) (nm_1 (by decide) (nm_1 (by decide) (nm_1 (by decide) (nm_1 (by decide) nm_0))))))))))))))))))))))), (wi_fr hX64 (congrFun (hFs13 64 (nm_1 (by decide) (nm_1 (by decide) (nm_1 (by decide) (nm_1 (by decide) (nm_1 (by decide) (nm_1 (by decide) (nm_1 (by decide) (nm_1 (by decide) (nm_1 (by decide) (nm_1 (by decide) (nm_1 (by decide) (nm_1 (by decide) (nm_1 (by decide) (nm_1 (by decide) (nm_1 (by decide) (nm_1 (by decide) (nm_1 (by decide) (nm_1 (by decide) (nm_1 (by decide) (nm_1 (by decide) (nm_1 (by decide) nm_0)))))))))))))))))))))) 2) (hFs13 84 (nm_1 (by decide) (nm_1 (by decide) (nm_1 (by decide) (nm_1 (by decide) (nm_1 (by decide) (nm_1 (by decide) (nm_1 (by decide) (nm_1 (by decide) (nm_1 (by decide) (nm_1 (by decide) (nm_1 (by decide) (nm_1 (by decide) (nm_1 (by decide) (nm_1 (by decide) (nm_1 (by decide) (nm_1 (by decide) (nm_1 (by decide) (nm_1 (by decide) (nm_1 (by decide) (nm_1 (by decide) (nm_1 (by decide) nm_0)))))))))))))))))))))) (hFs13 85 (nm_1 (by decide) (nm_1 (by decide) (nm_1 (by decide) (nm_1 (by decide) (nm_1 (by decide) (nm_1 (by decide) (nm_1 (by decide) (nm_1 (by decide) (nm_1 (by decide) (nm_1 (by decide) (nm_1 (by decide) (nm_1 (by decide) (nm_1 (by decide) (nm_1 (by decide) (nm_1 (by decide) (nm_1 (by decide) (nm_1 (by decide) (nm_1 (by decide) (nm_1 (by decide) (nm_1 (by decide) (nm_1 (by decide) nm_0)))))))))))))))))))))) (hFs13 86 (nm_1 (by decide) (nm_1 (by decide) (nm_1 (by decide) (nm_1 (by decide) (nm_1 (by decide) (nm_1 (by decide) (nm_1 (by decide) (nm_1 (by decide) (nm_1 (by decide) (nm_1 (by decide) (nm_1 (by decide) (nm_1 (by decide) (nm_1 (by decide) (nm_1 (by decide) (nm_1 (by decide) (nm_1 (by decide) (nm_1 (by decide) (nm_1 (by decide) (nm_1 (by decide) (nm_1 (by decide) (nm_1 (by decide) nm_0))))))))))))))))))))))), (wi_fr hX87 (congrFun (hFs13 87 (nm_1 (by decide) (nm_1 (by decide) (nm_1 (by decide) (nm_1 (by decide) (nm_1 (by decide) (nm_1 (by decide) (nm_1 (by decide) (nm_1 (by decide) (nm_1 (by decide) (nm_1 (by decide) (nm_1 (by decide) (nm_1 (by decide) (nm_1 (by decide) (nm_1 (by decide) (nm_1 (by decide) (nm_1 (by decide) (nm_1 (by decide) (nm_1 (by decide) (nm_1 (by decide) (nm_1 (by decide) (nm_1 (by decide) nm_0)))))))))))))))))))))) 2) (hFs13 107 (nm_1 (by decide) (nm_1 (by decide) (nm_1 (by decide) (nm_1 (by decide) (nm_1 (by decide) (nm_1 (by decide) (nm_1 (by decide) (nm_1 (by decide) (nm_1 (by decide) (nm_1 (by decide) (nm_1 (by decide) (nm_1 (by decide) (nm_1 (by decide) (nm_1 (by decide) (nm_1 (by decide) (nm_1 (by decide) (nm_1 (by decide) (nm_1 (by decide) (nm_1 (by decide) (nm_1 (by decide) (nm_1 (by decide) nm_0)))))))))))))))))))))) (hFs13 108 (nm_1 (by decide) (nm_1 (by decide) (nm_1 (by decide) (nm_1 (by decide) (nm_1 (by decide) (nm_1 (by decide) (nm_1 (by decide) (nm_1 (by decide) (nm_1 (by decide) (nm_1 (by decide) (nm_1 (by decide) (nm_1 (by decide) (nm_1 (by decide) (nm_1 (by decide) (nm_1 (by decide) (nm_1 (by decide) (nm_1 (by decide) (nm_1 (by decide) (nm_1 (by decide) (nm_1 (by decide) (nm_1 (by decide) nm_0)))))))))))))))))))))) (hFs13 109 (nm_1 (by decide) (nm_1 (by decide) (nm_1 (by decide) (nm_1 (by decide) (nm_1 (by decide) (nm_1 (by decide) (nm_1 (by decide) (nm_1 (by decide) (nm_1 (by decide) (nm_1 (by decide) (nm_1 (by decide) (nm_1 (by decide) (nm_1 (by decide) (nm_1 (by decide) (nm_1 (by decide) (nm_1 (by decide) (nm_1 (by decide) (nm_1 (by decide) (nm_1 (by decide) (nm_1 (by decide) (nm_1 (by decide) nm_0)))))))))))))))))))))))⟩⟩⟩, by rw [ht]; exact hP, va_K.moved hW.alike (hK.sub (tys' := []) [] rfl), by rw [hAe]; exact hD⟩, by rw [hAe]; exact hS.F ht⟩) hS.2.2 dX9_back_38
        · refine k_top (y := 1) q9 ?_
          have h16 : Iv 1 1 p0 := (by rw [q9]; exact iv_c (by decide))
          have q17 := q9
          refine va_aldq hx hb hK hP 40 4 cw_40 rfl (by unfold vp_in; decide) dX9_back_33 ?_
          refine W.eq (g2 := F0 m 34 ls [.ref (a 64), .ref (a 17)]) rfl ?_
          refine ca_v hP hD hS hA (fun hDc => run_V (mc := 0) (ms := 0) (As := [.ref (a 64)]) (rest := []) S (s_X8_copy_17_64 l D k a st sl   _  hB  hX64) lkX9_413 ok_X8_copy ⟨rfl, rfl, Nat.le_of_ble_eq_true rfl, Nat.le_of_ble_eq_true rfl⟩ (pw_V (ci := 8) (q0 := 17) hK hN rfl cw_17 hP hDc) rfl hl.1 rfl (Nat.le_of_ble_eq_true rfl) ⟨Nat.zero_le _, Nat.zero_le _⟩ dX9_back_34) (fun s18 H9 locs9 hs18 hP9 hD9 hS9 => ?_)
          clear hP hD hS
          have hS := hS9
          have hP := hP9
          have hD := hD9
          clear hP9 hD9 hS9
          obtain ⟨hBs18, gs18, fs18⟩ := hs18
          have hFs18 : FR [18, 19, 20, 21, 22, 23, 24, 26, 27, 28, 29, 30, 32, 33, 34, 35, 36, 17, 37, 38, 39] st s18 := fr_ca fr_rf gs18 (sub_1 (List.mem_of_getElem? (i := 0) rfl) (sub_1 (List.mem_of_getElem? (i := 1) rfl) (sub_1 (List.mem_of_getElem? (i := 2) rfl) (sub_1 (List.mem_of_getElem? (i := 3) rfl) (sub_1 (List.mem_of_getElem? (i := 4) rfl) (sub_1 (List.mem_of_getElem? (i := 5) rfl) (sub_1 (List.mem_of_getElem? (i := 6) rfl) (sub_1 (List.mem_of_getElem? (i := 7) rfl) (sub_1 (List.mem_of_getElem? (i := 8) rfl) (sub_1 (List.mem_of_getElem? (i := 9) rfl) (sub_1 (List.mem_of_getElem? (i := 10) rfl) (sub_1 (List.mem_of_getElem? (i := 11) rfl) (sub_1 (List.mem_of_getElem? (i := 12) rfl) (sub_1 (List.mem_of_getElem? (i := 13) rfl) (sub_1 (List.mem_of_getElem? (i := 14) rfl) (sub_1 (List.mem_of_getElem? (i := 15) rfl) (sub_1 (List.mem_of_getElem? (i := 16) rfl) (sub_1 (List.mem_of_getElem? (i := 17) rfl) (sub_1 (List.mem_of_getElem? (i := 18) rfl) (sub_1 (List.mem_of_getElem? (i := 19) rfl) (sub_1 (List.mem_of_getElem? (i := 20) rfl) sub_0)))))))))))))))))))))
          have k20 := fs18
          refine lv_iconst (v := 0) hx hb dX9_back_37 (by decide) ?_
          rw [hQ]
          exact W.iret (v := 0) hx hb hr (fun t ht hW => ⟨⟨0, s18, rfl, ⟨hBs18, hFs18, ⟨(by obtain ⟨y1, y2⟩ := id (h16); unfold r_back; rw [if_pos ⟨by omega, by omega⟩]; rw [← ez9]; rw [if_neg c10]), ⟨k20, (wi_fr hX41 (congrFun (hFs18 41 (nm_1 (by decide) (nm_1 (by decide) (nm_1 (by decide) (nm_1 (by decide) (nm_1 (by decide) (nm_1 (by decide) (nm_1 (by decide) (nm_1 (by decide) (nm_1 (by decide) (nm_1 (by decide) (nm_1 (by decide) (nm_1 (by decide) (nm_1 (by decide) (nm_1 (by decide) (nm_1 (by decide) (nm_1 (by decide) (nm_1 (by decide) (nm_1 (by decide) (nm_1 (by decide) (nm_1 (by decide) (nm_1 (by decide) nm_0)))))))))))))))))))))) 2) (hFs18 61 (nm_1 (by decide) (nm_1 (by decide) (nm_1 (by decide) (nm_1 (by decide) (nm_1 (by decide) (nm_1 (by decide) (nm_1 (by decide) (nm_1 (by decide) (nm_1 (by decide) (nm_1 (by decide) (nm_1 (by decide) (nm_1 (by decide) (nm_1 (by decide) (nm_1 (by decide) (nm_1 (by decide) (nm_1 (by decide) (nm_1 (by decide) (nm_1 (by decide) (nm_1 (by decide) (nm_1 (by decide) (nm_1 (by decide) nm_0)))))))))))))))))))))) (hFs18 62 (nm_1 (by decide) (nm_1 (by decide) (nm_1 (by decide) (nm_1 (by decide) (nm_1 (by decide) (nm_1 (by decide) (nm_1 (by decide) (nm_1 (by decide) (nm_1 (by decide) (nm_1 (by decide) (nm_1 (by decide) (nm_1 (by decide) (nm_1 (by decide) (nm_1 (by decide) (nm_1 (by decide) (nm_1 (by decide) (nm_1 (by decide) (nm_1 (by decide) (nm_1 (by decide) (nm_1 (by decide) (nm_1 (by decide) nm_0)))))))))))))))))))))) (hFs18 63 (nm_1 (by decide) (nm_1 (by decide) (nm_1 (by decide) (nm_1 (by decide) (nm_1 (by decide) (nm_1 (by decide) (nm_1 (by decide) (nm_1 (by decide) (nm_1 (by decide) (nm_1 (by decide) (nm_1 (by decide) (nm_1 (by decide) (nm_1 (by decide) (nm_1 (by decide) (nm_1 (by decide) (nm_1 (by decide) (nm_1 (by decide) (nm_1 (by decide) (nm_1 (by decide) (nm_1 (by decide) (nm_1 (by decide) nm_0))))))))))))))))))))))), (wi_fr hX64 (congrFun (hFs18 64 (nm_1 (by decide) (nm_1 (by decide) (nm_1 (by decide) (nm_1 (by decide) (nm_1 (by decide) (nm_1 (by decide) (nm_1 (by decide) (nm_1 (by decide) (nm_1 (by decide) (nm_1 (by decide) (nm_1 (by decide) (nm_1 (by decide) (nm_1 (by decide) (nm_1 (by decide) (nm_1 (by decide) (nm_1 (by decide) (nm_1 (by decide) (nm_1 (by decide) (nm_1 (by decide) (nm_1 (by decide) (nm_1 (by decide) nm_0)))))))))))))))))))))) 2) (hFs18 84 (nm_1 (by decide) (nm_1 (by decide) (nm_1 (by decide) (nm_1 (by decide) (nm_1 (by decide) (nm_1 (by decide) (nm_1 (by decide) (nm_1 (by decide) (nm_1 (by decide) (nm_1 (by decide) (nm_1 (by decide) (nm_1 (by decide) (nm_1 (by decide) (nm_1 (by decide) (nm_1 (by decide) (nm_1 (by decide) (nm_1 (by decide) (nm_1 (by decide) (nm_1 (by decide) (nm_1 (by decide) (nm_1 (by decide) nm_0)))))))))))))))))))))) (hFs18 85 (nm_1 (by decide) (nm_1 (by decide) (nm_1 (by decide) (nm_1 (by decide) (nm_1 (by decide) (nm_1 (by decide) (nm_1 (by decide) (nm_1 (by decide) (nm_1 (by decide) (nm_1 (by decide) (nm_1 (by decide) (nm_1 (by decide) (nm_1 (by decide) (nm_1 (by decide) (nm_1 (by decide) (nm_1 (by decide) (nm_1 (by decide) (nm_1 (by decide) (nm_1 (by decide) (nm_1 (by decide) (nm_1 (by decide) nm_0)))))))))))))))))))))) (hFs18 86 (nm_1 (by decide) (nm_1 (by decide) (nm_1 (by decide) (nm_1 (by decide) (nm_1 (by decide) (nm_1 (by decide) (nm_1 (by decide) (nm_1 (by decide) (nm_1 (by decide) (nm_1 (by decide) (nm_1 (by decide) (nm_1 (by decide) (nm_1 (by decide) (nm_1 (by decide) (nm_1 (by decide) (nm_1 (by decide) (nm_1 (by decide) (nm_1 (by decide) (nm_1 (by decide) (nm_1 (by decide) (nm_1 (by decide) nm_0))))))))))))))))))))))), (wi_fr hX87 (congrFun (hFs18 87 (nm_1 (by decide) (nm_1 (by decide) (nm_1 (by decide) (nm_1 (by decide) (nm_1 (by decide) (nm_1 (by decide) (nm_1 (by decide) (nm_1 (by decide) (nm_1 (by decide) (nm_1 (by decide) (nm_1 (by decide) (nm_1 (by decide) (nm_1 (by decide) (nm_1 (by decide) (nm_1 (by decide) (nm_1 (by decide) (nm_1 (by decide) (nm_1 (by decide) (nm_1 (by decide) (nm_1 (by decide) (nm_1 (by decide) nm_0)))))))))))))))))))))) 2) (hFs18 107 (nm_1 (by decide) (nm_1 (by decide) (nm_1 (by decide) (nm_1 (by decide) (nm_1 (by decide) (nm_1 (by decide) (nm_1 (by decide) (nm_1 (by decide) (nm_1 (by decide) (nm_1 (by decide) (nm_1 (by decide) (nm_1 (by decide) (nm_1 (by decide) (nm_1 (by decide) (nm_1 (by decide) (nm_1 (by decide) (nm_1 (by decide) (nm_1 (by decide) (nm_1 (by decide) (nm_1 (by decide) (nm_1 (by decide) nm_0)))))))))))))))))))))) (hFs18 108 (nm_1 (by decide) (nm_1 (by decide) (nm_1 (by decide) (nm_1 (by decide) (nm_1 (by decide) (nm_1 (by decide) (nm_1 (by decide) (nm_1 (by decide) (nm_1 (by decide) (nm_1 (by decide) (nm_1 (by decide) (nm_1 (by decide) (nm_1 (by decide) (nm_1 (by decide) (nm_1 (by decide) (nm_1 (by decide) (nm_1 (by decide) (nm_1 (by decide) (nm_1 (by decide) (nm_1 (by decide) (nm_1 (by decide) nm_0)))))))))))))))))))))) (hFs18 109 (nm_1 (by decide) (nm_1 (by decide) (nm_1 (by decide) (nm_1 (by decide) (nm_1 (by decide) (nm_1 (by decide) (nm_1 (by decide) (nm_1 (by decide) (nm_1 (by decide) (nm_1 (by decide) (nm_1 (by decide) (nm_1 (by decide) (nm_1 (by decide) (nm_1 (by decide) (nm_1 (by decide) (nm_1 (by decide) (nm_1 (by decide) (nm_1 (by decide) (nm_1 (by decide) (nm_1 (by decide) (nm_1 (by decide) nm_0)))))))))))))))))))))))⟩⟩⟩, by rw [ht]; exact hP, va_K.moved hW.alike (hK.sub (tys' := []) [] rfl), by rw [hAe]; exact hD⟩, by rw [hAe]; exact hS.F ht⟩) hS.2.2 dX9_back_38
        · refine k_top (y := 2) q9 ?_
          have h21 : Iv 2 2 p0 := (by rw [q9]; exact iv_c (by decide))
          have q22 := q9
          refine va_aldq hx hb hK hP 40 4 cw_40 rfl (by unfold vp_in; decide) dX9_back_33 ?_
          refine W.eq (g2 := F0 m 34 ls [.ref (a 87), .ref (a 17)]) rfl ?_
          refine ca_v hP hD hS hA (fun hDc => run_V (mc := 0) (ms := 0) (As := [.ref (a 87)]) (rest := []) S (s_X8_copy_17_87 l D k a st sl   _  hB  hX87) lkX9_413 ok_X8_copy ⟨rfl, rfl, Nat.le_of_ble_eq_true rfl, Nat.le_of_ble_eq_true rfl⟩ (pw_V (ci := 8) (q0 := 17) hK hN rfl cw_17 hP hDc) rfl hl.1 rfl (Nat.le_of_ble_eq_true rfl) ⟨Nat.zero_le _, Nat.zero_le _⟩ dX9_back_34) (fun s23 H9 locs9 hs23 hP9 hD9 hS9 => ?_)
          clear hP hD hS
          have hS := hS9
          have hP := hP9
          have hD := hD9
          clear hP9 hD9 hS9
          obtain ⟨hBs23, gs23, fs23⟩ := hs23
          have hFs23 : FR [18, 19, 20, 21, 22, 23, 24, 26, 27, 28, 29, 30, 32, 33, 34, 35, 36, 17, 37, 38, 39] st s23 := fr_ca fr_rf gs23 (sub_1 (List.mem_of_getElem? (i := 0) rfl) (sub_1 (List.mem_of_getElem? (i := 1) rfl) (sub_1 (List.mem_of_getElem? (i := 2) rfl) (sub_1 (List.mem_of_getElem? (i := 3) rfl) (sub_1 (List.mem_of_getElem? (i := 4) rfl) (sub_1 (List.mem_of_getElem? (i := 5) rfl) (sub_1 (List.mem_of_getElem? (i := 6) rfl) (sub_1 (List.mem_of_getElem? (i := 7) rfl) (sub_1 (List.mem_of_getElem? (i := 8) rfl) (sub_1 (List.mem_of_getElem? (i := 9) rfl) (sub_1 (List.mem_of_getElem? (i := 10) rfl) (sub_1 (List.mem_of_getElem? (i := 11) rfl) (sub_1 (List.mem_of_getElem? (i := 12) rfl) (sub_1 (List.mem_of_getElem? (i := 13) rfl) (sub_1 (List.mem_of_getElem? (i := 14) rfl) (sub_1 (List.mem_of_getElem? (i := 15) rfl) (sub_1 (List.mem_of_getElem? (i := 16) rfl) (sub_1 (List.mem_of_getElem? (i := 17) rfl) (sub_1 (List.mem_of_getElem? (i := 18) rfl) (sub_1 (List.mem_of_getElem? (i := 19) rfl) (sub_1 (List.mem_of_getElem? (i := 20) rfl) sub_0)))))))))))))))))))))
          have k25 := fs23
          refine lv_iconst (v := 0) hx hb dX9_back_37 (by decide) ?_
          rw [hQ]
          exact W.iret (v := 0) hx hb hr (fun t ht hW => ⟨⟨0, s23, rfl, ⟨hBs23, hFs23, ⟨(by obtain ⟨y1, y2⟩ := id (h21); unfold r_back; rw [if_pos ⟨by omega, by omega⟩]; rw [← ez9]; rw [if_neg c10]), ⟨k25, (wi_fr hX41 (congrFun (hFs23 41 (nm_1 (by decide) (nm_1 (by decide) (nm_1 (by decide) (nm_1 (by decide) (nm_1 (by decide) (nm_1 (by decide) (nm_1 (by decide) (nm_1 (by decide) (nm_1 (by decide) (nm_1 (by decide) (nm_1 (by decide) (nm_1 (by decide) (nm_1 (by decide) (nm_1 (by decide) (nm_1 (by decide) (nm_1 (by decide) (nm_1 (by decide) (nm_1 (by decide) (nm_1 (by decide) (nm_1 (by decide) (nm_1 (by decide) nm_0)))))))))))))))))))))) 2) (hFs23 61 (nm_1 (by decide) (nm_1 (by decide) (nm_1 (by decide) (nm_1 (by decide) (nm_1 (by decide) (nm_1 (by decide) (nm_1 (by decide) (nm_1 (by decide) (nm_1 (by decide) (nm_1 (by decide) (nm_1 (by decide) (nm_1 (by decide) (nm_1 (by decide) (nm_1 (by decide) (nm_1 (by decide) (nm_1 (by decide) (nm_1 (by decide) (nm_1 (by decide) (nm_1 (by decide) (nm_1 (by decide) (nm_1 (by decide) nm_0)))))))))))))))))))))) (hFs23 62 (nm_1 (by decide) (nm_1 (by decide) (nm_1 (by decide) (nm_1 (by decide) (nm_1 (by decide) (nm_1 (by decide) (nm_1 (by decide) (nm_1 (by decide) (nm_1 (by decide) (nm_1 (by decide) (nm_1 (by decide) (nm_1 (by decide) (nm_1 (by decide) (nm_1 (by decide) (nm_1 (by decide) (nm_1 (by decide) (nm_1 (by decide) (nm_1 (by decide) (nm_1 (by decide) (nm_1 (by decide) (nm_1 (by decide) nm_0)))))))))))))))))))))) (hFs23 63 (nm_1 (by decide) (nm_1 (by decide) (nm_1 (by decide) (nm_1 (by decide) (nm_1 (by decide) (nm_1 (by decide) (nm_1 (by decide) (nm_1 (by decide) (nm_1 (by decide) (nm_1 (by decide) (nm_1 (by decide) (nm_1 (by decide) (nm_1 (by decide) (nm_1 (by decide) (nm_1 (by decide) (nm_1 (by decide) (nm_1 (by decide) (nm_1 (by decide) (nm_1 (by decide) (nm_1 (by decide) (nm_1 (by decide) nm_0))))))))))))))))))))))), (wi_fr hX64 (congrFun (hFs23 64 (nm_1 (by decide) (nm_1 (by decide) (nm_1 (by decide) (nm_1 (by decide) (nm_1 (by decide) (nm_1 (by decide) (nm_1 (by decide) (nm_1 (by decide) (nm_1 (by decide) (nm_1 (by decide) (nm_1 (by decide) (nm_1 (by decide) (nm_1 (by decide) (nm_1 (by decide) (nm_1 (by decide) (nm_1 (by decide) (nm_1 (by decide) (nm_1 (by decide) (nm_1 (by decide) (nm_1 (by decide) (nm_1 (by decide) nm_0)))))))))))))))))))))) 2) (hFs23 84 (nm_1 (by decide) (nm_1 (by decide) (nm_1 (by decide) (nm_1 (by decide) (nm_1 (by decide) (nm_1 (by decide) (nm_1 (by decide) (nm_1 (by decide) (nm_1 (by decide) (nm_1 (by decide) (nm_1 (by decide) (nm_1 (by decide) (nm_1 (by decide) (nm_1 (by decide) (nm_1 (by decide) (nm_1 (by decide) (nm_1 (by decide) (nm_1 (by decide) (nm_1 (by decide) (nm_1 (by decide) (nm_1 (by decide) nm_0)))))))))))))))))))))) (hFs23 85 (nm_1 (by decide) (nm_1 (by decide) (nm_1 (by decide) (nm_1 (by decide) (nm_1 (by decide) (nm_1 (by decide) (nm_1 (by decide) (nm_1 (by decide) (nm_1 (by decide) (nm_1 (by decide) (nm_1 (by decide) (nm_1 (by decide) (nm_1 (by decide) (nm_1 (by decide) (nm_1 (by decide) (nm_1 (by decide) (nm_1 (by decide) (nm_1 (by decide) (nm_1 (by decide) (nm_1 (by decide) (nm_1 (by decide) nm_0)))))))))))))))))))))) (hFs23 86 (nm_1 (by decide) (nm_1 (by decide) (nm_1 (by decide) (nm_1 (by decide) (nm_1 (by decide) (nm_1 (by decide) (nm_1 (by decide) (nm_1 (by decide) (nm_1 (by decide) (nm_1 (by decide) (nm_1 (by decide) (nm_1 (by decide) (nm_1 (by decide) (nm_1 (by decide) (nm_1 (by decide) (nm_1 (by decide) (nm_1 (by decide) (nm_1 (by decide) (nm_1 (by decide) (nm_1 (by decide) (nm_1 (by decide) nm_0))))))))))))))))))))))), (wi_fr hX87 (congrFun (hFs23 87 (nm_1 (by decide) (nm_1 (by decide) (nm_1 (by decide) (nm_1 (by decide) (nm_1 (by decide) (nm_1 (by decide) (nm_1 (by decide) (nm_1 (by decide) (nm_1 (by decide) (nm_1 (by decide) (nm_1 (by decide) (nm_1 (by decide) (nm_1 (by decide) (nm_1 (by decide) (nm_1 (by decide) (nm_1 (by decide) (nm_1 (by decide) (nm_1 (by decide) (nm_1 (by decide) (nm_1 (by decide) (nm_1 (by decide) nm_0)))))))))))))))))))))) 2) (hFs23 107 (nm_1 (by decide) (nm_1 (by decide) (nm_1 (by decide) (nm_1 (by decide) (nm_1 (by decide) (nm_1 (by decide) (nm_1 (by decide) (nm_1 (by decide) (nm_1 (by decide) (nm_1 (by decide) (nm_1 (by decide) (nm_1 (by decide) (nm_1 (by decide) (nm_1 (by decide) (nm_1 (by decide) (nm_1 (by decide) (nm_1 (by decide) (nm_1 (by decide) (nm_1 (by decide) (nm_1 (by decide) (nm_1 (by decide) nm_0)))))))))))))))))))))) (hFs23 108 (nm_1 (by decide) (nm_1 (by decide) (nm_1 (by decide) (nm_1 (by decide) (nm_1 (by decide) (nm_1 (by decide) (nm_1 (by decide) (nm_1 (by decide) (nm_1 (by decide) (nm_1 (by decide) (nm_1 (by decide) (nm_1 (by decide) (nm_1 (by decide) (nm_1 (by decide) (nm_1 (by decide) (nm_1 (by decide) (nm_1 (by decide) (nm_1 (by decide) (nm_1 (by decide) (nm_1 (by decide) (nm_1 (by decide) nm_0)))))))))))))))))))))) (hFs23 109 (nm_1 (by decide) (nm_1 (by decide) (nm_1 (by decide) (nm_1 (by decide) (nm_1 (by decide) (nm_1 (by decide) (nm_1 (by decide) (nm_1 (by decide) (nm_1 (by decide) (nm_1 (by decide) (nm_1 (by decide) (nm_1 (by decide) (nm_1 (by decide) (nm_1 (by decide) (nm_1 (by decide) (nm_1 (by decide) (nm_1 (by decide) (nm_1 (by decide) (nm_1 (by decide) (nm_1 (by decide) (nm_1 (by decide) nm_0)))))))))))))))))))))))⟩⟩⟩, by rw [ht]; exact hP, va_K.moved hW.alike (hK.sub (tys' := []) [] rfl), by rw [hAe]; exact hD⟩, by rw [hAe]; exact hS.F ht⟩) hS.2.2 dX9_back_38
      · skip
        have h26 : Iv 0 0 z9 := eq_l c10 (iv_c (by decide) : Iv 0 0 0)
        refine lv_bipush (v := (-6)) hx hb dX9_back_21 (by decide) ?_
        rw [hQ]
        exact W.iret (v := (-6)) hx hb hr (fun t ht hW => ⟨⟨(-6), st, rfl, ⟨hB, fr_rf, ⟨(by obtain ⟨y1, y2⟩ := id (h8); unfold r_back; rw [if_pos ⟨by omega, by omega⟩]; rw [← ez9]; rw [if_pos c10]), ⟨hX17, hX41, hX64, hX87⟩⟩⟩, by rw [ht]; exact hP, va_K.moved hW.alike (hK.sub (tys' := []) [] rfl), by rw [hAe]; exact hD⟩, by rw [hAe]; exact hS.F ht⟩) hS.2.2 dX9_back_23
    · skip
      have n27 : (3 : Int32).toInt ≤ p0.toInt := (i_nlt c6)
      have h28 : Iv 3 2147483647 p0 := le_r (iv_c (by decide) : Iv 3 3 3) n27 h5 (by decide)
      refine lv_bipush (v := (-2)) hx hb dX9_back_9 (by decide) ?_
      rw [hQ]
      exact W.iret (v := (-2)) hx hb hr (fun t ht hW => ⟨⟨(-2), st, rfl, ⟨hB, fr_rf, ⟨(by obtain ⟨y1, y2⟩ := id (h28); unfold r_back; rw [if_neg (by omega)]; skip), ⟨hX17, hX41, hX64, hX87⟩⟩⟩, by rw [ht]; exact hP, va_K.moved hW.alike (hK.sub (tys' := []) [] rfl), by rw [hAe]; exact hD⟩, by rw [hAe]; exact hS.F ht⟩) hS.2.2 dX9_back_11
set_option maxHeartbeats 4000000 in
set_option maxRecDepth 100000 in
theorem s_X9_row (l : Launch) (D : va_G) (k : Nat → ClassId) (a : Nat → Nat) (st : CT) (sl : CL) (p0 : Int32) (p1 : Int32) (p2 : Int32) (sz : Nat) (hB : CB st)  : Met l yX9_row (.code yX9_row cX9_row 4 (some .int) :: TB) (rmw 3 0 0) (va_Pc [.ref (a 0), .int p0, .int p1, .int p2] (PW D k sz (CWS k a st sl))) (QI D (S := CT × CL) (fun r u => CB u.1 ∧ FR [112, 113] st u.1 ∧ ((r = r_row p0 p1 p2 ∧ u.1 112 = k_row (st 112) p0 p1 p2 p1 ∧ u.1 113 = k_row (st 113) p0 p1 p2 p2))) (fun u => CWS k a u.1 u.2) (fun _ => []) (CWS k a st sl) sz) 0 0 (va_A (CWS k a st sl) sz) := by
  refine Met.ofW (cc := cX9_row) (maxL := 4) (ret := (some .int)) (by decide) rfl ?_
  intro p e s m args below meth c s₁ B hml hv
  obtain ⟨rfl, hsz, hP, hK, hD0, hN⟩ := hv
  have hx := B.exec
  have hb := B.bytes
  have hr := B.returns
  have hT : ∀ w9 ∈ TB, w9.before ([.ref (a 0), .int p0, .int p1, .int p2] : List Value).toArray s = true := fun w9 h => atoms_spec (ws := .code yX9_row cX9_row 4 (some .int) :: TB) B.pre w9 (List.mem_cons_of_mem _ h)
  have hown : s.vm.findClass RX9 = some m.cls := findClass_of_methodNamed B.named
  have S : CallFix p m c cX9_row 4 s _ TB RX9 := ⟨hx, hb, hml, hown, hT⟩
  subst hsz
  have hD := hD0.self (sz := s.heap.size)
  generalize hAe : va_A (CWS k a st sl) s.heap.size = A at hD ⊢
  have hA : ∀ q : Nat, s.heap.size ≤ q → A q := fun q h => by rw [← hAe]; exact Or.inr h
  have hS : va_S A s.heap s.heap [] := va_S.rf
  have hl := lv_entry ([.ref (a 0), .int p0, .int p1, .int p2]) (n := 4) (Nat.le_of_ble_eq_true rfl)
  rw [lg_entry_eq]
  generalize (lg_sl ([.ref (a 0), .int p0, .int p1, .int p2]) ++ List.replicate (4 - (lg_sl ([.ref (a 0), .int p0, .int p1, .int p2])).length) Slot.unset).toArray = ls at hl ⊢
  have hl : lv_has ls 4 [(0, .ref (a 0)), (1, .int p0), (2, .int p1), (3, .int p2)] := hl
  refine nameQ (fun Q hQ => ?_)
  refine lv_aload_n hx hb dX9_row_0 rfl (lv_at hl 0 rfl) ?_
  refine va_get (D := D) (ci := 9) (v := .ref (a 111)) (C := RX9) (T := TX9) (N := 11) hx hb hT in_X9 hown hK hP 0 cw_0 rfl 5 (by decide) (hT _ t456) (fun _ h9 => h9) rfl dX9_row_1 ?_
  refine lv_iload_n hx hb dX9_row_4 rfl (lv_at hl 1 rfl) ?_
  refine ro_V (As := [.int p0]) (rest := []) S (s_X4_isSlot l D k a st sl  p0 _  hB  ) lkX9_238 ok_X4_isSlot ⟨rfl, rfl, Nat.le_of_ble_eq_true rfl, Nat.le_of_ble_eq_true rfl⟩ (pw_V (ci := 4) (q0 := 111) hK hN rfl cw_111 hP (hD.weaken (fun _ _ _ _ => trivial))) rfl hl.1 rfl (Nat.le_of_ble_eq_true rfl) ⟨Nat.zero_le _, Nat.zero_le _⟩ dX9_row_5 (fun r1 er1 => ?_)
  rcases er1 with ⟨rfl, g9⟩ | ⟨rfl, g9⟩
  · skip
    have g2 := g9
    have h3 : Iv 0 3 p0 := g2.1
    refine lv_if_eq (tgt := 24) hx hb dX9_row_8 (by decide) (fun c4 => ?_) (fun c4 => ?_)
    · first | exact absurd c4 (by decide) | exact absurd (by decide) c4
    refine lv_iload_n hx hb dX9_row_11 rfl (lv_at hl 2 rfl) ?_
    refine ro_SX (As := [.int p1]) (rest := []) S (s_X4_isWidth l D k a st sl  p1 _  hB  ) (gdC t1229) t1227 t1228 t111 ok_X4_isWidth ⟨rfl, rfl, Nat.le_of_ble_eq_true rfl, Nat.le_of_ble_eq_true rfl⟩ (pw_S hK hN hP (hD.weaken (fun _ _ _ _ => trivial))) rfl hl.1 rfl (Nat.le_of_ble_eq_true rfl) ⟨Nat.zero_le _, Nat.zero_le _⟩ dX9_row_12 (fun r5 er5 => ?_)
    rcases er5 with ⟨rfl, g9⟩ | ⟨rfl, g9⟩
    · skip
      have g6 := g9
      have h7 : Iv 0 3 p1 := g6.1
      refine lv_if_eq (tgt := 24) hx hb dX9_row_15 (by decide) (fun c8 => ?_) (fun c8 => ?_)
      · first | exact absurd c8 (by decide) | exact absurd (by decide) c8
      refine lv_iload_n hx hb dX9_row_18 rfl (lv_at hl 3 rfl) ?_
      refine lv_bipush (v := 60) hx hb dX9_row_19 (by decide) ?_
      refine lv_icmp_le (tgt := 27) hx hb dX9_row_21 (by decide) (fun c9 => ?_) (fun c9 => ?_)
      · skip
        have n10 : p2.toInt ≤ (60 : Int32).toInt := (i_le c9)
        have h11 : Iv (-2147483648) 60 p2 := le_l (iv_full p2) n10 (iv_c (by decide) : Iv 60 60 60) (by decide)
        refine lv_iload_n hx hb dX9_row_27 rfl (lv_at hl 3 rfl) ?_
        refine lv_if_ge (tgt := 34) hx hb dX9_row_28 (by decide) (fun c12 => ?_) (fun c12 => ?_)
        · skip
          have n13 : (0 : Int32).toInt ≤ p2.toInt := (i_le c12)
          have h14 : Iv 0 60 p2 := le_r (iv_c (by decide) : Iv 0 0 0) n13 h11 (by decide)
          refine lv_aload_n hx hb dX9_row_34 rfl (lv_at hl 0 rfl) ?_
          refine va_get (D := D) (ci := 9) (v := .ref (a 111)) (C := RX9) (T := TX9) (N := 11) hx hb hT in_X9 hown hK hP 0 cw_0 rfl 5 (by decide) (hT _ t456) (fun _ h9 => h9) rfl dX9_row_35 ?_
          refine lv_iload_n hx hb dX9_row_38 rfl (lv_at hl 1 rfl) ?_
          refine lv_iload_n hx hb dX9_row_39 rfl (lv_at hl 2 rfl) ?_
          refine lv_iload_n hx hb dX9_row_40 rfl (lv_at hl 3 rfl) ?_
          refine ca_v hP hD hS hA (fun hDc => run_V (mc := 0) (ms := 0) (As := [.int p0, .int p1, .int p2]) (rest := []) S (s_X4_begin l D k a st sl  p0 p1 p2 _  hB h3 h14 ) lkX9_419 ok_X4_begin ⟨rfl, rfl, Nat.le_of_ble_eq_true rfl, Nat.le_of_ble_eq_true rfl⟩ (pw_V (ci := 4) (q0 := 111) hK hN rfl cw_111 hP hDc) rfl hl.1 rfl (Nat.le_of_ble_eq_true rfl) ⟨Nat.zero_le _, Nat.zero_le _⟩ dX9_row_41) (fun u9 H9 locs9 hs15 hP9 hD9 hS9 => ?_)
          obtain ⟨s15, l17⟩ := u9
          clear hP hD hS
          have hS := hS9
          have hP : va_P D vwCl (CWS k a s15 l17) H9 := hP9
          have hD : va_D A (CWS k a s15 l17) := hD9
          clear hP9 hD9 hS9
          obtain ⟨hBs15, gs15, fs15⟩ := hs15
          have hFs15 : FR [112, 113] st s15 := fr_ca fr_rf gs15 (sub_1 (List.mem_of_getElem? (i := 0) rfl) (sub_1 (List.mem_of_getElem? (i := 1) rfl) sub_0))
          have k18 := fs15
          refine lv_iconst (v := 0) hx hb dX9_row_44 (by decide) ?_
          rw [hQ]
          exact W.iret (v := 0) hx hb hr (fun t ht hW => ⟨⟨0, (s15, l17), rfl, ⟨hBs15, hFs15, ⟨(by obtain ⟨y0a, y0b⟩ := id (h3); obtain ⟨y1a, y1b⟩ := id (h7); obtain ⟨y2a, y2b⟩ := id (h14); unfold r_row; rw [if_pos (by omega), if_neg (by omega)]), (by obtain ⟨y0a, y0b⟩ := id (h3); obtain ⟨y1a, y1b⟩ := id (h7); obtain ⟨y2a, y2b⟩ := id (h14); unfold k_row; rw [if_pos (by omega)]; exact k18.1), (by obtain ⟨y0a, y0b⟩ := id (h3); obtain ⟨y1a, y1b⟩ := id (h7); obtain ⟨y2a, y2b⟩ := id (h14); unfold k_row; rw [if_pos (by omega)]; exact k18.2)⟩⟩, by rw [ht]; exact hP, va_K.moved hW.alike (hK.sub (tys' := []) [] rfl), by rw [hAe]; exact hD⟩, by rw [hAe]; exact hS.F ht⟩) hS.2.2 dX9_row_45
        · skip
          have n19 : p2.toInt < (0 : Int32).toInt := (i_nle c12)
          have h20 : Iv (-2147483648) (-1) p2 := lt_l h11 n19 (iv_c (by decide) : Iv 0 0 0) (by decide)
          refine lv_bipush (v := (-3)) hx hb dX9_row_31 (by decide) ?_
          rw [hQ]
          exact W.iret (v := (-3)) hx hb hr (fun t ht hW => ⟨⟨(-3), (st, sl), rfl, ⟨hB, fr_rf, ⟨(by obtain ⟨y0a, y0b⟩ := id (h3); obtain ⟨y1a, y1b⟩ := id (h7); obtain ⟨y2a, y2b⟩ := id (h20); unfold r_row; rw [if_pos (by omega), if_pos (by omega)]), (by obtain ⟨y0a, y0b⟩ := id (h3); obtain ⟨y1a, y1b⟩ := id (h7); obtain ⟨y2a, y2b⟩ := id (h20); unfold k_row; rw [if_neg (by omega)]), (by obtain ⟨y0a, y0b⟩ := id (h3); obtain ⟨y1a, y1b⟩ := id (h7); obtain ⟨y2a, y2b⟩ := id (h20); unfold k_row; rw [if_neg (by omega)])⟩⟩, by rw [ht]; exact hP, va_K.moved hW.alike (hK.sub (tys' := []) [] rfl), by rw [hAe]; exact hD⟩, by rw [hAe]; exact hS.F ht⟩) hS.2.2 dX9_row_33
      · skip
        have n21 : (60 : Int32).toInt < p2.toInt := (i_nle c9)
        have h22 : Iv 61 2147483647 p2 := lt_r (iv_c (by decide) : Iv 60 60 60) n21 (iv_full p2) (by decide)
        refine lv_bipush (v := (-2)) hx hb dX9_row_24 (by decide) ?_
        rw [hQ]
        exact W.iret (v := (-2)) hx hb hr (fun t ht hW => ⟨⟨(-2), (st, sl), rfl, ⟨hB, fr_rf, ⟨(by obtain ⟨y0a, y0b⟩ := id (h3); obtain ⟨y1a, y1b⟩ := id (h7); obtain ⟨y2a, y2b⟩ := id (h22); unfold r_row; rw [if_neg (by omega)]), (by obtain ⟨y0a, y0b⟩ := id (h3); obtain ⟨y1a, y1b⟩ := id (h7); obtain ⟨y2a, y2b⟩ := id (h22); unfold k_row; rw [if_neg (by omega)]), (by obtain ⟨y0a, y0b⟩ := id (h3); obtain ⟨y1a, y1b⟩ := id (h7); obtain ⟨y2a, y2b⟩ := id (h22); unfold k_row; rw [if_neg (by omega)])⟩⟩, by rw [ht]; exact hP, va_K.moved hW.alike (hK.sub (tys' := []) [] rfl), by rw [hAe]; exact hD⟩, by rw [hAe]; exact hS.F ht⟩) hS.2.2 dX9_row_26
    · skip
      have g23 := g9
      have k24 := g23
      refine lv_if_eq (tgt := 24) hx hb dX9_row_15 (by decide) (fun c25 => ?_) (fun c25 => ?_)
      rotate_left
      · first | exact absurd c25 (by decide) | exact absurd (by decide) c25
      refine lv_bipush (v := (-2)) hx hb dX9_row_24 (by decide) ?_
      rw [hQ]
      exact W.iret (v := (-2)) hx hb hr (fun t ht hW => ⟨⟨(-2), (st, sl), rfl, ⟨hB, fr_rf, ⟨(by obtain ⟨y0a, y0b⟩ := id (h3); obtain ⟨y1a, y1b⟩ := id ((iv_full p1)); obtain ⟨y2a, y2b⟩ := id ((iv_full p2)); unfold r_row; rw [if_neg (by omega)]), (by obtain ⟨y0a, y0b⟩ := id (h3); obtain ⟨y1a, y1b⟩ := id ((iv_full p1)); obtain ⟨y2a, y2b⟩ := id ((iv_full p2)); unfold k_row; rw [if_neg (by omega)]), (by obtain ⟨y0a, y0b⟩ := id (h3); obtain ⟨y1a, y1b⟩ := id ((iv_full p1)); obtain ⟨y2a, y2b⟩ := id ((iv_full p2)); unfold k_row; rw [if_neg (by omega)])⟩⟩, by rw [ht]; exact hP, va_K.moved hW.alike (hK.sub (tys' := []) [] rfl), by rw [hAe]; exact hD⟩, by rw [hAe]; exact hS.F ht⟩) hS.2.2 dX9_row_26
  · skip
    have g26 := g9
    have k27 := g26
    refine lv_if_eq (tgt := 24) hx hb dX9_row_8 (by decide) (fun c28 => ?_) (fun c28 => ?_)
    rotate_left
    · first | exact absurd c28 (by decide) | exact absurd (by decide) c28
    refine lv_bipush (v := (-2)) hx hb dX9_row_24 (by decide) ?_
    rw [hQ]
    exact W.iret (v := (-2)) hx hb hr (fun t ht hW => ⟨⟨(-2), (st, sl), rfl, ⟨hB, fr_rf, ⟨(by obtain ⟨y0a, y0b⟩ := id ((iv_full p0)); obtain ⟨y1a, y1b⟩ := id ((iv_full p1)); obtain ⟨y2a, y2b⟩ := id ((iv_full p2)); unfold r_row; rw [if_neg (by omega)]), (by obtain ⟨y0a, y0b⟩ := id ((iv_full p0)); obtain ⟨y1a, y1b⟩ := id ((iv_full p1)); obtain ⟨y2a, y2b⟩ := id ((iv_full p2)); unfold k_row; rw [if_neg (by omega)]), (by obtain ⟨y0a, y0b⟩ := id ((iv_full p0)); obtain ⟨y1a, y1b⟩ := id ((iv_full p1)); obtain ⟨y2a, y2b⟩ := id ((iv_full p2)); unfold k_row; rw [if_neg (by omega)])⟩⟩, by rw [ht]; exact hP, va_K.moved hW.alike (hK.sub (tys' := []) [] rfl), by rw [hAe]; exact hD⟩, by rw [hAe]; exact hS.F ht⟩) hS.2.2 dX9_row_26
set_option maxHeartbeats 4000000 in
set_option maxRecDepth 100000 in
theorem s_X9_write (l : Launch) (D : va_G) (k : Nat → ClassId) (a : Nat → Nat) (st : CT) (sl : CL) (p0 : Int32) (p1 : Int32) (p2 : Int64) (sz : Nat) (hB : CB st)  : Met l yX9_write (.code yX9_write cX9_write 5 (some .int) :: TB) (rmw 3 0 0) (va_Pc [.ref (a 0), .int p0, .int p1, .long p2] (PW D k sz (CWS k a st sl))) (QI D (S := CT × CL) (fun r u => CB u.1 ∧ FR [] st u.1 ∧ ((r = r_write (st 112) (st 113) p0 p1))) (fun u => CWS k a u.1 u.2) (fun _ => []) (CWS k a st sl) sz) 0 0 (va_A (CWS k a st sl) sz) := by
  refine Met.ofW (cc := cX9_write) (maxL := 5) (ret := (some .int)) (by decide) rfl ?_
  intro p e s m args below meth c s₁ B hml hv
  obtain ⟨rfl, hsz, hP, hK, hD0, hN⟩ := hv
  have hx := B.exec
  have hb := B.bytes
  have hr := B.returns
  have hT : ∀ w9 ∈ TB, w9.before ([.ref (a 0), .int p0, .int p1, .long p2] : List Value).toArray s = true := fun w9 h => atoms_spec (ws := .code yX9_write cX9_write 5 (some .int) :: TB) B.pre w9 (List.mem_cons_of_mem _ h)
  have hown : s.vm.findClass RX9 = some m.cls := findClass_of_methodNamed B.named
  have S : CallFix p m c cX9_write 5 s _ TB RX9 := ⟨hx, hb, hml, hown, hT⟩
  subst hsz
  have hD := hD0.self (sz := s.heap.size)
  generalize hAe : va_A (CWS k a st sl) s.heap.size = A at hD ⊢
  have hA : ∀ q : Nat, s.heap.size ≤ q → A q := fun q h => by rw [← hAe]; exact Or.inr h
  have hS : va_S A s.heap s.heap [] := va_S.rf
  have hl := lv_entry ([.ref (a 0), .int p0, .int p1, .long p2]) (n := 5) (Nat.le_of_ble_eq_true rfl)
  rw [lg_entry_eq]
  generalize (lg_sl ([.ref (a 0), .int p0, .int p1, .long p2]) ++ List.replicate (5 - (lg_sl ([.ref (a 0), .int p0, .int p1, .long p2])).length) Slot.unset).toArray = ls at hl ⊢
  have hl : lv_has ls 5 [(0, .ref (a 0)), (1, .int p0), (2, .int p1), (3, .long p2)] := hl
  refine nameQ (fun Q hQ => ?_)
  refine lv_aload_n hx hb dX9_write_0 rfl (lv_at hl 0 rfl) ?_
  refine va_get (D := D) (ci := 9) (v := .ref (a 111)) (C := RX9) (T := TX9) (N := 11) hx hb hT in_X9 hown hK hP 0 cw_0 rfl 5 (by decide) (hT _ t456) (fun _ h9 => h9) rfl dX9_write_1 ?_
  refine lv_iload_n hx hb dX9_write_4 rfl (lv_at hl 1 rfl) ?_
  refine ro_V (As := [.int p0]) (rest := []) S (s_X4_isSlot l D k a st sl  p0 _  hB  ) lkX9_238 ok_X4_isSlot ⟨rfl, rfl, Nat.le_of_ble_eq_true rfl, Nat.le_of_ble_eq_true rfl⟩ (pw_V (ci := 4) (q0 := 111) hK hN rfl cw_111 hP (hD.weaken (fun _ _ _ _ => trivial))) rfl hl.1 rfl (Nat.le_of_ble_eq_true rfl) ⟨Nat.zero_le _, Nat.zero_le _⟩ dX9_write_5 (fun r1 er1 => ?_)
  rcases er1 with ⟨rfl, g9⟩ | ⟨rfl, g9⟩
  · skip
    have g2 := g9
    have h3 : Iv 0 3 p0 := g2.1
    refine lv_if_ne (tgt := 14) hx hb dX9_write_8 (by decide) (fun c4 => ?_) (fun c4 => ?_)
    rotate_left
    · first | exact absurd c4 (by decide) | exact absurd (by decide) c4
    refine lv_aload_n hx hb dX9_write_14 rfl (lv_at hl 0 rfl) ?_
    refine va_get (D := D) (ci := 9) (v := .ref (a 111)) (C := RX9) (T := TX9) (N := 11) hx hb hT in_X9 hown hK hP 0 cw_0 rfl 5 (by decide) (hT _ t456) (fun _ h9 => h9) rfl dX9_write_15 ?_
    refine lv_iload_n hx hb dX9_write_18 rfl (lv_at hl 1 rfl) ?_
    refine ro_V (As := [.int p0]) (rest := []) S (s_X4_hasRow l D k a st sl  p0 _  hB h3 ) lkX9_241 ok_X4_hasRow ⟨rfl, rfl, Nat.le_of_ble_eq_true rfl, Nat.le_of_ble_eq_true rfl⟩ (pw_V (ci := 4) (q0 := 111) hK hN rfl cw_111 hP (hD.weaken (fun _ _ _ _ => trivial))) rfl hl.1 rfl (Nat.le_of_ble_eq_true rfl) ⟨Nat.zero_le _, Nat.zero_le _⟩ dX9_write_19 (fun r5 er5 => ?_)
    rcases er5 with ⟨rfl, g9⟩ | ⟨rfl, g9⟩
    · skip
      have g6 := g9
      have k7 := g6
      refine lv_if_ne (tgt := 28) hx hb dX9_write_22 (by decide) (fun c8 => ?_) (fun c8 => ?_)
      rotate_left
      · first | exact absurd c8 (by decide) | exact absurd (by decide) c8
      refine lv_iload_n hx hb dX9_write_28 rfl (lv_at hl 2 rfl) ?_
      refine lv_if_lt (tgt := 45) hx hb dX9_write_29 (by decide) (fun c9 => ?_) (fun c9 => ?_)
      · skip
        have n10 : p1.toInt < (0 : Int32).toInt := (i_lt c9)
        have h11 : Iv (-2147483648) (-1) p1 := lt_l (iv_full p1) n10 (iv_c (by decide) : Iv 0 0 0) (by decide)
        refine lv_bipush (v := (-7)) hx hb dX9_write_45 (by decide) ?_
        rw [hQ]
        exact W.iret (v := (-7)) hx hb hr (fun t ht hW => ⟨⟨(-7), (st, sl), rfl, ⟨hB, fr_rf, (by obtain ⟨y0a, y0b⟩ := id (h3); obtain ⟨y1a, y1b⟩ := id (h11); unfold r_write; rw [if_pos (by omega), if_neg k7, if_neg (by omega)])⟩, by rw [ht]; exact hP, va_K.moved hW.alike (hK.sub (tys' := []) [] rfl), by rw [hAe]; exact hD⟩, by rw [hAe]; exact hS.F ht⟩) hS.2.2 dX9_write_47
      · skip
        have n12 : (0 : Int32).toInt ≤ p1.toInt := (i_nlt c9)
        have h13 : Iv 0 2147483647 p1 := le_r (iv_c (by decide) : Iv 0 0 0) n12 (iv_full p1) (by decide)
        refine lv_iload_n hx hb dX9_write_32 rfl (lv_at hl 2 rfl) ?_
        refine lv_aload_n hx hb dX9_write_33 rfl (lv_at hl 0 rfl) ?_
        refine va_get (D := D) (ci := 9) (v := .ref (a 111)) (C := RX9) (T := TX9) (N := 11) hx hb hT in_X9 hown hK hP 0 cw_0 rfl 5 (by decide) (hT _ t456) (fun _ h9 => h9) rfl dX9_write_34 ?_
        refine va_get (D := D) (ci := 4) (v := .ref (a 113)) (C := RX4) (T := TX4) (N := 3) hx hb hT in_X4 hown hK hP 111 cw_111 rfl 1 (by decide) (hT _ t346) (fun _ h9 => h9) rfl dX9_write_37 ?_
        refine lv_iload_n hx hb dX9_write_40 rfl (lv_at hl 1 rfl) ?_
        refine va_iald hx hb hK hP 113 0 cw_113 rfl (iv_in h3 (by decide) (by decide)) dX9_write_41 ?_
        refine lv_topi (fun z14 ez14 => ?_)
        have h15 : Iv 0 60 z14 := by rw [ez14]; exact (rb_113 hB (vp_in_lt (iv_in h3 (by decide) (by decide))))
        refine lv_icmp_lt (tgt := 48) hx hb dX9_write_42 (by decide) (fun c16 => ?_) (fun c16 => ?_)
        · skip
          have n17 : p1.toInt < z14.toInt := (i_lt c16)
          have h18 : Iv 0 59 p1 := lt_l h13 n17 h15 (by decide)
          have h19 : Iv 1 60 z14 := lt_r h13 n17 h15 (by decide)
          refine lv_aload_n hx hb dX9_write_48 rfl (lv_at hl 0 rfl) ?_
          refine va_get (D := D) (ci := 9) (v := .ref (a 111)) (C := RX9) (T := TX9) (N := 11) hx hb hT in_X9 hown hK hP 0 cw_0 rfl 5 (by decide) (hT _ t456) (fun _ h9 => h9) rfl dX9_write_49 ?_
          refine lv_iload_n hx hb dX9_write_52 rfl (lv_at hl 1 rfl) ?_
          refine lv_iload_n hx hb dX9_write_53 rfl (lv_at hl 2 rfl) ?_
          refine lv_lload_n hx hb dX9_write_54 rfl (lv_at hl 3 rfl) ?_
          refine ca_v hP hD hS hA (fun hDc => run_V (mc := 0) (ms := 0) (As := [.int p0, .int p1, .long p2]) (rest := []) S (s_X4_put l D k a st sl  p0 p1 p2 _  hB h3 h18 ) lkX9_421 ok_X4_put ⟨rfl, rfl, Nat.le_of_ble_eq_true rfl, Nat.le_of_ble_eq_true rfl⟩ (pw_V (ci := 4) (q0 := 111) hK hN rfl cw_111 hP hDc) rfl hl.1 rfl (Nat.le_of_ble_eq_true rfl) ⟨Nat.zero_le _, Nat.zero_le _⟩ dX9_write_55) (fun u9 H9 locs9 hs20 hP9 hD9 hS9 => ?_)
          obtain ⟨s20, l22⟩ := u9
          clear hP hD hS
          have hS := hS9
          have hP : va_P D vwCl (CWS k a s20 l22) H9 := hP9
          have hD : va_D A (CWS k a s20 l22) := hD9
          clear hP9 hD9 hS9
          obtain ⟨hBs20, gs20, fs20⟩ := hs20
          have hFs20 : FR [] st s20 := fr_ca fr_rf gs20 sub_0
          refine lv_iconst (v := 0) hx hb dX9_write_58 (by decide) ?_
          rw [hQ]
          exact W.iret (v := 0) hx hb hr (fun t ht hW => ⟨⟨0, (s20, l22), rfl, ⟨hBs20, hFs20, (by obtain ⟨y0a, y0b⟩ := id (h3); obtain ⟨y1a, y1b⟩ := id (h18); have c1 := n17; rw [ez14] at c1; unfold r_write; rw [if_pos (by omega), if_neg k7, if_pos ⟨by omega, by omega⟩])⟩, by rw [ht]; exact hP, va_K.moved hW.alike (hK.sub (tys' := []) [] rfl), by rw [hAe]; exact hD⟩, by rw [hAe]; exact hS.F ht⟩) hS.2.2 dX9_write_59
        · skip
          have n23 : z14.toInt ≤ p1.toInt := (i_nlt c16)
          refine lv_bipush (v := (-7)) hx hb dX9_write_45 (by decide) ?_
          rw [hQ]
          exact W.iret (v := (-7)) hx hb hr (fun t ht hW => ⟨⟨(-7), (st, sl), rfl, ⟨hB, fr_rf, (by obtain ⟨y0a, y0b⟩ := id (h3); obtain ⟨y1a, y1b⟩ := id (h13); have c1 := n23; rw [ez14] at c1; unfold r_write; rw [if_pos (by omega), if_neg k7, if_neg (by omega)])⟩, by rw [ht]; exact hP, va_K.moved hW.alike (hK.sub (tys' := []) [] rfl), by rw [hAe]; exact hD⟩, by rw [hAe]; exact hS.F ht⟩) hS.2.2 dX9_write_47
    · skip
      have g24 := g9
      have k25 := g24
      refine lv_if_ne (tgt := 28) hx hb dX9_write_22 (by decide) (fun c26 => ?_) (fun c26 => ?_)
      · first | exact absurd c26 (by decide) | exact absurd (by decide) c26
      refine lv_bipush (v := (-6)) hx hb dX9_write_25 (by decide) ?_
      rw [hQ]
      exact W.iret (v := (-6)) hx hb hr (fun t ht hW => ⟨⟨(-6), (st, sl), rfl, ⟨hB, fr_rf, (by obtain ⟨y0a, y0b⟩ := id (h3); obtain ⟨y1a, y1b⟩ := id ((iv_full p1)); unfold r_write; rw [if_pos (by omega), if_pos k25])⟩, by rw [ht]; exact hP, va_K.moved hW.alike (hK.sub (tys' := []) [] rfl), by rw [hAe]; exact hD⟩, by rw [hAe]; exact hS.F ht⟩) hS.2.2 dX9_write_27
  · skip
    have g27 := g9
    have k28 := g27
    refine lv_if_ne (tgt := 14) hx hb dX9_write_8 (by decide) (fun c29 => ?_) (fun c29 => ?_)
    · first | exact absurd c29 (by decide) | exact absurd (by decide) c29
    refine lv_bipush (v := (-2)) hx hb dX9_write_11 (by decide) ?_
    rw [hQ]
    exact W.iret (v := (-2)) hx hb hr (fun t ht hW => ⟨⟨(-2), (st, sl), rfl, ⟨hB, fr_rf, (by obtain ⟨y0a, y0b⟩ := id ((iv_full p0)); obtain ⟨y1a, y1b⟩ := id ((iv_full p1)); unfold r_write; rw [if_neg (by omega)])⟩, by rw [ht]; exact hP, va_K.moved hW.alike (hK.sub (tys' := []) [] rfl), by rw [hAe]; exact hD⟩, by rw [hAe]; exact hS.F ht⟩) hS.2.2 dX9_write_13
set_option maxHeartbeats 4000000 in
set_option maxRecDepth 100000 in
theorem s_X9_paste (l : Launch) (D : va_G) (k : Nat → ClassId) (a : Nat → Nat) (st : CT) (sl : CL) (p0 : Int32) (p1 : Int32) (p2 : Int32) (p3 : Int32) (p4 : Int32) (sz : Nat) (hB : CB st)  : Met l yX9_paste (.code yX9_paste cX9_paste 6 (some .int) :: TB) (rmw 2 0 0) (va_Pc [.ref (a 0), .int p0, .int p1, .int p2, .int p3, .int p4] (PW D k sz (CWS k a st sl))) (QI D (S := CT × CL) (fun r u => CB u.1 ∧ FR [] st u.1 ∧ ((r = r_paste (st 112) (st 112) (st 113) p0 p1 p2 p3 p4))) (fun u => CWS k a u.1 u.2) (fun _ => []) (CWS k a st sl) sz) 0 0 (va_A (CWS k a st sl) sz) := by
  refine Met.ofW (cc := cX9_paste) (maxL := 6) (ret := (some .int)) (by decide) rfl ?_
  intro p e s m args below meth c s₁ B hml hv
  obtain ⟨rfl, hsz, hP, hK, hD0, hN⟩ := hv
  have hx := B.exec
  have hb := B.bytes
  have hr := B.returns
  have hT : ∀ w9 ∈ TB, w9.before ([.ref (a 0), .int p0, .int p1, .int p2, .int p3, .int p4] : List Value).toArray s = true := fun w9 h => atoms_spec (ws := .code yX9_paste cX9_paste 6 (some .int) :: TB) B.pre w9 (List.mem_cons_of_mem _ h)
  have hown : s.vm.findClass RX9 = some m.cls := findClass_of_methodNamed B.named
  have S : CallFix p m c cX9_paste 6 s _ TB RX9 := ⟨hx, hb, hml, hown, hT⟩
  subst hsz
  have hD := hD0.self (sz := s.heap.size)
  generalize hAe : va_A (CWS k a st sl) s.heap.size = A at hD ⊢
  have hA : ∀ q : Nat, s.heap.size ≤ q → A q := fun q h => by rw [← hAe]; exact Or.inr h
  have hS : va_S A s.heap s.heap [] := va_S.rf
  have hl := lv_entry ([.ref (a 0), .int p0, .int p1, .int p2, .int p3, .int p4]) (n := 6) (Nat.le_of_ble_eq_true rfl)
  rw [lg_entry_eq]
  generalize (lg_sl ([.ref (a 0), .int p0, .int p1, .int p2, .int p3, .int p4]) ++ List.replicate (6 - (lg_sl ([.ref (a 0), .int p0, .int p1, .int p2, .int p3, .int p4])).length) Slot.unset).toArray = ls at hl ⊢
  have hl : lv_has ls 6 [(0, .ref (a 0)), (1, .int p0), (2, .int p1), (3, .int p2), (4, .int p3), (5, .int p4)] := hl
  refine nameQ (fun Q hQ => ?_)
  refine lv_aload_n hx hb dX9_paste_0 rfl (lv_at hl 0 rfl) ?_
  refine va_get (D := D) (ci := 9) (v := .ref (a 111)) (C := RX9) (T := TX9) (N := 11) hx hb hT in_X9 hown hK hP 0 cw_0 rfl 5 (by decide) (hT _ t456) (fun _ h9 => h9) rfl dX9_paste_1 ?_
  refine lv_iload_n hx hb dX9_paste_4 rfl (lv_at hl 1 rfl) ?_
  refine ro_V (As := [.int p0]) (rest := []) S (s_X4_isSlot l D k a st sl  p0 _  hB  ) lkX9_238 ok_X4_isSlot ⟨rfl, rfl, Nat.le_of_ble_eq_true rfl, Nat.le_of_ble_eq_true rfl⟩ (pw_V (ci := 4) (q0 := 111) hK hN rfl cw_111 hP (hD.weaken (fun _ _ _ _ => trivial))) rfl hl.1 rfl (Nat.le_of_ble_eq_true rfl) ⟨Nat.zero_le _, Nat.zero_le _⟩ dX9_paste_5 (fun r1 er1 => ?_)
  rcases er1 with ⟨rfl, g9⟩ | ⟨rfl, g9⟩
  · skip
    have g2 := g9
    have h3 : Iv 0 3 p0 := g2.1
    refine lv_if_eq (tgt := 22) hx hb dX9_paste_8 (by decide) (fun c4 => ?_) (fun c4 => ?_)
    · first | exact absurd c4 (by decide) | exact absurd (by decide) c4
    refine lv_aload_n hx hb dX9_paste_11 rfl (lv_at hl 0 rfl) ?_
    refine va_get (D := D) (ci := 9) (v := .ref (a 111)) (C := RX9) (T := TX9) (N := 11) hx hb hT in_X9 hown hK hP 0 cw_0 rfl 5 (by decide) (hT _ t456) (fun _ h9 => h9) rfl dX9_paste_12 ?_
    refine lv_iload_n hx hb dX9_paste_15 rfl (lv_at hl 3 rfl) ?_
    refine ro_V (As := [.int p2]) (rest := []) S (s_X4_isSlot l D k a st sl  p2 _  hB  ) lkX9_238 ok_X4_isSlot ⟨rfl, rfl, Nat.le_of_ble_eq_true rfl, Nat.le_of_ble_eq_true rfl⟩ (pw_V (ci := 4) (q0 := 111) hK hN rfl cw_111 hP (hD.weaken (fun _ _ _ _ => trivial))) rfl hl.1 rfl (Nat.le_of_ble_eq_true rfl) ⟨Nat.zero_le _, Nat.zero_le _⟩ dX9_paste_16 (fun r5 er5 => ?_)
    rcases er5 with ⟨rfl, g9⟩ | ⟨rfl, g9⟩
    · skip
      have g6 := g9
      have h7 : Iv 0 3 p2 := g6.1
      refine lv_if_ne (tgt := 25) hx hb dX9_paste_19 (by decide) (fun c8 => ?_) (fun c8 => ?_)
      rotate_left
      · first | exact absurd c8 (by decide) | exact absurd (by decide) c8
      refine lv_aload_n hx hb dX9_paste_25 rfl (lv_at hl 0 rfl) ?_
      refine va_get (D := D) (ci := 9) (v := .ref (a 111)) (C := RX9) (T := TX9) (N := 11) hx hb hT in_X9 hown hK hP 0 cw_0 rfl 5 (by decide) (hT _ t456) (fun _ h9 => h9) rfl dX9_paste_26 ?_
      refine lv_iload_n hx hb dX9_paste_29 rfl (lv_at hl 1 rfl) ?_
      refine ro_V (As := [.int p0]) (rest := []) S (s_X4_hasRow l D k a st sl  p0 _  hB h3 ) lkX9_241 ok_X4_hasRow ⟨rfl, rfl, Nat.le_of_ble_eq_true rfl, Nat.le_of_ble_eq_true rfl⟩ (pw_V (ci := 4) (q0 := 111) hK hN rfl cw_111 hP (hD.weaken (fun _ _ _ _ => trivial))) rfl hl.1 rfl (Nat.le_of_ble_eq_true rfl) ⟨Nat.zero_le _, Nat.zero_le _⟩ dX9_paste_30 (fun r9 er9 => ?_)
      rcases er9 with ⟨rfl, g9⟩ | ⟨rfl, g9⟩
      · skip
        have g10 := g9
        have k11 := g10
        refine lv_if_eq (tgt := 47) hx hb dX9_paste_33 (by decide) (fun c12 => ?_) (fun c12 => ?_)
        · first | exact absurd c12 (by decide) | exact absurd (by decide) c12
        refine lv_aload_n hx hb dX9_paste_36 rfl (lv_at hl 0 rfl) ?_
        refine va_get (D := D) (ci := 9) (v := .ref (a 111)) (C := RX9) (T := TX9) (N := 11) hx hb hT in_X9 hown hK hP 0 cw_0 rfl 5 (by decide) (hT _ t456) (fun _ h9 => h9) rfl dX9_paste_37 ?_
        refine lv_iload_n hx hb dX9_paste_40 rfl (lv_at hl 3 rfl) ?_
        refine ro_V (As := [.int p2]) (rest := []) S (s_X4_hasRow l D k a st sl  p2 _  hB h7 ) lkX9_241 ok_X4_hasRow ⟨rfl, rfl, Nat.le_of_ble_eq_true rfl, Nat.le_of_ble_eq_true rfl⟩ (pw_V (ci := 4) (q0 := 111) hK hN rfl cw_111 hP (hD.weaken (fun _ _ _ _ => trivial))) rfl hl.1 rfl (Nat.le_of_ble_eq_true rfl) ⟨Nat.zero_le _, Nat.zero_le _⟩ dX9_paste_41 (fun r13 er13 => ?_)
        rcases er13 with ⟨rfl, g9⟩ | ⟨rfl, g9⟩
        · skip
          have g14 := g9
          have k15 := g14
          refine lv_if_ne (tgt := 50) hx hb dX9_paste_44 (by decide) (fun c16 => ?_) (fun c16 => ?_)
          rotate_left
          · first | exact absurd c16 (by decide) | exact absurd (by decide) c16
          refine lv_aload_n hx hb dX9_paste_50 rfl (lv_at hl 0 rfl) ?_
          refine va_get (D := D) (ci := 9) (v := .ref (a 111)) (C := RX9) (T := TX9) (N := 11) hx hb hT in_X9 hown hK hP 0 cw_0 rfl 5 (by decide) (hT _ t456) (fun _ h9 => h9) rfl dX9_paste_51 ?_
          refine va_get (D := D) (ci := 4) (v := .ref (a 112)) (C := RX4) (T := TX4) (N := 3) hx hb hT in_X4 hown hK hP 111 cw_111 rfl 0 (by decide) (hT _ t344) (fun _ h9 => h9) rfl dX9_paste_54 ?_
          refine lv_iload_n hx hb dX9_paste_57 rfl (lv_at hl 1 rfl) ?_
          refine va_iald hx hb hK hP 112 0 cw_112 rfl (iv_in h3 (by decide) (by decide)) dX9_paste_58 ?_
          refine lv_topi (fun z17 ez17 => ?_)
          refine lv_aload_n hx hb dX9_paste_59 rfl (lv_at hl 0 rfl) ?_
          refine va_get (D := D) (ci := 9) (v := .ref (a 111)) (C := RX9) (T := TX9) (N := 11) hx hb hT in_X9 hown hK hP 0 cw_0 rfl 5 (by decide) (hT _ t456) (fun _ h9 => h9) rfl dX9_paste_60 ?_
          refine va_get (D := D) (ci := 4) (v := .ref (a 112)) (C := RX4) (T := TX4) (N := 3) hx hb hT in_X4 hown hK hP 111 cw_111 rfl 0 (by decide) (hT _ t344) (fun _ h9 => h9) rfl dX9_paste_63 ?_
          refine lv_iload_n hx hb dX9_paste_66 rfl (lv_at hl 3 rfl) ?_
          refine va_iald hx hb hK hP 112 0 cw_112 rfl (iv_in h7 (by decide) (by decide)) dX9_paste_67 ?_
          refine lv_topi (fun z18 ez18 => ?_)
          refine lv_icmp_eq (tgt := 74) hx hb dX9_paste_68 (by decide) (fun c19 => ?_) (fun c19 => ?_)
          · skip
            refine lv_aload_n hx hb dX9_paste_74 rfl (lv_at hl 0 rfl) ?_
            refine va_get (D := D) (ci := 9) (v := .ref (a 111)) (C := RX9) (T := TX9) (N := 11) hx hb hT in_X9 hown hK hP 0 cw_0 rfl 5 (by decide) (hT _ t456) (fun _ h9 => h9) rfl dX9_paste_75 ?_
            refine lv_iload_n hx hb dX9_paste_78 rfl (lv_at hl 1 rfl) ?_
            refine lv_iload_n hx hb dX9_paste_79 rfl (lv_at hl 2 rfl) ?_
            refine lv_iload hx hb dX9_paste_80 (lv_at hl 5 rfl) ?_
            refine ro_V (As := [.int p0, .int p1, .int p4]) (rest := []) S (s_X4_holds l D k a st sl  p0 p1 p4 _  hB h3 ) lkX9_428 ok_X4_holds ⟨rfl, rfl, Nat.le_of_ble_eq_true rfl, Nat.le_of_ble_eq_true rfl⟩ (pw_V (ci := 4) (q0 := 111) hK hN rfl cw_111 hP (hD.weaken (fun _ _ _ _ => trivial))) rfl hl.1 rfl (Nat.le_of_ble_eq_true rfl) ⟨Nat.zero_le _, Nat.zero_le _⟩ dX9_paste_82 (fun r20 er20 => ?_)
            rcases er20 with ⟨rfl, g9⟩ | ⟨rfl, g9⟩
            · skip
              have g21 := g9
              have h22 : Iv 0 2147483647 p1 := g21.1
              have h23 : Iv 0 2147483647 p4 := g21.2.1
              have k24 := g21.2.2
              refine lv_if_eq (tgt := 103) hx hb dX9_paste_85 (by decide) (fun c25 => ?_) (fun c25 => ?_)
              · first | exact absurd c25 (by decide) | exact absurd (by decide) c25
              refine lv_aload_n hx hb dX9_paste_88 rfl (lv_at hl 0 rfl) ?_
              refine va_get (D := D) (ci := 9) (v := .ref (a 111)) (C := RX9) (T := TX9) (N := 11) hx hb hT in_X9 hown hK hP 0 cw_0 rfl 5 (by decide) (hT _ t456) (fun _ h9 => h9) rfl dX9_paste_89 ?_
              refine lv_iload_n hx hb dX9_paste_92 rfl (lv_at hl 3 rfl) ?_
              refine lv_iload hx hb dX9_paste_93 (lv_at hl 4 rfl) ?_
              refine lv_iload hx hb dX9_paste_95 (lv_at hl 5 rfl) ?_
              refine ro_V (As := [.int p2, .int p3, .int p4]) (rest := []) S (s_X4_holds l D k a st sl  p2 p3 p4 _  hB h7 ) lkX9_428 ok_X4_holds ⟨rfl, rfl, Nat.le_of_ble_eq_true rfl, Nat.le_of_ble_eq_true rfl⟩ (pw_V (ci := 4) (q0 := 111) hK hN rfl cw_111 hP (hD.weaken (fun _ _ _ _ => trivial))) rfl hl.1 rfl (Nat.le_of_ble_eq_true rfl) ⟨Nat.zero_le _, Nat.zero_le _⟩ dX9_paste_97 (fun r26 er26 => ?_)
              rcases er26 with ⟨rfl, g9⟩ | ⟨rfl, g9⟩
              · skip
                have g27 := g9
                have h28 : Iv 0 2147483647 p3 := g27.1
                have k29 := g27.2.2
                refine lv_if_ne (tgt := 106) hx hb dX9_paste_100 (by decide) (fun c30 => ?_) (fun c30 => ?_)
                rotate_left
                · first | exact absurd c30 (by decide) | exact absurd (by decide) c30
                refine lv_aload_n hx hb dX9_paste_106 rfl (lv_at hl 0 rfl) ?_
                refine va_get (D := D) (ci := 9) (v := .ref (a 111)) (C := RX9) (T := TX9) (N := 11) hx hb hT in_X9 hown hK hP 0 cw_0 rfl 5 (by decide) (hT _ t456) (fun _ h9 => h9) rfl dX9_paste_107 ?_
                refine va_get (D := D) (ci := 4) (v := .ref (a 114)) (C := RX4) (T := TX4) (N := 3) hx hb hT in_X4 hown hK hP 111 cw_111 rfl 2 (by decide) (hT _ t348) (fun _ h9 => h9) rfl dX9_paste_110 ?_
                refine lv_iload_n hx hb dX9_paste_113 rfl (lv_at hl 1 rfl) ?_
                rcases iv_ca4 h3 0 1 2 3 (by decide) (by decide) (by decide) (by decide) (by decide) with q9 | q9 | q9 | q9
                · refine k_top (y := 0) q9 ?_
                  have h31 : Iv 0 0 p0 := (by rw [q9]; exact iv_c (by decide))
                  have q32 := q9
                  refine a_aldl hx hb hK hP 114 6 cw_114 rfl (by unfold vp_in; decide) dX9_paste_114 ?_
                  refine W.eq (g2 := F0 m 115 ls [.ref (a 115)]) rfl ?_
                  refine lv_iload_n hx hb dX9_paste_115 rfl (lv_at hl 2 rfl) ?_
                  refine lv_aload_n hx hb dX9_paste_116 rfl (lv_at hl 0 rfl) ?_
                  refine va_get (D := D) (ci := 9) (v := .ref (a 111)) (C := RX9) (T := TX9) (N := 11) hx hb hT in_X9 hown hK hP 0 cw_0 rfl 5 (by decide) (hT _ t456) (fun _ h9 => h9) rfl dX9_paste_117 ?_
                  refine va_get (D := D) (ci := 4) (v := .ref (a 114)) (C := RX4) (T := TX4) (N := 3) hx hb hT in_X4 hown hK hP 111 cw_111 rfl 2 (by decide) (hT _ t348) (fun _ h9 => h9) rfl dX9_paste_120 ?_
                  refine lv_iload_n hx hb dX9_paste_123 rfl (lv_at hl 3 rfl) ?_
                  rcases iv_ca4 h7 0 1 2 3 (by decide) (by decide) (by decide) (by decide) (by decide) with q9 | q9 | q9 | q9
                  · refine k_top (y := 0) q9 ?_
                    have h33 : Iv 0 0 p2 := (by rw [q9]; exact iv_c (by decide))
                    have q34 := q9
                    refine a_aldl hx hb hK hP 114 6 cw_114 rfl (by unfold vp_in; decide) dX9_paste_124 ?_
                    refine W.eq (g2 := F0 m 125 ls [.ref (a 115), .int p1, .ref (a 115)]) rfl ?_
                    refine lv_iload hx hb dX9_paste_125 (lv_at hl 4 rfl) ?_
                    refine lv_iload hx hb dX9_paste_127 (lv_at hl 5 rfl) ?_
                    refine c_cpl hx hb (hml.trans hl.1.symm) hown (hT _ t1256) (hT _ t686) (hT _ t685) (hT _ t121) hK hP hD hS cw_115 cw_115 cs_115 (Nat.le_of_ble_eq_true rfl) (Nat.le_of_ble_eq_true rfl) (iv_nn h22 (by decide)) (iv_nn h28 (by decide)) (iv_nn h23 (by decide)) (hd_add h22 (by decide) h23 (by decide) k24.2.2 (rb_113 hB (iv_cl h31 (by decide) (by decide))) (by decide)) (hd_add h28 (by decide) h23 (by decide) k29.2.2 (rb_113 hB (iv_cl h33 (by decide) (by decide))) (by decide)) dX9_paste_129 (fun l35 H9 locs9 hP9 hD9 hS9 => ?_)
                    clear hP hD hS
                    have hS := hS9
                    have hP := hP9
                    have hD := hD9
                    clear hP9 hD9 hS9
                    refine lv_iconst (v := 0) hx hb dX9_paste_132 (by decide) ?_
                    rw [hQ]
                    exact W.iret (v := 0) hx hb hr (fun t ht hW => ⟨⟨0, (st, l35), rfl, ⟨hB, fr_rf, (by obtain ⟨y0a, y0b⟩ := id (h31); obtain ⟨y2a, y2b⟩ := id (h33); unfold r_paste; rw [if_pos (by omega), if_neg (fun z9 => z9.elim k11 k15), if_neg (by rw [← ez17, ← ez18]; exact (fun z9 => z9 c19)), if_pos ⟨k24, k29⟩])⟩, by rw [ht]; exact hP, va_K.moved hW.alike (hK.sub (tys' := []) [] rfl), by rw [hAe]; exact hD⟩, by rw [hAe]; exact hS.F ht⟩) hS.2.2 dX9_paste_133
                  · refine k_top (y := 1) q9 ?_
                    have h36 : Iv 1 1 p2 := (by rw [q9]; exact iv_c (by decide))
                    have q37 := q9
                    refine a_aldl hx hb hK hP 114 6 cw_114 rfl (by unfold vp_in; decide) dX9_paste_124 ?_
                    refine W.eq (g2 := F0 m 125 ls [.ref (a 116), .int p1, .ref (a 115)]) rfl ?_
                    refine lv_iload hx hb dX9_paste_125 (lv_at hl 4 rfl) ?_
                    refine lv_iload hx hb dX9_paste_127 (lv_at hl 5 rfl) ?_
                    refine c_cpl hx hb (hml.trans hl.1.symm) hown (hT _ t1256) (hT _ t686) (hT _ t685) (hT _ t121) hK hP hD hS cw_115 cw_116 cs_116 (Nat.le_of_ble_eq_true rfl) (Nat.le_of_ble_eq_true rfl) (iv_nn h22 (by decide)) (iv_nn h28 (by decide)) (iv_nn h23 (by decide)) (hd_add h22 (by decide) h23 (by decide) k24.2.2 (rb_113 hB (iv_cl h31 (by decide) (by decide))) (by decide)) (hd_add h28 (by decide) h23 (by decide) k29.2.2 (rb_113 hB (iv_cl h36 (by decide) (by decide))) (by decide)) dX9_paste_129 (fun l38 H9 locs9 hP9 hD9 hS9 => ?_)
                    clear hP hD hS
                    have hS := hS9
                    have hP := hP9
                    have hD := hD9
                    clear hP9 hD9 hS9
                    refine lv_iconst (v := 0) hx hb dX9_paste_132 (by decide) ?_
                    rw [hQ]
                    exact W.iret (v := 0) hx hb hr (fun t ht hW => ⟨⟨0, (st, l38), rfl, ⟨hB, fr_rf, (by obtain ⟨y0a, y0b⟩ := id (h31); obtain ⟨y2a, y2b⟩ := id (h36); unfold r_paste; rw [if_pos (by omega), if_neg (fun z9 => z9.elim k11 k15), if_neg (by rw [← ez17, ← ez18]; exact (fun z9 => z9 c19)), if_pos ⟨k24, k29⟩])⟩, by rw [ht]; exact hP, va_K.moved hW.alike (hK.sub (tys' := []) [] rfl), by rw [hAe]; exact hD⟩, by rw [hAe]; exact hS.F ht⟩) hS.2.2 dX9_paste_133
                  · refine k_top (y := 2) q9 ?_
                    have h39 : Iv 2 2 p2 := (by rw [q9]; exact iv_c (by decide))
                    have q40 := q9
                    refine a_aldl hx hb hK hP 114 6 cw_114 rfl (by unfold vp_in; decide) dX9_paste_124 ?_
                    refine W.eq (g2 := F0 m 125 ls [.ref (a 117), .int p1, .ref (a 115)]) rfl ?_
                    refine lv_iload hx hb dX9_paste_125 (lv_at hl 4 rfl) ?_
                    refine lv_iload hx hb dX9_paste_127 (lv_at hl 5 rfl) ?_
                    refine c_cpl hx hb (hml.trans hl.1.symm) hown (hT _ t1256) (hT _ t686) (hT _ t685) (hT _ t121) hK hP hD hS cw_115 cw_117 cs_117 (Nat.le_of_ble_eq_true rfl) (Nat.le_of_ble_eq_true rfl) (iv_nn h22 (by decide)) (iv_nn h28 (by decide)) (iv_nn h23 (by decide)) (hd_add h22 (by decide) h23 (by decide) k24.2.2 (rb_113 hB (iv_cl h31 (by decide) (by decide))) (by decide)) (hd_add h28 (by decide) h23 (by decide) k29.2.2 (rb_113 hB (iv_cl h39 (by decide) (by decide))) (by decide)) dX9_paste_129 (fun l41 H9 locs9 hP9 hD9 hS9 => ?_)
                    clear hP hD hS
                    have hS := hS9
                    have hP := hP9
                    have hD := hD9
                    clear hP9 hD9 hS9
                    refine lv_iconst (v := 0) hx hb dX9_paste_132 (by decide) ?_
                    rw [hQ]
                    exact W.iret (v := 0) hx hb hr (fun t ht hW => ⟨⟨0, (st, l41), rfl, ⟨hB, fr_rf, (by obtain ⟨y0a, y0b⟩ := id (h31); obtain ⟨y2a, y2b⟩ := id (h39); unfold r_paste; rw [if_pos (by omega), if_neg (fun z9 => z9.elim k11 k15), if_neg (by rw [← ez17, ← ez18]; exact (fun z9 => z9 c19)), if_pos ⟨k24, k29⟩])⟩, by rw [ht]; exact hP, va_K.moved hW.alike (hK.sub (tys' := []) [] rfl), by rw [hAe]; exact hD⟩, by rw [hAe]; exact hS.F ht⟩) hS.2.2 dX9_paste_133
                  · refine k_top (y := 3) q9 ?_
                    have h42 : Iv 3 3 p2 := (by rw [q9]; exact iv_c (by decide))
                    have q43 := q9
                    refine a_aldl hx hb hK hP 114 6 cw_114 rfl (by unfold vp_in; decide) dX9_paste_124 ?_
                    refine W.eq (g2 := F0 m 125 ls [.ref (a 118), .int p1, .ref (a 115)]) rfl ?_
                    refine lv_iload hx hb dX9_paste_125 (lv_at hl 4 rfl) ?_
                    refine lv_iload hx hb dX9_paste_127 (lv_at hl 5 rfl) ?_
                    refine c_cpl hx hb (hml.trans hl.1.symm) hown (hT _ t1256) (hT _ t686) (hT _ t685) (hT _ t121) hK hP hD hS cw_115 cw_118 cs_118 (Nat.le_of_ble_eq_true rfl) (Nat.le_of_ble_eq_true rfl) (iv_nn h22 (by decide)) (iv_nn h28 (by decide)) (iv_nn h23 (by decide)) (hd_add h22 (by decide) h23 (by decide) k24.2.2 (rb_113 hB (iv_cl h31 (by decide) (by decide))) (by decide)) (hd_add h28 (by decide) h23 (by decide) k29.2.2 (rb_113 hB (iv_cl h42 (by decide) (by decide))) (by decide)) dX9_paste_129 (fun l44 H9 locs9 hP9 hD9 hS9 => ?_)
                    clear hP hD hS
                    have hS := hS9
                    have hP := hP9
                    have hD := hD9
                    clear hP9 hD9 hS9
                    refine lv_iconst (v := 0) hx hb dX9_paste_132 (by decide) ?_
                    rw [hQ]
                    exact W.iret (v := 0) hx hb hr (fun t ht hW => ⟨⟨0, (st, l44), rfl, ⟨hB, fr_rf, (by obtain ⟨y0a, y0b⟩ := id (h31); obtain ⟨y2a, y2b⟩ := id (h42); unfold r_paste; rw [if_pos (by omega), if_neg (fun z9 => z9.elim k11 k15), if_neg (by rw [← ez17, ← ez18]; exact (fun z9 => z9 c19)), if_pos ⟨k24, k29⟩])⟩, by rw [ht]; exact hP, va_K.moved hW.alike (hK.sub (tys' := []) [] rfl), by rw [hAe]; exact hD⟩, by rw [hAe]; exact hS.F ht⟩) hS.2.2 dX9_paste_133
                · refine k_top (y := 1) q9 ?_
                  have h45 : Iv 1 1 p0 := (by rw [q9]; exact iv_c (by decide))
                  have q46 := q9
                  refine a_aldl hx hb hK hP 114 6 cw_114 rfl (by unfold vp_in; decide) dX9_paste_114 ?_
                  refine W.eq (g2 := F0 m 115 ls [.ref (a 116)]) rfl ?_
                  refine lv_iload_n hx hb dX9_paste_115 rfl (lv_at hl 2 rfl) ?_
                  refine lv_aload_n hx hb dX9_paste_116 rfl (lv_at hl 0 rfl) ?_
                  refine va_get (D := D) (ci := 9) (v := .ref (a 111)) (C := RX9) (T := TX9) (N := 11) hx hb hT in_X9 hown hK hP 0 cw_0 rfl 5 (by decide) (hT _ t456) (fun _ h9 => h9) rfl dX9_paste_117 ?_
                  refine va_get (D := D) (ci := 4) (v := .ref (a 114)) (C := RX4) (T := TX4) (N := 3) hx hb hT in_X4 hown hK hP 111 cw_111 rfl 2 (by decide) (hT _ t348) (fun _ h9 => h9) rfl dX9_paste_120 ?_
                  refine lv_iload_n hx hb dX9_paste_123 rfl (lv_at hl 3 rfl) ?_
                  rcases iv_ca4 h7 0 1 2 3 (by decide) (by decide) (by decide) (by decide) (by decide) with q9 | q9 | q9 | q9
                  · refine k_top (y := 0) q9 ?_
                    have h47 : Iv 0 0 p2 := (by rw [q9]; exact iv_c (by decide))
                    have q48 := q9
                    refine a_aldl hx hb hK hP 114 6 cw_114 rfl (by unfold vp_in; decide) dX9_paste_124 ?_
                    refine W.eq (g2 := F0 m 125 ls [.ref (a 115), .int p1, .ref (a 116)]) rfl ?_
                    refine lv_iload hx hb dX9_paste_125 (lv_at hl 4 rfl) ?_
                    refine lv_iload hx hb dX9_paste_127 (lv_at hl 5 rfl) ?_
                    refine c_cpl hx hb (hml.trans hl.1.symm) hown (hT _ t1256) (hT _ t686) (hT _ t685) (hT _ t121) hK hP hD hS cw_116 cw_115 cs_115 (Nat.le_of_ble_eq_true rfl) (Nat.le_of_ble_eq_true rfl) (iv_nn h22 (by decide)) (iv_nn h28 (by decide)) (iv_nn h23 (by decide)) (hd_add h22 (by decide) h23 (by decide) k24.2.2 (rb_113 hB (iv_cl h45 (by decide) (by decide))) (by decide)) (hd_add h28 (by decide) h23 (by decide) k29.2.2 (rb_113 hB (iv_cl h47 (by decide) (by decide))) (by decide)) dX9_paste_129 (fun l49 H9 locs9 hP9 hD9 hS9 => ?_)
                    clear hP hD hS
                    have hS := hS9
                    have hP := hP9
                    have hD := hD9
                    clear hP9 hD9 hS9
                    refine lv_iconst (v := 0) hx hb dX9_paste_132 (by decide) ?_
                    rw [hQ]
                    exact W.iret (v := 0) hx hb hr (fun t ht hW => ⟨⟨0, (st, l49), rfl, ⟨hB, fr_rf, (by obtain ⟨y0a, y0b⟩ := id (h45); obtain ⟨y2a, y2b⟩ := id (h47); unfold r_paste; rw [if_pos (by omega), if_neg (fun z9 => z9.elim k11 k15), if_neg (by rw [← ez17, ← ez18]; exact (fun z9 => z9 c19)), if_pos ⟨k24, k29⟩])⟩, by rw [ht]; exact hP, va_K.moved hW.alike (hK.sub (tys' := []) [] rfl), by rw [hAe]; exact hD⟩, by rw [hAe]; exact hS.F ht⟩) hS.2.2 dX9_paste_133
                  · refine k_top (y := 1) q9 ?_
                    have h50 : Iv 1 1 p2 := (by rw [q9]; exact iv_c (by decide))
                    have q51 := q9
                    refine a_aldl hx hb hK hP 114 6 cw_114 rfl (by unfold vp_in; decide) dX9_paste_124 ?_
                    refine W.eq (g2 := F0 m 125 ls [.ref (a 116), .int p1, .ref (a 116)]) rfl ?_
                    refine lv_iload hx hb dX9_paste_125 (lv_at hl 4 rfl) ?_
                    refine lv_iload hx hb dX9_paste_127 (lv_at hl 5 rfl) ?_
                    refine c_cpl hx hb (hml.trans hl.1.symm) hown (hT _ t1256) (hT _ t686) (hT _ t685) (hT _ t121) hK hP hD hS cw_116 cw_116 cs_116 (Nat.le_of_ble_eq_true rfl) (Nat.le_of_ble_eq_true rfl) (iv_nn h22 (by decide)) (iv_nn h28 (by decide)) (iv_nn h23 (by decide)) (hd_add h22 (by decide) h23 (by decide) k24.2.2 (rb_113 hB (iv_cl h45 (by decide) (by decide))) (by decide)) (hd_add h28 (by decide) h23 (by decide) k29.2.2 (rb_113 hB (iv_cl h50 (by decide) (by decide))) (by decide)) dX9_paste_129 (fun l52 H9 locs9 hP9 hD9 hS9 => ?_)
                    clear hP hD hS
                    have hS := hS9
                    have hP := hP9
                    have hD := hD9
                    clear hP9 hD9 hS9
                    refine lv_iconst (v := 0) hx hb dX9_paste_132 (by decide) ?_
                    rw [hQ]
                    exact W.iret (v := 0) hx hb hr (fun t ht hW => ⟨⟨0, (st, l52), rfl, ⟨hB, fr_rf, (by obtain ⟨y0a, y0b⟩ := id (h45); obtain ⟨y2a, y2b⟩ := id (h50); unfold r_paste; rw [if_pos (by omega), if_neg (fun z9 => z9.elim k11 k15), if_neg (by rw [← ez17, ← ez18]; exact (fun z9 => z9 c19)), if_pos ⟨k24, k29⟩])⟩, by rw [ht]; exact hP, va_K.moved hW.alike (hK.sub (tys' := []) [] rfl), by rw [hAe]; exact hD⟩, by rw [hAe]; exact hS.F ht⟩) hS.2.2 dX9_paste_133
                  · refine k_top (y := 2) q9 ?_
                    have h53 : Iv 2 2 p2 := (by rw [q9]; exact iv_c (by decide))
                    have q54 := q9
                    refine a_aldl hx hb hK hP 114 6 cw_114 rfl (by unfold vp_in; decide) dX9_paste_124 ?_
                    refine W.eq (g2 := F0 m 125 ls [.ref (a 117), .int p1, .ref (a 116)]) rfl ?_
                    refine lv_iload hx hb dX9_paste_125 (lv_at hl 4 rfl) ?_
                    refine lv_iload hx hb dX9_paste_127 (lv_at hl 5 rfl) ?_
                    refine c_cpl hx hb (hml.trans hl.1.symm) hown (hT _ t1256) (hT _ t686) (hT _ t685) (hT _ t121) hK hP hD hS cw_116 cw_117 cs_117 (Nat.le_of_ble_eq_true rfl) (Nat.le_of_ble_eq_true rfl) (iv_nn h22 (by decide)) (iv_nn h28 (by decide)) (iv_nn h23 (by decide)) (hd_add h22 (by decide) h23 (by decide) k24.2.2 (rb_113 hB (iv_cl h45 (by decide) (by decide))) (by decide)) (hd_add h28 (by decide) h23 (by decide) k29.2.2 (rb_113 hB (iv_cl h53 (by decide) (by decide))) (by decide)) dX9_paste_129 (fun l55 H9 locs9 hP9 hD9 hS9 => ?_)
                    clear hP hD hS
                    have hS := hS9
                    have hP := hP9
                    have hD := hD9
                    clear hP9 hD9 hS9
                    refine lv_iconst (v := 0) hx hb dX9_paste_132 (by decide) ?_
                    rw [hQ]
                    exact W.iret (v := 0) hx hb hr (fun t ht hW => ⟨⟨0, (st, l55), rfl, ⟨hB, fr_rf, (by obtain ⟨y0a, y0b⟩ := id (h45); obtain ⟨y2a, y2b⟩ := id (h53); unfold r_paste; rw [if_pos (by omega), if_neg (fun z9 => z9.elim k11 k15), if_neg (by rw [← ez17, ← ez18]; exact (fun z9 => z9 c19)), if_pos ⟨k24, k29⟩])⟩, by rw [ht]; exact hP, va_K.moved hW.alike (hK.sub (tys' := []) [] rfl), by rw [hAe]; exact hD⟩, by rw [hAe]; exact hS.F ht⟩) hS.2.2 dX9_paste_133
                  · refine k_top (y := 3) q9 ?_
                    have h56 : Iv 3 3 p2 := (by rw [q9]; exact iv_c (by decide))
                    have q57 := q9
                    refine a_aldl hx hb hK hP 114 6 cw_114 rfl (by unfold vp_in; decide) dX9_paste_124 ?_
                    refine W.eq (g2 := F0 m 125 ls [.ref (a 118), .int p1, .ref (a 116)]) rfl ?_
                    refine lv_iload hx hb dX9_paste_125 (lv_at hl 4 rfl) ?_
                    refine lv_iload hx hb dX9_paste_127 (lv_at hl 5 rfl) ?_
                    refine c_cpl hx hb (hml.trans hl.1.symm) hown (hT _ t1256) (hT _ t686) (hT _ t685) (hT _ t121) hK hP hD hS cw_116 cw_118 cs_118 (Nat.le_of_ble_eq_true rfl) (Nat.le_of_ble_eq_true rfl) (iv_nn h22 (by decide)) (iv_nn h28 (by decide)) (iv_nn h23 (by decide)) (hd_add h22 (by decide) h23 (by decide) k24.2.2 (rb_113 hB (iv_cl h45 (by decide) (by decide))) (by decide)) (hd_add h28 (by decide) h23 (by decide) k29.2.2 (rb_113 hB (iv_cl h56 (by decide) (by decide))) (by decide)) dX9_paste_129 (fun l58 H9 locs9 hP9 hD9 hS9 => ?_)
                    clear hP hD hS
                    have hS := hS9
                    have hP := hP9
                    have hD := hD9
                    clear hP9 hD9 hS9
                    refine lv_iconst (v := 0) hx hb dX9_paste_132 (by decide) ?_
                    rw [hQ]
                    exact W.iret (v := 0) hx hb hr (fun t ht hW => ⟨⟨0, (st, l58), rfl, ⟨hB, fr_rf, (by obtain ⟨y0a, y0b⟩ := id (h45); obtain ⟨y2a, y2b⟩ := id (h56); unfold r_paste; rw [if_pos (by omega), if_neg (fun z9 => z9.elim k11 k15), if_neg (by rw [← ez17, ← ez18]; exact (fun z9 => z9 c19)), if_pos ⟨k24, k29⟩])⟩, by rw [ht]; exact hP, va_K.moved hW.alike (hK.sub (tys' := []) [] rfl), by rw [hAe]; exact hD⟩, by rw [hAe]; exact hS.F ht⟩) hS.2.2 dX9_paste_133
                · refine k_top (y := 2) q9 ?_
                  have h59 : Iv 2 2 p0 := (by rw [q9]; exact iv_c (by decide))
                  have q60 := q9
                  refine a_aldl hx hb hK hP 114 6 cw_114 rfl (by unfold vp_in; decide) dX9_paste_114 ?_
                  refine W.eq (g2 := F0 m 115 ls [.ref (a 117)]) rfl ?_
                  refine lv_iload_n hx hb dX9_paste_115 rfl (lv_at hl 2 rfl) ?_
                  refine lv_aload_n hx hb dX9_paste_116 rfl (lv_at hl 0 rfl) ?_
                  refine va_get (D := D) (ci := 9) (v := .ref (a 111)) (C := RX9) (T := TX9) (N := 11) hx hb hT in_X9 hown hK hP 0 cw_0 rfl 5 (by decide) (hT _ t456) (fun _ h9 => h9) rfl dX9_paste_117 ?_
                  refine va_get (D := D) (ci := 4) (v := .ref (a 114)) (C := RX4) (T := TX4) (N := 3) hx hb hT in_X4 hown hK hP 111 cw_111 rfl 2 (by decide) (hT _ t348) (fun _ h9 => h9) rfl dX9_paste_120 ?_
                  refine lv_iload_n hx hb dX9_paste_123 rfl (lv_at hl 3 rfl) ?_
                  rcases iv_ca4 h7 0 1 2 3 (by decide) (by decide) (by decide) (by decide) (by decide) with q9 | q9 | q9 | q9
                  · refine k_top (y := 0) q9 ?_
                    have h61 : Iv 0 0 p2 := (by rw [q9]; exact iv_c (by decide))
                    have q62 := q9
                    refine a_aldl hx hb hK hP 114 6 cw_114 rfl (by unfold vp_in; decide) dX9_paste_124 ?_
                    refine W.eq (g2 := F0 m 125 ls [.ref (a 115), .int p1, .ref (a 117)]) rfl ?_
                    refine lv_iload hx hb dX9_paste_125 (lv_at hl 4 rfl) ?_
                    refine lv_iload hx hb dX9_paste_127 (lv_at hl 5 rfl) ?_
                    refine c_cpl hx hb (hml.trans hl.1.symm) hown (hT _ t1256) (hT _ t686) (hT _ t685) (hT _ t121) hK hP hD hS cw_117 cw_115 cs_115 (Nat.le_of_ble_eq_true rfl) (Nat.le_of_ble_eq_true rfl) (iv_nn h22 (by decide)) (iv_nn h28 (by decide)) (iv_nn h23 (by decide)) (hd_add h22 (by decide) h23 (by decide) k24.2.2 (rb_113 hB (iv_cl h59 (by decide) (by decide))) (by decide)) (hd_add h28 (by decide) h23 (by decide) k29.2.2 (rb_113 hB (iv_cl h61 (by decide) (by decide))) (by decide)) dX9_paste_129 (fun l63 H9 locs9 hP9 hD9 hS9 => ?_)
                    clear hP hD hS
                    have hS := hS9
                    have hP := hP9
                    have hD := hD9
                    clear hP9 hD9 hS9
                    refine lv_iconst (v := 0) hx hb dX9_paste_132 (by decide) ?_
                    rw [hQ]
                    exact W.iret (v := 0) hx hb hr (fun t ht hW => ⟨⟨0, (st, l63), rfl, ⟨hB, fr_rf, (by obtain ⟨y0a, y0b⟩ := id (h59); obtain ⟨y2a, y2b⟩ := id (h61); unfold r_paste; rw [if_pos (by omega), if_neg (fun z9 => z9.elim k11 k15), if_neg (by rw [← ez17, ← ez18]; exact (fun z9 => z9 c19)), if_pos ⟨k24, k29⟩])⟩, by rw [ht]; exact hP, va_K.moved hW.alike (hK.sub (tys' := []) [] rfl), by rw [hAe]; exact hD⟩, by rw [hAe]; exact hS.F ht⟩) hS.2.2 dX9_paste_133
                  · refine k_top (y := 1) q9 ?_
                    have h64 : Iv 1 1 p2 := (by rw [q9]; exact iv_c (by decide))
                    have q65 := q9
                    refine a_aldl hx hb hK hP 114 6 cw_114 rfl (by unfold vp_in; decide) dX9_paste_124 ?_
                    refine W.eq (g2 := F0 m 125 ls [.ref (a 116), .int p1, .ref (a 117)]) rfl ?_
                    refine lv_iload hx hb dX9_paste_125 (lv_at hl 4 rfl) ?_
                    refine lv_iload hx hb dX9_paste_127 (lv_at hl 5 rfl) ?_
                    refine c_cpl hx hb (hml.trans hl.1.symm) hown (hT _ t1256) (hT _ t686) (hT _ t685) (hT _ t121) hK hP hD hS cw_117 cw_116 cs_116 (Nat.le_of_ble_eq_true rfl) (Nat.le_of_ble_eq_true rfl) (iv_nn h22 (by decide)) (iv_nn h28 (by decide)) (iv_nn h23 (by decide)) (hd_add h22 (by decide) h23 (by decide) k24.2.2 (rb_113 hB (iv_cl h59 (by decide) (by decide))) (by decide)) (hd_add h28 (by decide) h23 (by decide) k29.2.2 (rb_113 hB (iv_cl h64 (by decide) (by decide))) (by decide)) dX9_paste_129 (fun l66 H9 locs9 hP9 hD9 hS9 => ?_)
                    clear hP hD hS
                    have hS := hS9
                    have hP := hP9
                    have hD := hD9
                    clear hP9 hD9 hS9
                    refine lv_iconst (v := 0) hx hb dX9_paste_132 (by decide) ?_
                    rw [hQ]
                    exact W.iret (v := 0) hx hb hr (fun t ht hW => ⟨⟨0, (st, l66), rfl, ⟨hB, fr_rf, (by obtain ⟨y0a, y0b⟩ := id (h59); obtain ⟨y2a, y2b⟩ := id (h64); unfold r_paste; rw [if_pos (by omega), if_neg (fun z9 => z9.elim k11 k15), if_neg (by rw [← ez17, ← ez18]; exact (fun z9 => z9 c19)), if_pos ⟨k24, k29⟩])⟩, by rw [ht]; exact hP, va_K.moved hW.alike (hK.sub (tys' := []) [] rfl), by rw [hAe]; exact hD⟩, by rw [hAe]; exact hS.F ht⟩) hS.2.2 dX9_paste_133
                  · refine k_top (y := 2) q9 ?_
                    have h67 : Iv 2 2 p2 := (by rw [q9]; exact iv_c (by decide))
                    have q68 := q9
                    refine a_aldl hx hb hK hP 114 6 cw_114 rfl (by unfold vp_in; decide) dX9_paste_124 ?_
                    refine W.eq (g2 := F0 m 125 ls [.ref (a 117), .int p1, .ref (a 117)]) rfl ?_
                    refine lv_iload hx hb dX9_paste_125 (lv_at hl 4 rfl) ?_
                    refine lv_iload hx hb dX9_paste_127 (lv_at hl 5 rfl) ?_
                    refine c_cpl hx hb (hml.trans hl.1.symm) hown (hT _ t1256) (hT _ t686) (hT _ t685) (hT _ t121) hK hP hD hS cw_117 cw_117 cs_117 (Nat.le_of_ble_eq_true rfl) (Nat.le_of_ble_eq_true rfl) (iv_nn h22 (by decide)) (iv_nn h28 (by decide)) (iv_nn h23 (by decide)) (hd_add h22 (by decide) h23 (by decide) k24.2.2 (rb_113 hB (iv_cl h59 (by decide) (by decide))) (by decide)) (hd_add h28 (by decide) h23 (by decide) k29.2.2 (rb_113 hB (iv_cl h67 (by decide) (by decide))) (by decide)) dX9_paste_129 (fun l69 H9 locs9 hP9 hD9 hS9 => ?_)
                    clear hP hD hS
                    have hS := hS9
                    have hP := hP9
                    have hD := hD9
                    clear hP9 hD9 hS9
                    refine lv_iconst (v := 0) hx hb dX9_paste_132 (by decide) ?_
                    rw [hQ]
                    exact W.iret (v := 0) hx hb hr (fun t ht hW => ⟨⟨0, (st, l69), rfl, ⟨hB, fr_rf, (by obtain ⟨y0a, y0b⟩ := id (h59); obtain ⟨y2a, y2b⟩ := id (h67); unfold r_paste; rw [if_pos (by omega), if_neg (fun z9 => z9.elim k11 k15), if_neg (by rw [← ez17, ← ez18]; exact (fun z9 => z9 c19)), if_pos ⟨k24, k29⟩])⟩, by rw [ht]; exact hP, va_K.moved hW.alike (hK.sub (tys' := []) [] rfl), by rw [hAe]; exact hD⟩, by rw [hAe]; exact hS.F ht⟩) hS.2.2 dX9_paste_133
                  · refine k_top (y := 3) q9 ?_
                    have h70 : Iv 3 3 p2 := (by rw [q9]; exact iv_c (by decide))
                    have q71 := q9
                    refine a_aldl hx hb hK hP 114 6 cw_114 rfl (by unfold vp_in; decide) dX9_paste_124 ?_
                    refine W.eq (g2 := F0 m 125 ls [.ref (a 118), .int p1, .ref (a 117)]) rfl ?_
                    refine lv_iload hx hb dX9_paste_125 (lv_at hl 4 rfl) ?_
                    refine lv_iload hx hb dX9_paste_127 (lv_at hl 5 rfl) ?_
                    refine c_cpl hx hb (hml.trans hl.1.symm) hown (hT _ t1256) (hT _ t686) (hT _ t685) (hT _ t121) hK hP hD hS cw_117 cw_118 cs_118 (Nat.le_of_ble_eq_true rfl) (Nat.le_of_ble_eq_true rfl) (iv_nn h22 (by decide)) (iv_nn h28 (by decide)) (iv_nn h23 (by decide)) (hd_add h22 (by decide) h23 (by decide) k24.2.2 (rb_113 hB (iv_cl h59 (by decide) (by decide))) (by decide)) (hd_add h28 (by decide) h23 (by decide) k29.2.2 (rb_113 hB (iv_cl h70 (by decide) (by decide))) (by decide)) dX9_paste_129 (fun l72 H9 locs9 hP9 hD9 hS9 => ?_)
                    clear hP hD hS
                    have hS := hS9
                    have hP := hP9
                    have hD := hD9
                    clear hP9 hD9 hS9
                    refine lv_iconst (v := 0) hx hb dX9_paste_132 (by decide) ?_
                    rw [hQ]
                    exact W.iret (v := 0) hx hb hr (fun t ht hW => ⟨⟨0, (st, l72), rfl, ⟨hB, fr_rf, (by obtain ⟨y0a, y0b⟩ := id (h59); obtain ⟨y2a, y2b⟩ := id (h70); unfold r_paste; rw [if_pos (by omega), if_neg (fun z9 => z9.elim k11 k15), if_neg (by rw [← ez17, ← ez18]; exact (fun z9 => z9 c19)), if_pos ⟨k24, k29⟩])⟩, by rw [ht]; exact hP, va_K.moved hW.alike (hK.sub (tys' := []) [] rfl), by rw [hAe]; exact hD⟩, by rw [hAe]; exact hS.F ht⟩) hS.2.2 dX9_paste_133
                · refine k_top (y := 3) q9 ?_
                  have h73 : Iv 3 3 p0 := (by rw [q9]; exact iv_c (by decide))
                  have q74 := q9
                  refine a_aldl hx hb hK hP 114 6 cw_114 rfl (by unfold vp_in; decide) dX9_paste_114 ?_
                  refine W.eq (g2 := F0 m 115 ls [.ref (a 118)]) rfl ?_
                  refine lv_iload_n hx hb dX9_paste_115 rfl (lv_at hl 2 rfl) ?_
                  refine lv_aload_n hx hb dX9_paste_116 rfl (lv_at hl 0 rfl) ?_
                  refine va_get (D := D) (ci := 9) (v := .ref (a 111)) (C := RX9) (T := TX9) (N := 11) hx hb hT in_X9 hown hK hP 0 cw_0 rfl 5 (by decide) (hT _ t456) (fun _ h9 => h9) rfl dX9_paste_117 ?_
                  refine va_get (D := D) (ci := 4) (v := .ref (a 114)) (C := RX4) (T := TX4) (N := 3) hx hb hT in_X4 hown hK hP 111 cw_111 rfl 2 (by decide) (hT _ t348) (fun _ h9 => h9) rfl dX9_paste_120 ?_
                  refine lv_iload_n hx hb dX9_paste_123 rfl (lv_at hl 3 rfl) ?_
                  rcases iv_ca4 h7 0 1 2 3 (by decide) (by decide) (by decide) (by decide) (by decide) with q9 | q9 | q9 | q9
                  · refine k_top (y := 0) q9 ?_
                    have h75 : Iv 0 0 p2 := (by rw [q9]; exact iv_c (by decide))
                    have q76 := q9
                    refine a_aldl hx hb hK hP 114 6 cw_114 rfl (by unfold vp_in; decide) dX9_paste_124 ?_
                    refine W.eq (g2 := F0 m 125 ls [.ref (a 115), .int p1, .ref (a 118)]) rfl ?_
                    refine lv_iload hx hb dX9_paste_125 (lv_at hl 4 rfl) ?_
                    refine lv_iload hx hb dX9_paste_127 (lv_at hl 5 rfl) ?_
                    refine c_cpl hx hb (hml.trans hl.1.symm) hown (hT _ t1256) (hT _ t686) (hT _ t685) (hT _ t121) hK hP hD hS cw_118 cw_115 cs_115 (Nat.le_of_ble_eq_true rfl) (Nat.le_of_ble_eq_true rfl) (iv_nn h22 (by decide)) (iv_nn h28 (by decide)) (iv_nn h23 (by decide)) (hd_add h22 (by decide) h23 (by decide) k24.2.2 (rb_113 hB (iv_cl h73 (by decide) (by decide))) (by decide)) (hd_add h28 (by decide) h23 (by decide) k29.2.2 (rb_113 hB (iv_cl h75 (by decide) (by decide))) (by decide)) dX9_paste_129 (fun l77 H9 locs9 hP9 hD9 hS9 => ?_)
                    clear hP hD hS
                    have hS := hS9
                    have hP := hP9
                    have hD := hD9
                    clear hP9 hD9 hS9
                    refine lv_iconst (v := 0) hx hb dX9_paste_132 (by decide) ?_
                    rw [hQ]
                    exact W.iret (v := 0) hx hb hr (fun t ht hW => ⟨⟨0, (st, l77), rfl, ⟨hB, fr_rf, (by obtain ⟨y0a, y0b⟩ := id (h73); obtain ⟨y2a, y2b⟩ := id (h75); unfold r_paste; rw [if_pos (by omega), if_neg (fun z9 => z9.elim k11 k15), if_neg (by rw [← ez17, ← ez18]; exact (fun z9 => z9 c19)), if_pos ⟨k24, k29⟩])⟩, by rw [ht]; exact hP, va_K.moved hW.alike (hK.sub (tys' := []) [] rfl), by rw [hAe]; exact hD⟩, by rw [hAe]; exact hS.F ht⟩) hS.2.2 dX9_paste_133
                  · refine k_top (y := 1) q9 ?_
                    have h78 : Iv 1 1 p2 := (by rw [q9]; exact iv_c (by decide))
                    have q79 := q9
                    refine a_aldl hx hb hK hP 114 6 cw_114 rfl (by unfold vp_in; decide) dX9_paste_124 ?_
                    refine W.eq (g2 := F0 m 125 ls [.ref (a 116), .int p1, .ref (a 118)]) rfl ?_
                    refine lv_iload hx hb dX9_paste_125 (lv_at hl 4 rfl) ?_
                    refine lv_iload hx hb dX9_paste_127 (lv_at hl 5 rfl) ?_
                    refine c_cpl hx hb (hml.trans hl.1.symm) hown (hT _ t1256) (hT _ t686) (hT _ t685) (hT _ t121) hK hP hD hS cw_118 cw_116 cs_116 (Nat.le_of_ble_eq_true rfl) (Nat.le_of_ble_eq_true rfl) (iv_nn h22 (by decide)) (iv_nn h28 (by decide)) (iv_nn h23 (by decide)) (hd_add h22 (by decide) h23 (by decide) k24.2.2 (rb_113 hB (iv_cl h73 (by decide) (by decide))) (by decide)) (hd_add h28 (by decide) h23 (by decide) k29.2.2 (rb_113 hB (iv_cl h78 (by decide) (by decide))) (by decide)) dX9_paste_129 (fun l80 H9 locs9 hP9 hD9 hS9 => ?_)
                    clear hP hD hS
                    have hS := hS9
                    have hP := hP9
                    have hD := hD9
                    clear hP9 hD9 hS9
                    refine lv_iconst (v := 0) hx hb dX9_paste_132 (by decide) ?_
                    rw [hQ]
                    exact W.iret (v := 0) hx hb hr (fun t ht hW => ⟨⟨0, (st, l80), rfl, ⟨hB, fr_rf, (by obtain ⟨y0a, y0b⟩ := id (h73); obtain ⟨y2a, y2b⟩ := id (h78); unfold r_paste; rw [if_pos (by omega), if_neg (fun z9 => z9.elim k11 k15), if_neg (by rw [← ez17, ← ez18]; exact (fun z9 => z9 c19)), if_pos ⟨k24, k29⟩])⟩, by rw [ht]; exact hP, va_K.moved hW.alike (hK.sub (tys' := []) [] rfl), by rw [hAe]; exact hD⟩, by rw [hAe]; exact hS.F ht⟩) hS.2.2 dX9_paste_133
                  · refine k_top (y := 2) q9 ?_
                    have h81 : Iv 2 2 p2 := (by rw [q9]; exact iv_c (by decide))
                    have q82 := q9
                    refine a_aldl hx hb hK hP 114 6 cw_114 rfl (by unfold vp_in; decide) dX9_paste_124 ?_
                    refine W.eq (g2 := F0 m 125 ls [.ref (a 117), .int p1, .ref (a 118)]) rfl ?_
                    refine lv_iload hx hb dX9_paste_125 (lv_at hl 4 rfl) ?_
                    refine lv_iload hx hb dX9_paste_127 (lv_at hl 5 rfl) ?_
                    refine c_cpl hx hb (hml.trans hl.1.symm) hown (hT _ t1256) (hT _ t686) (hT _ t685) (hT _ t121) hK hP hD hS cw_118 cw_117 cs_117 (Nat.le_of_ble_eq_true rfl) (Nat.le_of_ble_eq_true rfl) (iv_nn h22 (by decide)) (iv_nn h28 (by decide)) (iv_nn h23 (by decide)) (hd_add h22 (by decide) h23 (by decide) k24.2.2 (rb_113 hB (iv_cl h73 (by decide) (by decide))) (by decide)) (hd_add h28 (by decide) h23 (by decide) k29.2.2 (rb_113 hB (iv_cl h81 (by decide) (by decide))) (by decide)) dX9_paste_129 (fun l83 H9 locs9 hP9 hD9 hS9 => ?_)
                    clear hP hD hS
                    have hS := hS9
                    have hP := hP9
                    have hD := hD9
                    clear hP9 hD9 hS9
                    refine lv_iconst (v := 0) hx hb dX9_paste_132 (by decide) ?_
                    rw [hQ]
                    exact W.iret (v := 0) hx hb hr (fun t ht hW => ⟨⟨0, (st, l83), rfl, ⟨hB, fr_rf, (by obtain ⟨y0a, y0b⟩ := id (h73); obtain ⟨y2a, y2b⟩ := id (h81); unfold r_paste; rw [if_pos (by omega), if_neg (fun z9 => z9.elim k11 k15), if_neg (by rw [← ez17, ← ez18]; exact (fun z9 => z9 c19)), if_pos ⟨k24, k29⟩])⟩, by rw [ht]; exact hP, va_K.moved hW.alike (hK.sub (tys' := []) [] rfl), by rw [hAe]; exact hD⟩, by rw [hAe]; exact hS.F ht⟩) hS.2.2 dX9_paste_133
                  · refine k_top (y := 3) q9 ?_
                    have h84 : Iv 3 3 p2 := (by rw [q9]; exact iv_c (by decide))
                    have q85 := q9
                    refine a_aldl hx hb hK hP 114 6 cw_114 rfl (by unfold vp_in; decide) dX9_paste_124 ?_
                    refine W.eq (g2 := F0 m 125 ls [.ref (a 118), .int p1, .ref (a 118)]) rfl ?_
                    refine lv_iload hx hb dX9_paste_125 (lv_at hl 4 rfl) ?_
                    refine lv_iload hx hb dX9_paste_127 (lv_at hl 5 rfl) ?_
                    refine c_cpl hx hb (hml.trans hl.1.symm) hown (hT _ t1256) (hT _ t686) (hT _ t685) (hT _ t121) hK hP hD hS cw_118 cw_118 cs_118 (Nat.le_of_ble_eq_true rfl) (Nat.le_of_ble_eq_true rfl) (iv_nn h22 (by decide)) (iv_nn h28 (by decide)) (iv_nn h23 (by decide)) (hd_add h22 (by decide) h23 (by decide) k24.2.2 (rb_113 hB (iv_cl h73 (by decide) (by decide))) (by decide)) (hd_add h28 (by decide) h23 (by decide) k29.2.2 (rb_113 hB (iv_cl h84 (by decide) (by decide))) (by decide)) dX9_paste_129 (fun l86 H9 locs9 hP9 hD9 hS9 => ?_)
                    clear hP hD hS
                    have hS := hS9
                    have hP := hP9
                    have hD := hD9
                    clear hP9 hD9 hS9
                    refine lv_iconst (v := 0) hx hb dX9_paste_132 (by decide) ?_
                    rw [hQ]
                    exact W.iret (v := 0) hx hb hr (fun t ht hW => ⟨⟨0, (st, l86), rfl, ⟨hB, fr_rf, (by obtain ⟨y0a, y0b⟩ := id (h73); obtain ⟨y2a, y2b⟩ := id (h84); unfold r_paste; rw [if_pos (by omega), if_neg (fun z9 => z9.elim k11 k15), if_neg (by rw [← ez17, ← ez18]; exact (fun z9 => z9 c19)), if_pos ⟨k24, k29⟩])⟩, by rw [ht]; exact hP, va_K.moved hW.alike (hK.sub (tys' := []) [] rfl), by rw [hAe]; exact hD⟩, by rw [hAe]; exact hS.F ht⟩) hS.2.2 dX9_paste_133
              · skip
                have g87 := g9
                have k88 := g87
                refine lv_if_ne (tgt := 106) hx hb dX9_paste_100 (by decide) (fun c89 => ?_) (fun c89 => ?_)
                · first | exact absurd c89 (by decide) | exact absurd (by decide) c89
                refine lv_bipush (v := (-7)) hx hb dX9_paste_103 (by decide) ?_
                rw [hQ]
                exact W.iret (v := (-7)) hx hb hr (fun t ht hW => ⟨⟨(-7), (st, sl), rfl, ⟨hB, fr_rf, (by obtain ⟨y0a, y0b⟩ := id (h3); obtain ⟨y2a, y2b⟩ := id (h7); unfold r_paste; rw [if_pos (by omega), if_neg (fun z9 => z9.elim k11 k15), if_neg (by rw [← ez17, ← ez18]; exact (fun z9 => z9 c19)), if_neg (fun z9 => k88 z9.2)])⟩, by rw [ht]; exact hP, va_K.moved hW.alike (hK.sub (tys' := []) [] rfl), by rw [hAe]; exact hD⟩, by rw [hAe]; exact hS.F ht⟩) hS.2.2 dX9_paste_105
            · skip
              have g90 := g9
              have k91 := g90
              refine lv_if_eq (tgt := 103) hx hb dX9_paste_85 (by decide) (fun c92 => ?_) (fun c92 => ?_)
              rotate_left
              · first | exact absurd c92 (by decide) | exact absurd (by decide) c92
              refine lv_bipush (v := (-7)) hx hb dX9_paste_103 (by decide) ?_
              rw [hQ]
              exact W.iret (v := (-7)) hx hb hr (fun t ht hW => ⟨⟨(-7), (st, sl), rfl, ⟨hB, fr_rf, (by obtain ⟨y0a, y0b⟩ := id (h3); obtain ⟨y2a, y2b⟩ := id (h7); unfold r_paste; rw [if_pos (by omega), if_neg (fun z9 => z9.elim k11 k15), if_neg (by rw [← ez17, ← ez18]; exact (fun z9 => z9 c19)), if_neg (fun z9 => k91 z9.1)])⟩, by rw [ht]; exact hP, va_K.moved hW.alike (hK.sub (tys' := []) [] rfl), by rw [hAe]; exact hD⟩, by rw [hAe]; exact hS.F ht⟩) hS.2.2 dX9_paste_105
          · skip
            refine lv_bipush (v := (-8)) hx hb dX9_paste_71 (by decide) ?_
            rw [hQ]
            exact W.iret (v := (-8)) hx hb hr (fun t ht hW => ⟨⟨(-8), (st, sl), rfl, ⟨hB, fr_rf, (by obtain ⟨y0a, y0b⟩ := id (h3); obtain ⟨y2a, y2b⟩ := id (h7); unfold r_paste; rw [if_pos (by omega), if_neg (fun z9 => z9.elim k11 k15), if_pos (by rw [← ez17, ← ez18]; exact c19)])⟩, by rw [ht]; exact hP, va_K.moved hW.alike (hK.sub (tys' := []) [] rfl), by rw [hAe]; exact hD⟩, by rw [hAe]; exact hS.F ht⟩) hS.2.2 dX9_paste_73
        · skip
          have g93 := g9
          have k94 := g93
          refine lv_if_ne (tgt := 50) hx hb dX9_paste_44 (by decide) (fun c95 => ?_) (fun c95 => ?_)
          · first | exact absurd c95 (by decide) | exact absurd (by decide) c95
          refine lv_bipush (v := (-6)) hx hb dX9_paste_47 (by decide) ?_
          rw [hQ]
          exact W.iret (v := (-6)) hx hb hr (fun t ht hW => ⟨⟨(-6), (st, sl), rfl, ⟨hB, fr_rf, (by obtain ⟨y0a, y0b⟩ := id (h3); obtain ⟨y2a, y2b⟩ := id (h7); unfold r_paste; rw [if_pos (by omega), if_pos (Or.inr k94)])⟩, by rw [ht]; exact hP, va_K.moved hW.alike (hK.sub (tys' := []) [] rfl), by rw [hAe]; exact hD⟩, by rw [hAe]; exact hS.F ht⟩) hS.2.2 dX9_paste_49
      · skip
        have g96 := g9
        have k97 := g96
        refine lv_if_eq (tgt := 47) hx hb dX9_paste_33 (by decide) (fun c98 => ?_) (fun c98 => ?_)
        rotate_left
        · first | exact absurd c98 (by decide) | exact absurd (by decide) c98
        refine lv_bipush (v := (-6)) hx hb dX9_paste_47 (by decide) ?_
        rw [hQ]
        exact W.iret (v := (-6)) hx hb hr (fun t ht hW => ⟨⟨(-6), (st, sl), rfl, ⟨hB, fr_rf, (by obtain ⟨y0a, y0b⟩ := id (h3); obtain ⟨y2a, y2b⟩ := id (h7); unfold r_paste; rw [if_pos (by omega), if_pos (Or.inl k97)])⟩, by rw [ht]; exact hP, va_K.moved hW.alike (hK.sub (tys' := []) [] rfl), by rw [hAe]; exact hD⟩, by rw [hAe]; exact hS.F ht⟩) hS.2.2 dX9_paste_49
    · skip
      have g99 := g9
      have k100 := g99
      refine lv_if_ne (tgt := 25) hx hb dX9_paste_19 (by decide) (fun c101 => ?_) (fun c101 => ?_)
      · first | exact absurd c101 (by decide) | exact absurd (by decide) c101
      refine lv_bipush (v := (-2)) hx hb dX9_paste_22 (by decide) ?_
      rw [hQ]
      exact W.iret (v := (-2)) hx hb hr (fun t ht hW => ⟨⟨(-2), (st, sl), rfl, ⟨hB, fr_rf, (by obtain ⟨y0a, y0b⟩ := id (h3); obtain ⟨y2a, y2b⟩ := id ((iv_full p2)); unfold r_paste; rw [if_neg (by omega)])⟩, by rw [ht]; exact hP, va_K.moved hW.alike (hK.sub (tys' := []) [] rfl), by rw [hAe]; exact hD⟩, by rw [hAe]; exact hS.F ht⟩) hS.2.2 dX9_paste_24
  · skip
    have g102 := g9
    have k103 := g102
    refine lv_if_eq (tgt := 22) hx hb dX9_paste_8 (by decide) (fun c104 => ?_) (fun c104 => ?_)
    rotate_left
    · first | exact absurd c104 (by decide) | exact absurd (by decide) c104
    refine lv_bipush (v := (-2)) hx hb dX9_paste_22 (by decide) ?_
    rw [hQ]
    exact W.iret (v := (-2)) hx hb hr (fun t ht hW => ⟨⟨(-2), (st, sl), rfl, ⟨hB, fr_rf, (by obtain ⟨y0a, y0b⟩ := id ((iv_full p0)); obtain ⟨y2a, y2b⟩ := id ((iv_full p2)); unfold r_paste; rw [if_neg (by omega)])⟩, by rw [ht]; exact hP, va_K.moved hW.alike (hK.sub (tys' := []) [] rfl), by rw [hAe]; exact hD⟩, by rw [hAe]; exact hS.F ht⟩) hS.2.2 dX9_paste_24
