set_option maxHeartbeats 4000000 in
set_option maxRecDepth 100000 in
theorem s_X9_smiths (l : Launch) (D : va_G) (k : Nat → ClassId) (a : Nat → Nat) (st : CT) (sl : CL) (sz : Nat) (hB : CB st)  : Met l yX9_smiths (.code yX9_smiths cX9_smiths 1 (some .int) :: TB) (rmw 4 0 0) (va_Pc [.ref (a 0)] (PW D k sz (CWS k a st sl))) (QI D (S := CT) (fun r u => CB u ∧ FR [164, 165, 163] st u ∧ ((True))) (fun u => CWS k a u sl) (fun _ => []) (CWS k a st sl) sz) 0 0 (va_A (CWS k a st sl) sz) := by
  refine Met.ofW (cc := cX9_smiths) (maxL := 1) (ret := (some .int)) (by decide) rfl ?_
  intro p e s m args below meth c s₁ B hml hv
  obtain ⟨rfl, hsz, hP, hK, hD0, hN⟩ := hv
  have hx := B.exec
  have hb := B.bytes
  have hr := B.returns
  have hT : ∀ w9 ∈ TB, w9.before ([.ref (a 0)] : List Value).toArray s = true := fun w9 h => atoms_spec (ws := .code yX9_smiths cX9_smiths 1 (some .int) :: TB) B.pre w9 (List.mem_cons_of_mem _ h)
  have hown : s.vm.findClass RX9 = some m.cls := findClass_of_methodNamed B.named
  have S : CallFix p m c cX9_smiths 1 s _ TB RX9 := ⟨hx, hb, hml, hown, hT⟩
  subst hsz
  have hD := hD0.self (sz := s.heap.size)
  generalize hAe : va_A (CWS k a st sl) s.heap.size = A at hD ⊢
  have hA : ∀ q : Nat, s.heap.size ≤ q → A q := fun q h => by rw [← hAe]; exact Or.inr h
  have hS : va_S A s.heap s.heap [] := va_S.rf
  have hl := lv_entry ([.ref (a 0)]) (n := 1) (Nat.le_of_ble_eq_true rfl)
  rw [lg_entry_eq]
  generalize (lg_sl ([.ref (a 0)]) ++ List.replicate (1 - (lg_sl ([.ref (a 0)])).length) Slot.unset).toArray = ls at hl ⊢
  have hl : lv_has ls 1 [(0, .ref (a 0))] := hl
  refine nameQ (fun Q hQ => ?_)
  refine lv_aload_n hx hb dX9_smiths_0 rfl (lv_at hl 0 rfl) ?_
  refine va_get (D := D) (ci := 9) (v := .ref (a 17)) (C := RX9) (T := TX9) (N := 11) hx hb hT in_X9 hown hK hP 0 cw_0 rfl 2 (by decide) (hT _ t453) (fun _ h9 => h9) rfl dX9_smiths_1 ?_
  refine va_get (D := D) (ci := 8) (v := .ref (a 18)) (C := RX8) (T := TX8) (N := 6) hx hb hT in_X8 hown hK hP 17 cw_17 rfl 0 (by decide) (hT _ t312) (fun _ h9 => h9) rfl dX9_smiths_4 ?_
  refine ro_V (As := []) (rest := []) S (s_X1_isTold l D k a st sl   _  hB  ) lkX9_211 ok_X1_isTold ⟨rfl, rfl, Nat.le_of_ble_eq_true rfl, Nat.le_of_ble_eq_true rfl⟩ (pw_V (ci := 1) (q0 := 18) hK hN rfl cw_18 hP (hD.weaken (fun _ _ _ _ => trivial))) rfl hl.1 rfl (Nat.le_of_ble_eq_true rfl) ⟨Nat.zero_le _, Nat.zero_le _⟩ dX9_smiths_7 (fun r1 er1 => ?_)
  rcases er1 with ⟨rfl, g9⟩ | ⟨rfl, g9⟩
  · skip
    have g2 := g9
    refine lv_if_ne (tgt := 17) hx hb dX9_smiths_10 (by decide) (fun c3 => ?_) (fun c3 => ?_)
    rotate_left
    · first | exact absurd c3 (by decide) | exact absurd (by decide) c3
    refine lv_aload_n hx hb dX9_smiths_17 rfl (lv_at hl 0 rfl) ?_
    refine va_get (D := D) (ci := 9) (v := .ref (a 162)) (C := RX9) (T := TX9) (N := 11) hx hb hT in_X9 hown hK hP 0 cw_0 rfl 9 (by decide) (hT _ t460) (fun _ h9 => h9) rfl dX9_smiths_18 ?_
    refine lv_aload_n hx hb dX9_smiths_21 rfl (lv_at hl 0 rfl) ?_
    refine va_get (D := D) (ci := 9) (v := .ref (a 17)) (C := RX9) (T := TX9) (N := 11) hx hb hT in_X9 hown hK hP 0 cw_0 rfl 2 (by decide) (hT _ t453) (fun _ h9 => h9) rfl dX9_smiths_22 ?_
    refine va_get (D := D) (ci := 8) (v := .ref (a 18)) (C := RX8) (T := TX8) (N := 6) hx hb hT in_X8 hown hK hP 17 cw_17 rfl 0 (by decide) (hT _ t312) (fun _ h9 => h9) rfl dX9_smiths_25 ?_
    refine lv_aload_n hx hb dX9_smiths_28 rfl (lv_at hl 0 rfl) ?_
    refine va_get (D := D) (ci := 9) (v := .ref (a 17)) (C := RX9) (T := TX9) (N := 11) hx hb hT in_X9 hown hK hP 0 cw_0 rfl 2 (by decide) (hT _ t453) (fun _ h9 => h9) rfl dX9_smiths_29 ?_
    refine va_get (D := D) (ci := 8) (v := .ref (a 31)) (C := RX8) (T := TX8) (N := 6) hx hb hT in_X8 hown hK hP 17 cw_17 rfl 1 (by decide) (hT _ t314) (fun _ h9 => h9) rfl dX9_smiths_32 ?_
    refine lv_aload_n hx hb dX9_smiths_35 rfl (lv_at hl 0 rfl) ?_
    refine ro_V (As := []) (rest := [.ref (a 31), .ref (a 18), .ref (a 162)]) S (s_X9_freeWheels l D k a st sl   _  hB  ) lkX9_300 ok_X9_freeWheels ⟨rfl, rfl, Nat.le_of_ble_eq_true rfl, Nat.le_of_ble_eq_true rfl⟩ (pw_V (ci := 9) (q0 := 0) hK hN rfl cw_0 hP (hD.weaken (fun _ _ _ _ => trivial))) rfl hl.1 rfl (Nat.le_of_ble_eq_true rfl) ⟨Nat.zero_le _, Nat.zero_le _⟩ dX9_smiths_36 (fun r4 er4 => ?_)
    have h5 : Iv 0 255 r4 := er4.1
    refine ca_i hP hD hS hA (fun hDc => run_V (mc := 0) (ms := 0) (As := [.ref (a 18), .ref (a 31), .int r4]) (rest := []) S (s_X0_outcome l D k a st sl  r4 _  hB  ) lkX9_369 ok_X0_outcome ⟨rfl, rfl, Nat.le_of_ble_eq_true rfl, Nat.le_of_ble_eq_true rfl⟩ (pw_V (ci := 0) (q0 := 162) hK hN rfl cw_162 hP hDc) rfl hl.1 rfl (Nat.le_of_ble_eq_true rfl) ⟨Nat.zero_le _, Nat.zero_le _⟩ dX9_smiths_39) (fun r7 s6 H9 locs9 hs6 hP9 hD9 hS9 => ?_)
    clear hP hD hS
    have hS := hS9
    have hP := hP9
    have hD := hD9
    clear hP9 hD9 hS9
    obtain ⟨hBs6, gs6, fs6⟩ := hs6
    have hFs6 : FR [164, 165, 163] st s6 := fr_ca fr_rf gs6 (sub_1 (List.mem_of_getElem? (i := 0) rfl) (sub_1 (List.mem_of_getElem? (i := 1) rfl) (sub_1 (List.mem_of_getElem? (i := 2) rfl) sub_0)))
    rw [hQ]
    exact W.iret (v := r7) hx hb hr (fun t ht hW => ⟨⟨r7, s6, rfl, ⟨hBs6, hFs6, trivial⟩, by rw [ht]; exact hP, va_K.moved hW.alike (hK.sub (tys' := []) [] rfl), by rw [hAe]; exact hD⟩, by rw [hAe]; exact hS.F ht⟩) hS.2.2 dX9_smiths_42
  · skip
    have g8 := g9
    refine lv_if_ne (tgt := 17) hx hb dX9_smiths_10 (by decide) (fun c9 => ?_) (fun c9 => ?_)
    · first | exact absurd c9 (by decide) | exact absurd (by decide) c9
    refine lv_ldcw (v := (-2000000)) hx hb hown (hT _ t1141) dX9_smiths_13 ?_
    rw [hQ]
    exact W.iret (v := (-2000000)) hx hb hr (fun t ht hW => ⟨⟨(-2000000), st, rfl, ⟨hB, fr_rf, trivial⟩, by rw [ht]; exact hP, va_K.moved hW.alike (hK.sub (tys' := []) [] rfl), by rw [hAe]; exact hD⟩, by rw [hAe]; exact hS.F ht⟩) hS.2.2 dX9_smiths_16
set_option maxHeartbeats 4000000 in
set_option maxRecDepth 100000 in
theorem s_X9_picks (l : Launch) (D : va_G) (k : Nat → ClassId) (a : Nat → Nat) (st : CT) (sl : CL) (sz : Nat) (hB : CB st)  : Met l yX9_picks (.code yX9_picks cX9_picks 1 (some .int) :: TB) (rmw 5 0 0) (va_Pc [.ref (a 0)] (PW D k sz (CWS k a st sl))) (QI D (S := CT) (fun r u => CB u ∧ FR [164, 165, 163] st u ∧ (Iv (-2) 7 r ∧ (True))) (fun u => CWS k a u sl) (fun _ => []) (CWS k a st sl) sz) 0 0 (va_A (CWS k a st sl) sz) := by
  refine Met.ofW (cc := cX9_picks) (maxL := 1) (ret := (some .int)) (by decide) rfl ?_
  intro p e s m args below meth c s₁ B hml hv
  obtain ⟨rfl, hsz, hP, hK, hD0, hN⟩ := hv
  have hx := B.exec
  have hb := B.bytes
  have hr := B.returns
  have hT : ∀ w9 ∈ TB, w9.before ([.ref (a 0)] : List Value).toArray s = true := fun w9 h => atoms_spec (ws := .code yX9_picks cX9_picks 1 (some .int) :: TB) B.pre w9 (List.mem_cons_of_mem _ h)
  have hown : s.vm.findClass RX9 = some m.cls := findClass_of_methodNamed B.named
  have S : CallFix p m c cX9_picks 1 s _ TB RX9 := ⟨hx, hb, hml, hown, hT⟩
  subst hsz
  have hD := hD0.self (sz := s.heap.size)
  generalize hAe : va_A (CWS k a st sl) s.heap.size = A at hD ⊢
  have hA : ∀ q : Nat, s.heap.size ≤ q → A q := fun q h => by rw [← hAe]; exact Or.inr h
  have hS : va_S A s.heap s.heap [] := va_S.rf
  have hl := lv_entry ([.ref (a 0)]) (n := 1) (Nat.le_of_ble_eq_true rfl)
  rw [lg_entry_eq]
  generalize (lg_sl ([.ref (a 0)]) ++ List.replicate (1 - (lg_sl ([.ref (a 0)])).length) Slot.unset).toArray = ls at hl ⊢
  have hl : lv_has ls 1 [(0, .ref (a 0))] := hl
  refine nameQ (fun Q hQ => ?_)
  refine lv_aload_n hx hb dX9_picks_0 rfl (lv_at hl 0 rfl) ?_
  refine va_get (D := D) (ci := 9) (v := .ref (a 17)) (C := RX9) (T := TX9) (N := 11) hx hb hT in_X9 hown hK hP 0 cw_0 rfl 2 (by decide) (hT _ t453) (fun _ h9 => h9) rfl dX9_picks_1 ?_
  refine va_get (D := D) (ci := 8) (v := .ref (a 18)) (C := RX8) (T := TX8) (N := 6) hx hb hT in_X8 hown hK hP 17 cw_17 rfl 0 (by decide) (hT _ t312) (fun _ h9 => h9) rfl dX9_picks_4 ?_
  refine ro_V (As := []) (rest := []) S (s_X1_isTold l D k a st sl   _  hB  ) lkX9_211 ok_X1_isTold ⟨rfl, rfl, Nat.le_of_ble_eq_true rfl, Nat.le_of_ble_eq_true rfl⟩ (pw_V (ci := 1) (q0 := 18) hK hN rfl cw_18 hP (hD.weaken (fun _ _ _ _ => trivial))) rfl hl.1 rfl (Nat.le_of_ble_eq_true rfl) ⟨Nat.zero_le _, Nat.zero_le _⟩ dX9_picks_7 (fun r1 er1 => ?_)
  rcases er1 with ⟨rfl, g9⟩ | ⟨rfl, g9⟩
  · skip
    have g2 := g9
    refine lv_if_ne (tgt := 16) hx hb dX9_picks_10 (by decide) (fun c3 => ?_) (fun c3 => ?_)
    rotate_left
    · first | exact absurd c3 (by decide) | exact absurd (by decide) c3
    refine lv_aload_n hx hb dX9_picks_16 rfl (lv_at hl 0 rfl) ?_
    refine va_get (D := D) (ci := 9) (v := .ref (a 162)) (C := RX9) (T := TX9) (N := 11) hx hb hT in_X9 hown hK hP 0 cw_0 rfl 9 (by decide) (hT _ t460) (fun _ h9 => h9) rfl dX9_picks_17 ?_
    refine lv_aload_n hx hb dX9_picks_20 rfl (lv_at hl 0 rfl) ?_
    refine va_get (D := D) (ci := 9) (v := .ref (a 17)) (C := RX9) (T := TX9) (N := 11) hx hb hT in_X9 hown hK hP 0 cw_0 rfl 2 (by decide) (hT _ t453) (fun _ h9 => h9) rfl dX9_picks_21 ?_
    refine va_get (D := D) (ci := 8) (v := .ref (a 18)) (C := RX8) (T := TX8) (N := 6) hx hb hT in_X8 hown hK hP 17 cw_17 rfl 0 (by decide) (hT _ t312) (fun _ h9 => h9) rfl dX9_picks_24 ?_
    refine lv_aload_n hx hb dX9_picks_27 rfl (lv_at hl 0 rfl) ?_
    refine va_get (D := D) (ci := 9) (v := .ref (a 17)) (C := RX9) (T := TX9) (N := 11) hx hb hT in_X9 hown hK hP 0 cw_0 rfl 2 (by decide) (hT _ t453) (fun _ h9 => h9) rfl dX9_picks_28 ?_
    refine va_get (D := D) (ci := 8) (v := .ref (a 31)) (C := RX8) (T := TX8) (N := 6) hx hb hT in_X8 hown hK hP 17 cw_17 rfl 1 (by decide) (hT _ t314) (fun _ h9 => h9) rfl dX9_picks_31 ?_
    refine lv_aload_n hx hb dX9_picks_34 rfl (lv_at hl 0 rfl) ?_
    refine ro_V (As := []) (rest := [.ref (a 31), .ref (a 18), .ref (a 162)]) S (s_X9_freeWheels l D k a st sl   _  hB  ) lkX9_300 ok_X9_freeWheels ⟨rfl, rfl, Nat.le_of_ble_eq_true rfl, Nat.le_of_ble_eq_true rfl⟩ (pw_V (ci := 9) (q0 := 0) hK hN rfl cw_0 hP (hD.weaken (fun _ _ _ _ => trivial))) rfl hl.1 rfl (Nat.le_of_ble_eq_true rfl) ⟨Nat.zero_le _, Nat.zero_le _⟩ dX9_picks_35 (fun r4 er4 => ?_)
    have h5 : Iv 0 255 r4 := er4.1
    refine ca_i hP hD hS hA (fun hDc => run_V (mc := 0) (ms := 0) (As := [.ref (a 18), .ref (a 31), .int r4]) (rest := []) S (s_X0_firstPick l D k a st sl  r4 _  hB  ) lkX9_373 ok_X0_firstPick ⟨rfl, rfl, Nat.le_of_ble_eq_true rfl, Nat.le_of_ble_eq_true rfl⟩ (pw_V (ci := 0) (q0 := 162) hK hN rfl cw_162 hP hDc) rfl hl.1 rfl (Nat.le_of_ble_eq_true rfl) ⟨Nat.zero_le _, Nat.zero_le _⟩ dX9_picks_38) (fun r7 s6 H9 locs9 hs6 hP9 hD9 hS9 => ?_)
    clear hP hD hS
    have hS := hS9
    have hP := hP9
    have hD := hD9
    clear hP9 hD9 hS9
    obtain ⟨hBs6, gs6, fs6⟩ := hs6
    have hFs6 : FR [164, 165, 163] st s6 := fr_ca fr_rf gs6 (sub_1 (List.mem_of_getElem? (i := 0) rfl) (sub_1 (List.mem_of_getElem? (i := 1) rfl) (sub_1 (List.mem_of_getElem? (i := 2) rfl) sub_0)))
    have h8 : Iv (-1) 7 r7 := fs6.1
    rw [hQ]
    exact W.iret (v := r7) hx hb hr (fun t ht hW => ⟨⟨r7, s6, rfl, ⟨hBs6, hFs6, ⟨(iv_mono (c := (-2)) (d := 7) h8 (by decide) (by decide)), trivial⟩⟩, by rw [ht]; exact hP, va_K.moved hW.alike (hK.sub (tys' := []) [] rfl), by rw [hAe]; exact hD⟩, by rw [hAe]; exact hS.F ht⟩) hS.2.2 dX9_picks_41
  · skip
    have g9 := g9
    refine lv_if_ne (tgt := 16) hx hb dX9_picks_10 (by decide) (fun c10 => ?_) (fun c10 => ?_)
    · first | exact absurd c10 (by decide) | exact absurd (by decide) c10
    refine lv_bipush (v := (-2)) hx hb dX9_picks_13 (by decide) ?_
    rw [hQ]
    exact W.iret (v := (-2)) hx hb hr (fun t ht hW => ⟨⟨(-2), st, rfl, ⟨hB, fr_rf, ⟨(iv_mono (c := (-2)) (d := 7) (iv_c (by decide) : Iv (-2) (-2) (-2)) (by decide) (by decide)), trivial⟩⟩, by rw [ht]; exact hP, va_K.moved hW.alike (hK.sub (tys' := []) [] rfl), by rw [hAe]; exact hD⟩, by rw [hAe]; exact hS.F ht⟩) hS.2.2 dX9_picks_15
set_option maxHeartbeats 4000000 in
set_option maxRecDepth 100000 in
theorem s_X9_canDraw (l : Launch) (D : va_G) (k : Nat → ClassId) (a : Nat → Nat) (st : CT) (sl : CL) (p0 : Int32) (p1 : Int32) (p2 : Int32) (sz : Nat) (hB : CB st)  : Met l yX9_canDraw (.code yX9_canDraw cX9_canDraw 4 (some .boolean) :: TB) (rmk 2) (va_Pc [.ref (a 0), .int p0, .int p1, .int p2] (PW D k sz (CWS k a st sl))) (vp_Si (fun r => (r = 1 ∧ Iv 0 2000000000 p0 ∧ Iv 0 2 p1 ∧ Iv 0 40 p2 ∧ (True)) ∨ (r = 0 ∧ (True)))) 0 0 (fun _ => False) := by
  refine Met.ofW (cc := cX9_canDraw) (maxL := 4) (ret := (some .boolean)) (by decide) rfl ?_
  intro p e s m args below meth c s₁ B hml hv
  obtain ⟨rfl, hsz, hP, hK, hD0, hN⟩ := hv
  have hx := B.exec
  have hb := B.bytes
  have hr := B.returns
  have hT : ∀ w9 ∈ TB, w9.before ([.ref (a 0), .int p0, .int p1, .int p2] : List Value).toArray s = true := fun w9 h => atoms_spec (ws := .code yX9_canDraw cX9_canDraw 4 (some .boolean) :: TB) B.pre w9 (List.mem_cons_of_mem _ h)
  have hown : s.vm.findClass RX9 = some m.cls := findClass_of_methodNamed B.named
  have S : CallFix p m c cX9_canDraw 4 s _ TB RX9 := ⟨hx, hb, hml, hown, hT⟩
  subst hsz
  have hl := lv_entry ([.ref (a 0), .int p0, .int p1, .int p2]) (n := 4) (Nat.le_of_ble_eq_true rfl)
  rw [lg_entry_eq]
  generalize (lg_sl ([.ref (a 0), .int p0, .int p1, .int p2]) ++ List.replicate (4 - (lg_sl ([.ref (a 0), .int p0, .int p1, .int p2])).length) Slot.unset).toArray = ls at hl ⊢
  have hl : lv_has ls 4 [(0, .ref (a 0)), (1, .int p0), (2, .int p1), (3, .int p2)] := hl
  refine nameQ (fun Q hQ => ?_)
  refine lv_iload_n hx hb dX9_canDraw_0 rfl (lv_at hl 1 rfl) ?_
  refine lv_if_lt (tgt := 39) hx hb dX9_canDraw_1 (by decide) (fun c1 => ?_) (fun c1 => ?_)
  · skip
    have n2 : p0.toInt < (0 : Int32).toInt := (i_lt c1)
    have h3 : Iv (-2147483648) (-1) p0 := lt_l (iv_full p0) n2 (iv_c (by decide) : Iv 0 0 0) (by decide)
    refine lv_iconst (v := 0) hx hb dX9_canDraw_39 (by decide) ?_
    rw [hQ]
    exact W.zret (v := 0) (ty := .boolean) hx hb hr rfl (fun t ht hW => ⟨0, rfl, Or.inr ⟨rfl, trivial⟩, ht⟩) (fun _ h9 => by cases h9) dX9_canDraw_40
  · skip
    have n4 : (0 : Int32).toInt ≤ p0.toInt := (i_nlt c1)
    have h5 : Iv 0 2147483647 p0 := le_r (iv_c (by decide) : Iv 0 0 0) n4 (iv_full p0) (by decide)
    refine lv_iload_n hx hb dX9_canDraw_4 rfl (lv_at hl 1 rfl) ?_
    refine lv_ldcw (v := 2000000000) hx hb hown (hT _ t1176) dX9_canDraw_5 ?_
    refine lv_icmp_gt (tgt := 39) hx hb dX9_canDraw_8 (by decide) (fun c6 => ?_) (fun c6 => ?_)
    · skip
      have n7 : (2000000000 : Int32).toInt < p0.toInt := (i_lt c6)
      have h8 : Iv 2000000001 2147483647 p0 := lt_r (iv_c (by decide) : Iv 2000000000 2000000000 2000000000) n7 h5 (by decide)
      refine lv_iconst (v := 0) hx hb dX9_canDraw_39 (by decide) ?_
      rw [hQ]
      exact W.zret (v := 0) (ty := .boolean) hx hb hr rfl (fun t ht hW => ⟨0, rfl, Or.inr ⟨rfl, trivial⟩, ht⟩) (fun _ h9 => by cases h9) dX9_canDraw_40
    · skip
      have n9 : p0.toInt ≤ (2000000000 : Int32).toInt := (i_nlt c6)
      have h10 : Iv 0 2000000000 p0 := le_l h5 n9 (iv_c (by decide) : Iv 2000000000 2000000000 2000000000) (by decide)
      refine lv_aload_n hx hb dX9_canDraw_11 rfl (lv_at hl 0 rfl) ?_
      refine va_get (D := D) (ci := 9) (v := .ref (a 17)) (C := RX9) (T := TX9) (N := 11) hx hb hT in_X9 hown hK hP 0 cw_0 rfl 2 (by decide) (hT _ t453) (fun _ h9 => h9) rfl dX9_canDraw_12 ?_
      refine va_get (D := D) (ci := 8) (v := .ref (a 18)) (C := RX8) (T := TX8) (N := 6) hx hb hT in_X8 hown hK hP 17 cw_17 rfl 0 (by decide) (hT _ t312) (fun _ h9 => h9) rfl dX9_canDraw_15 ?_
      refine lv_iload_n hx hb dX9_canDraw_18 rfl (lv_at hl 2 rfl) ?_
      refine ro_V (As := [.int p1]) (rest := []) S (s_X1_isCart l D k a st sl  p1 _  hB  ) lkX9_147 ok_X1_isCart ⟨rfl, rfl, Nat.le_of_ble_eq_true rfl, Nat.le_of_ble_eq_true rfl⟩ (pw_V (ci := 1) (q0 := 18) hK hN rfl cw_18 hP hD0) rfl hl.1 rfl (Nat.le_of_ble_eq_true rfl) ⟨Nat.zero_le _, Nat.zero_le _⟩ dX9_canDraw_19 (fun r11 er11 => ?_)
      rcases er11 with ⟨rfl, g9⟩ | ⟨rfl, g9⟩
      · skip
        have g12 := g9
        have h13 : Iv 0 2 p1 := g12.1
        refine lv_if_eq (tgt := 39) hx hb dX9_canDraw_22 (by decide) (fun c14 => ?_) (fun c14 => ?_)
        · first | exact absurd c14 (by decide) | exact absurd (by decide) c14
        refine lv_iload_n hx hb dX9_canDraw_25 rfl (lv_at hl 3 rfl) ?_
        refine lv_if_lt (tgt := 39) hx hb dX9_canDraw_26 (by decide) (fun c15 => ?_) (fun c15 => ?_)
        · skip
          have n16 : p2.toInt < (0 : Int32).toInt := (i_lt c15)
          have h17 : Iv (-2147483648) (-1) p2 := lt_l (iv_full p2) n16 (iv_c (by decide) : Iv 0 0 0) (by decide)
          refine lv_iconst (v := 0) hx hb dX9_canDraw_39 (by decide) ?_
          rw [hQ]
          exact W.zret (v := 0) (ty := .boolean) hx hb hr rfl (fun t ht hW => ⟨0, rfl, Or.inr ⟨rfl, trivial⟩, ht⟩) (fun _ h9 => by cases h9) dX9_canDraw_40
        · skip
          have n18 : (0 : Int32).toInt ≤ p2.toInt := (i_nlt c15)
          have h19 : Iv 0 2147483647 p2 := le_r (iv_c (by decide) : Iv 0 0 0) n18 (iv_full p2) (by decide)
          refine lv_iload_n hx hb dX9_canDraw_29 rfl (lv_at hl 3 rfl) ?_
          refine lv_bipush (v := 40) hx hb dX9_canDraw_30 (by decide) ?_
          refine lv_icmp_gt (tgt := 39) hx hb dX9_canDraw_32 (by decide) (fun c20 => ?_) (fun c20 => ?_)
          · skip
            have n21 : (40 : Int32).toInt < p2.toInt := (i_lt c20)
            have h22 : Iv 41 2147483647 p2 := lt_r (iv_c (by decide) : Iv 40 40 40) n21 h19 (by decide)
            refine lv_iconst (v := 0) hx hb dX9_canDraw_39 (by decide) ?_
            rw [hQ]
            exact W.zret (v := 0) (ty := .boolean) hx hb hr rfl (fun t ht hW => ⟨0, rfl, Or.inr ⟨rfl, trivial⟩, ht⟩) (fun _ h9 => by cases h9) dX9_canDraw_40
          · skip
            have n23 : p2.toInt ≤ (40 : Int32).toInt := (i_nlt c20)
            have h24 : Iv 0 40 p2 := le_l h19 n23 (iv_c (by decide) : Iv 40 40 40) (by decide)
            refine lv_iconst (v := 1) hx hb dX9_canDraw_35 (by decide) ?_
            refine lv_goto (tgt := 40) hx hb dX9_canDraw_36 (by decide) ?_
            rw [hQ]
            exact W.zret (v := 1) (ty := .boolean) hx hb hr rfl (fun t ht hW => ⟨1, rfl, Or.inl ⟨rfl, h10, h13, h24, trivial⟩, ht⟩) (fun _ h9 => by cases h9) dX9_canDraw_40
      · skip
        have g25 := g9
        refine lv_if_eq (tgt := 39) hx hb dX9_canDraw_22 (by decide) (fun c26 => ?_) (fun c26 => ?_)
        rotate_left
        · first | exact absurd c26 (by decide) | exact absurd (by decide) c26
        refine lv_iconst (v := 0) hx hb dX9_canDraw_39 (by decide) ?_
        rw [hQ]
        exact W.zret (v := 0) (ty := .boolean) hx hb hr rfl (fun t ht hW => ⟨0, rfl, Or.inr ⟨rfl, trivial⟩, ht⟩) (fun _ h9 => by cases h9) dX9_canDraw_40
set_option maxHeartbeats 4000000 in
set_option maxRecDepth 100000 in
theorem s_X9_nthBit (l : Launch) (D : va_G) (k : Nat → ClassId) (a : Nat → Nat) (st : CT) (sl : CL) (p0 : Int32) (p1 : Int32) (sz : Nat) (hB : CB st)  : Met l yX9_nthBit (.code yX9_nthBit cX9_nthBit 4 (some .int) :: TB) (rmk 1) (va_Pc [.int p0, .int p1] (PW D k sz (CWS k a st sl))) (vp_Si (fun r => Iv (-1) 7 r ∧ (True))) 0 0 (fun _ => False) := by
  refine Met.ofW (cc := cX9_nthBit) (maxL := 4) (ret := (some .int)) (by decide) rfl ?_
  intro p e s m args below meth c s₁ B hml hv
  obtain ⟨rfl, hsz, hP, hK, hD0, hN⟩ := hv
  have hx := B.exec
  have hb := B.bytes
  have hr := B.returns
  have hT : ∀ w9 ∈ TB, w9.before ([.int p0, .int p1] : List Value).toArray s = true := fun w9 h => atoms_spec (ws := .code yX9_nthBit cX9_nthBit 4 (some .int) :: TB) B.pre w9 (List.mem_cons_of_mem _ h)
  have hown : s.vm.findClass RX9 = some m.cls := findClass_of_methodNamed B.named
  have S : CallFix p m c cX9_nthBit 4 s _ TB RX9 := ⟨hx, hb, hml, hown, hT⟩
  subst hsz
  have hl := lv_entry ([.int p0, .int p1]) (n := 4) (Nat.le_of_ble_eq_true rfl)
  rw [lg_entry_eq]
  generalize (lg_sl ([.int p0, .int p1]) ++ List.replicate (4 - (lg_sl ([.int p0, .int p1])).length) Slot.unset).toArray = ls at hl ⊢
  have hl : lv_has ls 4 [(0, .int p0), (1, .int p1)] := hl
  refine nameQ (fun Q hQ => ?_)
  refine lv_iload_n hx hb dX9_nthBit_0 rfl (lv_at hl 1 rfl) ?_
  refine lv_istore_n (lv' := [(2, .int p1), (0, .int p0), (1, .int p1)]) hx hb dX9_nthBit_1 rfl hl (by decide) rfl (fun ls hl => ?_)
  refine lv_iconst (v := 0) hx hb dX9_nthBit_2 (by decide) ?_
  refine lv_istore_n (lv' := [(3, .int 0), (2, .int p1), (0, .int p0), (1, .int p1)]) hx hb dX9_nthBit_3 rfl hl (by decide) rfl (fun ls hl => ?_)
  have lp4 : ∀ (n9_4 : Nat) (v3_4 : Int32) (v2_4 : Int32) (ls : Array Slot), Iv 0 8 v3_4 → lv_has ls 4 [(3, .int v3_4), (2, .int v2_4), (0, .int p0), (1, .int p1)] → (8 : Int) - v3_4.toInt < (n9_4 : Int) → W p l e (rmk 1) s m ([.int p0, .int p1] : List Value).toArray below meth c s.heap [] 0 0 Q (F0 m 4 ls []) := by
    clear hl
    intro n9_4
    induction n9_4 with
    | zero =>
      intro v3_4 v2_4 ls iv3_4 hl hm4
      exact (fu_0 iv3_4 hm4).elim
    | succ n9_4 ih4 =>
      intro v3_4 v2_4 ls iv3_4 hl hm4
      refine lv_iload_n hx hb dX9_nthBit_4 rfl (lv_at hl 0 rfl) ?_
      refine lv_bipush (v := 8) hx hb dX9_nthBit_5 (by decide) ?_
      refine lv_icmp_ge (tgt := 33) hx hb dX9_nthBit_7 (by decide) (fun c147 => ?_) (fun c147 => ?_)
      · skip
        have n148 : (8 : Int32).toInt ≤ v3_4.toInt := (i_le c147)
        have h149 : Iv 8 8 v3_4 := le_r (iv_c (by decide) : Iv 8 8 8) n148 iv3_4 (by decide)
        refine lv_iconst (v := (-1)) hx hb dX9_nthBit_33 (by decide) ?_
        rw [hQ]
        exact W.iret (v := (-1)) hx hb hr (fun t ht hW => ⟨(-1), rfl, ⟨(iv_mono (c := (-1)) (d := 7) (iv_c (by decide) : Iv (-1) (-1) (-1)) (by decide) (by decide)), trivial⟩, ht⟩) (fun _ h9 => by cases h9) dX9_nthBit_34
      · skip
        have n150 : v3_4.toInt < (8 : Int32).toInt := (i_nle c147)
        have h151 : Iv 0 7 v3_4 := lt_l iv3_4 n150 (iv_c (by decide) : Iv 8 8 8) (by decide)
        refine lv_iload_n hx hb dX9_nthBit_10 rfl (lv_at hl 2 rfl) ?_
        refine lv_iload_n hx hb dX9_nthBit_11 rfl (lv_at hl 0 rfl) ?_
        refine lv_ishr hx hb dX9_nthBit_12 ?_
        refine lv_topi (fun z152 ez152 => ?_)
        refine lv_iconst (v := 1) hx hb dX9_nthBit_13 (by decide) ?_
        refine lv_iand hx hb dX9_nthBit_14 ?_
        refine lv_topi (fun z153 ez153 => ?_)
        have h154 : Iv 0 1 z153 := iv_andr ez153 (iv_mono (c := 0) (d := 1) (iv_c (by decide) : Iv 1 1 1) (by decide) (by decide))
        refine lv_if_eq (tgt := 27) hx hb dX9_nthBit_15 (by decide) (fun c155 => ?_) (fun c155 => ?_)
        · skip
          have h156 : Iv 0 0 z153 := eq_l c155 (iv_c (by decide) : Iv 0 0 0)
          obtain ⟨z157, ez157⟩ : ∃ z9 : Int32, z9 = v3_4 + Int32.ofInt 1 := ⟨_, rfl⟩
          have h158 : Iv 1 8 z157 := iv_inc ez157 h151 (by decide) (by decide) (by decide) (by decide) (by decide) (by decide)
          refine lv_iinc (v := z157) (lv' := [(3, .int z157), (2, .int v2_4), (0, .int p0), (1, .int p1)]) hx hb dX9_nthBit_27 hl (k := 0) rfl ez157.symm (by decide) rfl (fun ls hl => ?_)
          refine lv_goto (tgt := 4) hx hb dX9_nthBit_30 (by decide) ?_
          exact ih4 z157 v2_4 _ (iv_mono (c := 0) (d := 8) h158 (by decide) (by decide)) (lv_sub hl [0, 1, 2, 3] rfl) (fu_s (lo := 0) (ti_inc ez157 h151 (by decide) (by decide) (by decide) (by decide)) (by decide) hm4)
        · skip
          have h159 : Iv 1 1 z153 := ne_lo h154 c155 (by decide) (by decide)
          refine lv_iload_n hx hb dX9_nthBit_18 rfl (lv_at hl 1 rfl) ?_
          refine lv_if_ne (tgt := 24) hx hb dX9_nthBit_19 (by decide) (fun c160 => ?_) (fun c160 => ?_)
          · skip
            obtain ⟨z161, ez161⟩ : ∃ z9 : Int32, z9 = v2_4 + Int32.ofInt (-1) := ⟨_, rfl⟩
            refine lv_iinc (v := z161) (lv' := [(2, .int z161), (3, .int v3_4), (0, .int p0), (1, .int p1)]) hx hb dX9_nthBit_24 hl (k := 1) rfl ez161.symm (by decide) rfl (fun ls hl => ?_)
            obtain ⟨z162, ez162⟩ : ∃ z9 : Int32, z9 = v3_4 + Int32.ofInt 1 := ⟨_, rfl⟩
            have h163 : Iv 1 8 z162 := iv_inc ez162 h151 (by decide) (by decide) (by decide) (by decide) (by decide) (by decide)
            refine lv_iinc (v := z162) (lv' := [(3, .int z162), (2, .int z161), (0, .int p0), (1, .int p1)]) hx hb dX9_nthBit_27 hl (k := 1) rfl ez162.symm (by decide) rfl (fun ls hl => ?_)
            refine lv_goto (tgt := 4) hx hb dX9_nthBit_30 (by decide) ?_
            exact ih4 z162 z161 _ (iv_mono (c := 0) (d := 8) h163 (by decide) (by decide)) (lv_sub hl [0, 1, 2, 3] rfl) (fu_s (lo := 0) (ti_inc ez162 h151 (by decide) (by decide) (by decide) (by decide)) (by decide) hm4)
          · skip
            have h164 : Iv 0 0 v2_4 := eq_l c160 (iv_c (by decide) : Iv 0 0 0)
            refine lv_iload_n hx hb dX9_nthBit_22 rfl (lv_at hl 0 rfl) ?_
            rw [hQ]
            exact W.iret (v := v3_4) hx hb hr (fun t ht hW => ⟨v3_4, rfl, ⟨(iv_mono (c := (-1)) (d := 7) h151 (by decide) (by decide)), trivial⟩, ht⟩) (fun _ h9 => by cases h9) dX9_nthBit_23
  exact lp4 9 0 p1 _ (iv_mono (c := 0) (d := 8) (iv_c (by decide) : Iv 0 0 0) (by decide) (by decide)) (lv_sub hl [0, 1, 2, 3] rfl) (fu_i (iv_mono (c := 0) (d := 8) (iv_c (by decide) : Iv 0 0 0) (by decide) (by decide)) (by decide))
set_option maxHeartbeats 4000000 in
set_option maxRecDepth 100000 in
theorem s_X9_drawDrives (l : Launch) (D : va_G) (k : Nat → ClassId) (a : Nat → Nat) (st : CT) (sl : CL) (p0 : Int32) (p1 : Int32) (p2 : Int32) (sz : Nat) (hB : CB st) (hp1 : Iv 0 2 p1) (hp2 : Iv 0 40 p2) : Met l yX9_drawDrives (.code yX9_drawDrives cX9_drawDrives 10 none :: TB) (rmw 6 0 0) (va_Pc [.ref (a 0), .int p0, .int p1, .int p2] (PW D k sz (CWS k a st sl))) (QV D (S := CT) (fun u => CB u ∧ FR [120, 121, 122, 123, 124, 125] st u ∧ (True)) (fun u => CWS k a u sl) (fun _ => []) (CWS k a st sl) sz) 0 0 (va_A (CWS k a st sl) sz) := by
  refine Met.ofW (cc := cX9_drawDrives) (maxL := 10) (ret := none) (by decide) rfl ?_
  intro p e s m args below meth c s₁ B hml hv
  obtain ⟨rfl, hsz, hP, hK, hD0, hN⟩ := hv
  have hx := B.exec
  have hb := B.bytes
  have hr := B.returns
  have hT : ∀ w9 ∈ TB, w9.before ([.ref (a 0), .int p0, .int p1, .int p2] : List Value).toArray s = true := fun w9 h => atoms_spec (ws := .code yX9_drawDrives cX9_drawDrives 10 none :: TB) B.pre w9 (List.mem_cons_of_mem _ h)
  have hown : s.vm.findClass RX9 = some m.cls := findClass_of_methodNamed B.named
  have S : CallFix p m c cX9_drawDrives 10 s _ TB RX9 := ⟨hx, hb, hml, hown, hT⟩
  subst hsz
  have hD := hD0.self (sz := s.heap.size)
  generalize hAe : va_A (CWS k a st sl) s.heap.size = A at hD ⊢
  have hA : ∀ q : Nat, s.heap.size ≤ q → A q := fun q h => by rw [← hAe]; exact Or.inr h
  have hS : va_S A s.heap s.heap [] := va_S.rf
  have hl := lv_entry ([.ref (a 0), .int p0, .int p1, .int p2]) (n := 10) (Nat.le_of_ble_eq_true rfl)
  rw [lg_entry_eq]
  generalize (lg_sl ([.ref (a 0), .int p0, .int p1, .int p2]) ++ List.replicate (10 - (lg_sl ([.ref (a 0), .int p0, .int p1, .int p2])).length) Slot.unset).toArray = ls at hl ⊢
  have hl : lv_has ls 10 [(0, .ref (a 0)), (1, .int p0), (2, .int p1), (3, .int p2)] := hl
  refine nameQ (fun Q hQ => ?_)
  refine lv_aload_n hx hb dX9_drawDrives_0 rfl (lv_at hl 0 rfl) ?_
  refine va_get (D := D) (ci := 9) (v := .ref (a 119)) (C := RX9) (T := TX9) (N := 11) hx hb hT in_X9 hown hK hP 0 cw_0 rfl 6 (by decide) (hT _ t457) (fun _ h9 => h9) rfl dX9_drawDrives_1 ?_
  refine lv_aload_n hx hb dX9_drawDrives_4 rfl (lv_at hl 0 rfl) ?_
  refine va_get (D := D) (ci := 9) (v := .ref (a 17)) (C := RX9) (T := TX9) (N := 11) hx hb hT in_X9 hown hK hP 0 cw_0 rfl 2 (by decide) (hT _ t453) (fun _ h9 => h9) rfl dX9_drawDrives_5 ?_
  refine va_get (D := D) (ci := 8) (v := .ref (a 31)) (C := RX8) (T := TX8) (N := 6) hx hb hT in_X8 hown hK hP 17 cw_17 rfl 1 (by decide) (hT _ t314) (fun _ h9 => h9) rfl dX9_drawDrives_8 ?_
  refine ca_v hP hD hS hA (fun hDc => run_V (mc := 0) (ms := 0) (As := [.ref (a 31)]) (rest := []) S (s_X5_copy l D k a st sl 119 31  _ (by decide) (by decide) hB  ) lkX9_253 ok_X5_copy ⟨rfl, rfl, Nat.le_of_ble_eq_true rfl, Nat.le_of_ble_eq_true rfl⟩ (pw_V (ci := 5) (q0 := 119) hK hN rfl cw_119 hP hDc) rfl hl.1 rfl (Nat.le_of_ble_eq_true rfl) ⟨Nat.zero_le _, Nat.zero_le _⟩ dX9_drawDrives_11) (fun s1 H9 locs9 hs1 hP9 hD9 hS9 => ?_)
  clear hP hD hS
  have hS := hS9
  have hP := hP9
  have hD := hD9
  clear hP9 hD9 hS9
  obtain ⟨hBs1, gs1, fs1⟩ := hs1
  have hFs1 : FR [120, 121, 122, 123, 124, 125] st s1 := fr_ca fr_rf gs1 (sub_1 (List.mem_of_getElem? (i := 0) rfl) (sub_1 (List.mem_of_getElem? (i := 1) rfl) (sub_1 (List.mem_of_getElem? (i := 2) rfl) (sub_1 (List.mem_of_getElem? (i := 3) rfl) (sub_1 (List.mem_of_getElem? (i := 4) rfl) sub_0)))))
  refine lv_aload_n hx hb dX9_drawDrives_14 rfl (lv_at hl 0 rfl) ?_
  refine va_get (D := D) (ci := 9) (v := .ref (a 125)) (C := RX9) (T := TX9) (N := 11) hx hb hT in_X9 hown hK hP 0 cw_0 rfl 7 (by decide) (hT _ t458) (fun _ h9 => h9) rfl dX9_drawDrives_15 ?_
  refine lv_aload_n hx hb dX9_drawDrives_18 rfl (lv_at hl 0 rfl) ?_
  refine va_get (D := D) (ci := 9) (v := .ref (a 119)) (C := RX9) (T := TX9) (N := 11) hx hb hT in_X9 hown hK hP 0 cw_0 rfl 6 (by decide) (hT _ t457) (fun _ h9 => h9) rfl dX9_drawDrives_19 ?_
  refine lv_iload_n hx hb dX9_drawDrives_22 rfl (lv_at hl 2 rfl) ?_
  refine ca_v hP hD hS hA (fun hDc => run_V (mc := 0) (ms := 0) (As := [.ref (a 119), .int p1]) (rest := []) S (s_X7_begin l D k a s1 sl  p1 _  hBs1 hp1 ) lkX9_257 ok_X7_begin ⟨rfl, rfl, Nat.le_of_ble_eq_true rfl, Nat.le_of_ble_eq_true rfl⟩ (pw_V (ci := 7) (q0 := 125) hK hN rfl cw_125 hP hDc) rfl hl.1 rfl (Nat.le_of_ble_eq_true rfl) ⟨Nat.zero_le _, Nat.zero_le _⟩ dX9_drawDrives_23) (fun s3 H9 locs9 hs3 hP9 hD9 hS9 => ?_)
  clear hP hD hS
  have hS := hS9
  have hP := hP9
  have hD := hD9
  clear hP9 hD9 hS9
  obtain ⟨hBs3, gs3, fs3⟩ := hs3
  have hFs3 : FR [120, 121, 122, 123, 124, 125] st s3 := fr_ca hFs1 gs3 (sub_1 (List.mem_of_getElem? (i := 5) rfl) sub_0)
  refine lv_iload_n hx hb dX9_drawDrives_26 rfl (lv_at hl 1 rfl) ?_
  refine lv_i2l hx hb dX9_drawDrives_27 rfl ?_
  refine lv_lstore (lv' := [(4, .long (p0.toInt64)), (0, .ref (a 0)), (1, .int p0), (2, .int p1), (3, .int p2)]) hx hb dX9_drawDrives_28 hl (by decide) rfl (fun ls hl => ?_)
  refine lv_iconst (v := 1) hx hb dX9_drawDrives_30 (by decide) ?_
  refine lv_istore (lv' := [(6, .int 1), (4, .long (p0.toInt64)), (0, .ref (a 0)), (1, .int p0), (2, .int p1), (3, .int p2)]) hx hb dX9_drawDrives_31 hl (by decide) rfl (fun ls hl => ?_)
  refine lv_iconst (v := 0) hx hb dX9_drawDrives_33 (by decide) ?_
  refine lv_istore (lv' := [(7, .int 0), (6, .int 1), (4, .long (p0.toInt64)), (0, .ref (a 0)), (1, .int p0), (2, .int p1), (3, .int p2)]) hx hb dX9_drawDrives_34 hl (by decide) rfl (fun ls hl => ?_)
  have lp36 : ∀ (n9_36 : Nat) (v7_36 : Int32) (v6_36 : Int32) (v4_36 : Int64) (t36 : CT) (H9 : Heap) (locs9 : List Loc) (ls : Array Slot), Iv 0 40 v7_36 → Iv 0 1 v6_36 → CB t36 → FR [120, 121, 123, 124, 125] s3 t36 → va_P D vwCl (CWS k a t36 sl) H9 → va_D A (CWS k a t36 sl) → va_S A s.heap H9 locs9 → lv_has ls 10 [(7, .int v7_36), (6, .int v6_36), (4, .long v4_36), (0, .ref (a 0)), (1, .int p0), (2, .int p1), (3, .int p2)] → (40 : Int) - v7_36.toInt < (n9_36 : Int) → W p l e (rmw 6 0 0) s m ([.ref (a 0), .int p0, .int p1, .int p2] : List Value).toArray below meth c H9 locs9 0 0 Q (F0 m 36 ls []) := by
    clear hl hP hD hS
    intro n9_36
    induction n9_36 with
    | zero =>
      intro v7_36 v6_36 v4_36 t36 H9 locs9 ls iv7_36 iv6_36 hBt36 gt36 hP hD hS hl hm36
      exact (fu_0 iv7_36 hm36).elim
    | succ n9_36 ih36 =>
      intro v7_36 v6_36 v4_36 t36 H9 locs9 ls iv7_36 iv6_36 hBt36 gt36 hP hD hS hl hm36
      have hFt36 : FR [120, 121, 122, 123, 124, 125] st t36 := fr_ca hFs3 gt36 (sub_1 (List.mem_of_getElem? (i := 0) rfl) (sub_1 (List.mem_of_getElem? (i := 1) rfl) (sub_1 (List.mem_of_getElem? (i := 3) rfl) (sub_1 (List.mem_of_getElem? (i := 4) rfl) (sub_1 (List.mem_of_getElem? (i := 5) rfl) sub_0)))))
      refine lv_iload hx hb dX9_drawDrives_36 (lv_at hl 0 rfl) ?_
      refine lv_iload_n hx hb dX9_drawDrives_38 rfl (lv_at hl 6 rfl) ?_
      refine lv_icmp_ge (tgt := 154) hx hb dX9_drawDrives_39 (by decide) (fun c666 => ?_) (fun c666 => ?_)
      · skip
        have n667 : p2.toInt ≤ v7_36.toInt := (i_le c666)
        rw [hQ]
        exact W.vret hx hb hr (fun t ht hW => ⟨⟨t36, rfl, ⟨hBt36, hFt36, trivial⟩, by rw [ht]; exact hP, va_K.moved hW.alike (hK.sub (tys' := []) [] rfl), by rw [hAe]; exact hD⟩, by rw [hAe]; exact hS.F ht⟩) hS.2.2 dX9_drawDrives_154
      · skip
        have n668 : v7_36.toInt < p2.toInt := (i_nle c666)
        have h669 : Iv 0 39 v7_36 := lt_l iv7_36 n668 hp2 (by decide)
        have h670 : Iv 1 40 p2 := lt_r iv7_36 n668 hp2 (by decide)
        refine lv_iload hx hb dX9_drawDrives_42 (lv_at hl 1 rfl) ?_
        refine lv_if_eq (tgt := 154) hx hb dX9_drawDrives_44 (by decide) (fun c671 => ?_) (fun c671 => ?_)
        · skip
          have h672 : Iv 0 0 v6_36 := eq_l c671 (iv_c (by decide) : Iv 0 0 0)
          rw [hQ]
          exact W.vret hx hb hr (fun t ht hW => ⟨⟨t36, rfl, ⟨hBt36, hFt36, trivial⟩, by rw [ht]; exact hP, va_K.moved hW.alike (hK.sub (tys' := []) [] rfl), by rw [hAe]; exact hD⟩, by rw [hAe]; exact hS.F ht⟩) hS.2.2 dX9_drawDrives_154
        · skip
          have h673 : Iv 1 1 v6_36 := ne_lo iv6_36 c671 (by decide) (by decide)
          refine lv_aload_n hx hb dX9_drawDrives_47 rfl (lv_at hl 3 rfl) ?_
          refine va_get (D := D) (ci := 9) (v := .ref (a 17)) (C := RX9) (T := TX9) (N := 11) hx hb hT in_X9 hown hK hP 0 cw_0 rfl 2 (by decide) (hT _ t453) (fun _ h9 => h9) rfl dX9_drawDrives_48 ?_
          refine va_get (D := D) (ci := 8) (v := .ref (a 18)) (C := RX8) (T := TX8) (N := 6) hx hb hT in_X8 hown hK hP 17 cw_17 rfl 0 (by decide) (hT _ t312) (fun _ h9 => h9) rfl dX9_drawDrives_51 ?_
          refine lv_aload_n hx hb dX9_drawDrives_54 rfl (lv_at hl 3 rfl) ?_
          refine va_get (D := D) (ci := 9) (v := .ref (a 119)) (C := RX9) (T := TX9) (N := 11) hx hb hT in_X9 hown hK hP 0 cw_0 rfl 6 (by decide) (hT _ t457) (fun _ h9 => h9) rfl dX9_drawDrives_55 ?_
          refine va_get (D := D) (ci := 5) (v := .ref (a 123)) (C := RX5) (T := TX5) (N := 5) hx hb hT in_X5 hown hK hP 119 cw_119 rfl 3 (by decide) (hT _ t180) (fun _ h9 => h9) rfl dX9_drawDrives_58 ?_
          refine lv_iload_n hx hb dX9_drawDrives_61 rfl (lv_at hl 5 rfl) ?_
          refine va_iald hx hb hK hP 123 0 cw_123 rfl (iv_in hp1 (by decide) (by decide)) dX9_drawDrives_62 ?_
          refine lv_topi (fun z674 ez674 => ?_)
          have h675 : Iv 0 5 z674 := by rw [ez674]; exact (rb_123 hBt36 (vp_in_lt (iv_in hp1 (by decide) (by decide))))
          refine ro_V (As := [.int z674]) (rest := []) S (s_X1_roadsAt l D k a t36 sl  z674 _  hBt36  ) lkX9_174 ok_X1_roadsAt ⟨rfl, rfl, Nat.le_of_ble_eq_true rfl, Nat.le_of_ble_eq_true rfl⟩ (pw_V (ci := 1) (q0 := 18) hK hN rfl cw_18 hP (hD.weaken (fun _ _ _ _ => trivial))) rfl hl.1 rfl (Nat.le_of_ble_eq_true rfl) ⟨Nat.zero_le _, Nat.zero_le _⟩ dX9_drawDrives_63 (fun r676 er676 => ?_)
          have h677 : Iv 0 255 r676 := er676.1
          refine lv_istore (lv' := [(8, .int r676), (7, .int v7_36), (6, .int v6_36), (4, .long v4_36), (0, .ref (a 0)), (1, .int p0), (2, .int p1), (3, .int p2)]) hx hb dX9_drawDrives_66 hl (by decide) rfl (fun ls hl => ?_)
          refine lv_iload hx hb dX9_drawDrives_68 (lv_at hl 0 rfl) ?_
          refine lv_if_eq (tgt := 77) hx hb dX9_drawDrives_70 (by decide) (fun c678 => ?_) (fun c678 => ?_)
          · skip
            have h679 : Iv 0 0 r676 := eq_l c678 (iv_c (by decide) : Iv 0 0 0)
            refine lv_iconst (v := 0) hx hb dX9_drawDrives_77 (by decide) ?_
            refine lv_istore (lv' := [(6, .int 0), (8, .int r676), (7, .int v7_36), (4, .long v4_36), (0, .ref (a 0)), (1, .int p0), (2, .int p1), (3, .int p2)]) hx hb dX9_drawDrives_78 hl (by decide) rfl (fun ls hl => ?_)
            refine lv_iload hx hb dX9_drawDrives_80 (lv_at hl 0 rfl) ?_
            refine lv_if_eq (tgt := 148) hx hb dX9_drawDrives_82 (by decide) (fun c680 => ?_) (fun c680 => ?_)
            rotate_left
            · first | exact absurd c680 (by decide) | exact absurd (by decide) c680
            obtain ⟨z681, ez681⟩ : ∃ z9 : Int32, z9 = v7_36 + Int32.ofInt 1 := ⟨_, rfl⟩
            have h682 : Iv 1 40 z681 := iv_inc ez681 h669 (by decide) (by decide) (by decide) (by decide) (by decide) (by decide)
            refine lv_iinc (v := z681) (lv' := [(7, .int z681), (6, .int 0), (8, .int r676), (4, .long v4_36), (0, .ref (a 0)), (1, .int p0), (2, .int p1), (3, .int p2)]) hx hb dX9_drawDrives_148 hl (k := 2) rfl ez681.symm (by decide) rfl (fun ls hl => ?_)
            refine lv_goto (tgt := 36) hx hb dX9_drawDrives_151 (by decide) ?_
            exact ih36 z681 0 v4_36 t36 _ _ _ (iv_mono (c := 0) (d := 40) h682 (by decide) (by decide)) (iv_mono (c := 0) (d := 1) (iv_c (by decide) : Iv 0 0 0) (by decide) (by decide)) hBt36 gt36 hP hD hS (lv_sub hl [0, 1, 3, 4, 5, 6, 7] rfl) (fu_s (lo := 0) (ti_inc ez681 h669 (by decide) (by decide) (by decide) (by decide)) (by decide) hm36)
          · skip
            have h683 : Iv 1 255 r676 := ne_lo h677 c678 (by decide) (by decide)
            refine lv_iconst (v := 1) hx hb dX9_drawDrives_73 (by decide) ?_
            refine lv_goto (tgt := 78) hx hb dX9_drawDrives_74 (by decide) ?_
            refine lv_istore (lv' := [(6, .int 1), (8, .int r676), (7, .int v7_36), (4, .long v4_36), (0, .ref (a 0)), (1, .int p0), (2, .int p1), (3, .int p2)]) hx hb dX9_drawDrives_78 hl (by decide) rfl (fun ls hl => ?_)
            refine lv_iload hx hb dX9_drawDrives_80 (lv_at hl 0 rfl) ?_
            refine lv_if_eq (tgt := 148) hx hb dX9_drawDrives_82 (by decide) (fun c684 => ?_) (fun c684 => ?_)
            · first | exact absurd c684 (by decide) | exact absurd (by decide) c684
            refine lv_ldc2 (v := 1103515245) hx hb hown (hT _ t1181) dX9_drawDrives_85 ?_
            refine lv_lload hx hb dX9_drawDrives_88 (lv_at hl 3 rfl) ?_
            refine lv_lmul hx hb dX9_drawDrives_90 ?_
            refine lv_topl (fun z685 ez685 => ?_)
            refine lv_ldc2 (v := 12345) hx hb hown (hT _ t1182) dX9_drawDrives_91 ?_
            refine lv_ladd hx hb dX9_drawDrives_94 ?_
            refine lv_topl (fun z686 ez686 => ?_)
            refine lv_ldc2 (v := 2147483648) hx hb hown (hT _ t1183) dX9_drawDrives_95 ?_
            refine lv_lrem hx hb dX9_drawDrives_98 (by decide) ?_
            refine lv_topl (fun z687 ez687 => ?_)
            refine lv_lstore (lv' := [(4, .long z687), (6, .int 1), (8, .int r676), (7, .int v7_36), (0, .ref (a 0)), (1, .int p0), (2, .int p1), (3, .int p2)]) hx hb dX9_drawDrives_99 hl (by decide) rfl (fun ls hl => ?_)
            refine lv_lload hx hb dX9_drawDrives_101 (lv_at hl 0 rfl) ?_
            refine lv_ldc2 (v := 65536) hx hb hown (hT _ t1184) dX9_drawDrives_103 ?_
            refine lv_ldiv hx hb dX9_drawDrives_106 (by decide) ?_
            refine lv_topl (fun z688 ez688 => ?_)
            refine lv_iconst (v := 1) hx hb dX9_drawDrives_107 (by decide) ?_
            refine lv_iload hx hb dX9_drawDrives_108 (lv_at hl 2 rfl) ?_
            refine ro_SX (As := [.int r676]) (rest := [.int 1, .long z688]) S (s_J6_bitCount_0f7a4 l D k a t36 sl  r676 _  hBt36  ) (gdC t999) t997 t998 t122 ok_J6_bitCount_0f7a4 ⟨rfl, rfl, Nat.le_of_ble_eq_true rfl, Nat.le_of_ble_eq_true rfl⟩ (pw_S hK hN hP (hD.weaken (fun _ _ _ _ => trivial))) rfl hl.1 rfl (Nat.le_of_ble_eq_true rfl) ⟨Nat.zero_le _, Nat.zero_le _⟩ dX9_drawDrives_110 (fun r689 er689 => ?_)
            have h690 : Iv 0 63 r689 := er689.1
            refine va_mmax hx hb (hml.trans hl.1.symm) hown (hT _ t1069) (hT _ t1070) (hT _ t116) (hT _ t1071) (Nat.le_of_ble_eq_true rfl) (Nat.le_of_ble_eq_true rfl) (Nat.zero_le _) (Nat.zero_le _) dX9_drawDrives_113 ?_
            refine lv_topi (fun z691 ez691 => ?_)
            have h692 : Iv 1 63 z691 := iv_max ez691 (iv_c (by decide) : Iv 1 1 1) h690 (by decide) (by decide) (by decide)
            refine lv_i2l hx hb dX9_drawDrives_116 rfl ?_
            refine lv_lrem hx hb dX9_drawDrives_117 (l_nz h692 (by decide)) ?_
            refine lv_topl (fun z693 ez693 => ?_)
            refine lv_l2i hx hb dX9_drawDrives_118 rfl ?_
            refine lv_topi (fun z694 ez694 => ?_)
            refine lv_istore (lv' := [(9, .int z694), (4, .long z687), (6, .int 1), (8, .int r676), (7, .int v7_36), (0, .ref (a 0)), (1, .int p0), (2, .int p1), (3, .int p2)]) hx hb dX9_drawDrives_119 hl (by decide) rfl (fun ls hl => ?_)
            refine lv_aload_n hx hb dX9_drawDrives_121 rfl (lv_at hl 5 rfl) ?_
            refine va_get (D := D) (ci := 9) (v := .ref (a 125)) (C := RX9) (T := TX9) (N := 11) hx hb hT in_X9 hown hK hP 0 cw_0 rfl 7 (by decide) (hT _ t458) (fun _ h9 => h9) rfl dX9_drawDrives_122 ?_
            refine lv_aload_n hx hb dX9_drawDrives_125 rfl (lv_at hl 5 rfl) ?_
            refine va_get (D := D) (ci := 9) (v := .ref (a 17)) (C := RX9) (T := TX9) (N := 11) hx hb hT in_X9 hown hK hP 0 cw_0 rfl 2 (by decide) (hT _ t453) (fun _ h9 => h9) rfl dX9_drawDrives_126 ?_
            refine va_get (D := D) (ci := 8) (v := .ref (a 18)) (C := RX8) (T := TX8) (N := 6) hx hb hT in_X8 hown hK hP 17 cw_17 rfl 0 (by decide) (hT _ t312) (fun _ h9 => h9) rfl dX9_drawDrives_129 ?_
            refine lv_aload_n hx hb dX9_drawDrives_132 rfl (lv_at hl 5 rfl) ?_
            refine va_get (D := D) (ci := 9) (v := .ref (a 119)) (C := RX9) (T := TX9) (N := 11) hx hb hT in_X9 hown hK hP 0 cw_0 rfl 6 (by decide) (hT _ t457) (fun _ h9 => h9) rfl dX9_drawDrives_133 ?_
            refine lv_iload_n hx hb dX9_drawDrives_136 rfl (lv_at hl 7 rfl) ?_
            refine lv_iload hx hb dX9_drawDrives_137 (lv_at hl 3 rfl) ?_
            refine lv_iload hx hb dX9_drawDrives_139 (lv_at hl 0 rfl) ?_
            refine ro_S (As := [.int r676, .int z694]) (rest := [.int p1, .ref (a 119), .ref (a 18), .ref (a 125)]) S (s_X9_nthBit l D k a t36 sl  r676 z694 _  hBt36  ) lkX9_395 ok_X9_nthBit ⟨rfl, rfl, Nat.le_of_ble_eq_true rfl, Nat.le_of_ble_eq_true rfl⟩ (pw_S hK hN hP (hD.weaken (fun _ _ _ _ => trivial))) rfl hl.1 rfl (Nat.le_of_ble_eq_true rfl) ⟨Nat.zero_le _, Nat.zero_le _⟩ dX9_drawDrives_141 (fun r695 er695 => ?_)
            have h696 : Iv (-1) 7 r695 := er695.1
            refine ca_i hP hD hS hA (fun hDc => run_V (mc := 0) (ms := 0) (As := [.ref (a 18), .ref (a 119), .int p1, .int r695]) (rest := []) S (s_X7_goOn l D k a t36 sl  p1 r695 _  hBt36 hp1 ) lkX9_260 ok_X7_goOn ⟨rfl, rfl, Nat.le_of_ble_eq_true rfl, Nat.le_of_ble_eq_true rfl⟩ (pw_V (ci := 7) (q0 := 125) hK hN rfl cw_125 hP hDc) rfl hl.1 rfl (Nat.le_of_ble_eq_true rfl) ⟨Nat.zero_le _, Nat.zero_le _⟩ dX9_drawDrives_144) (fun r698 s697 H9 locs9 hs697 hP9 hD9 hS9 => ?_)
            clear hP hD hS
            have hS := hS9
            have hP := hP9
            have hD := hD9
            clear hP9 hD9 hS9
            obtain ⟨hBs697, gs697, fs697⟩ := hs697
            have hFs697 : FR [120, 121, 122, 123, 124, 125] st s697 := fr_ca hFt36 gs697 (sub_1 (List.mem_of_getElem? (i := 0) rfl) (sub_1 (List.mem_of_getElem? (i := 1) rfl) (sub_1 (List.mem_of_getElem? (i := 3) rfl) (sub_1 (List.mem_of_getElem? (i := 4) rfl) (sub_1 (List.mem_of_getElem? (i := 5) rfl) sub_0)))))
            rcases fs697 with ⟨rfl, g9⟩ | ⟨rfl, g9⟩
            · skip
              have g699 := g9
              refine lv_pop hx hb dX9_drawDrives_147 rfl ?_
              obtain ⟨z700, ez700⟩ : ∃ z9 : Int32, z9 = v7_36 + Int32.ofInt 1 := ⟨_, rfl⟩
              have h701 : Iv 1 40 z700 := iv_inc ez700 h669 (by decide) (by decide) (by decide) (by decide) (by decide) (by decide)
              refine lv_iinc (v := z700) (lv' := [(7, .int z700), (9, .int z694), (4, .long z687), (6, .int 1), (8, .int r676), (0, .ref (a 0)), (1, .int p0), (2, .int p1), (3, .int p2)]) hx hb dX9_drawDrives_148 hl (k := 4) rfl ez700.symm (by decide) rfl (fun ls hl => ?_)
              refine lv_goto (tgt := 36) hx hb dX9_drawDrives_151 (by decide) ?_
              exact ih36 z700 1 z687 s697 _ _ _ (iv_mono (c := 0) (d := 40) h701 (by decide) (by decide)) (iv_mono (c := 0) (d := 1) (iv_c (by decide) : Iv 1 1 1) (by decide) (by decide)) hBs697 (fr_ca gt36 gs697 (sub_1 (List.mem_of_getElem? (i := 0) rfl) (sub_1 (List.mem_of_getElem? (i := 1) rfl) (sub_1 (List.mem_of_getElem? (i := 2) rfl) (sub_1 (List.mem_of_getElem? (i := 3) rfl) (sub_1 (List.mem_of_getElem? (i := 4) rfl) sub_0)))))) hP hD hS (lv_sub hl [0, 3, 2, 5, 6, 7, 8] rfl) (fu_s (lo := 0) (ti_inc ez700 h669 (by decide) (by decide) (by decide) (by decide)) (by decide) hm36)
            · skip
              have g702 := g9
              refine lv_pop hx hb dX9_drawDrives_147 rfl ?_
              obtain ⟨z703, ez703⟩ : ∃ z9 : Int32, z9 = v7_36 + Int32.ofInt 1 := ⟨_, rfl⟩
              have h704 : Iv 1 40 z703 := iv_inc ez703 h669 (by decide) (by decide) (by decide) (by decide) (by decide) (by decide)
              refine lv_iinc (v := z703) (lv' := [(7, .int z703), (9, .int z694), (4, .long z687), (6, .int 1), (8, .int r676), (0, .ref (a 0)), (1, .int p0), (2, .int p1), (3, .int p2)]) hx hb dX9_drawDrives_148 hl (k := 4) rfl ez703.symm (by decide) rfl (fun ls hl => ?_)
              refine lv_goto (tgt := 36) hx hb dX9_drawDrives_151 (by decide) ?_
              exact ih36 z703 1 z687 s697 _ _ _ (iv_mono (c := 0) (d := 40) h704 (by decide) (by decide)) (iv_mono (c := 0) (d := 1) (iv_c (by decide) : Iv 1 1 1) (by decide) (by decide)) hBs697 (fr_ca gt36 gs697 (sub_1 (List.mem_of_getElem? (i := 0) rfl) (sub_1 (List.mem_of_getElem? (i := 1) rfl) (sub_1 (List.mem_of_getElem? (i := 2) rfl) (sub_1 (List.mem_of_getElem? (i := 3) rfl) (sub_1 (List.mem_of_getElem? (i := 4) rfl) sub_0)))))) hP hD hS (lv_sub hl [0, 3, 2, 5, 6, 7, 8] rfl) (fu_s (lo := 0) (ti_inc ez703 h669 (by decide) (by decide) (by decide) (by decide)) (by decide) hm36)
  exact lp36 41 0 1 (p0.toInt64) s3 _ _ _ (iv_mono (c := 0) (d := 40) (iv_c (by decide) : Iv 0 0 0) (by decide) (by decide)) (iv_mono (c := 0) (d := 1) (iv_c (by decide) : Iv 1 1 1) (by decide) (by decide)) hBs3 fr_rf hP hD hS (lv_sub hl [0, 1, 2, 3, 4, 5, 6] rfl) (fu_i (iv_mono (c := 0) (d := 40) (iv_c (by decide) : Iv 0 0 0) (by decide) (by decide)) (by decide))
set_option maxHeartbeats 4000000 in
set_option maxRecDepth 100000 in
theorem s_X9_drawn (l : Launch) (D : va_G) (k : Nat → ClassId) (a : Nat → Nat) (st : CT) (sl : CL) (p0 : Int32) (p1 : Int32) (p2 : Int32) (p3 : Int32) (sz : Nat) (hB : CB st)  : Met l yX9_drawn (.code yX9_drawn cX9_drawn 5 (some .int) :: TB) (rmw 7 0 0) (va_Pc [.ref (a 0), .int p0, .int p1, .int p2, .int p3] (PW D k sz (CWS k a st sl))) (QI D (S := CT) (fun r u => CB u ∧ FR [120, 121, 122, 123, 124, 125] st u ∧ ((True))) (fun u => CWS k a u sl) (fun _ => []) (CWS k a st sl) sz) 0 0 (va_A (CWS k a st sl) sz) := by
  refine Met.ofW (cc := cX9_drawn) (maxL := 5) (ret := (some .int)) (by decide) rfl ?_
  intro p e s m args below meth c s₁ B hml hv
  obtain ⟨rfl, hsz, hP, hK, hD0, hN⟩ := hv
  have hx := B.exec
  have hb := B.bytes
  have hr := B.returns
  have hT : ∀ w9 ∈ TB, w9.before ([.ref (a 0), .int p0, .int p1, .int p2, .int p3] : List Value).toArray s = true := fun w9 h => atoms_spec (ws := .code yX9_drawn cX9_drawn 5 (some .int) :: TB) B.pre w9 (List.mem_cons_of_mem _ h)
  have hown : s.vm.findClass RX9 = some m.cls := findClass_of_methodNamed B.named
  have S : CallFix p m c cX9_drawn 5 s _ TB RX9 := ⟨hx, hb, hml, hown, hT⟩
  subst hsz
  have hD := hD0.self (sz := s.heap.size)
  generalize hAe : va_A (CWS k a st sl) s.heap.size = A at hD ⊢
  have hA : ∀ q : Nat, s.heap.size ≤ q → A q := fun q h => by rw [← hAe]; exact Or.inr h
  have hS : va_S A s.heap s.heap [] := va_S.rf
  have hl := lv_entry ([.ref (a 0), .int p0, .int p1, .int p2, .int p3]) (n := 5) (Nat.le_of_ble_eq_true rfl)
  rw [lg_entry_eq]
  generalize (lg_sl ([.ref (a 0), .int p0, .int p1, .int p2, .int p3]) ++ List.replicate (5 - (lg_sl ([.ref (a 0), .int p0, .int p1, .int p2, .int p3])).length) Slot.unset).toArray = ls at hl ⊢
  have hl : lv_has ls 5 [(0, .ref (a 0)), (1, .int p0), (2, .int p1), (3, .int p2), (4, .int p3)] := hl
  refine nameQ (fun Q hQ => ?_)
  refine lv_aload_n hx hb dX9_drawn_0 rfl (lv_at hl 0 rfl) ?_
  refine lv_iload_n hx hb dX9_drawn_1 rfl (lv_at hl 1 rfl) ?_
  refine lv_iload_n hx hb dX9_drawn_2 rfl (lv_at hl 2 rfl) ?_
  refine lv_iload_n hx hb dX9_drawn_3 rfl (lv_at hl 3 rfl) ?_
  refine ro_V (As := [.int p0, .int p1, .int p2]) (rest := []) S (s_X9_canDraw l D k a st sl  p0 p1 p2 _  hB  ) lkX9_376 ok_X9_canDraw ⟨rfl, rfl, Nat.le_of_ble_eq_true rfl, Nat.le_of_ble_eq_true rfl⟩ (pw_V (ci := 9) (q0 := 0) hK hN rfl cw_0 hP (hD.weaken (fun _ _ _ _ => trivial))) rfl hl.1 rfl (Nat.le_of_ble_eq_true rfl) ⟨Nat.zero_le _, Nat.zero_le _⟩ dX9_drawn_4 (fun r1 er1 => ?_)
  rcases er1 with ⟨rfl, g9⟩ | ⟨rfl, g9⟩
  · skip
    have g2 := g9
    have h3 : Iv 0 2000000000 p0 := g2.1
    have h4 : Iv 0 2 p1 := g2.2.1
    have h5 : Iv 0 40 p2 := g2.2.2.1
    refine lv_if_ne (tgt := 13) hx hb dX9_drawn_7 (by decide) (fun c6 => ?_) (fun c6 => ?_)
    rotate_left
    · first | exact absurd c6 (by decide) | exact absurd (by decide) c6
    refine lv_aload_n hx hb dX9_drawn_13 rfl (lv_at hl 0 rfl) ?_
    refine lv_iload_n hx hb dX9_drawn_14 rfl (lv_at hl 1 rfl) ?_
    refine lv_iload_n hx hb dX9_drawn_15 rfl (lv_at hl 2 rfl) ?_
    refine lv_iload_n hx hb dX9_drawn_16 rfl (lv_at hl 3 rfl) ?_
    refine ca_v hP hD hS hA (fun hDc => run_V (mc := 0) (ms := 0) (As := [.int p0, .int p1, .int p2]) (rest := []) S (s_X9_drawDrives l D k a st sl  p0 p1 p2 _  hB h4 h5 ) lkX9_380 ok_X9_drawDrives ⟨rfl, rfl, Nat.le_of_ble_eq_true rfl, Nat.le_of_ble_eq_true rfl⟩ (pw_V (ci := 9) (q0 := 0) hK hN rfl cw_0 hP hDc) rfl hl.1 rfl (Nat.le_of_ble_eq_true rfl) ⟨Nat.zero_le _, Nat.zero_le _⟩ dX9_drawn_17) (fun s7 H9 locs9 hs7 hP9 hD9 hS9 => ?_)
    clear hP hD hS
    have hS := hS9
    have hP := hP9
    have hD := hD9
    clear hP9 hD9 hS9
    obtain ⟨hBs7, gs7, fs7⟩ := hs7
    have hFs7 : FR [120, 121, 122, 123, 124, 125] st s7 := fr_ca fr_rf gs7 (sub_1 (List.mem_of_getElem? (i := 0) rfl) (sub_1 (List.mem_of_getElem? (i := 1) rfl) (sub_1 (List.mem_of_getElem? (i := 2) rfl) (sub_1 (List.mem_of_getElem? (i := 3) rfl) (sub_1 (List.mem_of_getElem? (i := 4) rfl) (sub_1 (List.mem_of_getElem? (i := 5) rfl) sub_0))))))
    refine lv_iload hx hb dX9_drawn_20 (lv_at hl 4 rfl) ?_
    by_cases c9 : p3.toInt < 0 ∨ 2 < p3.toInt
    · refine lv_tableOut (tgt := 72) hx hb dX9_drawn_22 c9 (by decide) ?_
      refine lv_bipush (v := (-2)) hx hb dX9_drawn_72 (by decide) ?_
      rw [hQ]
      exact W.iret (v := (-2)) hx hb hr (fun t ht hW => ⟨⟨(-2), s7, rfl, ⟨hBs7, hFs7, trivial⟩, by rw [ht]; exact hP, va_K.moved hW.alike (hK.sub (tys' := []) [] rfl), by rw [hAe]; exact hD⟩, by rw [hAe]; exact hS.F ht⟩) hS.2.2 dX9_drawn_74
    · skip
      have h10 : Iv 0 2 p3 := ⟨by omega, by omega⟩
      rcases iv_ca3 h10 0 1 2 (by decide) (by decide) (by decide) (by decide) with q9 | q9 | q9
      · have q11 := q9
        refine lv_tableIn (off := 26) (tgt := 48) hx hb dX9_drawn_22 (by rw [q9]; decide) (by rw [q9]; decide) (by rw [q9]; decide +kernel) (by decide) ?_
        have h12 : Iv 0 0 p3 := (by rw [q9]; exact iv_c (by decide))
        refine lv_aload_n hx hb dX9_drawn_48 rfl (lv_at hl 0 rfl) ?_
        refine va_get (D := D) (ci := 9) (v := .ref (a 125)) (C := RX9) (T := TX9) (N := 11) hx hb hT in_X9 hown hK hP 0 cw_0 rfl 7 (by decide) (hT _ t458) (fun _ h9 => h9) rfl dX9_drawn_49 ?_
        refine va_get (D := D) (ci := 7) (v := .int (s7 125 1)) (C := RX7) (T := TX7) (N := 6) hx hb hT in_X7 hown hK hP 125 cw_125 rfl 1 (by decide) (hT _ t369) (fun _ h9 => h9) rfl dX9_drawn_52 ?_
        rw [hQ]
        exact W.iret (v := (s7 125 1)) hx hb hr (fun t ht hW => ⟨⟨(s7 125 1), s7, rfl, ⟨hBs7, hFs7, trivial⟩, by rw [ht]; exact hP, va_K.moved hW.alike (hK.sub (tys' := []) [] rfl), by rw [hAe]; exact hD⟩, by rw [hAe]; exact hS.F ht⟩) hS.2.2 dX9_drawn_55
      · have q13 := q9
        refine lv_tableIn (off := 34) (tgt := 56) hx hb dX9_drawn_22 (by rw [q9]; decide) (by rw [q9]; decide) (by rw [q9]; decide +kernel) (by decide) ?_
        have h14 : Iv 1 1 p3 := (by rw [q9]; exact iv_c (by decide))
        refine lv_aload_n hx hb dX9_drawn_56 rfl (lv_at hl 0 rfl) ?_
        refine va_get (D := D) (ci := 9) (v := .ref (a 125)) (C := RX9) (T := TX9) (N := 11) hx hb hT in_X9 hown hK hP 0 cw_0 rfl 7 (by decide) (hT _ t458) (fun _ h9 => h9) rfl dX9_drawn_57 ?_
        refine va_get (D := D) (ci := 7) (v := .int (s7 125 2)) (C := RX7) (T := TX7) (N := 6) hx hb hT in_X7 hown hK hP 125 cw_125 rfl 2 (by decide) (hT _ t371) (fun _ h9 => h9) rfl dX9_drawn_60 ?_
        rw [hQ]
        exact W.iret (v := (s7 125 2)) hx hb hr (fun t ht hW => ⟨⟨(s7 125 2), s7, rfl, ⟨hBs7, hFs7, trivial⟩, by rw [ht]; exact hP, va_K.moved hW.alike (hK.sub (tys' := []) [] rfl), by rw [hAe]; exact hD⟩, by rw [hAe]; exact hS.F ht⟩) hS.2.2 dX9_drawn_63
      · have q15 := q9
        refine lv_tableIn (off := 42) (tgt := 64) hx hb dX9_drawn_22 (by rw [q9]; decide) (by rw [q9]; decide) (by rw [q9]; decide +kernel) (by decide) ?_
        have h16 : Iv 2 2 p3 := (by rw [q9]; exact iv_c (by decide))
        refine lv_aload_n hx hb dX9_drawn_64 rfl (lv_at hl 0 rfl) ?_
        refine va_get (D := D) (ci := 9) (v := .ref (a 125)) (C := RX9) (T := TX9) (N := 11) hx hb hT in_X9 hown hK hP 0 cw_0 rfl 7 (by decide) (hT _ t458) (fun _ h9 => h9) rfl dX9_drawn_65 ?_
        refine va_get (D := D) (ci := 7) (v := .int (s7 125 3)) (C := RX7) (T := TX7) (N := 6) hx hb hT in_X7 hown hK hP 125 cw_125 rfl 3 (by decide) (hT _ t373) (fun _ h9 => h9) rfl dX9_drawn_68 ?_
        rw [hQ]
        exact W.iret (v := (s7 125 3)) hx hb hr (fun t ht hW => ⟨⟨(s7 125 3), s7, rfl, ⟨hBs7, hFs7, trivial⟩, by rw [ht]; exact hP, va_K.moved hW.alike (hK.sub (tys' := []) [] rfl), by rw [hAe]; exact hD⟩, by rw [hAe]; exact hS.F ht⟩) hS.2.2 dX9_drawn_71
  · skip
    have g17 := g9
    refine lv_if_ne (tgt := 13) hx hb dX9_drawn_7 (by decide) (fun c18 => ?_) (fun c18 => ?_)
    · first | exact absurd c18 (by decide) | exact absurd (by decide) c18
    refine lv_bipush (v := (-2)) hx hb dX9_drawn_10 (by decide) ?_
    rw [hQ]
    exact W.iret (v := (-2)) hx hb hr (fun t ht hW => ⟨⟨(-2), st, rfl, ⟨hB, fr_rf, trivial⟩, by rw [ht]; exact hP, va_K.moved hW.alike (hK.sub (tys' := []) [] rfl), by rw [hAe]; exact hD⟩, by rw [hAe]; exact hS.F ht⟩) hS.2.2 dX9_drawn_12
set_option maxHeartbeats 4000000 in
set_option maxRecDepth 100000 in
theorem s_X9_luck (l : Launch) (D : va_G) (k : Nat → ClassId) (a : Nat → Nat) (st : CT) (sl : CL) (p0 : Int32) (p1 : Int32) (p2 : Int32) (p3 : Int32) (p4 : Int32) (sz : Nat) (hB : CB st)  : Met l yX9_luck (.code yX9_luck cX9_luck 8 (some .int) :: TB) (rmw 7 0 0) (va_Pc [.ref (a 0), .int p0, .int p1, .int p2, .int p3, .int p4] (PW D k sz (CWS k a st sl))) (QI D (S := CT) (fun r u => CB u ∧ FR [120, 121, 122, 123, 124, 125] st u ∧ ((True))) (fun u => CWS k a u sl) (fun _ => []) (CWS k a st sl) sz) 0 0 (va_A (CWS k a st sl) sz) := by
  refine Met.ofW (cc := cX9_luck) (maxL := 8) (ret := (some .int)) (by decide) rfl ?_
  intro p e s m args below meth c s₁ B hml hv
  obtain ⟨rfl, hsz, hP, hK, hD0, hN⟩ := hv
  have hx := B.exec
  have hb := B.bytes
  have hr := B.returns
  have hT : ∀ w9 ∈ TB, w9.before ([.ref (a 0), .int p0, .int p1, .int p2, .int p3, .int p4] : List Value).toArray s = true := fun w9 h => atoms_spec (ws := .code yX9_luck cX9_luck 8 (some .int) :: TB) B.pre w9 (List.mem_cons_of_mem _ h)
  have hown : s.vm.findClass RX9 = some m.cls := findClass_of_methodNamed B.named
  have S : CallFix p m c cX9_luck 8 s _ TB RX9 := ⟨hx, hb, hml, hown, hT⟩
  subst hsz
  have hD := hD0.self (sz := s.heap.size)
  generalize hAe : va_A (CWS k a st sl) s.heap.size = A at hD ⊢
  have hA : ∀ q : Nat, s.heap.size ≤ q → A q := fun q h => by rw [← hAe]; exact Or.inr h
  have hS : va_S A s.heap s.heap [] := va_S.rf
  have hl := lv_entry ([.ref (a 0), .int p0, .int p1, .int p2, .int p3, .int p4]) (n := 8) (Nat.le_of_ble_eq_true rfl)
  rw [lg_entry_eq]
  generalize (lg_sl ([.ref (a 0), .int p0, .int p1, .int p2, .int p3, .int p4]) ++ List.replicate (8 - (lg_sl ([.ref (a 0), .int p0, .int p1, .int p2, .int p3, .int p4])).length) Slot.unset).toArray = ls at hl ⊢
  have hl : lv_has ls 8 [(0, .ref (a 0)), (1, .int p0), (2, .int p1), (3, .int p2), (4, .int p3), (5, .int p4)] := hl
  refine nameQ (fun Q hQ => ?_)
  refine lv_aload_n hx hb dX9_luck_0 rfl (lv_at hl 0 rfl) ?_
  refine lv_iload_n hx hb dX9_luck_1 rfl (lv_at hl 1 rfl) ?_
  refine lv_iload_n hx hb dX9_luck_2 rfl (lv_at hl 3 rfl) ?_
  refine lv_iload hx hb dX9_luck_3 (lv_at hl 4 rfl) ?_
  refine ro_V (As := [.int p0, .int p2, .int p3]) (rest := []) S (s_X9_canDraw l D k a st sl  p0 p2 p3 _  hB  ) lkX9_376 ok_X9_canDraw ⟨rfl, rfl, Nat.le_of_ble_eq_true rfl, Nat.le_of_ble_eq_true rfl⟩ (pw_V (ci := 9) (q0 := 0) hK hN rfl cw_0 hP (hD.weaken (fun _ _ _ _ => trivial))) rfl hl.1 rfl (Nat.le_of_ble_eq_true rfl) ⟨Nat.zero_le _, Nat.zero_le _⟩ dX9_luck_5 (fun r1 er1 => ?_)
  rcases er1 with ⟨rfl, g9⟩ | ⟨rfl, g9⟩
  · skip
    have g2 := g9
    have h3 : Iv 0 2000000000 p0 := g2.1
    have h4 : Iv 0 2 p2 := g2.2.1
    have h5 : Iv 0 40 p3 := g2.2.2.1
    refine lv_if_eq (tgt := 37) hx hb dX9_luck_8 (by decide) (fun c6 => ?_) (fun c6 => ?_)
    · first | exact absurd c6 (by decide) | exact absurd (by decide) c6
    refine lv_iload_n hx hb dX9_luck_11 rfl (lv_at hl 2 rfl) ?_
    refine lv_iconst (v := 1) hx hb dX9_luck_12 (by decide) ?_
    refine lv_icmp_lt (tgt := 37) hx hb dX9_luck_13 (by decide) (fun c7 => ?_) (fun c7 => ?_)
    · skip
      have n8 : p1.toInt < (1 : Int32).toInt := (i_lt c7)
      have h9 : Iv (-2147483648) 0 p1 := lt_l (iv_full p1) n8 (iv_c (by decide) : Iv 1 1 1) (by decide)
      refine lv_bipush (v := (-2)) hx hb dX9_luck_37 (by decide) ?_
      rw [hQ]
      exact W.iret (v := (-2)) hx hb hr (fun t ht hW => ⟨⟨(-2), st, rfl, ⟨hB, fr_rf, trivial⟩, by rw [ht]; exact hP, va_K.moved hW.alike (hK.sub (tys' := []) [] rfl), by rw [hAe]; exact hD⟩, by rw [hAe]; exact hS.F ht⟩) hS.2.2 dX9_luck_39
    · skip
      have n10 : (1 : Int32).toInt ≤ p1.toInt := (i_nlt c7)
      have h11 : Iv 1 2147483647 p1 := le_r (iv_c (by decide) : Iv 1 1 1) n10 (iv_full p1) (by decide)
      refine lv_iload_n hx hb dX9_luck_16 rfl (lv_at hl 2 rfl) ?_
      refine lv_bipush (v := 20) hx hb dX9_luck_17 (by decide) ?_
      refine lv_icmp_gt (tgt := 37) hx hb dX9_luck_19 (by decide) (fun c12 => ?_) (fun c12 => ?_)
      · skip
        have n13 : (20 : Int32).toInt < p1.toInt := (i_lt c12)
        have h14 : Iv 21 2147483647 p1 := lt_r (iv_c (by decide) : Iv 20 20 20) n13 h11 (by decide)
        refine lv_bipush (v := (-2)) hx hb dX9_luck_37 (by decide) ?_
        rw [hQ]
        exact W.iret (v := (-2)) hx hb hr (fun t ht hW => ⟨⟨(-2), st, rfl, ⟨hB, fr_rf, trivial⟩, by rw [ht]; exact hP, va_K.moved hW.alike (hK.sub (tys' := []) [] rfl), by rw [hAe]; exact hD⟩, by rw [hAe]; exact hS.F ht⟩) hS.2.2 dX9_luck_39
      · skip
        have n15 : p1.toInt ≤ (20 : Int32).toInt := (i_nlt c12)
        have h16 : Iv 1 20 p1 := le_l h11 n15 (iv_c (by decide) : Iv 20 20 20) (by decide)
        refine lv_aload_n hx hb dX9_luck_22 rfl (lv_at hl 0 rfl) ?_
        refine va_get (D := D) (ci := 9) (v := .ref (a 17)) (C := RX9) (T := TX9) (N := 11) hx hb hT in_X9 hown hK hP 0 cw_0 rfl 2 (by decide) (hT _ t453) (fun _ h9 => h9) rfl dX9_luck_23 ?_
        refine va_get (D := D) (ci := 8) (v := .ref (a 18)) (C := RX8) (T := TX8) (N := 6) hx hb hT in_X8 hown hK hP 17 cw_17 rfl 0 (by decide) (hT _ t312) (fun _ h9 => h9) rfl dX9_luck_26 ?_
        refine lv_iload hx hb dX9_luck_29 (lv_at hl 5 rfl) ?_
        refine ro_V (As := [.int p4]) (rest := []) S (s_X1_isPlace l D k a st sl  p4 _  hB  ) lkX9_171 ok_X1_isPlace ⟨rfl, rfl, Nat.le_of_ble_eq_true rfl, Nat.le_of_ble_eq_true rfl⟩ (pw_V (ci := 1) (q0 := 18) hK hN rfl cw_18 hP (hD.weaken (fun _ _ _ _ => trivial))) rfl hl.1 rfl (Nat.le_of_ble_eq_true rfl) ⟨Nat.zero_le _, Nat.zero_le _⟩ dX9_luck_31 (fun r17 er17 => ?_)
        rcases er17 with ⟨rfl, g9⟩ | ⟨rfl, g9⟩
        · skip
          have g18 := g9
          have h19 : Iv 0 5 p4 := g18.1
          refine lv_if_ne (tgt := 40) hx hb dX9_luck_34 (by decide) (fun c20 => ?_) (fun c20 => ?_)
          rotate_left
          · first | exact absurd c20 (by decide) | exact absurd (by decide) c20
          refine lv_iconst (v := 0) hx hb dX9_luck_40 (by decide) ?_
          refine lv_istore (lv' := [(6, .int 0), (0, .ref (a 0)), (1, .int p0), (2, .int p1), (3, .int p2), (4, .int p3), (5, .int p4)]) hx hb dX9_luck_41 hl (by decide) rfl (fun ls hl => ?_)
          refine lv_iconst (v := 0) hx hb dX9_luck_43 (by decide) ?_
          refine lv_istore (lv' := [(7, .int 0), (6, .int 0), (0, .ref (a 0)), (1, .int p0), (2, .int p1), (3, .int p2), (4, .int p3), (5, .int p4)]) hx hb dX9_luck_44 hl (by decide) rfl (fun ls hl => ?_)
          have lp46 : ∀ (n9_46 : Nat) (v7_46 : Int32) (v6_46 : Int32) (t46 : CT) (H9 : Heap) (locs9 : List Loc) (ls : Array Slot), Iv 0 20 v7_46 → CB t46 → FR [120, 121, 122, 123, 124, 125] st t46 → va_P D vwCl (CWS k a t46 sl) H9 → va_D A (CWS k a t46 sl) → va_S A s.heap H9 locs9 → lv_has ls 8 [(7, .int v7_46), (6, .int v6_46), (0, .ref (a 0)), (1, .int p0), (2, .int p1), (3, .int p2), (4, .int p3), (5, .int p4)] → (20 : Int) - v7_46.toInt < (n9_46 : Int) → W p l e (rmw 7 0 0) s m ([.ref (a 0), .int p0, .int p1, .int p2, .int p3, .int p4] : List Value).toArray below meth c H9 locs9 0 0 Q (F0 m 46 ls []) := by
            clear hl hP hD hS
            intro n9_46
            induction n9_46 with
            | zero =>
              intro v7_46 v6_46 t46 H9 locs9 ls iv7_46 hBt46 gt46 hP hD hS hl hm46
              exact (fu_0 iv7_46 hm46).elim
            | succ n9_46 ih46 =>
              intro v7_46 v6_46 t46 H9 locs9 ls iv7_46 hBt46 gt46 hP hD hS hl hm46
              have hFt46 : FR [120, 121, 122, 123, 124, 125] st t46 := fr_ca fr_rf gt46 (sub_1 (List.mem_of_getElem? (i := 0) rfl) (sub_1 (List.mem_of_getElem? (i := 1) rfl) (sub_1 (List.mem_of_getElem? (i := 2) rfl) (sub_1 (List.mem_of_getElem? (i := 3) rfl) (sub_1 (List.mem_of_getElem? (i := 4) rfl) (sub_1 (List.mem_of_getElem? (i := 5) rfl) sub_0))))))
              refine lv_iload hx hb dX9_luck_46 (lv_at hl 0 rfl) ?_
              refine lv_iload_n hx hb dX9_luck_48 rfl (lv_at hl 4 rfl) ?_
              refine lv_icmp_ge (tgt := 84) hx hb dX9_luck_49 (by decide) (fun c595 => ?_) (fun c595 => ?_)
              · skip
                have n596 : p1.toInt ≤ v7_46.toInt := (i_le c595)
                have h597 : Iv 1 20 v7_46 := le_r h16 n596 iv7_46 (by decide)
                refine lv_iload hx hb dX9_luck_84 (lv_at hl 1 rfl) ?_
                rw [hQ]
                exact W.iret (v := v6_46) hx hb hr (fun t ht hW => ⟨⟨v6_46, t46, rfl, ⟨hBt46, hFt46, trivial⟩, by rw [ht]; exact hP, va_K.moved hW.alike (hK.sub (tys' := []) [] rfl), by rw [hAe]; exact hD⟩, by rw [hAe]; exact hS.F ht⟩) hS.2.2 dX9_luck_86
              · skip
                have n598 : v7_46.toInt < p1.toInt := (i_nle c595)
                have h599 : Iv 0 19 v7_46 := lt_l iv7_46 n598 h16 (by decide)
                refine lv_aload_n hx hb dX9_luck_52 rfl (lv_at hl 2 rfl) ?_
                refine lv_iload_n hx hb dX9_luck_53 rfl (lv_at hl 3 rfl) ?_
                refine lv_iload hx hb dX9_luck_54 (lv_at hl 0 rfl) ?_
                refine lv_iadd hx hb dX9_luck_56 ?_
                refine lv_topi (fun z600 ez600 => ?_)
                have h601 : Iv 0 2000000019 z600 := iv_add ez600 h3 h599 (by decide) (by decide) (by decide) (by decide)
                refine lv_iload_n hx hb dX9_luck_57 rfl (lv_at hl 5 rfl) ?_
                refine lv_iload hx hb dX9_luck_58 (lv_at hl 6 rfl) ?_
                refine ca_v hP hD hS hA (fun hDc => run_V (mc := 0) (ms := 0) (As := [.int z600, .int p2, .int p3]) (rest := []) S (s_X9_drawDrives l D k a t46 sl  z600 p2 p3 _  hBt46 h4 h5 ) lkX9_380 ok_X9_drawDrives ⟨rfl, rfl, Nat.le_of_ble_eq_true rfl, Nat.le_of_ble_eq_true rfl⟩ (pw_V (ci := 9) (q0 := 0) hK hN rfl cw_0 hP hDc) rfl hl.1 rfl (Nat.le_of_ble_eq_true rfl) ⟨Nat.zero_le _, Nat.zero_le _⟩ dX9_luck_60) (fun s602 H9 locs9 hs602 hP9 hD9 hS9 => ?_)
                clear hP hD hS
                have hS := hS9
                have hP := hP9
                have hD := hD9
                clear hP9 hD9 hS9
                obtain ⟨hBs602, gs602, fs602⟩ := hs602
                have hFs602 : FR [120, 121, 122, 123, 124, 125] st s602 := fr_ca hFt46 gs602 (sub_1 (List.mem_of_getElem? (i := 0) rfl) (sub_1 (List.mem_of_getElem? (i := 1) rfl) (sub_1 (List.mem_of_getElem? (i := 2) rfl) (sub_1 (List.mem_of_getElem? (i := 3) rfl) (sub_1 (List.mem_of_getElem? (i := 4) rfl) (sub_1 (List.mem_of_getElem? (i := 5) rfl) sub_0))))))
                refine lv_aload_n hx hb dX9_luck_63 rfl (lv_at hl 2 rfl) ?_
                refine va_get (D := D) (ci := 9) (v := .ref (a 125)) (C := RX9) (T := TX9) (N := 11) hx hb hT in_X9 hown hK hP 0 cw_0 rfl 7 (by decide) (hT _ t458) (fun _ h9 => h9) rfl dX9_luck_64 ?_
                refine va_get (D := D) (ci := 7) (v := .int (s602 125 1)) (C := RX7) (T := TX7) (N := 6) hx hb hT in_X7 hown hK hP 125 cw_125 rfl 1 (by decide) (hT _ t369) (fun _ h9 => h9) rfl dX9_luck_67 ?_
                refine lv_iload hx hb dX9_luck_70 (lv_at hl 7 rfl) ?_
                refine lv_icmp_ne (tgt := 78) hx hb dX9_luck_72 (by decide) (fun c604 => ?_) (fun c604 => ?_)
                · skip
                  obtain ⟨z605, ez605⟩ : ∃ z9 : Int32, z9 = v7_46 + Int32.ofInt 1 := ⟨_, rfl⟩
                  have h606 : Iv 1 20 z605 := iv_inc ez605 h599 (by decide) (by decide) (by decide) (by decide) (by decide) (by decide)
                  refine lv_iinc (v := z605) (lv' := [(7, .int z605), (6, .int v6_46), (0, .ref (a 0)), (1, .int p0), (2, .int p1), (3, .int p2), (4, .int p3), (5, .int p4)]) hx hb dX9_luck_78 hl (k := 0) rfl ez605.symm (by decide) rfl (fun ls hl => ?_)
                  refine lv_goto (tgt := 46) hx hb dX9_luck_81 (by decide) ?_
                  exact ih46 z605 v6_46 s602 _ _ _ (iv_mono (c := 0) (d := 20) h606 (by decide) (by decide)) hBs602 (fr_ca gt46 gs602 (sub_1 (List.mem_of_getElem? (i := 0) rfl) (sub_1 (List.mem_of_getElem? (i := 1) rfl) (sub_1 (List.mem_of_getElem? (i := 2) rfl) (sub_1 (List.mem_of_getElem? (i := 3) rfl) (sub_1 (List.mem_of_getElem? (i := 4) rfl) (sub_1 (List.mem_of_getElem? (i := 5) rfl) sub_0))))))) hP hD hS (lv_sub hl [0, 1, 2, 3, 4, 5, 6, 7] rfl) (fu_s (lo := 0) (ti_inc ez605 h599 (by decide) (by decide) (by decide) (by decide)) (by decide) hm46)
                · skip
                  have h607 : Iv 0 5 (s602 125 1) := eq_l c604 h19
                  obtain ⟨z608, ez608⟩ : ∃ z9 : Int32, z9 = v6_46 + Int32.ofInt 1 := ⟨_, rfl⟩
                  refine lv_iinc (v := z608) (lv' := [(6, .int z608), (7, .int v7_46), (0, .ref (a 0)), (1, .int p0), (2, .int p1), (3, .int p2), (4, .int p3), (5, .int p4)]) hx hb dX9_luck_75 hl (k := 1) rfl ez608.symm (by decide) rfl (fun ls hl => ?_)
                  obtain ⟨z609, ez609⟩ : ∃ z9 : Int32, z9 = v7_46 + Int32.ofInt 1 := ⟨_, rfl⟩
                  have h610 : Iv 1 20 z609 := iv_inc ez609 h599 (by decide) (by decide) (by decide) (by decide) (by decide) (by decide)
                  refine lv_iinc (v := z609) (lv' := [(7, .int z609), (6, .int z608), (0, .ref (a 0)), (1, .int p0), (2, .int p1), (3, .int p2), (4, .int p3), (5, .int p4)]) hx hb dX9_luck_78 hl (k := 1) rfl ez609.symm (by decide) rfl (fun ls hl => ?_)
                  refine lv_goto (tgt := 46) hx hb dX9_luck_81 (by decide) ?_
                  exact ih46 z609 z608 s602 _ _ _ (iv_mono (c := 0) (d := 20) h610 (by decide) (by decide)) hBs602 (fr_ca gt46 gs602 (sub_1 (List.mem_of_getElem? (i := 0) rfl) (sub_1 (List.mem_of_getElem? (i := 1) rfl) (sub_1 (List.mem_of_getElem? (i := 2) rfl) (sub_1 (List.mem_of_getElem? (i := 3) rfl) (sub_1 (List.mem_of_getElem? (i := 4) rfl) (sub_1 (List.mem_of_getElem? (i := 5) rfl) sub_0))))))) hP hD hS (lv_sub hl [0, 1, 2, 3, 4, 5, 6, 7] rfl) (fu_s (lo := 0) (ti_inc ez609 h599 (by decide) (by decide) (by decide) (by decide)) (by decide) hm46)
          exact lp46 21 0 0 st _ _ _ (iv_mono (c := 0) (d := 20) (iv_c (by decide) : Iv 0 0 0) (by decide) (by decide)) hB fr_rf hP hD hS (lv_sub hl [0, 1, 2, 3, 4, 5, 6, 7] rfl) (fu_i (iv_mono (c := 0) (d := 20) (iv_c (by decide) : Iv 0 0 0) (by decide) (by decide)) (by decide))
        · skip
          have g611 := g9
          refine lv_if_ne (tgt := 40) hx hb dX9_luck_34 (by decide) (fun c612 => ?_) (fun c612 => ?_)
          · first | exact absurd c612 (by decide) | exact absurd (by decide) c612
          refine lv_bipush (v := (-2)) hx hb dX9_luck_37 (by decide) ?_
          rw [hQ]
          exact W.iret (v := (-2)) hx hb hr (fun t ht hW => ⟨⟨(-2), st, rfl, ⟨hB, fr_rf, trivial⟩, by rw [ht]; exact hP, va_K.moved hW.alike (hK.sub (tys' := []) [] rfl), by rw [hAe]; exact hD⟩, by rw [hAe]; exact hS.F ht⟩) hS.2.2 dX9_luck_39
  · skip
    have g613 := g9
    refine lv_if_eq (tgt := 37) hx hb dX9_luck_8 (by decide) (fun c614 => ?_) (fun c614 => ?_)
    rotate_left
    · first | exact absurd c614 (by decide) | exact absurd (by decide) c614
    refine lv_bipush (v := (-2)) hx hb dX9_luck_37 (by decide) ?_
    rw [hQ]
    exact W.iret (v := (-2)) hx hb hr (fun t ht hW => ⟨⟨(-2), st, rfl, ⟨hB, fr_rf, trivial⟩, by rw [ht]; exact hP, va_K.moved hW.alike (hK.sub (tys' := []) [] rfl), by rw [hAe]; exact hD⟩, by rw [hAe]; exact hS.F ht⟩) hS.2.2 dX9_luck_39
